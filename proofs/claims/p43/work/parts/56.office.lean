section KOF
variable {e0 : Nat × Nat} {A : Nat → Nat} {n : Nat} {cz : Nat → Nat} {T G E : Nat} {S S' : kS}
theorem st_sta (h : kSt A S) {k : Nat} (hk : k < 7) : S.at (A (25 + k)) 12 ∧ S.O (A (25 + k)) = 25 + k ∧ S.R (kof A k) 4 = some (A (25 + k)) ∧ S.at (kof A k) 8 := by
  rcases (show k = 0 ∨ k = 1 ∨ k = 2 ∨ k = 3 ∨ k = 4 ∨ k = 5 ∨ k = 6 by omega) with rfl | rfl | rfl | rfl | rfl | rfl | rfl
  · exact ⟨st_25 h, so_25 h, sr_60_4 h, st_60 h⟩
  · exact ⟨st_26 h, so_26 h, sr_61_4 h, st_61 h⟩
  · exact ⟨st_27 h, so_27 h, sr_62_4 h, st_62 h⟩
  · exact ⟨st_28 h, so_28 h, sr_63_4 h, st_63 h⟩
  · exact ⟨st_29 h, so_29 h, sr_64_4 h, st_64 h⟩
  · exact ⟨st_30 h, so_30 h, sr_65_4 h, st_65 h⟩
  · exact ⟨st_31 h, so_31 h, sr_66_4 h, st_66 h⟩
theorem ksum_0 {f : Nat → Int32} : ∀ m, (∀ i, i < m → f i = 0) → ksum f m = 0
  | 0, _ => rfl
  | m + 1, h => by
    show ksum f m + f m = 0
    rw [ksum_0 m (fun i hi => h i (by omega)), h m (by omega)]; rfl
theorem kcnt_0 {P : Nat → Bool} : ∀ m, kcnt P m = 0 → ∀ i, i < m → ¬ P i = true
  | 0, _, i, hi => absurd hi (by omega)
  | m + 1, h, i, hi => by
    by_cases hp : P m = true
    · rw [kcnt_t hp] at h; omega
    · rw [kcnt_f hp] at h
      by_cases e : i = m
      · rw [e]; exact hp
      · exact kcnt_0 m h i (by omega)
theorem ksum_congr {f g : Nat → Int32} : ∀ m, (∀ i, i < m → f i = g i) → ksum f m = ksum g m
  | 0, _ => rfl
  | m + 1, h => by
    show ksum f m + f m = ksum g m + g m
    rw [ksum_congr m (fun i hi => h i (by omega)), h m (by omega)]
theorem kcou_0 (h : kcou S cz n = 0) (hn : n ≤ 40) {i : Nat} (hi : i < n) : S.I (cz i) 9 = 0 := by
  have h1 : kcou S cz n = nI (kcnt (fun i => !decide (S.I (cz i) 9 = 0)) n) := by
    rw [← ksum_kb]
    unfold kcou
    exact ksum_congr n (fun j hj => by by_cases g : S.I (cz j) 9 = 0 <;> simp [kb, g])
  have h2 := kcnt_le (fun i => !decide (S.I (cz i) 9 = 0)) n
  rw [h1] at h
  have h3 : kcnt (fun i => !decide (S.I (cz i) 9 = 0)) n = 0 := nI_inj (by omega) (by omega) (by rw [h]; rfl)
  have h4 := kcnt_0 n h3 i hi
  simpa using h4
end KOF
set_option maxHeartbeats 1000000 in
set_option maxRecDepth 20000 in
theorem c_X8_isFit (l : Launch) (e0 : Nat × Nat) (S : kS) (c : Nat) (A : Nat → Nat) (hst : kSt A S) (k : Nat) (hk : k < 7) (hc : S.at c 1) (hO : kLs e0 S (A 11) 8 7 (kof A)) : kM l e0 yX8_isFit cX8_isFit 3 (Option.some Jvm.ClassFile.FieldType.boolean) ({ frames := 4, cells := 0, slots := 0, locals := 86 } : Room) 0 0 [.ref (kof A k), .ref c, .ref (A 1)] S (kQi (fun v S9 => S = S9 ∧ (¬ v = 0 → S.I c 6 = 1 ∧ kidx (kff (fun i => decide (S.R (kof A i) 1 = some c)) 7) = -1))) := by
  refine kMetE (by decide +kernel) (Nat.le_of_ble_eq_true rfl) (fun C he hl X E hm => ?_)
  have X : kX C RX8 cX8_isFit 3 ({ frames := 4, cells := 0, slots := 0, locals := 86 } : Room) := X
  subst he hl
  show kG C 3 S 0 0 0 [(0, .ref (kof A k)), (1, .ref c), (2, .ref (A 1))] []
  refine k_aload_n X (q := 2) dX8_isFit_0 rfl rfl ?_
  refine k_aload_n X (q := 1) dX8_isFit_1 rfl rfl ?_
  refine k_gotI X (vX8_32 X (S := S) ⟨(st_1 hst).1, (st_1 hst).2⟩ (c_X2_mayAct C.l C.e0 S c A hst ⟨hc.1, hc.2⟩) (As := [.ref c]) (rest := []) rfl rfl rfl rfl ⟨Nat.le_of_ble_eq_true rfl, Nat.le_of_ble_eq_true rfl⟩ (Nat.le_of_ble_eq_true rfl) ⟨Nat.le_of_ble_eq_true rfl, Nat.le_of_ble_eq_true rfl⟩ dX8_isFit_2) (fun v_2_2 S_2_3 h_2_0 => ?_)
  obtain ⟨rfl, ev_2_2⟩ := h_2_0
  refine k_if_eq (tgt := 26) X dX8_isFit_5 (by decide) (fun c_5 => ?_) (fun c_5 => ?_)
  · skip
    rw [ev_2_2] at c_5
    refine k_iconst X (v := 0) dX8_isFit_26 (by decide) ?_
    exact k_zret X E (Or.inl rfl) dX8_isFit_27 (Nat.le_of_ble_eq_true rfl) (Nat.le_of_ble_eq_true rfl) (⟨rfl, fun hv9 => absurd rfl hv9⟩)
  · skip
    rw [ev_2_2] at c_5
    refine k_aload_n X (q := 1) dX8_isFit_8 rfl rfl ?_
    refine gX8_38 X (S := S) hc.1 hc.2 dX8_isFit_9 (fun v_9_4 ev_9_4 => ?_)
    refine k_bipush X (v := 30) dX8_isFit_12 (by decide) ?_
    refine k_icmp_lt (tgt := 26) X dX8_isFit_14 (by decide) (fun c_14 => ?_) (fun c_14 => ?_)
    · skip
      refine k_iconst X (v := 0) dX8_isFit_26 (by decide) ?_
      exact k_zret X E (Or.inl rfl) dX8_isFit_27 (Nat.le_of_ble_eq_true rfl) (Nat.le_of_ble_eq_true rfl) (⟨rfl, fun hv9 => absurd rfl hv9⟩)
    · skip
      refine k_aload_n X (q := 2) dX8_isFit_17 rfl rfl ?_
      refine k_aload_n X (q := 1) dX8_isFit_18 rfl rfl ?_
      refine k_gotI X (vX8_43 X (S := S) ⟨(st_1 hst).1, (st_1 hst).2⟩ (c_X2_officeOf C.l C.e0 S c A hst hO) (As := [.ref c]) (rest := []) rfl rfl rfl rfl ⟨Nat.le_of_ble_eq_true rfl, Nat.le_of_ble_eq_true rfl⟩ (Nat.le_of_ble_eq_true rfl) ⟨Nat.le_of_ble_eq_true rfl, Nat.le_of_ble_eq_true rfl⟩ dX8_isFit_19) (fun v_19_6 S_19_7 h_19_4 => ?_)
      obtain ⟨rfl, ev_19_6⟩ := h_19_4
      refine k_iconst X (v := (-1)) dX8_isFit_22 (by decide) ?_
      refine k_icmp_eq (tgt := 28) X dX8_isFit_23 (by decide) (fun c_23 => ?_) (fun c_23 => ?_)
      · skip
        refine k_aload_n X (q := 0) dX8_isFit_28 rfl rfl ?_
        refine gX8_29 X (S := S) (kLs.el hO hk).1 (kLs.el hO hk).2 dX8_isFit_29 (fun v_29_8 ev_29_8 => ?_)
        refine k_iconst X (v := 1) dX8_isFit_32 (by decide) ?_
        refine k_icmp_ne (tgt := 41) X dX8_isFit_33 (by decide) (fun c_33 => ?_) (fun c_33 => ?_)
        · skip
          refine k_aload_n X (q := 0) dX8_isFit_41 rfl rfl ?_
          refine k_gotI X (vX8_51 X (S := S) ⟨(kLs.el hO hk).1, (kLs.el hO hk).2⟩ (c_X8_isGeneral C.l C.e0 S (kof A k)  ⟨(kLs.el hO hk).1, (kLs.el hO hk).2⟩) (As := []) (rest := []) rfl rfl rfl rfl ⟨Nat.le_of_ble_eq_true rfl, Nat.le_of_ble_eq_true rfl⟩ (Nat.le_of_ble_eq_true rfl) ⟨Nat.le_of_ble_eq_true rfl, Nat.le_of_ble_eq_true rfl⟩ dX8_isFit_42) (fun v_42_10 S_42_11 h_42_8 => ?_)
          obtain ⟨rfl, ev_42_10⟩ := h_42_8
          refine k_if_eq (tgt := 70) X dX8_isFit_45 (by decide) (fun c_45 => ?_) (fun c_45 => ?_)
          · skip
            rw [ev_42_10] at c_45
            refine k_iconst X (v := 1) dX8_isFit_70 (by decide) ?_
            refine k_goto (tgt := 75) X dX8_isFit_71 (by decide) ?_
            exact k_zret X E (Or.inr rfl) dX8_isFit_75 (Nat.le_of_ble_eq_true rfl) (Nat.le_of_ble_eq_true rfl) (⟨rfl, fun hv9 => ⟨by by_cases g : S.I c 6 = 1; exact g; simp [kb, g] at c_5, by rw [← ev_19_6]; assumption⟩⟩)
          · skip
            rw [ev_42_10] at c_45
            refine k_aload_n X (q := 1) dX8_isFit_48 rfl rfl ?_
            refine k_gotI X (vX8_54 X (S := S) ⟨hc.1, hc.2⟩ (c_X1_wealthClass C.l C.e0 S c hc) (As := []) (rest := []) rfl rfl rfl rfl ⟨Nat.le_of_ble_eq_true rfl, Nat.le_of_ble_eq_true rfl⟩ (Nat.le_of_ble_eq_true rfl) ⟨Nat.le_of_ble_eq_true rfl, Nat.le_of_ble_eq_true rfl⟩ dX8_isFit_49) (fun v_49_13 S_49_14 h_49_11 => ?_)
            obtain ⟨rfl, ev_49_13⟩ := h_49_11
            refine k_iconst X (v := 1) dX8_isFit_52 (by decide) ?_
            refine k_icmp_lt (tgt := 74) X dX8_isFit_53 (by decide) (fun c_53 => ?_) (fun c_53 => ?_)
            · skip
              refine k_iconst X (v := 0) dX8_isFit_74 (by decide) ?_
              exact k_zret X E (Or.inl rfl) dX8_isFit_75 (Nat.le_of_ble_eq_true rfl) (Nat.le_of_ble_eq_true rfl) (⟨rfl, fun hv9 => absurd rfl hv9⟩)
            · skip
              refine k_aload_n X (q := 1) dX8_isFit_56 rfl rfl ?_
              refine k_gotI X (vX8_58 X (S := S) ⟨hc.1, hc.2⟩ (c_X1_tribe C.l C.e0 S c hc) (As := []) (rest := []) rfl rfl rfl rfl ⟨Nat.le_of_ble_eq_true rfl, Nat.le_of_ble_eq_true rfl⟩ (Nat.le_of_ble_eq_true rfl) ⟨Nat.le_of_ble_eq_true rfl, Nat.le_of_ble_eq_true rfl⟩ dX8_isFit_57) (fun v_57_16 S_57_17 h_57_14 => ?_)
              obtain ⟨rfl, ev_57_16⟩ := h_57_14
              refine k_gotI X (vX8_61 X (S := S) (c_X8_generalOf C.l C.e0 S v_57_16  ) (As := [.int v_57_16]) (rest := []) rfl rfl rfl rfl ⟨Nat.le_of_ble_eq_true rfl, Nat.le_of_ble_eq_true rfl⟩ (Nat.le_of_ble_eq_true rfl) ⟨Nat.le_of_ble_eq_true rfl, Nat.le_of_ble_eq_true rfl⟩ dX8_isFit_60) (fun v_60_19 S_60_20 h_60_17 => ?_)
              obtain ⟨rfl, ev_60_19⟩ := h_60_17
              refine k_aload_n X (q := 0) dX8_isFit_63 rfl rfl ?_
              refine gX8_29 X (S := S) (kLs.el hO hk).1 (kLs.el hO hk).2 dX8_isFit_64 (fun v_64_21 ev_64_21 => ?_)
              refine k_icmp_ne (tgt := 74) X dX8_isFit_67 (by decide) (fun c_67 => ?_) (fun c_67 => ?_)
              · skip
                refine k_iconst X (v := 0) dX8_isFit_74 (by decide) ?_
                exact k_zret X E (Or.inl rfl) dX8_isFit_75 (Nat.le_of_ble_eq_true rfl) (Nat.le_of_ble_eq_true rfl) (⟨rfl, fun hv9 => absurd rfl hv9⟩)
              · skip
                refine k_iconst X (v := 1) dX8_isFit_70 (by decide) ?_
                refine k_goto (tgt := 75) X dX8_isFit_71 (by decide) ?_
                exact k_zret X E (Or.inr rfl) dX8_isFit_75 (Nat.le_of_ble_eq_true rfl) (Nat.le_of_ble_eq_true rfl) (⟨rfl, fun hv9 => ⟨by by_cases g : S.I c 6 = 1; exact g; simp [kb, g] at c_5, by rw [← ev_19_6]; assumption⟩⟩)
        · skip
          refine k_aload_n X (q := 1) dX8_isFit_36 rfl rfl ?_
          refine k_gotI X (vX8_47 X (S := S) ⟨hc.1, hc.2⟩ (c_X1_isRich C.l C.e0 S c hc) (As := []) (rest := []) rfl rfl rfl rfl ⟨Nat.le_of_ble_eq_true rfl, Nat.le_of_ble_eq_true rfl⟩ (Nat.le_of_ble_eq_true rfl) ⟨Nat.le_of_ble_eq_true rfl, Nat.le_of_ble_eq_true rfl⟩ dX8_isFit_37) (fun v_37_23 S_37_24 h_37_21 => ?_)
          obtain ⟨rfl, ev_37_23⟩ := h_37_21
          exact k_zret X E (by first | assumption | (subst_vars; exact kb_01 _)) dX8_isFit_40 (Nat.le_of_ble_eq_true rfl) (Nat.le_of_ble_eq_true rfl) (⟨rfl, fun hv9 => ⟨by by_cases g : S.I c 6 = 1; exact g; simp [kb, g] at c_5, by rw [← ev_19_6]; assumption⟩⟩)
      · skip
        refine k_iconst X (v := 0) dX8_isFit_26 (by decide) ?_
        exact k_zret X E (Or.inl rfl) dX8_isFit_27 (Nat.le_of_ble_eq_true rfl) (Nat.le_of_ble_eq_true rfl) (⟨rfl, fun hv9 => absurd rfl hv9⟩)
set_option maxHeartbeats 1000000 in
set_option maxRecDepth 20000 in
theorem c_X8_isAccepted (l : Launch) (e0 : Nat × Nat) (S : kS)  (A : Nat → Nat) (n : Nat) (cz : Nat → Nat) (hst : kSt A S) (hC : kLs e0 S (A 10) 1 n cz) (hn : n ≤ 40) (i : Nat) (hi : i < n) : kM l e0 yX8_isAccepted cX8_isAccepted 3 (Option.some Jvm.ClassFile.FieldType.boolean) ({ frames := 4, cells := 0, slots := 0, locals := 90 } : Room) 0 0 [.ref (cz i), .ref (A 1)] S (kQi (fun v S9 => S = S9 ∧ (¬ v = 0 → S.I (cz i) 9 = 0))) := by
  refine kMetE (by decide +kernel) (Nat.le_of_ble_eq_true rfl) (fun C he hl X E hm => ?_)
  have X : kX C RX8 cX8_isAccepted 3 ({ frames := 4, cells := 0, slots := 0, locals := 90 } : Room) := X
  subst he hl
  show kG C 3 S 0 0 0 [(0, .ref (cz i)), (1, .ref (A 1))] []
  refine k_aload_n X (q := 1) dX8_isAccepted_0 rfl rfl ?_
  refine k_gotI X (vX8_97 X (S := S) ⟨(st_1 hst).1, (st_1 hst).2⟩ (c_X2_councillors C.l C.e0 S  A n cz hst hC hn ) (As := []) (rest := []) rfl rfl rfl rfl ⟨Nat.le_of_ble_eq_true rfl, Nat.le_of_ble_eq_true rfl⟩ (Nat.le_of_ble_eq_true rfl) ⟨Nat.le_of_ble_eq_true rfl, Nat.le_of_ble_eq_true rfl⟩ dX8_isAccepted_1) (fun v_1_2 S_1_3 h_1_0 => ?_)
  obtain ⟨rfl, ev_1_2⟩ := h_1_0
  refine k_istore_n X [(2, .int v_1_2), (0, .ref (cz i)), (1, .ref (A 1))] dX8_isAccepted_4 rfl (by decide) rfl ?_
  refine k_iload_n X (q := 0) dX8_isAccepted_5 rfl rfl ?_
  refine k_if_ne (tgt := 11) X dX8_isAccepted_6 (by decide) (fun c_6 => ?_) (fun c_6 => ?_)
  · skip
    refine k_aload_n X (q := 1) dX8_isAccepted_11 rfl rfl ?_
    refine gX8_100 X (S := S) (kLs.el hC hi).1 (kLs.el hC hi).2 dX8_isAccepted_12 (fun v_12_4 ev_12_4 => ?_)
    refine k_if_ne (tgt := 36) X dX8_isAccepted_15 (by decide) (fun c_15 => ?_) (fun c_15 => ?_)
    · skip
      refine k_iconst X (v := 0) dX8_isAccepted_36 (by decide) ?_
      exact k_zret X E (Or.inl rfl) dX8_isAccepted_37 (Nat.le_of_ble_eq_true rfl) (Nat.le_of_ble_eq_true rfl) (⟨rfl, fun hv9 => absurd rfl hv9⟩)
    · skip
      refine k_iconst X (v := 2) dX8_isAccepted_18 (by decide) ?_
      refine k_aload_n X (q := 2) dX8_isAccepted_19 rfl rfl ?_
      refine k_aload_n X (q := 1) dX8_isAccepted_20 rfl rfl ?_
      refine gX8_104 X (S := S) (kLs.el hC hi).1 (kLs.el hC hi).2 dX8_isAccepted_21 (fun v_21_5 ev_21_5 => ?_)
      refine k_gotI X (vX8_107 X (S := S) ⟨(st_1 hst).1, (st_1 hst).2⟩ (c_X2_councilAgreeing C.l C.e0 S v_21_5 A n cz hst hC hn ) (As := [.int v_21_5]) (rest := [.int 2]) rfl rfl rfl rfl ⟨Nat.le_of_ble_eq_true rfl, Nat.le_of_ble_eq_true rfl⟩ (Nat.le_of_ble_eq_true rfl) ⟨Nat.le_of_ble_eq_true rfl, Nat.le_of_ble_eq_true rfl⟩ dX8_isAccepted_24) (fun v_24_7 S_24_8 h_24_5 => ?_)
      obtain ⟨rfl, ev_24_7⟩ := h_24_5
      refine k_imul X dX8_isAccepted_27 (fun v_27_9 ev_27_9 => ?_)
      refine k_iload_n X (q := 0) dX8_isAccepted_28 rfl rfl ?_
      refine k_icmp_le (tgt := 36) X dX8_isAccepted_29 (by decide) (fun c_29 => ?_) (fun c_29 => ?_)
      · skip
        refine k_iconst X (v := 0) dX8_isAccepted_36 (by decide) ?_
        exact k_zret X E (Or.inl rfl) dX8_isAccepted_37 (Nat.le_of_ble_eq_true rfl) (Nat.le_of_ble_eq_true rfl) (⟨rfl, fun hv9 => absurd rfl hv9⟩)
      · skip
        refine k_iconst X (v := 1) dX8_isAccepted_32 (by decide) ?_
        refine k_goto (tgt := 37) X dX8_isAccepted_33 (by decide) ?_
        exact k_zret X E (Or.inr rfl) dX8_isAccepted_37 (Nat.le_of_ble_eq_true rfl) (Nat.le_of_ble_eq_true rfl) (⟨rfl, fun hv9 => by rw [← ev_12_4]; exact c_15⟩)
  · skip
    refine k_iconst X (v := 1) dX8_isAccepted_9 (by decide) ?_
    exact k_zret X E (Or.inr rfl) dX8_isAccepted_10 (Nat.le_of_ble_eq_true rfl) (Nat.le_of_ble_eq_true rfl) (⟨rfl, fun hv9 => by exact kcou_0 (by unfold kcou; rw [← ev_1_2]; exact c_6) hn hi⟩)
set_option maxHeartbeats 1000000 in
set_option maxRecDepth 20000 in
theorem c_X8_takeMostLiked (l : Launch) (e0 : Nat × Nat) (S : kS)  (A : Nat → Nat) (n : Nat) (cz : Nat → Nat) (T G Z : Nat) (h : kI e0 A n cz T G Z S) (k : Nat) (hk : k < 7) (hb : T + 0 ≤ 900000 ∧ G + 0 ≤ 60000 ∧ Z + 0 ≤ 150000) : kM l e0 yX8_takeMostLiked cX8_takeMostLiked 6 (Option.some (Jvm.ClassFile.FieldType.object "Kleroterion$Citizen")) ({ frames := 4, cells := 0, slots := 0, locals := 106 } : Room) 0 0 [.ref (kof A k), .ref (A 1)] S (kQq (fun v S9 => kI e0 A n cz (T + 0) (G + 0) (Z + 0) S9 ∧ kKe A S S9 ∧ (v = none ∨ ∃ j, j < n ∧ v = some (cz j)))) := by
  refine kMetE (by decide +kernel) (Nat.le_of_ble_eq_true rfl) (fun C he hl X E hm => ?_)
  have X : kX C RX8 cX8_takeMostLiked 6 ({ frames := 4, cells := 0, slots := 0, locals := 106 } : Room) := X
  subst he hl
  show kG C 6 S 0 0 0 [(0, .ref (kof A k)), (1, .ref (A 1))] []
  have hn := h.n40
  obtain ⟨m, xs, hL, hm, hx⟩ := h.cl (r := 25 + k) (by unfold clR; omega)
  obtain ⟨c, hlc⟩ := hL.c
  refine k_iconst X (v := (-1)) dX8_takeMostLiked_0 (by decide) ?_
  refine k_istore_n X [(2, .int (-1 : Int32)), (0, .ref (kof A k)), (1, .ref (A 1))] dX8_takeMostLiked_1 rfl (by decide) rfl ?_
  refine k_iconst X (v := (-1)) dX8_takeMostLiked_2 (by decide) ?_
  refine k_istore_n X [(3, .int (-1 : Int32)), (2, .int (-1 : Int32)), (0, .ref (kof A k)), (1, .ref (A 1))] dX8_takeMostLiked_3 rfl (by decide) rfl ?_
  refine k_iconst X (v := 0) dX8_takeMostLiked_4 (by decide) ?_
  refine k_istore X [(4, .int 0), (3, .int (-1 : Int32)), (2, .int (-1 : Int32)), (0, .ref (kof A k)), (1, .ref (A 1))] dX8_takeMostLiked_5 (by decide) rfl ?_
  have L_7 : ∀ (N : Nat) (i : Nat) (x y y2 : Int32), m - i = N → x = nI i → i ≤ m → kG C 6 S 0 0 7 [(4, .int x), (3, .int y2), (2, .int y), (0, .ref (kof A k)), (1, .ref (A 1))] [] := by
    intro N
    induction N using Nat.strongRecOn with
    | _ N ih =>
    intro i x y y2 hMs h7_0 h7_1
    subst h7_0
    refine k_iload X (q := 0) dX8_takeMostLiked_7 rfl ?_
    refine k_aload_n X (q := 3) dX8_takeMostLiked_9 rfl rfl ?_
    refine gX8_25s X (S := S) (kLs.el h.hO hk).1 (kLs.el h.hO hk).2 ((st_sta h.st hk).2.2.1) dX8_takeMostLiked_10 ?_
    refine k_gotI X (vX8_65 X (S := S) ⟨(st_sta h.st hk).1.1, (st_sta h.st hk).1.2⟩ (c_Jx4a65c_size_8abf5 C.l C.e0 S (A (25 + k)) (st_sta h.st hk).1) (As := []) (rest := [.int (nI i)]) rfl rfl rfl rfl ⟨Nat.le_of_ble_eq_true rfl, Nat.le_of_ble_eq_true rfl⟩ (Nat.le_of_ble_eq_true rfl) ⟨Nat.le_of_ble_eq_true rfl, Nat.le_of_ble_eq_true rfl⟩ dX8_takeMostLiked_13) (fun v_13_2 S_13_3 h_13_0 => ?_)
    obtain ⟨rfl, ev_13_2⟩ := h_13_0
    have hz_v_13_2 : nI m = v_13_2 := by rw [ev_13_2]; exact (hL).2.1.symm
    subst hz_v_13_2
    refine k_icmp_ge (tgt := 58) X dX8_takeMostLiked_16 (by decide) (fun c_16 => ?_) (fun c_16 => ?_)
    · skip
      refine k_iload_n X (q := 2) dX8_takeMostLiked_58 rfl rfl ?_
      refine k_iconst X (v := 0) dX8_takeMostLiked_59 (by decide) ?_
      refine k_aload_n X (q := 3) dX8_takeMostLiked_60 rfl rfl ?_
      refine gX8_25s X (S := S) (kLs.el h.hO hk).1 (kLs.el h.hO hk).2 ((st_sta h.st hk).2.2.1) dX8_takeMostLiked_61 ?_
      refine k_gotI X (vX8_65 X (S := S) ⟨(st_sta h.st hk).1.1, (st_sta h.st hk).1.2⟩ (c_Jx4a65c_size_8abf5 C.l C.e0 S (A (25 + k)) (st_sta h.st hk).1) (As := []) (rest := [.int 0, .int y]) rfl rfl rfl rfl ⟨Nat.le_of_ble_eq_true rfl, Nat.le_of_ble_eq_true rfl⟩ (Nat.le_of_ble_eq_true rfl) ⟨Nat.le_of_ble_eq_true rfl, Nat.le_of_ble_eq_true rfl⟩ dX8_takeMostLiked_64) (fun v_64_5 S_64_6 h_64_3 => ?_)
      obtain ⟨rfl, ev_64_5⟩ := h_64_3
      have hz_v_64_5 : nI m = v_64_5 := by rw [ev_64_5]; exact (hL).2.1.symm
      subst hz_v_64_5
      refine k_iconst X (v := 1) dX8_takeMostLiked_67 (by decide) ?_
      refine k_isub X dX8_takeMostLiked_68 (fun v_68_7 ev_68_7 => ?_)
      refine k_gotI X (vX8_113 X (S := S) (c_X11_isFrom C.l C.e0 S y 0 v_68_7 ) (As := [.int y, .int 0, .int v_68_7]) (rest := []) rfl rfl rfl rfl ⟨Nat.le_of_ble_eq_true rfl, Nat.le_of_ble_eq_true rfl⟩ (Nat.le_of_ble_eq_true rfl) ⟨Nat.le_of_ble_eq_true rfl, Nat.le_of_ble_eq_true rfl⟩ dX8_takeMostLiked_69) (fun v_69_9 S_69_10 h_69_7 => ?_)
      obtain ⟨rfl, ev_69_9⟩ := h_69_7
      refine k_if_eq (tgt := 89) X dX8_takeMostLiked_72 (by decide) (fun c_72 => ?_) (fun c_72 => ?_)
      · skip
        rw [ev_69_9] at c_72
        refine k_null X dX8_takeMostLiked_89 ?_
        exact k_aret X E (r := none) (Or.inl ⟨_, rfl⟩) dX8_takeMostLiked_90 (Nat.le_of_ble_eq_true rfl) (Nat.le_of_ble_eq_true rfl) (⟨h.mono (by omega) (by omega) (by omega), kKe.rf, Or.inl rfl⟩)
      · skip
        rw [ev_69_9] at c_72
        obtain ⟨t, htm, htv⟩ : ∃ t, t < m ∧ y = nI t := by
          have h5 : ¬ kb (decide (0 ≤ y) && decide (y ≤ v_68_7)) = 0 := c_72
          simp only [kb] at h5
          by_cases g1 : 0 ≤ y
          · by_cases g2 : y ≤ v_68_7
            · rcases Nat.eq_zero_or_pos m with g3 | g3
              · rw [ev_68_7, g3] at g2
                have g4 := Int32.le_iff_toInt_le.mp g2
                have g5 := Int32.le_iff_toInt_le.mp g1
                rw [show (nI 0 - 1).toInt = -1 from rfl] at g4
                rw [t_0] at g5
                omega
              · rw [ev_68_7, show (1 : Int32) = nI 1 from rfl, pk_sub (by omega)] at g2
                obtain ⟨t, h6, h7⟩ := nI_of2 (n := m - 1) (nI_toInt (by omega)) (Int32.not_lt.mpr g1) g2
                exact ⟨t, by omega, h7⟩
            · simp [g1, g2] at h5
          · simp [g1] at h5
        subst htv
        refine k_aload_n X (q := 3) dX8_takeMostLiked_75 rfl rfl ?_
        refine gX8_25s X (S := S) (kLs.el h.hO hk).1 (kLs.el h.hO hk).2 ((st_sta h.st hk).2.2.1) dX8_takeMostLiked_76 ?_
        refine k_iload_n X (q := 2) dX8_takeMostLiked_79 rfl rfl ?_
        refine k_gotQ X (vX8_117 X (S := S) ⟨(st_sta h.st hk).1.1, (st_sta h.st hk).1.2⟩ (c_Jx4a65c_remove_915e3 C.l C.e0 S (A (25 + k)) 1 m c t xs kEl_1 hlc htm (by omega)) (As := [.int (nI t)]) (rest := []) rfl rfl rfl rfl ⟨Nat.le_of_ble_eq_true rfl, Nat.le_of_ble_eq_true rfl⟩ (Nat.le_of_ble_eq_true rfl) ⟨Nat.le_of_ble_eq_true rfl, Nat.le_of_ble_eq_true rfl⟩ dX8_takeMostLiked_80) (fun r_80_12 S_80_13 h_80_10 => ?_)
        obtain ⟨hvr, hfr, hls⟩ := h_80_10
        rw [(st_sta h.st hk).2.1] at hfr
        obtain ⟨j, hj, hxj⟩ := hx t htm
        rw [hxj] at hvr
        subst hvr
        obtain ⟨hI_14, hx_14⟩ := h.frC (r := 25 + k) (by unfold clR; omega) hfr ⟨m - 1, _, hls.s, by omega, kxr_in (Q := fun x => ∃ j, j < n ∧ x = cz j) hx htm⟩ (by omega)
        have hK_14 := (kKe.rf).tr hx_14
        refine tX8_39 X (S := S_80_13) ⟨(hI_14.at hj).1, (hI_14.at hj).2⟩ dX8_takeMostLiked_83 ?_
        refine k_goto (tgt := 90) X dX8_takeMostLiked_86 (by decide) ?_
        exact k_aret X E (r := (some (cz j))) (Or.inl ⟨_, rfl⟩) dX8_takeMostLiked_90 (Nat.le_of_ble_eq_true rfl) (Nat.le_of_ble_eq_true rfl) (⟨hI_14.mono (by omega) (by omega) (by omega), hK_14, Or.inr ⟨j, hj, rfl⟩⟩)
    · skip
      have hlt : i < m := lt_of_nle c_16 (by omega)
      refine k_aload_n X (q := 4) dX8_takeMostLiked_19 rfl rfl ?_
      refine k_aload_n X (q := 3) dX8_takeMostLiked_20 rfl rfl ?_
      refine gX8_25s X (S := S) (kLs.el h.hO hk).1 (kLs.el h.hO hk).2 ((st_sta h.st hk).2.2.1) dX8_takeMostLiked_21 ?_
      refine k_iload X (q := 0) dX8_takeMostLiked_24 rfl ?_
      refine k_gotQ X (vX8_68 X (S := S) ⟨(st_sta h.st hk).1.1, (st_sta h.st hk).1.2⟩ (c_Jx4a65c_get_915e3 C.l C.e0 S (A (25 + k)) 1 m i xs (hL) hlt) (As := [.int (nI i)]) (rest := [.ref (A 1)]) rfl rfl rfl rfl ⟨Nat.le_of_ble_eq_true rfl, Nat.le_of_ble_eq_true rfl⟩ (Nat.le_of_ble_eq_true rfl) ⟨Nat.le_of_ble_eq_true rfl, Nat.le_of_ble_eq_true rfl⟩ dX8_takeMostLiked_26) (fun r_26_16 S_26_17 h_26_14 => ?_)
      obtain ⟨rfl, er_26_16⟩ := h_26_14
      subst er_26_16
      refine tX8_39 X (S := S) ⟨(kLs.el (hL) hlt).1, (kLs.el (hL) hlt).2⟩ dX8_takeMostLiked_29 ?_
      obtain ⟨j9, hj9, hxj9⟩ := hx i hlt
      refine gX8_104 X (S := S) (kLs.el (hL) hlt).1 (kLs.el (hL) hlt).2 dX8_takeMostLiked_32 (fun v_32_18 ev_32_18 => ?_)
      refine k_gotI X (vX8_110 X (S := S) ⟨(st_1 h.st).1, (st_1 h.st).2⟩ (c_X2_fullAgreeing C.l C.e0 S v_32_18 A n cz h.st h.hC hn ) (As := [.int v_32_18]) (rest := []) rfl rfl rfl rfl ⟨Nat.le_of_ble_eq_true rfl, Nat.le_of_ble_eq_true rfl⟩ (Nat.le_of_ble_eq_true rfl) ⟨Nat.le_of_ble_eq_true rfl, Nat.le_of_ble_eq_true rfl⟩ dX8_takeMostLiked_35) (fun v_35_20 S_35_21 h_35_18 => ?_)
      obtain ⟨rfl, ev_35_20⟩ := h_35_18
      refine k_istore X [(5, .int v_35_20), (4, .int (nI i)), (3, .int y2), (2, .int y), (0, .ref (kof A k)), (1, .ref (A 1))] dX8_takeMostLiked_38 (by decide) rfl ?_
      refine k_iload X (q := 0) dX8_takeMostLiked_40 rfl ?_
      refine k_iload_n X (q := 2) dX8_takeMostLiked_42 rfl rfl ?_
      refine k_icmp_le (tgt := 52) X dX8_takeMostLiked_43 (by decide) (fun c_43 => ?_) (fun c_43 => ?_)
      · skip
        obtain ⟨v_52_22, ev_52_22⟩ : ∃ z : Int32, z = (nI i) + 1 := ⟨_, rfl⟩
        refine k_iinc X (q := 1) (v := v_52_22) [(4, .int v_52_22), (5, .int v_35_20), (3, .int y2), (2, .int y), (0, .ref (kof A k)), (1, .ref (A 1))] dX8_takeMostLiked_52 rfl (by rw [ev_52_22]; rfl) (by decide) rfl ?_
        refine k_goto (tgt := 7) X dX8_takeMostLiked_55 (by decide) ?_
        refine k_lv [0, 2, 3, 4, 5] _ rfl ?_
        exact ih (m - (i + 1)) (by omega) (i + 1) _ _ _ rfl (by rw [ev_52_22, nI_1]) (by omega)
      · skip
        refine k_iload X (q := 0) dX8_takeMostLiked_46 rfl ?_
        refine k_istore_n X [(3, .int v_35_20), (5, .int v_35_20), (4, .int (nI i)), (2, .int y), (0, .ref (kof A k)), (1, .ref (A 1))] dX8_takeMostLiked_48 rfl (by decide) rfl ?_
        refine k_iload X (q := 2) dX8_takeMostLiked_49 rfl ?_
        refine k_istore_n X [(2, .int (nI i)), (3, .int v_35_20), (5, .int v_35_20), (4, .int (nI i)), (0, .ref (kof A k)), (1, .ref (A 1))] dX8_takeMostLiked_51 rfl (by decide) rfl ?_
        obtain ⟨v_52_23, ev_52_23⟩ : ∃ z : Int32, z = (nI i) + 1 := ⟨_, rfl⟩
        refine k_iinc X (q := 3) (v := v_52_23) [(4, .int v_52_23), (2, .int (nI i)), (3, .int v_35_20), (5, .int v_35_20), (0, .ref (kof A k)), (1, .ref (A 1))] dX8_takeMostLiked_52 rfl (by rw [ev_52_23]; rfl) (by decide) rfl ?_
        refine k_goto (tgt := 7) X dX8_takeMostLiked_55 (by decide) ?_
        refine k_lv [0, 2, 1, 4, 5] _ rfl ?_
        exact ih (m - (i + 1)) (by omega) (i + 1) _ _ _ rfl (by rw [ev_52_23, nI_1]) (by omega)
  refine k_lv [0, 1, 2, 3, 4] _ rfl ?_
  exact L_7 _ 0 0 _ _ rfl nI_0.symm (Nat.zero_le _)
set_option maxHeartbeats 1000000 in
set_option maxRecDepth 20000 in
theorem c_X8_install (l : Launch) (e0 : Nat × Nat) (S : kS)  (A : Nat → Nat) (n : Nat) (cz : Nat → Nat) (T G Z : Nat) (h : kI e0 A n cz T G Z S) (k i : Nat) (hk : k < 7) (hi : i < n) (hs : S.I (cz i) 6 = 1) (h9 : S.I (cz i) 9 = 0) (hno : ∀ k, k < 7 → ¬ S.R (kof A k) 1 = some (cz i)) (hb : T + 0 ≤ 900000 ∧ G + 0 ≤ 60000 ∧ Z + 0 ≤ 150000) : kM l e0 yX8_install cX8_install 3 none ({ frames := 1, cells := 0, slots := 0, locals := 23 } : Room) 0 0 [.ref (kof A k), .ref (cz i), .ref (A 1)] S (kQv (fun S9 => kI e0 A n cz (T + 0) (G + 0) (Z + 0) S9 ∧ kKe A S S9)) := by
  refine kMetE (by decide +kernel) (Nat.le_of_ble_eq_true rfl) (fun C he hl X E hm => ?_)
  have X : kX C RX8 cX8_install 3 ({ frames := 1, cells := 0, slots := 0, locals := 23 } : Room) := X
  subst he hl
  show kG C 3 S 0 0 0 [(0, .ref (kof A k)), (1, .ref (cz i)), (2, .ref (A 1))] []
  have hn := h.n40
  refine k_aload_n X (q := 0) dX8_install_0 rfl rfl ?_
  refine k_aload_n X (q := 1) dX8_install_1 rfl rfl ?_
  refine pX8_9 X (S := S) (kLs.el h.hO hk).1 (kLs.el h.hO hk).2 (r := (some (cz i))) dX8_install_2 ?_
  obtain ⟨hI_1, hx_1⟩ := h.ho1 hk hi (Or.inl hs) h9 hno
  have hK_1 := (kKe.rf).tr hx_1
  refine k_aload_n X (q := 0) dX8_install_5 rfl rfl ?_
  refine k_aload_n X (q := 2) dX8_install_6 rfl rfl ?_
  refine gX8_120 X (S := (S.uR (kof A k) 1 (some (cz i)))) (st_1 hI_1.st).1 (st_1 hI_1.st).2 dX8_install_7 (fun v_7_2 ev_7_2 => ?_)
  refine pX8_15 X (S := (S.uR (kof A k) 1 (some (cz i)))) (kLs.el hI_1.hO hk).1 (kLs.el hI_1.hO hk).2 dX8_install_10 ?_
  obtain ⟨hI_3, hx_3⟩ := hI_1.since hk (v := v_7_2) ev_7_2
  have hK_3 := (hK_1).tr hx_3
  refine k_aload_n X (q := 0) dX8_install_13 rfl rfl ?_
  refine k_aload_n X (q := 2) dX8_install_14 rfl rfl ?_
  refine gX8_123 X (S := ((S.uR (kof A k) 1 (some (cz i))).uI (kof A k) 2 v_7_2)) (st_1 hI_3.st).1 (st_1 hI_3.st).2 dX8_install_15 (fun v_15_4 ev_15_4 => ?_)
  refine k_aload_n X (q := 2) dX8_install_18 rfl rfl ?_
  refine gX8_126 X (S := ((S.uR (kof A k) 1 (some (cz i))).uI (kof A k) 2 v_7_2)) (st_1 hI_3.st).1 (st_1 hI_3.st).2 dX8_install_19 (fun v_19_5 ev_19_5 => ?_)
  refine k_iadd X dX8_install_22 (fun v_22_6 ev_22_6 => ?_)
  refine pX8_19 X (S := ((S.uR (kof A k) 1 (some (cz i))).uI (kof A k) 2 v_7_2)) (kLs.el hI_3.hO hk).1 (kLs.el hI_3.hO hk).2 dX8_install_23 ?_
  obtain ⟨hI_7, hx_7⟩ := hI_3.hbef hk (v := v_22_6) (by rw [ev_22_6, ev_15_4, ev_19_5]) (by omega)
  have hK_7 := (hK_3).tr hx_7
  refine k_aload_n X (q := 0) dX8_install_26 rfl rfl ?_
  refine gX8_25s X (S := (((S.uR (kof A k) 1 (some (cz i))).uI (kof A k) 2 v_7_2).uI (kof A k) 3 v_22_6)) (kLs.el hI_7.hO hk).1 (kLs.el hI_7.hO hk).2 ((st_sta hI_7.st hk).2.2.1) dX8_install_27 ?_
  obtain ⟨m0, xs0, hL0, -, -⟩ := hI_7.cl (r := 25 + k) (by unfold clR; omega)
  refine k_gotV X (vX8_129 X (S := (((S.uR (kof A k) 1 (some (cz i))).uI (kof A k) 2 v_7_2).uI (kof A k) 3 v_22_6)) ⟨(st_sta hI_7.st hk).1.1, (st_sta hI_7.st hk).1.2⟩ (c_Jx4a65c_clear_da8c8 C.l C.e0 (((S.uR (kof A k) 1 (some (cz i))).uI (kof A k) 2 v_7_2).uI (kof A k) 3 v_22_6) (A (25 + k)) 1 m0 xs0 hL0) (As := []) (rest := []) rfl rfl rfl rfl ⟨Nat.le_of_ble_eq_true rfl, Nat.le_of_ble_eq_true rfl⟩ (Nat.le_of_ble_eq_true rfl) ⟨Nat.le_of_ble_eq_true rfl, Nat.le_of_ble_eq_true rfl⟩ dX8_install_30) (fun S_30_9 h_30_7 => ?_)
  obtain ⟨hfc, hls, -⟩ := h_30_7
  rw [(st_sta hI_7.st hk).2.1] at hfc
  obtain ⟨hI_10, hx_10⟩ := hI_7.frC (r := 25 + k) (by unfold clR; omega) hfc ⟨0, _, hls, by omega, fun t ht => absurd ht (by omega)⟩ (by omega)
  have hK_10 := (hK_7).tr hx_10
  exact k_vret X E dX8_install_33 (Nat.le_of_ble_eq_true rfl) (Nat.le_of_ble_eq_true rfl) (⟨hI_10.mono (by omega) (by omega) (by omega), hK_10⟩)
set_option maxHeartbeats 1000000 in
set_option maxRecDepth 20000 in
theorem c_X8_choose (l : Launch) (e0 : Nat × Nat) (S : kS)  (A : Nat → Nat) (n : Nat) (cz : Nat → Nat) (T G Z : Nat) (h : kI e0 A n cz T G Z S) (k : Nat) (hk : k < 7) (hb : T + 40 ≤ 900000 ∧ G + 0 ≤ 60000 ∧ Z + 0 ≤ 150000) : kM l e0 yX8_choose cX8_choose 5 none ({ frames := 5, cells := 0, slots := 0, locals := 131 } : Room) 0 0 [.ref (kof A k), .ref (A 1)] S (kQv (fun S9 => kI e0 A n cz (T + 40) (G + 0) (Z + 0) S9 ∧ kKe A S S9)) := by
  refine kMetE (by decide +kernel) (Nat.le_of_ble_eq_true rfl) (fun C he hl X E hm => ?_)
  have X : kX C RX8 cX8_choose 5 ({ frames := 5, cells := 0, slots := 0, locals := 131 } : Room) := X
  subst he hl
  show kG C 5 S 0 0 0 [(0, .ref (kof A k)), (1, .ref (A 1))] []
  have hn := h.n40
  obtain ⟨mm, xs0, hL0, hm0, -⟩ := h.cl (r := 25 + k) (by unfold clR; omega)
  refine k_aload_n X (q := 0) dX8_choose_0 rfl rfl ?_
  refine gX8_25s X (S := S) (kLs.el h.hO hk).1 (kLs.el h.hO hk).2 ((st_sta h.st hk).2.2.1) dX8_choose_1 ?_
  refine k_gotI X (vX8_65 X (S := S) ⟨(st_sta h.st hk).1.1, (st_sta h.st hk).1.2⟩ (c_Jx4a65c_size_8abf5 C.l C.e0 S (A (25 + k)) (st_sta h.st hk).1) (As := []) (rest := []) rfl rfl rfl rfl ⟨Nat.le_of_ble_eq_true rfl, Nat.le_of_ble_eq_true rfl⟩ (Nat.le_of_ble_eq_true rfl) ⟨Nat.le_of_ble_eq_true rfl, Nat.le_of_ble_eq_true rfl⟩ dX8_choose_4) (fun v_4_2 S_4_3 h_4_0 => ?_)
  obtain ⟨rfl, ev_4_2⟩ := h_4_0
  have hz_v_4_2 : nI mm = v_4_2 := by rw [ev_4_2]; exact (hL0).2.1.symm
  subst hz_v_4_2
  refine k_istore_n X [(2, .int (nI mm)), (0, .ref (kof A k)), (1, .ref (A 1))] dX8_choose_7 rfl (by decide) rfl ?_
  refine k_iconst X (v := 0) dX8_choose_8 (by decide) ?_
  refine k_istore_n X [(3, .int 0), (2, .int (nI mm)), (0, .ref (kof A k)), (1, .ref (A 1))] dX8_choose_9 rfl (by decide) rfl ?_
  have L_10 : ∀ (N : Nat) (i : Nat) (x : Int32) (Si : kS), mm - i = N → x = nI i → (i ≤ mm ∧ kI C.e0 A n cz (T + 1 * i) G Z Si ∧ kKe A S Si) → kG C 5 Si 0 0 10 [(3, .int x), (2, .int (nI mm)), (0, .ref (kof A k)), (1, .ref (A 1))] [] := by
    intro N
    induction N using Nat.strongRecOn with
    | _ N ih =>
    intro i x Si hMs h10_0 h10_1
    subst h10_0
    obtain ⟨hBi, hIi, hKi⟩ := h10_1
    refine k_iload_n X (q := 0) dX8_choose_10 rfl rfl ?_
    refine k_iload_n X (q := 1) dX8_choose_11 rfl rfl ?_
    refine k_icmp_ge (tgt := 87) X dX8_choose_12 (by decide) (fun c_12 => ?_) (fun c_12 => ?_)
    · skip
      have hin : mm = i := by have := ge_of_le c_12 (by omega); omega
      subst hin
      exact k_vret X E dX8_choose_87 (Nat.le_of_ble_eq_true rfl) (Nat.le_of_ble_eq_true rfl) (⟨hIi.mono (by omega) (by omega) (by omega), hKi⟩)
    · skip
      have hlti : i < mm := lt_of_nle c_12 (by omega)
      refine k_aload_n X (q := 2) dX8_choose_15 rfl rfl ?_
      refine gX8_9 X (S := Si) (kLs.el hIi.hO hk).1 (kLs.el hIi.hO hk).2 dX8_choose_16 (fun r_16_4 er_16_4 => ?_)
      refine k_ifnonnull (tgt := 87) X dX8_choose_19 (by decide) (fun a_19_5 c_19 => ?_) (fun c_19 => ?_)
      · skip
        subst c_19
        exact k_vret X E dX8_choose_87 (Nat.le_of_ble_eq_true rfl) (Nat.le_of_ble_eq_true rfl) (⟨hIi.mono (by omega) (by omega) (by omega), hKi⟩)
      · skip
        subst c_19
        refine k_aload_n X (q := 2) dX8_choose_22 rfl rfl ?_
        refine k_gotI X (vX8_51 X (S := Si) ⟨(kLs.el hIi.hO hk).1, (kLs.el hIi.hO hk).2⟩ (c_X8_isGeneral C.l C.e0 Si (kof A k)  ⟨(kLs.el hIi.hO hk).1, (kLs.el hIi.hO hk).2⟩) (As := []) (rest := []) rfl rfl rfl rfl ⟨Nat.le_of_ble_eq_true rfl, Nat.le_of_ble_eq_true rfl⟩ (Nat.le_of_ble_eq_true rfl) ⟨Nat.le_of_ble_eq_true rfl, Nat.le_of_ble_eq_true rfl⟩ dX8_choose_23) (fun v_23_7 S_23_8 h_23_5 => ?_)
        obtain ⟨rfl, ev_23_7⟩ := h_23_5
        refine k_if_eq (tgt := 37) X dX8_choose_26 (by decide) (fun c_26 => ?_) (fun c_26 => ?_)
        · skip
          rw [ev_23_7] at c_26
          refine k_aload_n X (q := 3) dX8_choose_37 rfl rfl ?_
          refine gX8_76s X (S := Si) (st_1 hIi.st).1 (st_1 hIi.st).2 (sr_1_11 hIi.st) dX8_choose_38 ?_
          refine k_aload_n X (q := 2) dX8_choose_41 rfl rfl ?_
          refine gX8_25s X (S := Si) (kLs.el hIi.hO hk).1 (kLs.el hIi.hO hk).2 ((st_sta hIi.st hk).2.2.1) dX8_choose_42 ?_
          obtain ⟨m9, xs9, hL9, hm9, hx9⟩ := hIi.cl (r := 25 + k) (by unfold clR; omega)
          obtain ⟨c9, hlc9⟩ := hL9.c
          have hal9 : kall n cz (fun _ => True) m9 xs9 := fun t ht => by
            obtain ⟨j, h1, h2⟩ := hx9 t ht
            exact ⟨j, h1, h2, trivial⟩
          refine k_gotQ X (vX8_80 X (S := Si) ⟨(st_7 hIi.st).1, (st_7 hIi.st).2⟩ (c_X6_drawFrom C.l C.e0 Si (A (25 + k)) A hIi.st m9 c9 (25 + k) xs9 hlc9 (by omega) (st_sta hIi.st hk).2.1) (As := [.ref (A (25 + k))]) (rest := []) rfl rfl rfl rfl ⟨Nat.le_of_ble_eq_true rfl, Nat.le_of_ble_eq_true rfl⟩ (Nat.le_of_ble_eq_true rfl) ⟨Nat.le_of_ble_eq_true rfl, Nat.le_of_ble_eq_true rfl⟩ dX8_choose_45) (fun r_45_10 S_45_11 h_45_8 => ?_)
          obtain ⟨hdf, hvq, -⟩ := hIi.dfrom (r := 25 + k) (Q := fun _ => True) (by unfold clR; omega) hlc9 (by omega) hal9 (by omega) (by rcases h_45_8 with z | z | z; exact Or.inl z; exact Or.inr (Or.inl z); exact Or.inr (Or.inr z))
          obtain ⟨hI_12, hx_12⟩ := hdf
          have hK_12 := (hKi).tr hx_12
          refine k_astoreQ X [(4, va_rf r_45_10), (3, .int (nI i)), (2, .int (nI mm)), (0, .ref (kof A k)), (1, .ref (A 1))] dX8_choose_48 (by decide) rfl ?_
          refine k_aloadQ X (q := 0) dX8_choose_50 rfl ?_
          refine k_ifnull (tgt := 81) X dX8_choose_52 (by decide) (fun c_52 => ?_) (fun a_52_13 c_52 => ?_)
          · skip
            subst c_52
            obtain ⟨v_81_14, ev_81_14⟩ : ∃ z : Int32, z = (nI i) + 1 := ⟨_, rfl⟩
            refine k_iinc X (q := 1) (v := v_81_14) [(3, .int v_81_14), (4, .null), (2, .int (nI mm)), (0, .ref (kof A k)), (1, .ref (A 1))] dX8_choose_81 rfl (by rw [ev_81_14]; rfl) (by decide) rfl ?_
            refine k_goto (tgt := 10) X dX8_choose_84 (by decide) ?_
            refine k_lv [0, 2, 3, 4] _ rfl ?_
            exact ih (mm - (i + 1)) (by omega) (i + 1) _ _ rfl (by rw [ev_81_14, nI_1]) ⟨by omega, hI_12.mono (by omega) (by omega) (by omega), hK_12⟩
          · skip
            subst c_52
            obtain ⟨j, hj, hjr⟩ : ∃ j, j < n ∧ a_52_13 = cz j := by
              rcases hvq with z | ⟨j, z1, z2, -⟩
              · cases z
              · exact ⟨j, z1, Option.some.inj z2⟩
            subst hjr
            refine k_aload_n X (q := 3) dX8_choose_55 rfl rfl ?_
            refine k_aload X (q := 0) dX8_choose_56 rfl ?_
            refine k_aload_n X (q := 4) dX8_choose_58 rfl rfl ?_
            refine k_gotI X (vX8_86 X (S := S_45_11) ⟨(kLs.el hI_12.hO hk).1, (kLs.el hI_12.hO hk).2⟩ (c_X8_isFit C.l C.e0 S_45_11 (cz j) A hI_12.st k hk ⟨(hI_12.at hj).1, (hI_12.at hj).2⟩ hI_12.hO) (As := [.ref (cz j), .ref (A 1)]) (rest := []) rfl rfl rfl rfl ⟨Nat.le_of_ble_eq_true rfl, Nat.le_of_ble_eq_true rfl⟩ (Nat.le_of_ble_eq_true rfl) ⟨Nat.le_of_ble_eq_true rfl, Nat.le_of_ble_eq_true rfl⟩ dX8_choose_59) (fun v_59_16 S_59_17 h_59_14 => ?_)
            obtain ⟨rfl, hfit59⟩ := h_59_14
            refine k_if_eq (tgt := 81) X dX8_choose_62 (by decide) (fun c_62 => ?_) (fun c_62 => ?_)
            · skip
              obtain ⟨v_81_18, ev_81_18⟩ : ∃ z : Int32, z = (nI i) + 1 := ⟨_, rfl⟩
              refine k_iinc X (q := 1) (v := v_81_18) [(3, .int v_81_18), (4, .ref (cz j)), (2, .int (nI mm)), (0, .ref (kof A k)), (1, .ref (A 1))] dX8_choose_81 rfl (by rw [ev_81_18]; rfl) (by decide) rfl ?_
              refine k_goto (tgt := 10) X dX8_choose_84 (by decide) ?_
              refine k_lv [0, 2, 3, 4] _ rfl ?_
              exact ih (mm - (i + 1)) (by omega) (i + 1) _ _ rfl (by rw [ev_81_18, nI_1]) ⟨by omega, hI_12.mono (by omega) (by omega) (by omega), hK_12⟩
            · skip
              refine k_aload X (q := 0) dX8_choose_65 rfl ?_
              refine k_aload_n X (q := 4) dX8_choose_67 rfl rfl ?_
              refine k_gotI X (vX8_90 X (S := S_45_11) (c_X8_isAccepted C.l C.e0 S_45_11  A n cz hI_12.st hI_12.hC hn j hj) (As := [.ref (cz j), .ref (A 1)]) (rest := []) rfl rfl rfl rfl ⟨Nat.le_of_ble_eq_true rfl, Nat.le_of_ble_eq_true rfl⟩ (Nat.le_of_ble_eq_true rfl) ⟨Nat.le_of_ble_eq_true rfl, Nat.le_of_ble_eq_true rfl⟩ dX8_choose_68) (fun v_68_20 S_68_21 h_68_18 => ?_)
              obtain ⟨rfl, hacc⟩ := h_68_18
              refine k_if_eq (tgt := 81) X dX8_choose_71 (by decide) (fun c_71 => ?_) (fun c_71 => ?_)
              · skip
                obtain ⟨v_81_22, ev_81_22⟩ : ∃ z : Int32, z = (nI i) + 1 := ⟨_, rfl⟩
                refine k_iinc X (q := 1) (v := v_81_22) [(3, .int v_81_22), (4, .ref (cz j)), (2, .int (nI mm)), (0, .ref (kof A k)), (1, .ref (A 1))] dX8_choose_81 rfl (by rw [ev_81_22]; rfl) (by decide) rfl ?_
                refine k_goto (tgt := 10) X dX8_choose_84 (by decide) ?_
                refine k_lv [0, 2, 3, 4] _ rfl ?_
                exact ih (mm - (i + 1)) (by omega) (i + 1) _ _ rfl (by rw [ev_81_22, nI_1]) ⟨by omega, hI_12.mono (by omega) (by omega) (by omega), hK_12⟩
              · skip
                have hf9 := hfit59 c_62
                have ha9 := hacc c_71
                have hno9 : ∀ k, k < 7 → ¬ S_45_11.R (kof A k) 1 = some (cz j) := fun k0 hk0 hr => by
                  have g3 := kff_no 7 (kff_nidx hf9.2 (by omega)) k0 hk0
                  exact g3 (by simp [hr])
                refine k_aload_n X (q := 3) dX8_choose_74 rfl rfl ?_
                refine k_aload X (q := 0) dX8_choose_75 rfl ?_
                refine k_aload_n X (q := 4) dX8_choose_77 rfl rfl ?_
                refine k_gotV X (vX8_93 X (S := S_45_11) ⟨(kLs.el hI_12.hO hk).1, (kLs.el hI_12.hO hk).2⟩ (c_X8_install C.l C.e0 S_45_11  A n cz _ _ _ hI_12 k j hk hj hf9.1 ha9 hno9 (by omega)) (As := [.ref (cz j), .ref (A 1)]) (rest := []) rfl rfl rfl rfl ⟨Nat.le_of_ble_eq_true rfl, Nat.le_of_ble_eq_true rfl⟩ (Nat.le_of_ble_eq_true rfl) ⟨Nat.le_of_ble_eq_true rfl, Nat.le_of_ble_eq_true rfl⟩ dX8_choose_78) (fun S_78_24 h_78_22 => ?_)
                obtain ⟨hI_25, hx_25⟩ := h_78_22
                have hK_25 := (hK_12).tr hx_25
                obtain ⟨v_81_26, ev_81_26⟩ : ∃ z : Int32, z = (nI i) + 1 := ⟨_, rfl⟩
                refine k_iinc X (q := 1) (v := v_81_26) [(3, .int v_81_26), (4, .ref (cz j)), (2, .int (nI mm)), (0, .ref (kof A k)), (1, .ref (A 1))] dX8_choose_81 rfl (by rw [ev_81_26]; rfl) (by decide) rfl ?_
                refine k_goto (tgt := 10) X dX8_choose_84 (by decide) ?_
                refine k_lv [0, 2, 3, 4] _ rfl ?_
                exact ih (mm - (i + 1)) (by omega) (i + 1) _ _ rfl (by rw [ev_81_26, nI_1]) ⟨by omega, hI_25.mono (by omega) (by omega) (by omega), hK_25⟩
        · skip
          rw [ev_23_7] at c_26
          refine k_aload_n X (q := 2) dX8_choose_29 rfl rfl ?_
          refine k_aload_n X (q := 3) dX8_choose_30 rfl rfl ?_
          refine k_gotQ X (vX8_72 X (S := Si) ⟨(kLs.el hIi.hO hk).1, (kLs.el hIi.hO hk).2⟩ (c_X8_takeMostLiked C.l C.e0 Si  A n cz _ _ _ hIi k hk (by omega)) (As := [.ref (A 1)]) (rest := []) rfl rfl rfl rfl ⟨Nat.le_of_ble_eq_true rfl, Nat.le_of_ble_eq_true rfl⟩ (Nat.le_of_ble_eq_true rfl) ⟨Nat.le_of_ble_eq_true rfl, Nat.le_of_ble_eq_true rfl⟩ dX8_choose_31) (fun r_31_28 S_31_29 h_31_26 => ?_)
          obtain ⟨hI_30, hx_30, hm_30⟩ := h_31_26
          have hK_30 := (hKi).tr hx_30
          have hvq : r_31_28 = none ∨ ∃ j, j < n ∧ r_31_28 = some (cz j) ∧ True := by
            rcases hm_30 with z | ⟨j, z1, z2⟩
            · exact Or.inl z
            · exact Or.inr ⟨j, z1, z2, trivial⟩
          refine k_goto (tgt := 48) X dX8_choose_34 (by decide) ?_
          refine k_astoreQ X [(4, va_rf r_31_28), (3, .int (nI i)), (2, .int (nI mm)), (0, .ref (kof A k)), (1, .ref (A 1))] dX8_choose_48 (by decide) rfl ?_
          refine k_aloadQ X (q := 0) dX8_choose_50 rfl ?_
          refine k_ifnull (tgt := 81) X dX8_choose_52 (by decide) (fun c_52 => ?_) (fun a_52_31 c_52 => ?_)
          · skip
            subst c_52
            obtain ⟨v_81_32, ev_81_32⟩ : ∃ z : Int32, z = (nI i) + 1 := ⟨_, rfl⟩
            refine k_iinc X (q := 1) (v := v_81_32) [(3, .int v_81_32), (4, .null), (2, .int (nI mm)), (0, .ref (kof A k)), (1, .ref (A 1))] dX8_choose_81 rfl (by rw [ev_81_32]; rfl) (by decide) rfl ?_
            refine k_goto (tgt := 10) X dX8_choose_84 (by decide) ?_
            refine k_lv [0, 2, 3, 4] _ rfl ?_
            exact ih (mm - (i + 1)) (by omega) (i + 1) _ _ rfl (by rw [ev_81_32, nI_1]) ⟨by omega, hI_30.mono (by omega) (by omega) (by omega), hK_30⟩
          · skip
            subst c_52
            obtain ⟨j, hj, hjr⟩ : ∃ j, j < n ∧ a_52_31 = cz j := by
              rcases hvq with z | ⟨j, z1, z2, -⟩
              · cases z
              · exact ⟨j, z1, Option.some.inj z2⟩
            subst hjr
            refine k_aload_n X (q := 3) dX8_choose_55 rfl rfl ?_
            refine k_aload X (q := 0) dX8_choose_56 rfl ?_
            refine k_aload_n X (q := 4) dX8_choose_58 rfl rfl ?_
            refine k_gotI X (vX8_86 X (S := S_31_29) ⟨(kLs.el hI_30.hO hk).1, (kLs.el hI_30.hO hk).2⟩ (c_X8_isFit C.l C.e0 S_31_29 (cz j) A hI_30.st k hk ⟨(hI_30.at hj).1, (hI_30.at hj).2⟩ hI_30.hO) (As := [.ref (cz j), .ref (A 1)]) (rest := []) rfl rfl rfl rfl ⟨Nat.le_of_ble_eq_true rfl, Nat.le_of_ble_eq_true rfl⟩ (Nat.le_of_ble_eq_true rfl) ⟨Nat.le_of_ble_eq_true rfl, Nat.le_of_ble_eq_true rfl⟩ dX8_choose_59) (fun v_59_34 S_59_35 h_59_32 => ?_)
            obtain ⟨rfl, hfit59⟩ := h_59_32
            refine k_if_eq (tgt := 81) X dX8_choose_62 (by decide) (fun c_62 => ?_) (fun c_62 => ?_)
            · skip
              obtain ⟨v_81_36, ev_81_36⟩ : ∃ z : Int32, z = (nI i) + 1 := ⟨_, rfl⟩
              refine k_iinc X (q := 1) (v := v_81_36) [(3, .int v_81_36), (4, .ref (cz j)), (2, .int (nI mm)), (0, .ref (kof A k)), (1, .ref (A 1))] dX8_choose_81 rfl (by rw [ev_81_36]; rfl) (by decide) rfl ?_
              refine k_goto (tgt := 10) X dX8_choose_84 (by decide) ?_
              refine k_lv [0, 2, 3, 4] _ rfl ?_
              exact ih (mm - (i + 1)) (by omega) (i + 1) _ _ rfl (by rw [ev_81_36, nI_1]) ⟨by omega, hI_30.mono (by omega) (by omega) (by omega), hK_30⟩
            · skip
              refine k_aload X (q := 0) dX8_choose_65 rfl ?_
              refine k_aload_n X (q := 4) dX8_choose_67 rfl rfl ?_
              refine k_gotI X (vX8_90 X (S := S_31_29) (c_X8_isAccepted C.l C.e0 S_31_29  A n cz hI_30.st hI_30.hC hn j hj) (As := [.ref (cz j), .ref (A 1)]) (rest := []) rfl rfl rfl rfl ⟨Nat.le_of_ble_eq_true rfl, Nat.le_of_ble_eq_true rfl⟩ (Nat.le_of_ble_eq_true rfl) ⟨Nat.le_of_ble_eq_true rfl, Nat.le_of_ble_eq_true rfl⟩ dX8_choose_68) (fun v_68_38 S_68_39 h_68_36 => ?_)
              obtain ⟨rfl, hacc⟩ := h_68_36
              refine k_if_eq (tgt := 81) X dX8_choose_71 (by decide) (fun c_71 => ?_) (fun c_71 => ?_)
              · skip
                obtain ⟨v_81_40, ev_81_40⟩ : ∃ z : Int32, z = (nI i) + 1 := ⟨_, rfl⟩
                refine k_iinc X (q := 1) (v := v_81_40) [(3, .int v_81_40), (4, .ref (cz j)), (2, .int (nI mm)), (0, .ref (kof A k)), (1, .ref (A 1))] dX8_choose_81 rfl (by rw [ev_81_40]; rfl) (by decide) rfl ?_
                refine k_goto (tgt := 10) X dX8_choose_84 (by decide) ?_
                refine k_lv [0, 2, 3, 4] _ rfl ?_
                exact ih (mm - (i + 1)) (by omega) (i + 1) _ _ rfl (by rw [ev_81_40, nI_1]) ⟨by omega, hI_30.mono (by omega) (by omega) (by omega), hK_30⟩
              · skip
                have hf9 := hfit59 c_62
                have ha9 := hacc c_71
                have hno9 : ∀ k, k < 7 → ¬ S_31_29.R (kof A k) 1 = some (cz j) := fun k0 hk0 hr => by
                  have g3 := kff_no 7 (kff_nidx hf9.2 (by omega)) k0 hk0
                  exact g3 (by simp [hr])
                refine k_aload_n X (q := 3) dX8_choose_74 rfl rfl ?_
                refine k_aload X (q := 0) dX8_choose_75 rfl ?_
                refine k_aload_n X (q := 4) dX8_choose_77 rfl rfl ?_
                refine k_gotV X (vX8_93 X (S := S_31_29) ⟨(kLs.el hI_30.hO hk).1, (kLs.el hI_30.hO hk).2⟩ (c_X8_install C.l C.e0 S_31_29  A n cz _ _ _ hI_30 k j hk hj hf9.1 ha9 hno9 (by omega)) (As := [.ref (cz j), .ref (A 1)]) (rest := []) rfl rfl rfl rfl ⟨Nat.le_of_ble_eq_true rfl, Nat.le_of_ble_eq_true rfl⟩ (Nat.le_of_ble_eq_true rfl) ⟨Nat.le_of_ble_eq_true rfl, Nat.le_of_ble_eq_true rfl⟩ dX8_choose_78) (fun S_78_42 h_78_40 => ?_)
                obtain ⟨hI_43, hx_43⟩ := h_78_40
                have hK_43 := (hK_30).tr hx_43
                obtain ⟨v_81_44, ev_81_44⟩ : ∃ z : Int32, z = (nI i) + 1 := ⟨_, rfl⟩
                refine k_iinc X (q := 1) (v := v_81_44) [(3, .int v_81_44), (4, .ref (cz j)), (2, .int (nI mm)), (0, .ref (kof A k)), (1, .ref (A 1))] dX8_choose_81 rfl (by rw [ev_81_44]; rfl) (by decide) rfl ?_
                refine k_goto (tgt := 10) X dX8_choose_84 (by decide) ?_
                refine k_lv [0, 2, 3, 4] _ rfl ?_
                exact ih (mm - (i + 1)) (by omega) (i + 1) _ _ rfl (by rw [ev_81_44, nI_1]) ⟨by omega, hI_43.mono (by omega) (by omega) (by omega), hK_43⟩
  refine k_lv [0, 1, 2, 3] _ rfl ?_
  exact L_10 _ 0 0 _ rfl nI_0.symm ⟨by omega, h.mono (by omega) (by omega) (by omega), kKe.rf⟩
