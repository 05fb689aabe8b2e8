theorem kff_nidx {p : Nat → Bool} {n : Nat} (h : kidx (kff p n) = -1) (hn : n < 2 ^ 31) : kff p n = none := by
  cases h2 : kff p n with
  | none => rfl
  | some j =>
    rw [h2] at h
    have h3 := (kff_at n h2).2
    have h4 : nI j = -1 := h
    exact absurd (show nI j < 0 by rw [h4]; decide) (nI_pos (by omega))
/-- every one of the first m is one of the citizens and is such -/
def kall (n : Nat) (cz : Nat → Nat) (Q : Nat → Prop) (m : Nat) (xs : Nat → Nat) : Prop := ∀ t, t < m → ∃ j, j < n ∧ xs t = cz j ∧ Q j
theorem kall_0 {n : Nat} {cz xs : Nat → Nat} {Q : Nat → Prop} : kall n cz Q 0 xs := fun t h => absurd h (by omega)
theorem kall_t {n m i : Nat} {cz xs : Nat → Nat} {Q : Nat → Prop} (h : kall n cz Q m xs) (hi : i < n) (hq : Q i) : kall n cz Q (m + 1) (va_up xs m (cz i)) := fun t ht => by
  unfold va_up
  by_cases e : t = m
  · rw [if_pos e]; exact ⟨i, hi, rfl, hq⟩
  · rw [if_neg e]; exact h t (by omega)
set_option maxHeartbeats 1000000 in
set_option maxRecDepth 20000 in
theorem c_X3_isEligible (l : Launch) (e0 : Nat × Nat) (S : kS) (c : Nat) (A : Nat → Nat) (hst : kSt A S) (hO : kLs e0 S (A 11) 8 7 (kof A)) (hc : S.at c 1) : kM l e0 yX3_isEligible cX3_isEligible 2 (Option.some Jvm.ClassFile.FieldType.boolean) ({ frames := 4, cells := 0, slots := 0, locals := 86 } : Room) 0 0 [.ref (A 2), .ref c] S (kQi (fun v S9 => S = S9 ∧ v = kb (decide (S.I c 6 = 1) && !decide (S.I (A 1) 0 < S.I c 7) && decide (30 ≤ S.I c 3) && decide (kidx (kff (fun i => decide (S.R (kof A i) 1 = some c)) 7) = -1) && decide (S.I c 8 < 2)))) := by
  refine kMetE (by decide +kernel) (Nat.le_of_ble_eq_true rfl) (fun C he hl X E hm => ?_)
  have X : kX C RX3 cX3_isEligible 2 ({ frames := 4, cells := 0, slots := 0, locals := 86 } : Room) := X
  subst he hl
  show kG C 2 S 0 0 0 [(0, .ref (A 2)), (1, .ref c)] []
  refine k_aload_n X (q := 1) dX3_isEligible_0 rfl rfl ?_
  refine k_gotI X (vX3_98 X (S := S) ⟨hc.1, hc.2⟩ (c_X1_isFull C.l C.e0 S c hc) (As := []) (rest := []) rfl rfl rfl rfl ⟨Nat.le_of_ble_eq_true rfl, Nat.le_of_ble_eq_true rfl⟩ (Nat.le_of_ble_eq_true rfl) ⟨Nat.le_of_ble_eq_true rfl, Nat.le_of_ble_eq_true rfl⟩ dX3_isEligible_1) (fun v_1_2 S_1_3 h_1_0 => ?_)
  obtain ⟨rfl, ev_1_2⟩ := h_1_0
  refine k_if_eq (tgt := 54) X dX3_isEligible_4 (by decide) (fun c_4 => ?_) (fun c_4 => ?_)
  · skip
    rw [ev_1_2] at c_4
    refine k_iconst X (v := 0) dX3_isEligible_54 (by decide) ?_
    exact k_zret X E (Or.inl rfl) dX3_isEligible_55 (Nat.le_of_ble_eq_true rfl) (Nat.le_of_ble_eq_true rfl) (⟨rfl, by (try subst_vars); first | (simp_all [kb]; done) | (simp_all [kb, ← Int32.not_le]; done)⟩)
  · skip
    rw [ev_1_2] at c_4
    refine k_aload_n X (q := 1) dX3_isEligible_7 rfl rfl ?_
    refine k_aload_n X (q := 0) dX3_isEligible_8 rfl rfl ?_
    refine gX3_28s X (S := S) (st_2 hst).1 (st_2 hst).2 (sr_2_0 hst) dX3_isEligible_9 ?_
    refine gX3_102 X (S := S) (st_1 hst).1 (st_1 hst).2 dX3_isEligible_12 (fun v_12_4 ev_12_4 => ?_)
    refine k_gotI X (vX3_105 X (S := S) ⟨hc.1, hc.2⟩ (c_X1_isBarred C.l C.e0 S c v_12_4 hc) (As := [.int v_12_4]) (rest := []) rfl rfl rfl rfl ⟨Nat.le_of_ble_eq_true rfl, Nat.le_of_ble_eq_true rfl⟩ (Nat.le_of_ble_eq_true rfl) ⟨Nat.le_of_ble_eq_true rfl, Nat.le_of_ble_eq_true rfl⟩ dX3_isEligible_15) (fun v_15_6 S_15_7 h_15_4 => ?_)
    obtain ⟨rfl, ev_15_6⟩ := h_15_4
    refine k_if_ne (tgt := 54) X dX3_isEligible_18 (by decide) (fun c_18 => ?_) (fun c_18 => ?_)
    · skip
      rw [ev_15_6] at c_18
      refine k_iconst X (v := 0) dX3_isEligible_54 (by decide) ?_
      exact k_zret X E (Or.inl rfl) dX3_isEligible_55 (Nat.le_of_ble_eq_true rfl) (Nat.le_of_ble_eq_true rfl) (⟨rfl, by (try subst_vars); first | (simp_all [kb]; done) | (simp_all [kb, ← Int32.not_le]; done)⟩)
    · skip
      rw [ev_15_6] at c_18
      refine k_aload_n X (q := 1) dX3_isEligible_21 rfl rfl ?_
      refine gX3_109 X (S := S) hc.1 hc.2 dX3_isEligible_22 (fun v_22_8 ev_22_8 => ?_)
      refine k_bipush X (v := 30) dX3_isEligible_25 (by decide) ?_
      refine k_icmp_lt (tgt := 54) X dX3_isEligible_27 (by decide) (fun c_27 => ?_) (fun c_27 => ?_)
      · skip
        refine k_iconst X (v := 0) dX3_isEligible_54 (by decide) ?_
        exact k_zret X E (Or.inl rfl) dX3_isEligible_55 (Nat.le_of_ble_eq_true rfl) (Nat.le_of_ble_eq_true rfl) (⟨rfl, by (try subst_vars); first | (simp_all [kb]; done) | (simp_all [kb, ← Int32.not_le]; done)⟩)
      · skip
        refine k_aload_n X (q := 0) dX3_isEligible_30 rfl rfl ?_
        refine gX3_28s X (S := S) (st_2 hst).1 (st_2 hst).2 (sr_2_0 hst) dX3_isEligible_31 ?_
        refine k_aload_n X (q := 1) dX3_isEligible_34 rfl rfl ?_
        refine k_gotI X (vX3_112 X (S := S) ⟨(st_1 hst).1, (st_1 hst).2⟩ (c_X2_officeOf C.l C.e0 S c A hst hO) (As := [.ref c]) (rest := []) rfl rfl rfl rfl ⟨Nat.le_of_ble_eq_true rfl, Nat.le_of_ble_eq_true rfl⟩ (Nat.le_of_ble_eq_true rfl) ⟨Nat.le_of_ble_eq_true rfl, Nat.le_of_ble_eq_true rfl⟩ dX3_isEligible_35) (fun v_35_10 S_35_11 h_35_8 => ?_)
        obtain ⟨rfl, ev_35_10⟩ := h_35_8
        refine k_iconst X (v := (-1)) dX3_isEligible_38 (by decide) ?_
        refine k_icmp_ne (tgt := 54) X dX3_isEligible_39 (by decide) (fun c_39 => ?_) (fun c_39 => ?_)
        · skip
          refine k_iconst X (v := 0) dX3_isEligible_54 (by decide) ?_
          exact k_zret X E (Or.inl rfl) dX3_isEligible_55 (Nat.le_of_ble_eq_true rfl) (Nat.le_of_ble_eq_true rfl) (⟨rfl, by (try subst_vars); first | (simp_all [kb]; done) | (simp_all [kb, ← Int32.not_le]; done)⟩)
        · skip
          refine k_aload_n X (q := 1) dX3_isEligible_42 rfl rfl ?_
          refine gX3_77 X (S := S) hc.1 hc.2 dX3_isEligible_43 (fun v_43_12 ev_43_12 => ?_)
          refine k_iconst X (v := 2) dX3_isEligible_46 (by decide) ?_
          refine k_icmp_ge (tgt := 54) X dX3_isEligible_47 (by decide) (fun c_47 => ?_) (fun c_47 => ?_)
          · skip
            refine k_iconst X (v := 0) dX3_isEligible_54 (by decide) ?_
            exact k_zret X E (Or.inl rfl) dX3_isEligible_55 (Nat.le_of_ble_eq_true rfl) (Nat.le_of_ble_eq_true rfl) (⟨rfl, by (try subst_vars); first | (simp_all [kb]; done) | (simp_all [kb, ← Int32.not_le]; done)⟩)
          · skip
            refine k_iconst X (v := 1) dX3_isEligible_50 (by decide) ?_
            refine k_goto (tgt := 55) X dX3_isEligible_51 (by decide) ?_
            exact k_zret X E (Or.inr rfl) dX3_isEligible_55 (Nat.le_of_ble_eq_true rfl) (Nat.le_of_ble_eq_true rfl) (⟨rfl, by (try subst_vars); first | (simp_all [kb]; done) | (simp_all [kb, ← Int32.not_le]; done)⟩)
set_option maxHeartbeats 1000000 in
set_option maxRecDepth 20000 in
theorem c_X4_gatherJurors (l : Launch) (e0 : Nat × Nat) (S : kS) (x1 : Int32) (o1 : Option Nat) (o2 : Option Nat) (A : Nat → Nat) (n : Nat) (cz : Nat → Nat) (hst : kSt A S) (hC : kLs e0 S (A 10) 1 n cz) (hn : n ≤ 40) (hOc : ∀ j, j < n → S.O (cz j) = 200) (m0 : Nat) (xs0 : Nat → Nat) (hL0 : kLs e0 S (A 17) 1 m0 xs0)  : kM l e0 yX4_gatherJurors cX4_gatherJurors 6 none ({ frames := 7, cells := 6, slots := 202, locals := 191 } : Room) 6 202 [.ref (A 3), .int x1, va_rf o1, va_rf o2] S (kQv (fun S9 => kFr S S9 (kRo S 17) ∧ ∃ m xs c, kLc e0 S9 (A 17) 1 m xs c ∧ m ≤ n ∧ kall n cz (fun j => True) m xs)) := by
  refine kMetE (by decide +kernel) (by simp [lg_sl, va_cat, cat_i, cat_r, cat_l]) (fun C he hl X E hm => ?_)
  have X : kX C RX4 cX4_gatherJurors 6 ({ frames := 7, cells := 6, slots := 202, locals := 191 } : Room) := X
  subst he hl
  rw [show lv_args 0 [.ref (A 3), .int x1, va_rf o1, va_rf o2] = [(0, .ref (A 3)), (1, .int x1), (2, va_rf o1), (3, va_rf o2)] from by simp [lv_args, va_cat, cat_i, cat_r, cat_l]]
  show kG C 6 S 0 0 0 [(0, .ref (A 3)), (1, .int x1), (2, va_rf o1), (3, va_rf o2)] []
  obtain ⟨Q, hQ⟩ : ∃ Q : Nat → Prop, Q = fun j => True := ⟨_, rfl⟩
  rw [← hQ] at E
  refine k_aload_n X (q := 0) dX4_gatherJurors_0 rfl rfl ?_
  refine gX4_21s X (S := S) (st_3 hst).1 (st_3 hst).2 (sr_3_3 hst) dX4_gatherJurors_1 ?_
  refine k_gotV X (vX4_62 X (S := S) ⟨(st_17 hst).1, (st_17 hst).2⟩ (c_Jx4a65c_clear_da8c8 C.l C.e0 S (A 17) 1 m0 xs0 hL0) (As := []) (rest := []) rfl rfl rfl rfl ⟨Nat.le_of_ble_eq_true rfl, Nat.le_of_ble_eq_true rfl⟩ (Nat.le_of_ble_eq_true rfl) ⟨Nat.le_of_ble_eq_true rfl, Nat.le_of_ble_eq_true rfl⟩ dX4_gatherJurors_4) (fun S_4_2 h_4_0 => ?_)
  obtain ⟨hfr0, hls0, -⟩ := h_4_0
  rw [so_17 hst] at hfr0
  obtain ⟨c0, hlc0⟩ := hls0.c
  refine k_iconst X (v := 0) dX4_gatherJurors_7 (by decide) ?_
  refine k_istore X [(4, .int 0), (0, .ref (A 3)), (1, .int x1), (2, va_rf o1), (3, va_rf o2)] dX4_gatherJurors_8 (by decide) (by simp [List.filter, va_cat]) ?_
  refine k_room (k' := lev c0) (n' := slv c0) (by omega) (by omega) ?_
  have L_10 : ∀ (N : Nat) (i : Nat) (x : Int32) (Si : kS) (m : Nat) (xs : Nat → Nat) (c : Nat), n - i = N → x = nI i → (i ≤ n ∧ m ≤ i ∧ kFr S Si (kRo S 17) ∧ kLc C.e0 Si (A 17) 1 m xs c ∧ kall n cz Q m xs) → kG C 6 Si (lev c) (slv c) 10 [(4, .int x), (0, .ref (A 3)), (1, .int x1), (2, va_rf o1), (3, va_rf o2)] [] := by
    intro N
    induction N using Nat.strongRecOn with
    | _ N ih =>
    intro i x Si m xs c hMs h10_0 h10_1
    subst h10_0
    obtain ⟨hin9, hmi, hfr, hlc, hal⟩ := h10_1
    have hstI := hst.frR hfr (by decide)
    have hCI := hC.frR (so_10 hst) hfr (by decide) (by decide) (by decide)
    refine k_iload X (q := 0) dX4_gatherJurors_10 rfl ?_
    refine k_aload_n X (q := 1) dX4_gatherJurors_12 rfl rfl ?_
    refine gX4_40s X (S := Si) (st_3 hstI).1 (st_3 hstI).2 (sr_3_0 hstI) dX4_gatherJurors_13 ?_
    refine gX4_88s X (S := Si) (st_1 hstI).1 (st_1 hstI).2 (sr_1_12 hstI) dX4_gatherJurors_16 ?_
    refine k_gotI X (vX4_48 X (S := Si) ⟨(st_10 hstI).1, (st_10 hstI).2⟩ (c_Jx4a65c_size_8abf5 C.l C.e0 Si (A 10) (st_10 hstI)) (As := []) (rest := [.int (nI i)]) rfl rfl rfl rfl ⟨Nat.le_of_ble_eq_true rfl, Nat.le_of_ble_eq_true rfl⟩ (Nat.le_of_ble_eq_true rfl) ⟨(by show lev c + 0 ≤ 6; have := lev_le c; omega), (by show slv c + 0 ≤ 202; have := lev_le c; omega)⟩ dX4_gatherJurors_19) (fun v_19_4 S_19_5 h_19_2 => ?_)
    obtain ⟨rfl, ev_19_4⟩ := h_19_2
    have hz_v_19_4 : nI n = v_19_4 := by rw [ev_19_4]; exact (hCI).2.1.symm
    subst hz_v_19_4
    refine k_icmp_ge (tgt := 87) X dX4_gatherJurors_22 (by decide) (fun c_22 => ?_) (fun c_22 => ?_)
    · skip
      have hin : n = i := by have := ge_of_le c_22 (by omega); omega
      subst hin
      exact k_vret X E dX4_gatherJurors_87 (lev_le c).1 (lev_le c).2 (⟨hfr, m, xs, c, hlc, hmi, hal⟩)
    · skip
      have hlt : i < n := lt_of_nle c_22 (by omega)
      have hI : ∀ f, Si.I (cz i) f = S.I (cz i) f := (hfr.2 _ (kLs.el hC hlt).1 (fun z => by unfold kRo at z; rw [hOc i hlt] at z; omega)).1
      have hI1 : ∀ f, Si.I (A 1) f = S.I (A 1) f := (hfr.2 _ (st_1 hst).1 (fun z => by unfold kRo at z; rw [so_1 hst] at z; omega)).1
      refine k_aload_n X (q := 1) dX4_gatherJurors_25 rfl rfl ?_
      refine gX4_40s X (S := Si) (st_3 hstI).1 (st_3 hstI).2 (sr_3_0 hstI) dX4_gatherJurors_26 ?_
      refine gX4_88s X (S := Si) (st_1 hstI).1 (st_1 hstI).2 (sr_1_12 hstI) dX4_gatherJurors_29 ?_
      refine k_iload X (q := 0) dX4_gatherJurors_32 rfl ?_
      refine k_gotQ X (vX4_52 X (S := Si) ⟨(st_10 hstI).1, (st_10 hstI).2⟩ (c_Jx4a65c_get_915e3 C.l C.e0 Si (A 10) 1 n i cz (hCI) hlt) (As := [.int (nI i)]) (rest := []) rfl rfl rfl rfl ⟨Nat.le_of_ble_eq_true rfl, Nat.le_of_ble_eq_true rfl⟩ (Nat.le_of_ble_eq_true rfl) ⟨(by show lev c + 0 ≤ 6; have := lev_le c; omega), (by show slv c + 0 ≤ 202; have := lev_le c; omega)⟩ dX4_gatherJurors_34) (fun r_34_7 S_34_8 h_34_5 => ?_)
      obtain ⟨rfl, er_34_7⟩ := h_34_5
      subst er_34_7
      refine tX4_91 X (S := Si) ⟨(kLs.el (hCI) hlt).1, (kLs.el (hCI) hlt).2⟩ dX4_gatherJurors_37 ?_
      refine k_astore X [(5, .ref (cz i)), (4, .int (nI i)), (0, .ref (A 3)), (1, .int x1), (2, va_rf o1), (3, va_rf o2)] dX4_gatherJurors_40 (by decide) rfl ?_
      refine k_aload X (q := 0) dX4_gatherJurors_42 rfl ?_
      refine k_gotI X (vX4_93 X (S := Si) ⟨(kLs.el (hCI) hlt).1, (kLs.el (hCI) hlt).2⟩ (c_X1_tribe C.l C.e0 Si (cz i) (kLs.el (hCI) hlt)) (As := []) (rest := []) rfl rfl rfl rfl ⟨Nat.le_of_ble_eq_true rfl, Nat.le_of_ble_eq_true rfl⟩ (Nat.le_of_ble_eq_true rfl) ⟨(by show lev c + 0 ≤ 6; have := lev_le c; omega), (by show slv c + 0 ≤ 202; have := lev_le c; omega)⟩ dX4_gatherJurors_44) (fun v_44_10 S_44_11 h_44_8 => ?_)
      obtain ⟨rfl, ev_44_10⟩ := h_44_8
      refine k_iload_n X (q := 3) dX4_gatherJurors_47 rfl rfl ?_
      refine k_icmp_ne (tgt := 81) X dX4_gatherJurors_48 (by decide) (fun c_48 => ?_) (fun c_48 => ?_)
      · skip
        obtain ⟨v_81_12, ev_81_12⟩ : ∃ z : Int32, z = (nI i) + 1 := ⟨_, rfl⟩
        refine k_iinc X (q := 1) (v := v_81_12) [(4, .int v_81_12), (5, .ref (cz i)), (0, .ref (A 3)), (1, .int x1), (2, va_rf o1), (3, va_rf o2)] dX4_gatherJurors_81 rfl (by rw [ev_81_12]; rfl) (by decide) (by simp [List.filter, va_cat]) ?_
        refine k_goto (tgt := 10) X dX4_gatherJurors_84 (by decide) ?_
        refine k_lv [0, 2, 3, 4, 5] _ rfl ?_
        exact ih (n - (i + 1)) (by omega) (i + 1) _ Si m xs c rfl (by rw [ev_81_12, nI_1]) ⟨by omega, by omega, hfr, hlc, hal⟩
      · skip
        refine k_aload X (q := 0) dX4_gatherJurors_51 rfl ?_
        refine k_gotI X (vX4_96 X (S := Si) ⟨(kLs.el (hCI) hlt).1, (kLs.el (hCI) hlt).2⟩ (c_X1_canJudge C.l C.e0 Si (cz i) (kLs.el (hCI) hlt)) (As := []) (rest := []) rfl rfl rfl rfl ⟨Nat.le_of_ble_eq_true rfl, Nat.le_of_ble_eq_true rfl⟩ (Nat.le_of_ble_eq_true rfl) ⟨(by show lev c + 0 ≤ 6; have := lev_le c; omega), (by show slv c + 0 ≤ 202; have := lev_le c; omega)⟩ dX4_gatherJurors_53) (fun v_53_14 S_53_15 h_53_12 => ?_)
        obtain ⟨rfl, ev_53_14⟩ := h_53_12
        refine k_if_eq (tgt := 81) X dX4_gatherJurors_56 (by decide) (fun c_56 => ?_) (fun c_56 => ?_)
        · skip
          rw [ev_53_14] at c_56
          obtain ⟨v_81_16, ev_81_16⟩ : ∃ z : Int32, z = (nI i) + 1 := ⟨_, rfl⟩
          refine k_iinc X (q := 1) (v := v_81_16) [(4, .int v_81_16), (5, .ref (cz i)), (0, .ref (A 3)), (1, .int x1), (2, va_rf o1), (3, va_rf o2)] dX4_gatherJurors_81 rfl (by rw [ev_81_16]; rfl) (by decide) (by simp [List.filter, va_cat]) ?_
          refine k_goto (tgt := 10) X dX4_gatherJurors_84 (by decide) ?_
          refine k_lv [0, 2, 3, 4, 5] _ rfl ?_
          exact ih (n - (i + 1)) (by omega) (i + 1) _ Si m xs c rfl (by rw [ev_81_16, nI_1]) ⟨by omega, by omega, hfr, hlc, hal⟩
        · skip
          rw [ev_53_14] at c_56
          refine k_aload X (q := 0) dX4_gatherJurors_59 rfl ?_
          refine k_aload_nQ X (q := 4) dX4_gatherJurors_61 rfl rfl ?_
          refine k_acmp_eq (rx := some (cz i)) (ry := o1) (tgt := 81) X dX4_gatherJurors_62 (by decide) (fun c_62 => ?_) (fun c_62 => ?_)
          · skip
            obtain ⟨v_81_17, ev_81_17⟩ : ∃ z : Int32, z = (nI i) + 1 := ⟨_, rfl⟩
            refine k_iinc X (q := 1) (v := v_81_17) [(4, .int v_81_17), (5, .ref (cz i)), (0, .ref (A 3)), (1, .int x1), (2, va_rf o1), (3, va_rf o2)] dX4_gatherJurors_81 rfl (by rw [ev_81_17]; rfl) (by decide) (by simp [List.filter, va_cat]) ?_
            refine k_goto (tgt := 10) X dX4_gatherJurors_84 (by decide) ?_
            refine k_lv [0, 2, 3, 4, 5] _ rfl ?_
            exact ih (n - (i + 1)) (by omega) (i + 1) _ Si m xs c rfl (by rw [ev_81_17, nI_1]) ⟨by omega, by omega, hfr, hlc, hal⟩
          · skip
            have hQ9 : Q i := by rw [hQ]; trivial
            refine k_aload X (q := 0) dX4_gatherJurors_65 rfl ?_
            refine k_aload_nQ X (q := 5) dX4_gatherJurors_67 rfl rfl ?_
            refine k_acmp_eq (rx := some (cz i)) (ry := o2) (tgt := 81) X dX4_gatherJurors_68 (by decide) (fun c_68 => ?_) (fun c_68 => ?_)
            · skip
              obtain ⟨v_81_18, ev_81_18⟩ : ∃ z : Int32, z = (nI i) + 1 := ⟨_, rfl⟩
              refine k_iinc X (q := 1) (v := v_81_18) [(4, .int v_81_18), (5, .ref (cz i)), (0, .ref (A 3)), (1, .int x1), (2, va_rf o1), (3, va_rf o2)] dX4_gatherJurors_81 rfl (by rw [ev_81_18]; rfl) (by decide) (by simp [List.filter, va_cat]) ?_
              refine k_goto (tgt := 10) X dX4_gatherJurors_84 (by decide) ?_
              refine k_lv [0, 2, 3, 4, 5] _ rfl ?_
              exact ih (n - (i + 1)) (by omega) (i + 1) _ Si m xs c rfl (by rw [ev_81_18, nI_1]) ⟨by omega, by omega, hfr, hlc, hal⟩
            · skip
              have hQ9 : Q i := by rw [hQ]; trivial
              refine k_aload_n X (q := 2) dX4_gatherJurors_71 rfl rfl ?_
              refine gX4_21s X (S := Si) (st_3 hstI).1 (st_3 hstI).2 (sr_3_3 hstI) dX4_gatherJurors_72 ?_
              refine k_aload X (q := 0) dX4_gatherJurors_75 rfl ?_
              refine k_gotI X (vX4_44 X (S := Si) ⟨(st_17 hstI).1, (st_17 hstI).2⟩ (c_Jx4a65c_add_9ea2d C.l C.e0 Si (A 17) 1 m c (cz i) xs kEl_1 hlc (kLs.el hCI hlt) (by omega)) (As := [.ref (cz i)]) (rest := []) rfl rfl rfl rfl ⟨Nat.le_of_ble_eq_true rfl, Nat.le_of_ble_eq_true rfl⟩ (Nat.le_of_ble_eq_true rfl) ⟨(by show lev c + kmc c m ≤ 6; have h9 := lev_add hlc.cap (by omega); have h8 := lev_le (knc c m); omega), (by show slv c + kms c m ≤ 202; have h9 := lev_add hlc.cap (by omega); have h8 := lev_le (knc c m); omega)⟩ dX4_gatherJurors_77) (fun v_77_20 S_77_21 h_77_18 => ?_)
              obtain ⟨-, hfa, hla⟩ := h_77_18
              rw [so_17 hstI] at hfa
              have hfr2 := hfr.trR hfa
              refine k_pop X dX4_gatherJurors_80 rfl ?_
              obtain ⟨v_81_22, ev_81_22⟩ : ∃ z : Int32, z = (nI i) + 1 := ⟨_, rfl⟩
              refine k_iinc X (q := 1) (v := v_81_22) [(4, .int v_81_22), (5, .ref (cz i)), (0, .ref (A 3)), (1, .int x1), (2, va_rf o1), (3, va_rf o2)] dX4_gatherJurors_81 rfl (by rw [ev_81_22]; rfl) (by decide) (by simp [List.filter, va_cat]) ?_
              refine k_goto (tgt := 10) X dX4_gatherJurors_84 (by decide) ?_
              refine k_lv [0, 2, 3, 4, 5] _ rfl ?_
              have h9 := lev_add hlc.cap (by omega)
              refine k_room (k' := lev (knc c m)) (n' := slv (knc c m)) h9.1 h9.2 ?_
              exact ih (n - (i + 1)) (by omega) (i + 1) _ _ (m + 1) _ _ rfl (by rw [ev_81_22, nI_1]) ⟨by omega, by omega, hfr2, hla, kall_t hal hlt hQ9⟩
  refine k_lv [0, 1, 2, 3, 4] _ rfl ?_
  exact L_10 _ 0 0 _ 0 _ c0 rfl nI_0.symm ⟨Nat.zero_le _, Nat.le_refl _, hfr0, hlc0, kall_0⟩
set_option maxHeartbeats 1000000 in
set_option maxRecDepth 20000 in
theorem c_X3_gatherTickets (l : Launch) (e0 : Nat × Nat) (S : kS) (x1 : Int32) (A : Nat → Nat) (n : Nat) (cz : Nat → Nat) (hst : kSt A S) (hC : kLs e0 S (A 10) 1 n cz) (hn : n ≤ 40) (hOc : ∀ j, j < n → S.O (cz j) = 200) (m0 : Nat) (xs0 : Nat → Nat) (hL0 : kLs e0 S (A 13) 1 m0 xs0) (hO : kLs e0 S (A 11) 8 7 (kof A)) (hOo : ∀ k, k < 7 → S.O (kof A k) = 60 + k) : kM l e0 yX3_gatherTickets cX3_gatherTickets 4 none ({ frames := 7, cells := 6, slots := 202, locals := 191 } : Room) 6 202 [.ref (A 2), .int x1] S (kQv (fun S9 => kFr S S9 (kRo S 13) ∧ ∃ m xs c, kLc e0 S9 (A 13) 1 m xs c ∧ m ≤ n ∧ kall n cz (fun j => S.I (cz j) 6 = 1 ∧ ∀ k, k < 7 → ¬ S.R (kof A k) 1 = some (cz j)) m xs)) := by
  refine kMetE (by decide +kernel) (Nat.le_of_ble_eq_true rfl) (fun C he hl X E hm => ?_)
  have X : kX C RX3 cX3_gatherTickets 4 ({ frames := 7, cells := 6, slots := 202, locals := 191 } : Room) := X
  subst he hl
  show kG C 4 S 0 0 0 [(0, .ref (A 2)), (1, .int x1)] []
  obtain ⟨Q, hQ⟩ : ∃ Q : Nat → Prop, Q = fun j => S.I (cz j) 6 = 1 ∧ ∀ k, k < 7 → ¬ S.R (kof A k) 1 = some (cz j) := ⟨_, rfl⟩
  rw [← hQ] at E
  refine k_aload_n X (q := 0) dX3_gatherTickets_0 rfl rfl ?_
  refine gX3_21s X (S := S) (st_2 hst).1 (st_2 hst).2 (sr_2_3 hst) dX3_gatherTickets_1 ?_
  refine k_gotV X (vX3_47 X (S := S) ⟨(st_13 hst).1, (st_13 hst).2⟩ (c_Jx4a65c_clear_da8c8 C.l C.e0 S (A 13) 1 m0 xs0 hL0) (As := []) (rest := []) rfl rfl rfl rfl ⟨Nat.le_of_ble_eq_true rfl, Nat.le_of_ble_eq_true rfl⟩ (Nat.le_of_ble_eq_true rfl) ⟨Nat.le_of_ble_eq_true rfl, Nat.le_of_ble_eq_true rfl⟩ dX3_gatherTickets_4) (fun S_4_2 h_4_0 => ?_)
  obtain ⟨hfr0, hls0, -⟩ := h_4_0
  rw [so_13 hst] at hfr0
  obtain ⟨c0, hlc0⟩ := hls0.c
  refine k_iconst X (v := 0) dX3_gatherTickets_7 (by decide) ?_
  refine k_istore_n X [(2, .int 0), (0, .ref (A 2)), (1, .int x1)] dX3_gatherTickets_8 rfl (by decide) rfl ?_
  refine k_room (k' := lev c0) (n' := slv c0) (by omega) (by omega) ?_
  have L_9 : ∀ (N : Nat) (i : Nat) (x : Int32) (Si : kS) (m : Nat) (xs : Nat → Nat) (c : Nat), n - i = N → x = nI i → (i ≤ n ∧ m ≤ i ∧ kFr S Si (kRo S 13) ∧ kLc C.e0 Si (A 13) 1 m xs c ∧ kall n cz Q m xs) → kG C 4 Si (lev c) (slv c) 9 [(2, .int x), (0, .ref (A 2)), (1, .int x1)] [] := by
    intro N
    induction N using Nat.strongRecOn with
    | _ N ih =>
    intro i x Si m xs c hMs h9_0 h9_1
    subst h9_0
    obtain ⟨hin9, hmi, hfr, hlc, hal⟩ := h9_1
    have hstI := hst.frR hfr (by decide)
    have hCI := hC.frR (so_10 hst) hfr (by decide) (by decide) (by decide)
    have hOI := hO.frR (so_11 hst) hfr (by decide) (by decide) (by decide)
    refine k_iload_n X (q := 0) dX3_gatherTickets_9 rfl rfl ?_
    refine k_aload_n X (q := 1) dX3_gatherTickets_10 rfl rfl ?_
    refine gX3_28s X (S := Si) (st_2 hstI).1 (st_2 hstI).2 (sr_2_0 hstI) dX3_gatherTickets_11 ?_
    refine gX3_84s X (S := Si) (st_1 hstI).1 (st_1 hstI).2 (sr_1_12 hstI) dX3_gatherTickets_14 ?_
    refine k_gotI X (vX3_64 X (S := Si) ⟨(st_10 hstI).1, (st_10 hstI).2⟩ (c_Jx4a65c_size_8abf5 C.l C.e0 Si (A 10) (st_10 hstI)) (As := []) (rest := [.int (nI i)]) rfl rfl rfl rfl ⟨Nat.le_of_ble_eq_true rfl, Nat.le_of_ble_eq_true rfl⟩ (Nat.le_of_ble_eq_true rfl) ⟨(by show lev c + 0 ≤ 6; have := lev_le c; omega), (by show slv c + 0 ≤ 202; have := lev_le c; omega)⟩ dX3_gatherTickets_17) (fun v_17_4 S_17_5 h_17_2 => ?_)
    obtain ⟨rfl, ev_17_4⟩ := h_17_2
    have hz_v_17_4 : nI n = v_17_4 := by rw [ev_17_4]; exact (hCI).2.1.symm
    subst hz_v_17_4
    refine k_icmp_ge (tgt := 69) X dX3_gatherTickets_20 (by decide) (fun c_20 => ?_) (fun c_20 => ?_)
    · skip
      have hin : n = i := by have := ge_of_le c_20 (by omega); omega
      subst hin
      exact k_vret X E dX3_gatherTickets_69 (lev_le c).1 (lev_le c).2 (⟨hfr, m, xs, c, hlc, hmi, hal⟩)
    · skip
      have hlt : i < n := lt_of_nle c_20 (by omega)
      have hI : ∀ f, Si.I (cz i) f = S.I (cz i) f := (hfr.2 _ (kLs.el hC hlt).1 (fun z => by unfold kRo at z; rw [hOc i hlt] at z; omega)).1
      have hI1 : ∀ f, Si.I (A 1) f = S.I (A 1) f := (hfr.2 _ (st_1 hst).1 (fun z => by unfold kRo at z; rw [so_1 hst] at z; omega)).1
      refine k_aload_n X (q := 1) dX3_gatherTickets_23 rfl rfl ?_
      refine gX3_28s X (S := Si) (st_2 hstI).1 (st_2 hstI).2 (sr_2_0 hstI) dX3_gatherTickets_24 ?_
      refine gX3_84s X (S := Si) (st_1 hstI).1 (st_1 hstI).2 (sr_1_12 hstI) dX3_gatherTickets_27 ?_
      refine k_iload_n X (q := 0) dX3_gatherTickets_30 rfl rfl ?_
      refine k_gotQ X (vX3_67 X (S := Si) ⟨(st_10 hstI).1, (st_10 hstI).2⟩ (c_Jx4a65c_get_915e3 C.l C.e0 Si (A 10) 1 n i cz (hCI) hlt) (As := [.int (nI i)]) (rest := []) rfl rfl rfl rfl ⟨Nat.le_of_ble_eq_true rfl, Nat.le_of_ble_eq_true rfl⟩ (Nat.le_of_ble_eq_true rfl) ⟨(by show lev c + 0 ≤ 6; have := lev_le c; omega), (by show slv c + 0 ≤ 202; have := lev_le c; omega)⟩ dX3_gatherTickets_31) (fun r_31_7 S_31_8 h_31_5 => ?_)
      obtain ⟨rfl, er_31_7⟩ := h_31_5
      subst er_31_7
      refine tX3_71 X (S := Si) ⟨(kLs.el (hCI) hlt).1, (kLs.el (hCI) hlt).2⟩ dX3_gatherTickets_34 ?_
      refine k_astore_n X [(3, .ref (cz i)), (2, .int (nI i)), (0, .ref (A 2)), (1, .int x1)] dX3_gatherTickets_37 rfl (by decide) rfl ?_
      refine k_aload_n X (q := 0) dX3_gatherTickets_38 rfl rfl ?_
      refine k_gotI X (vX3_87 X (S := Si) ⟨(kLs.el (hCI) hlt).1, (kLs.el (hCI) hlt).2⟩ (c_X1_tribe C.l C.e0 Si (cz i) (kLs.el (hCI) hlt)) (As := []) (rest := []) rfl rfl rfl rfl ⟨Nat.le_of_ble_eq_true rfl, Nat.le_of_ble_eq_true rfl⟩ (Nat.le_of_ble_eq_true rfl) ⟨(by show lev c + 0 ≤ 6; have := lev_le c; omega), (by show slv c + 0 ≤ 202; have := lev_le c; omega)⟩ dX3_gatherTickets_39) (fun v_39_10 S_39_11 h_39_8 => ?_)
      obtain ⟨rfl, ev_39_10⟩ := h_39_8
      refine k_iload_n X (q := 3) dX3_gatherTickets_42 rfl rfl ?_
      refine k_icmp_ne (tgt := 63) X dX3_gatherTickets_43 (by decide) (fun c_43 => ?_) (fun c_43 => ?_)
      · skip
        obtain ⟨v_63_12, ev_63_12⟩ : ∃ z : Int32, z = (nI i) + 1 := ⟨_, rfl⟩
        refine k_iinc X (q := 1) (v := v_63_12) [(2, .int v_63_12), (3, .ref (cz i)), (0, .ref (A 2)), (1, .int x1)] dX3_gatherTickets_63 rfl (by rw [ev_63_12]; rfl) (by decide) rfl ?_
        refine k_goto (tgt := 9) X dX3_gatherTickets_66 (by decide) ?_
        refine k_lv [0, 2, 3] _ rfl ?_
        exact ih (n - (i + 1)) (by omega) (i + 1) _ Si m xs c rfl (by rw [ev_63_12, nI_1]) ⟨by omega, by omega, hfr, hlc, hal⟩
      · skip
        refine k_aload_n X (q := 2) dX3_gatherTickets_46 rfl rfl ?_
        refine k_aload_n X (q := 0) dX3_gatherTickets_47 rfl rfl ?_
        refine k_gotI X (vX3_90 X (S := Si) ⟨(st_2 hstI).1, (st_2 hstI).2⟩ (c_X3_isEligible C.l C.e0 Si (cz i) A hstI hOI ⟨(kLs.el (hCI) hlt).1, (kLs.el (hCI) hlt).2⟩) (As := [.ref (cz i)]) (rest := []) rfl rfl rfl rfl ⟨Nat.le_of_ble_eq_true rfl, Nat.le_of_ble_eq_true rfl⟩ (Nat.le_of_ble_eq_true rfl) ⟨(by show lev c + 0 ≤ 6; have := lev_le c; omega), (by show slv c + 0 ≤ 202; have := lev_le c; omega)⟩ dX3_gatherTickets_48) (fun v_48_14 S_48_15 h_48_12 => ?_)
        obtain ⟨rfl, ev_48_14⟩ := h_48_12
        refine k_if_eq (tgt := 63) X dX3_gatherTickets_51 (by decide) (fun c_51 => ?_) (fun c_51 => ?_)
        · skip
          rw [ev_48_14] at c_51
          obtain ⟨v_63_16, ev_63_16⟩ : ∃ z : Int32, z = (nI i) + 1 := ⟨_, rfl⟩
          refine k_iinc X (q := 1) (v := v_63_16) [(2, .int v_63_16), (3, .ref (cz i)), (0, .ref (A 2)), (1, .int x1)] dX3_gatherTickets_63 rfl (by rw [ev_63_16]; rfl) (by decide) rfl ?_
          refine k_goto (tgt := 9) X dX3_gatherTickets_66 (by decide) ?_
          refine k_lv [0, 2, 3] _ rfl ?_
          exact ih (n - (i + 1)) (by omega) (i + 1) _ Si m xs c rfl (by rw [ev_63_16, nI_1]) ⟨by omega, by omega, hfr, hlc, hal⟩
        · skip
          rw [ev_48_14] at c_51
          have hQ9 : Q i := by
            rw [hQ]
            simp only [kb, hI, hI1] at c_51
            by_cases g1 : S.I (cz i) 6 = 1
            · refine ⟨g1, fun k hk hr => ?_⟩
              by_cases g2 : kidx (kff (fun z => decide (Si.R (kof A z) 1 = some (cz i))) 7) = -1
              · have g3 := kff_no 7 (kff_nidx g2 (by omega)) k hk
                have g4 : Si.R (kof A k) 1 = S.R (kof A k) 1 := (hfr.2 _ (kLs.el hO hk).1 (fun z => by unfold kRo at z; rw [hOo k hk] at z; omega)).2 1
                exact g3 (by simp [g4, hr])
              · simp [g1, g2] at c_51
            · simp [g1] at c_51
          refine k_aload_n X (q := 2) dX3_gatherTickets_54 rfl rfl ?_
          refine gX3_21s X (S := Si) (st_2 hstI).1 (st_2 hstI).2 (sr_2_3 hstI) dX3_gatherTickets_55 ?_
          refine k_aload_n X (q := 0) dX3_gatherTickets_58 rfl rfl ?_
          refine k_gotI X (vX3_94 X (S := Si) ⟨(st_13 hstI).1, (st_13 hstI).2⟩ (c_Jx4a65c_add_9ea2d C.l C.e0 Si (A 13) 1 m c (cz i) xs kEl_1 hlc (kLs.el hCI hlt) (by omega)) (As := [.ref (cz i)]) (rest := []) rfl rfl rfl rfl ⟨Nat.le_of_ble_eq_true rfl, Nat.le_of_ble_eq_true rfl⟩ (Nat.le_of_ble_eq_true rfl) ⟨(by show lev c + kmc c m ≤ 6; have h9 := lev_add hlc.cap (by omega); have h8 := lev_le (knc c m); omega), (by show slv c + kms c m ≤ 202; have h9 := lev_add hlc.cap (by omega); have h8 := lev_le (knc c m); omega)⟩ dX3_gatherTickets_59) (fun v_59_18 S_59_19 h_59_16 => ?_)
          obtain ⟨-, hfa, hla⟩ := h_59_16
          rw [so_13 hstI] at hfa
          have hfr2 := hfr.trR hfa
          refine k_pop X dX3_gatherTickets_62 rfl ?_
          obtain ⟨v_63_20, ev_63_20⟩ : ∃ z : Int32, z = (nI i) + 1 := ⟨_, rfl⟩
          refine k_iinc X (q := 1) (v := v_63_20) [(2, .int v_63_20), (3, .ref (cz i)), (0, .ref (A 2)), (1, .int x1)] dX3_gatherTickets_63 rfl (by rw [ev_63_20]; rfl) (by decide) rfl ?_
          refine k_goto (tgt := 9) X dX3_gatherTickets_66 (by decide) ?_
          refine k_lv [0, 2, 3] _ rfl ?_
          have h9 := lev_add hlc.cap (by omega)
          refine k_room (k' := lev (knc c m)) (n' := slv (knc c m)) h9.1 h9.2 ?_
          exact ih (n - (i + 1)) (by omega) (i + 1) _ _ (m + 1) _ _ rfl (by rw [ev_63_20, nI_1]) ⟨by omega, by omega, hfr2, hla, kall_t hal hlt hQ9⟩
  refine k_lv [0, 1, 2] _ rfl ?_
  exact L_9 _ 0 0 _ 0 _ c0 rfl nI_0.symm ⟨Nat.zero_le _, Nat.le_refl _, hfr0, hlc0, kall_0⟩
