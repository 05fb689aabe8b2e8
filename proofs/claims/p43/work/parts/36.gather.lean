theorem kLs.fr {e0 : Nat × Nat} {S S' : kS} {P : Nat → Prop} {a κ m : Nat} {xs : Nat → Nat} (h : kLs e0 S a κ m xs) (hf : kFr S S' P) (hp : ∀ b, b ∈ S.L → kRo S (S.O a) b → ¬ P b) : kLs e0 S' a κ m xs := by
  obtain ⟨c, hc⟩ := h.c
  exact (hc.fr hf hp).s
/-- a list of another role stays -/
theorem kLs.frR {e0 : Nat × Nat} {S S' : kS} {a κ m r r' : Nat} {xs : Nat → Nat} (h : kLs e0 S a κ m xs) (ho : S.O a = r) (hf : kFr S S' (kRo S r')) (h1 : ¬ r = r') (h2 : ¬ r = 100 + r') (h3 : ¬ 100 + r = r') : kLs e0 S' a κ m xs := h.fr hf (fun b hb hz hw => by
  unfold kRo at hz hw
  rw [ho] at hz
  rcases hz with hz | hz <;> rcases hw with hw | hw <;> omega)
theorem kLc.frR {e0 : Nat × Nat} {S S' : kS} {a κ m r r' c : Nat} {xs : Nat → Nat} (h : kLc e0 S a κ m xs c) (ho : S.O a = r) (hf : kFr S S' (kRo S r')) (h1 : ¬ r = r') (h2 : ¬ r = 100 + r') (h3 : ¬ 100 + r = r') : kLc e0 S' a κ m xs c := h.fr hf (fun b hb hz hw => by
  unfold kRo at hz hw
  rw [ho] at hz
  rcases hz with hz | hz <;> rcases hw with hw | hw <;> omega)
def lev (c : Nat) : Nat := if c = 0 then 0 else if c ≤ 10 then 1 else if c ≤ 15 then 2 else if c ≤ 22 then 3 else if c ≤ 33 then 4 else if c ≤ 49 then 5 else 6
def slv (c : Nat) : Nat := if c = 0 then 0 else if c ≤ 10 then 10 else if c ≤ 15 then 25 else if c ≤ 22 then 47 else if c ≤ 33 then 80 else if c ≤ 49 then 129 else 202
theorem lev_le (c : Nat) : lev c ≤ 6 ∧ slv c ≤ 202 := by
  unfold lev slv
  constructor <;> (repeat' split) <;> omega
theorem kLc.cap {e0 : Nat × Nat} {S : kS} {a κ m c : Nat} {xs : Nat → Nat} (h : kLc e0 S a κ m xs c) : (c = 0 ∧ m = 0) ∨ (kcapOk c ∧ m ≤ c) := by
  obtain ⟨-, -, b, -, h4⟩ := h
  rcases h4 with ⟨-, h5, h6⟩ | ⟨-, -, -, h5, h6, -⟩
  · exact Or.inl ⟨h6, h5⟩
  · exact Or.inr ⟨h6, h5⟩
theorem lev_add {c m : Nat} (h : (c = 0 ∧ m = 0) ∨ (kcapOk c ∧ m ≤ c)) (h64 : m ≤ 64) : lev c + kmc c m ≤ lev (knc c m) ∧ slv c + kms c m ≤ slv (knc c m) := by
  unfold kmc kms knc
  rcases h with ⟨rfl, rfl⟩ | ⟨hc, hm⟩
  · decide
  · by_cases hl : m < c
    · rw [if_pos hl, if_pos hl, if_pos hl]; exact ⟨Nat.le_refl _, Nat.le_refl _⟩
    · rw [if_neg hl, if_neg hl, if_neg hl]
      have e : m = c := by omega
      subst e
      unfold kcapOk at hc
      rcases hc with rfl | rfl | rfl | rfl | rfl | rfl <;> first | decide | omega
theorem kcnt_t {P : Nat → Bool} {i : Nat} (h : P i = true) : kcnt P (i + 1) = kcnt P i + 1 := if_pos h
theorem kcnt_f {P : Nat → Bool} {i : Nat} (h : ¬ P i = true) : kcnt P (i + 1) = kcnt P i := if_neg h
theorem kcnt_mono {P : Nat → Bool} : ∀ {i j : Nat}, i ≤ j → kcnt P i ≤ kcnt P j
  | i, 0, h => by rw [show i = 0 by omega]; exact Nat.le_refl _
  | i, j + 1, h => by
    by_cases e : i = j + 1
    · rw [e]; exact Nat.le_refl _
    · have := kcnt_mono (P := P) (i := i) (j := j) (by omega)
      by_cases hp : P j = true
      · rw [kcnt_t hp]; omega
      · rw [kcnt_f hp]; exact this
/-- xs lists those of the first n that P holds of, in their order -/
def kenu (P : Nat → Bool) (cz xs : Nat → Nat) (n : Nat) : Prop := ∀ j, j < n → P j = true → xs (kcnt P j) = cz j
theorem kenu_f {P : Nat → Bool} {cz xs : Nat → Nat} {i : Nat} (h : kenu P cz xs i) (hp : ¬ P i = true) : kenu P cz xs (i + 1) := fun j hj hpj => by
  by_cases e : j = i
  · rw [e] at hpj; exact absurd hpj hp
  · exact h j (by omega) hpj
theorem kenu_t {P : Nat → Bool} {cz xs : Nat → Nat} {i : Nat} (h : kenu P cz xs i) (hp : P i = true) : kenu P cz (va_up xs (kcnt P i) (cz i)) (i + 1) := fun j hj hpj => by
  unfold va_up
  by_cases e : j = i
  · rw [e, if_pos rfl]
  · have h1 : kcnt P j < kcnt P i := by
      have := kcnt_mono (P := P) (i := j + 1) (j := i) (by omega)
      rw [kcnt_t hpj] at this
      omega
    rw [if_neg (by omega)]
    exact h j (by omega) hpj
set_option maxHeartbeats 1000000 in
set_option maxRecDepth 20000 in
theorem c_X0_gatherPresent (l : Launch) (e0 : Nat × Nat) (S : kS)  (A : Nat → Nat) (n : Nat) (cz : Nat → Nat) (hst : kSt A S) (hC : kLs e0 S (A 10) 1 n cz) (hn : n ≤ 40) (hOc : ∀ j, j < n → S.O (cz j) = 200) (m0 : Nat) (xs0 : Nat → Nat) (hL0 : kLs e0 S (A 20) 1 m0 xs0)  : kM l e0 yX0_gatherPresent cX0_gatherPresent 3 none ({ frames := 7, cells := 6, slots := 202, locals := 191 } : Room) 6 202 [.ref (A 4)] S (kQv (fun S9 => kFr S S9 (kRo S 20) ∧ ∃ xs c, kLc e0 S9 (A 20) 1 (kcnt (fun i => decide (S.I (cz i) 6 = 1) && !decide (krem (S.I (cz i) 0 + S.I (A 1) 0) 4 = 0)) n) xs c ∧ kenu (fun i => decide (S.I (cz i) 6 = 1) && !decide (krem (S.I (cz i) 0 + S.I (A 1) 0) 4 = 0)) cz xs n)) := by
  refine kMetE (by decide +kernel) (Nat.le_of_ble_eq_true rfl) (fun C he hl X E hm => ?_)
  have X : kX C RX0 cX0_gatherPresent 3 ({ frames := 7, cells := 6, slots := 202, locals := 191 } : Room) := X
  subst he hl
  show kG C 3 S 0 0 0 [(0, .ref (A 4))] []
  obtain ⟨P, hP⟩ : ∃ P : Nat → Bool, P = fun i => decide (S.I (cz i) 6 = 1) && !decide (krem (S.I (cz i) 0 + S.I (A 1) 0) 4 = 0) := ⟨_, rfl⟩
  rw [← hP] at E
  refine k_aload_n X (q := 0) dX0_gatherPresent_0 rfl rfl ?_
  refine gX0_25s X (S := S) (st_4 hst).1 (st_4 hst).2 (sr_4_5 hst) dX0_gatherPresent_1 ?_
  refine k_gotV X (vX0_76 X (S := S) ⟨(st_20 hst).1, (st_20 hst).2⟩ (c_Jx4a65c_clear_da8c8 C.l C.e0 S (A 20) 1 m0 xs0 hL0) (As := []) (rest := []) rfl rfl rfl rfl ⟨Nat.le_of_ble_eq_true rfl, Nat.le_of_ble_eq_true rfl⟩ (Nat.le_of_ble_eq_true rfl) ⟨Nat.le_of_ble_eq_true rfl, Nat.le_of_ble_eq_true rfl⟩ dX0_gatherPresent_4) (fun S_4_2 h_4_0 => ?_)
  obtain ⟨hfr0, hls0, -⟩ := h_4_0
  rw [so_20 hst] at hfr0
  obtain ⟨c0, hlc0⟩ := hls0.c
  refine k_iconst X (v := 0) dX0_gatherPresent_7 (by decide) ?_
  refine k_istore_n X [(1, .int 0), (0, .ref (A 4))] dX0_gatherPresent_8 rfl (by decide) rfl ?_
  refine k_room (k' := lev c0) (n' := slv c0) (by omega) (by omega) ?_
  have L_9 : ∀ (N : Nat) (i : Nat) (x : Int32) (Si : kS) (xs : Nat → Nat) (c : Nat), n - i = N → x = nI i → i ≤ n → kFr S Si (kRo S 20) → kLc C.e0 Si (A 20) 1 (kcnt P i) xs c → kenu P cz xs i → kG C 3 Si (lev c) (slv c) 9 [(1, .int x), (0, .ref (A 4))] [] := by
    intro N
    induction N using Nat.strongRecOn with
    | _ N ih =>
    intro i x Si xs c hMs h9_0 h9_1 h9_2 h9_3 h9_4
    subst h9_0
    have hfr := h9_2
    have hlc := h9_3
    have hen := h9_4
    have hstI := hst.frR hfr (by decide)
    have hCI := hC.frR (so_10 hst) hfr (by decide) (by decide) (by decide)
    refine k_iload_n X (q := 0) dX0_gatherPresent_9 rfl rfl ?_
    refine k_aload_n X (q := 1) dX0_gatherPresent_10 rfl rfl ?_
    refine gX0_38s X (S := Si) (st_4 hstI).1 (st_4 hstI).2 (sr_4_0 hstI) dX0_gatherPresent_11 ?_
    refine gX0_79s X (S := Si) (st_1 hstI).1 (st_1 hstI).2 (sr_1_12 hstI) dX0_gatherPresent_14 ?_
    refine k_gotI X (vX0_84 X (S := Si) ⟨(st_10 hstI).1, (st_10 hstI).2⟩ (c_Jx4a65c_size_8abf5 C.l C.e0 Si (A 10) (st_10 hstI)) (As := []) (rest := [.int (nI i)]) rfl rfl rfl rfl ⟨Nat.le_of_ble_eq_true rfl, Nat.le_of_ble_eq_true rfl⟩ (Nat.le_of_ble_eq_true rfl) ⟨(by show lev c + 0 ≤ 6; have := lev_le c; omega), (by show slv c + 0 ≤ 202; have := lev_le c; omega)⟩ dX0_gatherPresent_17) (fun v_17_4 S_17_5 h_17_2 => ?_)
    obtain ⟨rfl, ev_17_4⟩ := h_17_2
    have hz_v_17_4 : nI n = v_17_4 := by rw [ev_17_4]; exact (hCI).2.1.symm
    subst hz_v_17_4
    refine k_icmp_ge (tgt := 77) X dX0_gatherPresent_20 (by decide) (fun c_20 => ?_) (fun c_20 => ?_)
    · skip
      have hin : n = i := by have := ge_of_le c_20 (by omega); omega
      subst hin
      exact k_vret X E dX0_gatherPresent_77 (lev_le c).1 (lev_le c).2 (⟨hfr, xs, c, hlc, hen⟩)
    · skip
      have hlt : i < n := lt_of_nle c_20 (by omega)
      have hI : ∀ f, Si.I (cz i) f = S.I (cz i) f := (hfr.2 _ (kLs.el hC hlt).1 (fun z => by unfold kRo at z; rw [hOc i hlt] at z; omega)).1
      have hI1 : ∀ f, Si.I (A 1) f = S.I (A 1) f := (hfr.2 _ (st_1 hst).1 (fun z => by unfold kRo at z; rw [so_1 hst] at z; omega)).1
      refine k_aload_n X (q := 1) dX0_gatherPresent_23 rfl rfl ?_
      refine gX0_38s X (S := Si) (st_4 hstI).1 (st_4 hstI).2 (sr_4_0 hstI) dX0_gatherPresent_24 ?_
      refine gX0_79s X (S := Si) (st_1 hstI).1 (st_1 hstI).2 (sr_1_12 hstI) dX0_gatherPresent_27 ?_
      refine k_iload_n X (q := 0) dX0_gatherPresent_30 rfl rfl ?_
      refine k_gotQ X (vX0_88 X (S := Si) ⟨(st_10 hstI).1, (st_10 hstI).2⟩ (c_Jx4a65c_get_915e3 C.l C.e0 Si (A 10) 1 n i cz (hCI) hlt) (As := [.int (nI i)]) (rest := []) rfl rfl rfl rfl ⟨Nat.le_of_ble_eq_true rfl, Nat.le_of_ble_eq_true rfl⟩ (Nat.le_of_ble_eq_true rfl) ⟨(by show lev c + 0 ≤ 6; have := lev_le c; omega), (by show slv c + 0 ≤ 202; have := lev_le c; omega)⟩ dX0_gatherPresent_31) (fun r_31_7 S_31_8 h_31_5 => ?_)
      obtain ⟨rfl, er_31_7⟩ := h_31_5
      subst er_31_7
      refine tX0_92 X (S := Si) ⟨(kLs.el (hCI) hlt).1, (kLs.el (hCI) hlt).2⟩ dX0_gatherPresent_34 ?_
      refine k_astore_n X [(2, .ref (cz i)), (1, .int (nI i)), (0, .ref (A 4))] dX0_gatherPresent_37 rfl (by decide) rfl ?_
      refine k_aload_n X (q := 0) dX0_gatherPresent_38 rfl rfl ?_
      refine k_gotI X (vX0_94 X (S := Si) ⟨(kLs.el (hCI) hlt).1, (kLs.el (hCI) hlt).2⟩ (c_X1_isFull C.l C.e0 Si (cz i) (kLs.el (hCI) hlt)) (As := []) (rest := []) rfl rfl rfl rfl ⟨Nat.le_of_ble_eq_true rfl, Nat.le_of_ble_eq_true rfl⟩ (Nat.le_of_ble_eq_true rfl) ⟨(by show lev c + 0 ≤ 6; have := lev_le c; omega), (by show slv c + 0 ≤ 202; have := lev_le c; omega)⟩ dX0_gatherPresent_39) (fun v_39_10 S_39_11 h_39_8 => ?_)
      obtain ⟨rfl, ev_39_10⟩ := h_39_8
      refine k_if_eq (tgt := 71) X dX0_gatherPresent_42 (by decide) (fun c_42 => ?_) (fun c_42 => ?_)
      · skip
        rw [ev_39_10] at c_42
        have hP9 : ¬ P i = true := by rw [hP]; rw [hI] at c_42; simp [kb] at c_42; simp [c_42]
        obtain ⟨v_71_12, ev_71_12⟩ : ∃ z : Int32, z = (nI i) + 1 := ⟨_, rfl⟩
        refine k_iinc X (q := 1) (v := v_71_12) [(1, .int v_71_12), (2, .ref (cz i)), (0, .ref (A 4))] dX0_gatherPresent_71 rfl (by rw [ev_71_12]; rfl) (by decide) rfl ?_
        refine k_goto (tgt := 9) X dX0_gatherPresent_74 (by decide) ?_
        refine k_lv [0, 2] _ rfl ?_
        exact ih (n - (i + 1)) (by omega) (i + 1) _ Si xs c rfl (by rw [ev_71_12, nI_1]) (by omega) hfr (by rw [kcnt_f hP9]; exact hlc) (kenu_f hen hP9)
      · skip
        rw [ev_39_10] at c_42
        have hs9 : S.I (cz i) 6 = 1 := by rw [hI] at c_42; simpa [kb] using c_42
        refine k_aload_n X (q := 0) dX0_gatherPresent_45 rfl rfl ?_
        refine gX0_98 X (S := Si) (kLs.el (hCI) hlt).1 (kLs.el (hCI) hlt).2 dX0_gatherPresent_46 (fun v_46_13 ev_46_13 => ?_)
        refine k_aload_n X (q := 2) dX0_gatherPresent_49 rfl rfl ?_
        refine gX0_38s X (S := Si) (st_4 hstI).1 (st_4 hstI).2 (sr_4_0 hstI) dX0_gatherPresent_50 ?_
        refine gX0_101 X (S := Si) (st_1 hstI).1 (st_1 hstI).2 dX0_gatherPresent_53 (fun v_53_14 ev_53_14 => ?_)
        refine k_iadd X dX0_gatherPresent_56 (fun v_56_15 ev_56_15 => ?_)
        refine k_iconst X (v := 4) dX0_gatherPresent_57 (by decide) ?_
        refine k_irem X dX0_gatherPresent_58 (by decide) (fun v_58_16 ev_58_16 => ?_)
        refine k_if_eq (tgt := 71) X dX0_gatherPresent_59 (by decide) (fun c_59 => ?_) (fun c_59 => ?_)
        · skip
          have hP9 : ¬ P i = true := by rw [hP]; rw [ev_58_16, ev_56_15, ev_53_14, ev_46_13, hI, hI1] at c_59; simp [hs9, krem, c_59]
          obtain ⟨v_71_17, ev_71_17⟩ : ∃ z : Int32, z = (nI i) + 1 := ⟨_, rfl⟩
          refine k_iinc X (q := 1) (v := v_71_17) [(1, .int v_71_17), (2, .ref (cz i)), (0, .ref (A 4))] dX0_gatherPresent_71 rfl (by rw [ev_71_17]; rfl) (by decide) rfl ?_
          refine k_goto (tgt := 9) X dX0_gatherPresent_74 (by decide) ?_
          refine k_lv [0, 2] _ rfl ?_
          exact ih (n - (i + 1)) (by omega) (i + 1) _ Si xs c rfl (by rw [ev_71_17, nI_1]) (by omega) hfr (by rw [kcnt_f hP9]; exact hlc) (kenu_f hen hP9)
        · skip
          have hP9 : P i = true := by rw [hP]; rw [ev_58_16, ev_56_15, ev_53_14, ev_46_13, hI, hI1] at c_59; simp [hs9, krem, c_59]
          refine k_aload_n X (q := 2) dX0_gatherPresent_62 rfl rfl ?_
          refine gX0_25s X (S := Si) (st_4 hstI).1 (st_4 hstI).2 (sr_4_5 hstI) dX0_gatherPresent_63 ?_
          refine k_aload_n X (q := 0) dX0_gatherPresent_66 rfl rfl ?_
          refine k_gotI X (vX0_104 X (S := Si) ⟨(st_20 hstI).1, (st_20 hstI).2⟩ (c_Jx4a65c_add_9ea2d C.l C.e0 Si (A 20) 1 (kcnt P i) c (cz i) xs kEl_1 hlc (kLs.el hCI hlt) (by have := kcnt_le P i; omega)) (As := [.ref (cz i)]) (rest := []) rfl rfl rfl rfl ⟨Nat.le_of_ble_eq_true rfl, Nat.le_of_ble_eq_true rfl⟩ (Nat.le_of_ble_eq_true rfl) ⟨(by show lev c + kmc c (kcnt P i) ≤ 6; have h9 := lev_add hlc.cap (by have := kcnt_le P i; omega); have h8 := lev_le (knc c (kcnt P i)); omega), (by show slv c + kms c (kcnt P i) ≤ 202; have h9 := lev_add hlc.cap (by have := kcnt_le P i; omega); have h8 := lev_le (knc c (kcnt P i)); omega)⟩ dX0_gatherPresent_67) (fun v_67_19 S_67_20 h_67_17 => ?_)
          obtain ⟨-, hfa, hla⟩ := h_67_17
          rw [so_20 hstI] at hfa
          have hfr2 := hfr.trR hfa
          refine k_pop X dX0_gatherPresent_70 rfl ?_
          obtain ⟨v_71_21, ev_71_21⟩ : ∃ z : Int32, z = (nI i) + 1 := ⟨_, rfl⟩
          refine k_iinc X (q := 1) (v := v_71_21) [(1, .int v_71_21), (2, .ref (cz i)), (0, .ref (A 4))] dX0_gatherPresent_71 rfl (by rw [ev_71_21]; rfl) (by decide) rfl ?_
          refine k_goto (tgt := 9) X dX0_gatherPresent_74 (by decide) ?_
          refine k_lv [0, 2] _ rfl ?_
          have h9 := lev_add hlc.cap (by have := kcnt_le P i; omega)
          refine k_room (k' := lev (knc c (kcnt P i))) (n' := slv (knc c (kcnt P i))) h9.1 h9.2 ?_
          exact ih (n - (i + 1)) (by omega) (i + 1) _ _ _ _ rfl (by rw [ev_71_21, nI_1]) (by omega) hfr2 (by rw [kcnt_t hP9]; exact hla) (kenu_t hen hP9)
  refine k_lv [0, 1] _ rfl ?_
  exact L_9 _ 0 0 _ _ c0 rfl nI_0.symm (Nat.zero_le _) hfr0 hlc0 (fun j hj => absurd hj (by omega))
