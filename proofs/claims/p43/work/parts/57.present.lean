theorem ktsw {x : Int32} {N : Nat} (hN : N < 2 ^ 31) (h : ∀ k, k ≤ N → ¬ x = nI k) : x.toInt < 0 ∨ (N : Int) < x.toInt := by
  by_cases g1 : x.toInt < 0
  · exact Or.inl g1
  · by_cases g2 : (N : Int) < x.toInt
    · exact Or.inr g2
    · have hx : x = nI x.toInt.toNat := Int32.toInt_inj.mp (by rw [nI_toInt (by omega)]; omega)
      exact absurd hx (h _ (by omega))
/-- who is present -/
def kpre (S : kS) (A : Nat → Nat) (cz : Nat → Nat) : Nat → Bool := fun i => decide (S.I (cz i) 6 = 1) && !decide (krem (S.I (cz i) 0 + S.I (A 1) 0) 4 = 0)
/-- how many of those present agree with x -/
def kvot (S : kS) (A : Nat → Nat) (cz : Nat → Nat) (n : Nat) (x : Int32) : Int32 := ksum (fun i => if kpre S A cz i then kb (decide (kabs (S.I (cz i) 2 - x) ≤ 5)) else 0) n
/-- what is foretold of a motion -/
def kfor (S : kS) (A : Nat → Nat) (cz : Nat → Nat) (n : Nat) (mo : Nat) : Int32 := if (if S.I mo 1 = 4 then decide (2 * nI (kcnt (kpre S A cz) n) ≤ 3 * kvot S A cz n (S.I mo 3)) && decide (6 * kfull S cz n ≤ 10 * nI (kcnt (kpre S A cz) n)) else decide (nI (kcnt (kpre S A cz) n) < 2 * kvot S A cz n (S.I mo 3))) = true then kvot S A cz n (S.I mo 3) else -1
theorem ksum_enu {P : Nat → Bool} {cz xs : Nat → Nat} {f : Nat → Int32} : ∀ n, kenu P cz xs n → ksum (fun t => f (xs t)) (kcnt P n) = ksum (fun i => if P i then f (cz i) else 0) n
  | 0, _ => rfl
  | n + 1, h => by
    have h0 : kenu P cz xs n := fun j hj hp => h j (by omega) hp
    show _ = ksum (fun i => if P i then f (cz i) else 0) n + (if P n then f (cz n) else 0)
    rw [← ksum_enu n h0]
    by_cases hp : P n = true
    · rw [kcnt_t hp, if_pos hp, ← h n (by omega) hp]; rfl
    · rw [kcnt_f hp, if_neg hp]; exact (Int32.add_zero _).symm
section KPN
variable {e0 : Nat × Nat} {A : Nat → Nat} {n : Nat} {cz : Nat → Nat} {T G E : Nat} {S S' : kS}
theorem fr20_c (h : kI e0 A n cz T G E S) (hf : kFr S S' (kRo S 20)) {i : Nat} (hi : i < n) (j : Nat) : S'.I (cz i) j = S.I (cz i) j := (hf.2 _ (h.at hi).1 (fun z => by unfold kRo at z; rw [h.oc i hi] at z; omega)).1 j
theorem fr20_1 (h : kI e0 A n cz T G E S) (hf : kFr S S' (kRo S 20)) (j : Nat) : S'.I (A 1) j = S.I (A 1) j := (hf.2 _ (st_1 h.st).1 (fun z => by unfold kRo at z; rw [so_1 h.st] at z; omega)).1 j
theorem kfull_c (h : ∀ i, i < n → ∀ j, S'.I (cz i) j = S.I (cz i) j) : kfull S' cz n = kfull S cz n := ksum_congr n (fun i hi => by rw [h i hi, h i hi, h i hi])
end KPN
set_option maxHeartbeats 1000000 in
set_option maxRecDepth 20000 in
theorem c_X0_countPresent (l : Launch) (e0 : Nat × Nat) (S : kS)  (A : Nat → Nat) (n : Nat) (cz : Nat → Nat) (T G Z : Nat) (h : kI e0 A n cz T G Z S)  (hb : T + 0 ≤ 900000 ∧ G + 0 ≤ 60000 ∧ Z + 0 ≤ 150000) : kM l e0 yX0_countPresent cX0_countPresent 1 (Option.some Jvm.ClassFile.FieldType.int) ({ frames := 8, cells := 6, slots := 202, locals := 213 } : Room) 6 202 [.ref (A 4)] S (kQi (fun v S9 => kI e0 A n cz (T + 0) (G + 0) (Z + 0) S9 ∧ kKe A S S9 ∧ kFr S S9 (kRo S 20) ∧ v = nI (kcnt (kpre S A cz) n))) := by
  refine kMetE (by decide +kernel) (Nat.le_of_ble_eq_true rfl) (fun C he hl X E hm => ?_)
  have X : kX C RX0 cX0_countPresent 1 ({ frames := 8, cells := 6, slots := 202, locals := 213 } : Room) := X
  subst he hl
  show kG C 1 S 0 0 0 [(0, .ref (A 4))] []
  have hn := h.n40
  refine k_aload_n X (q := 0) dX0_countPresent_0 rfl rfl ?_
  obtain ⟨mg0, xg0, hLg0, -, -⟩ := h.cl (r := 20) (by unfold clR; omega)
  refine k_gotV X (vX0_108 X (S := S) ⟨(st_4 h.st).1, (st_4 h.st).2⟩ (c_X0_gatherPresent C.l C.e0 S A n cz h.st h.hC hn h.oc mg0 xg0 hLg0) (As := []) (rest := []) rfl rfl rfl rfl ⟨Nat.le_of_ble_eq_true rfl, Nat.le_of_ble_eq_true rfl⟩ (Nat.le_of_ble_eq_true rfl) ⟨Nat.le_of_ble_eq_true rfl, Nat.le_of_ble_eq_true rfl⟩ dX0_countPresent_1) (fun S_1_2 h_1_0 => ?_)
  obtain ⟨hfg, xg, cg, hlg, heg⟩ := h_1_0
  have hmg := kcnt_le (kpre S A cz) n
  obtain ⟨hI_3, hx_3⟩ := h.gath hfg hlg heg (by omega)
  have hK_3 := (kKe.rf).tr hx_3
  refine k_aload_n X (q := 0) dX0_countPresent_4 rfl rfl ?_
  refine gX0_25s X (S := S_1_2) (st_4 hI_3.st).1 (st_4 hI_3.st).2 (sr_4_5 hI_3.st) dX0_countPresent_5 ?_
  refine k_gotI X (vX0_84 X (S := S_1_2) ⟨(st_20 hI_3.st).1, (st_20 hI_3.st).2⟩ (c_Jx4a65c_size_8abf5 C.l C.e0 S_1_2 (A 20) (st_20 hI_3.st)) (As := []) (rest := []) rfl rfl rfl rfl ⟨Nat.le_of_ble_eq_true rfl, Nat.le_of_ble_eq_true rfl⟩ (Nat.le_of_ble_eq_true rfl) ⟨Nat.le_of_ble_eq_true rfl, Nat.le_of_ble_eq_true rfl⟩ dX0_countPresent_8) (fun v_8_5 S_8_6 h_8_3 => ?_)
  obtain ⟨rfl, ev_8_5⟩ := h_8_3
  have hz_v_8_5 : nI (kcnt (kpre S A cz) n) = v_8_5 := by rw [ev_8_5]; exact (hlg.s).2.1.symm
  subst hz_v_8_5
  exact k_iret X E dX0_countPresent_11 (Nat.le_of_ble_eq_true rfl) (Nat.le_of_ble_eq_true rfl) (⟨hI_3.mono (by omega) (by omega) (by omega), hK_3, hfg, rfl⟩)
theorem kMo.kp {S S' : kS} {n : Nat} {cz : Nat → Nat} {x : Nat} (h : kMo S n cz x) (k : kKp S S') : kMo S' n cz x := by
  obtain ⟨h1, h2, h3, h4, h5⟩ := h
  obtain ⟨⟨a1, a2, a3⟩, a4⟩ := k x h1.1 (Or.inl h2)
  exact ⟨⟨a1, a2.trans h1.2⟩, a3.trans h2, by rw [(a4 0 (Or.inr (by omega))).2]; exact h3, by rw [(a4 2 (Or.inr (by omega))).1]; exact h4, by rw [(a4 4 (Or.inr (by omega))).1]; exact h5⟩
set_option maxHeartbeats 1000000 in
set_option maxRecDepth 20000 in
theorem c_X0_foretell (l : Launch) (e0 : Nat × Nat) (S : kS) (u : Nat) (A : Nat → Nat) (n : Nat) (cz : Nat → Nat) (T G Z : Nat) (h : kI e0 A n cz T G Z S) (hu : kMo S n cz u) (hb : T + 0 ≤ 900000 ∧ G + 0 ≤ 60000 ∧ Z + 0 ≤ 150000) : kM l e0 yX0_foretell cX0_foretell 3 (Option.some Jvm.ClassFile.FieldType.int) ({ frames := 8, cells := 6, slots := 202, locals := 213 } : Room) 6 202 [.ref (A 4), .ref u] S (kQi (fun v S9 => kI e0 A n cz (T + 0) (G + 0) (Z + 0) S9 ∧ kKe A S S9 ∧ kFr S S9 (kRo S 20) ∧ v = kfor S A cz n u)) := by
  refine kMetE (by decide +kernel) (Nat.le_of_ble_eq_true rfl) (fun C he hl X E hm => ?_)
  have X : kX C RX0 cX0_foretell 3 ({ frames := 8, cells := 6, slots := 202, locals := 213 } : Room) := X
  subst he hl
  show kG C 3 S 0 0 0 [(0, .ref (A 4)), (1, .ref u)] []
  have hn := h.n40
  refine k_aload_n X (q := 0) dX0_foretell_0 rfl rfl ?_
  obtain ⟨mg0, xg0, hLg0, -, -⟩ := h.cl (r := 20) (by unfold clR; omega)
  refine k_gotV X (vX0_108 X (S := S) ⟨(st_4 h.st).1, (st_4 h.st).2⟩ (c_X0_gatherPresent C.l C.e0 S A n cz h.st h.hC hn h.oc mg0 xg0 hLg0) (As := []) (rest := []) rfl rfl rfl rfl ⟨Nat.le_of_ble_eq_true rfl, Nat.le_of_ble_eq_true rfl⟩ (Nat.le_of_ble_eq_true rfl) ⟨Nat.le_of_ble_eq_true rfl, Nat.le_of_ble_eq_true rfl⟩ dX0_foretell_1) (fun S_1_2 h_1_0 => ?_)
  obtain ⟨hfg, xg, cg, hlg, heg⟩ := h_1_0
  have hmg := kcnt_le (kpre S A cz) n
  obtain ⟨hI_3, hx_3⟩ := h.gath hfg hlg heg (by omega)
  have hK_3 := (kKe.rf).tr hx_3
  have hu9 := hu.kp hx_3.1
  refine k_aload_n X (q := 0) dX0_foretell_4 rfl rfl ?_
  refine gX0_25s X (S := S_1_2) (st_4 hI_3.st).1 (st_4 hI_3.st).2 (sr_4_5 hI_3.st) dX0_foretell_5 ?_
  refine k_aload_n X (q := 1) dX0_foretell_8 rfl rfl ?_
  refine gX0_73 X (S := S_1_2) hu9.1.1 hu9.1.2 dX0_foretell_9 (fun v_9_4 ev_9_4 => ?_)
  refine k_gotI X (vX0_111 X (S := S_1_2) (c_X11_agreeing C.l C.e0 S_1_2 (A 20) v_9_4  (kcnt (kpre S A cz) n) xg (hlg.s) (by omega)) (As := [.ref (A 20), .int v_9_4]) (rest := []) rfl rfl rfl rfl ⟨Nat.le_of_ble_eq_true rfl, Nat.le_of_ble_eq_true rfl⟩ (Nat.le_of_ble_eq_true rfl) ⟨Nat.le_of_ble_eq_true rfl, Nat.le_of_ble_eq_true rfl⟩ dX0_foretell_12) (fun v_12_6 S_12_7 h_12_4 => ?_)
  obtain ⟨rfl, ev_12_6⟩ := h_12_4
  refine k_istore_n X [(2, .int v_12_6), (0, .ref (A 4)), (1, .ref u)] dX0_foretell_15 rfl (by decide) rfl ?_
  refine k_aload_n X (q := 2) dX0_foretell_16 rfl rfl ?_
  refine k_iload_n X (q := 0) dX0_foretell_17 rfl rfl ?_
  refine k_aload_n X (q := 1) dX0_foretell_18 rfl rfl ?_
  refine gX0_25s X (S := S_1_2) (st_4 hI_3.st).1 (st_4 hI_3.st).2 (sr_4_5 hI_3.st) dX0_foretell_19 ?_
  refine k_gotI X (vX0_84 X (S := S_1_2) ⟨(st_20 hI_3.st).1, (st_20 hI_3.st).2⟩ (c_Jx4a65c_size_8abf5 C.l C.e0 S_1_2 (A 20) (st_20 hI_3.st)) (As := []) (rest := [.int v_12_6, .ref u]) rfl rfl rfl rfl ⟨Nat.le_of_ble_eq_true rfl, Nat.le_of_ble_eq_true rfl⟩ (Nat.le_of_ble_eq_true rfl) ⟨Nat.le_of_ble_eq_true rfl, Nat.le_of_ble_eq_true rfl⟩ dX0_foretell_22) (fun v_22_9 S_22_10 h_22_7 => ?_)
  obtain ⟨rfl, ev_22_9⟩ := h_22_7
  have hz_v_22_9 : nI (kcnt (kpre S A cz) n) = v_22_9 := by rw [ev_22_9]; exact (hlg.s).2.1.symm
  subst hz_v_22_9
  refine k_aload_n X (q := 1) dX0_foretell_25 rfl rfl ?_
  refine gX0_38s X (S := S_1_2) (st_4 hI_3.st).1 (st_4 hI_3.st).2 (sr_4_0 hI_3.st) dX0_foretell_26 ?_
  refine k_gotI X (vX0_115 X (S := S_1_2) ⟨(st_1 hI_3.st).1, (st_1 hI_3.st).2⟩ (c_X2_full C.l C.e0 S_1_2  A n cz hI_3.st hI_3.hC hn ) (As := []) (rest := [.int (nI (kcnt (kpre S A cz) n)), .int v_12_6, .ref u]) rfl rfl rfl rfl ⟨Nat.le_of_ble_eq_true rfl, Nat.le_of_ble_eq_true rfl⟩ (Nat.le_of_ble_eq_true rfl) ⟨Nat.le_of_ble_eq_true rfl, Nat.le_of_ble_eq_true rfl⟩ dX0_foretell_29) (fun v_29_12 S_29_13 h_29_10 => ?_)
  obtain ⟨rfl, ev_29_12⟩ := h_29_10
  refine k_gotI X (vX0_118 X (S := S_1_2) ⟨hu9.1.1, hu9.1.2⟩ (c_X7_isPassing C.l C.e0 S_1_2 u v_12_6 (nI (kcnt (kpre S A cz) n)) v_29_12  ⟨hu9.1.1, hu9.1.2⟩) (As := [.int v_12_6, .int (nI (kcnt (kpre S A cz) n)), .int v_29_12]) (rest := []) rfl rfl rfl rfl ⟨Nat.le_of_ble_eq_true rfl, Nat.le_of_ble_eq_true rfl⟩ (Nat.le_of_ble_eq_true rfl) ⟨Nat.le_of_ble_eq_true rfl, Nat.le_of_ble_eq_true rfl⟩ dX0_foretell_32) (fun v_32_15 S_32_16 h_32_13 => ?_)
  obtain ⟨rfl, ev_32_15⟩ := h_32_13
  refine k_if_eq (tgt := 42) X dX0_foretell_35 (by decide) (fun c_35 => ?_) (fun c_35 => ?_)
  · skip
    refine k_iconst X (v := (-1)) dX0_foretell_42 (by decide) ?_
    exact k_iret X E dX0_foretell_43 (Nat.le_of_ble_eq_true rfl) (Nat.le_of_ble_eq_true rfl) (by
        have hu1 : ∀ j, S_1_2.I u j = S.I u j := (hfg.2 _ hu.1.1 (fun z => by unfold kRo at z; rw [hu.2.1] at z; omega)).1
        have hvo : v_12_6 = kvot S A cz n (S.I u 3) := by
          rw [ev_12_6, ev_9_4, hu1]
          refine (ksum_enu (P := kpre S A cz) (f := fun c => kb (decide (kabs (S_1_2.I c 2 - S.I u 3) ≤ 5))) n heg).trans ?_
          exact ksum_congr n (fun i hi => by rw [fr20_c h hfg hi])
        have hfu : v_29_12 = kfull S cz n := by rw [ev_29_12]; exact kfull_c (fun i hi j => fr20_c h hfg hi j)
        refine ⟨hI_3.mono (by omega) (by omega) (by omega), hK_3, hfg, ?_⟩
        unfold kfor
        rw [hvo, hfu, hu1] at ev_32_15
        rw [ev_32_15] at c_35
        have c_36 := c_35
        rw [if_neg (fun z => by simp only [kb] at c_36; rw [if_pos z] at c_36; exact absurd c_36 (by decide))])
  · skip
    refine k_iload_n X (q := 0) dX0_foretell_38 rfl rfl ?_
    refine k_goto (tgt := 43) X dX0_foretell_39 (by decide) ?_
    exact k_iret X E dX0_foretell_43 (Nat.le_of_ble_eq_true rfl) (Nat.le_of_ble_eq_true rfl) (by
        have hu1 : ∀ j, S_1_2.I u j = S.I u j := (hfg.2 _ hu.1.1 (fun z => by unfold kRo at z; rw [hu.2.1] at z; omega)).1
        have hvo : v_12_6 = kvot S A cz n (S.I u 3) := by
          rw [ev_12_6, ev_9_4, hu1]
          refine (ksum_enu (P := kpre S A cz) (f := fun c => kb (decide (kabs (S_1_2.I c 2 - S.I u 3) ≤ 5))) n heg).trans ?_
          exact ksum_congr n (fun i hi => by rw [fr20_c h hfg hi])
        have hfu : v_29_12 = kfull S cz n := by rw [ev_29_12]; exact kfull_c (fun i hi j => fr20_c h hfg hi j)
        refine ⟨hI_3.mono (by omega) (by omega) (by omega), hK_3, hfg, ?_⟩
        unfold kfor
        rw [hvo, hfu, hu1] at ev_32_15
        rw [ev_32_15] at c_35
        have c_36 := c_35
        rw [if_pos (by simp only [kb] at c_36; by_cases g9 : (if S.I u 1 = 4 then decide (2 * nI (kcnt (kpre S A cz) n) ≤ 3 * kvot S A cz n (S.I u 3)) && decide (6 * kfull S cz n ≤ 10 * nI (kcnt (kpre S A cz) n)) else decide (nI (kcnt (kpre S A cz) n) < 2 * kvot S A cz n (S.I u 3))) = true; exact g9; rw [if_neg g9] at c_36; exact absurd rfl c_36)]; exact hvo)
