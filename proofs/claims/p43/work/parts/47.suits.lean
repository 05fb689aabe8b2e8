/-- a suit, with what it says -/
def kSv (S : kS) (u a b : Nat) (d : Option Nat) (t : Nat) : Prop := S.at u 10 ∧ S.O u = 202 ∧ S.R u 0 = some a ∧ S.R u 1 = some b ∧ S.R u 5 = d ∧ (∀ x, d = some x → S.at x 7 ∧ S.O x = 201) ∧ t ≤ 200 ∧ S.I u 3 = nI t
section KSV
variable {e0 : Nat × Nat} {A : Nat → Nat} {n : Nat} {cz : Nat → Nat} {T G E : Nat} {S S' : kS}
theorem kKp.of (h : kKe A S S') : kKp S S' := h.1
theorem kSv.kp {u a b t : Nat} {d : Option Nat} (h : kSv S u a b d t) (k : kKp S S') : kSv S' u a b d t := by
  obtain ⟨h1, h2, h3, h4, h5, h6, h7, h8⟩ := h
  obtain ⟨⟨a1, a2, a3⟩, a4⟩ := k u h1.1 (Or.inr h2)
  exact ⟨⟨a1, a2.trans h1.2⟩, a3.trans h2, by rw [(a4 0 (Or.inl h2)).2]; exact h3, by rw [(a4 1 (Or.inl h2)).2]; exact h4, by rw [(a4 5 (Or.inl h2)).2]; exact h5, fun x hx => by
    obtain ⟨g1, g2⟩ := h6 x hx
    obtain ⟨⟨b1, b2, b3⟩, b4⟩ := k x g1.1 (Or.inl g2)
    exact ⟨⟨b1, b2.trans g1.2⟩, b3.trans g2⟩, h7, by rw [(a4 3 (Or.inl h2)).1]; exact h8⟩
theorem kSv.su {u i j t : Nat} {d : Option Nat} (h : kSv S u (cz i) (cz j) d t) (hi : i < n) (hj : j < n) (hw : kWho n cz S) (hij : ¬ i = j) : kSu S n cz u := by
  obtain ⟨h1, h2, h3, h4, h5, h6, h7, h8⟩ := h
  exact ⟨h1, h2, ⟨i, hi, h3⟩, ⟨j, hj, h4⟩, fun x hx => h6 x (by rw [← h5]; exact hx), ⟨t, h7, h8⟩, fun z => by
    rw [h3, h4] at z
    exact hij (hw.2.2 i j hi hj (Option.some.inj z))⟩
theorem kSu.sv {u : Nat} (h : kSu S n cz u) : ∃ i j t, kSv S u (cz i) (cz j) (S.R u 5) t ∧ i < n ∧ j < n ∧ ¬ i = j := by
  obtain ⟨h1, h2, ⟨i, hi, h3⟩, ⟨j, hj, h4⟩, h5, ⟨t, h7, h8⟩, h9⟩ := h
  exact ⟨i, j, t, ⟨h1, h2, h3, h4, rfl, h5, h7, h8⟩, hi, hj, fun z => h9 (by rw [h3, h4, z])⟩
theorem kI.sl (h : kI e0 A n cz T G E S) : kSl e0 A n cz S := h.1.2.2.2.2.2.1
/-- the suits that wait change -/
theorem kI.frS (h : kI e0 A n cz T G E S) (hf : kFr S S' (kRo S 15)) (hl : kSl e0 A n cz S') (hT : T ≤ 1000000) : kI e0 A n cz T G E S' ∧ kKe A S S' := by
  have h7 : ∀ j, S'.I (A 7) j = S.I (A 7) j := (hf.2 _ (st_7 h.st).1 (fun z => by
    unfold kRo at z
    rw [so_7 h.st] at z
    omega)).1
  exact h.frL (r := 15) (t := 0) (by omega) (hf.go (fun b hb z j => by
    unfold kRo at z
    omega)) ⟨fun z => by unfold clR at z; omega, fun z => by omega, fun _ => hl⟩ (by rw [h7]; exact h.lu.1) (by rw [h7, nI_0, Int32.add_zero]) hT
theorem kSu.fr {P : Nat → Prop} {x : Nat} (h : kSu S n cz x) (hf : kFr S S' P) (hp : ∀ b, b ∈ S.L → S.O b = 202 → ¬ P b) : kSu S' n cz x := h.go (W := fun ρ _ => ¬ ρ = 202) (hf.go (fun b hb z j => fun e => hp b hb e z)) (fun j z => z.1 rfl)
theorem kFr.kp {P : Nat → Prop} (hf : kFr S S' P) (hp : ∀ b, b ∈ S.L → (S.O b = 201 ∨ S.O b = 202) → ¬ P b) : kKp S S' := fun x hx ho => ⟨⟨(hf.1 x hx).1, (hf.1 x hx).2.1, (hf.1 x hx).2.2.1⟩, fun j _ => ⟨(hf.2 x hx (hp x hx ho)).1 j, (hf.2 x hx (hp x hx ho)).2 j⟩⟩
theorem kxr_in {m j : Nat} {xs : Nat → Nat} {Q : Nat → Prop} (h : ∀ t, t < m → Q (xs t)) (hj : j < m) : ∀ t, t < m - 1 → Q (kxr xs j t) := fun t ht => by
  unfold kxr
  by_cases e : t < j
  · rw [if_pos e]; exact h t (by omega)
  · rw [if_neg e]; exact h (t + 1) (by omega)
end KSV
set_option maxHeartbeats 1000000 in
set_option maxRecDepth 20000 in
theorem c_X4_compensate (l : Launch) (e0 : Nat × Nat) (S : kS) (u : Nat) (A : Nat → Nat) (n : Nat) (cz : Nat → Nat) (T G Z : Nat) (h : kI e0 A n cz T G Z S) (i j t : Nat) (d : Option Nat) (hu : kSv S u (cz i) (cz j) d t) (hi : i < n) (hj : j < n) (hij : ¬ i = j) (hb : T + 0 ≤ 900000 ∧ G + 0 ≤ 60000 ∧ Z + 0 ≤ 150000) : kM l e0 yX4_compensate cX4_compensate 1 none ({ frames := 2, cells := 0, slots := 0, locals := 46 } : Room) 0 0 [.ref u] S (kQv (fun S9 => kI e0 A n cz (T + 0) (G + 0) (Z + 0) S9 ∧ kKe A S S9)) := by
  refine kMetE (by decide +kernel) (Nat.le_of_ble_eq_true rfl) (fun C he hl X E hm => ?_)
  have X : kX C RX4 cX4_compensate 1 ({ frames := 2, cells := 0, slots := 0, locals := 46 } : Room) := X
  subst he hl
  show kG C 1 S 0 0 0 [(0, .ref u)] []
  have hn := h.n40
  refine k_aload_n X (q := 0) dX4_compensate_0 rfl rfl ?_
  refine gX4_148s X (S := S) hu.1.1 hu.1.2 hu.2.2.1 dX4_compensate_1 ?_
  refine k_dup X dX4_compensate_4 rfl ?_
  refine gX4_169 X (S := S) (h.at hi).1 (h.at hi).2 dX4_compensate_5 (fun v_5_1 ev_5_1 => ?_)
  refine k_aload_n X (q := 0) dX4_compensate_8 rfl rfl ?_
  refine gX4_144s X (S := S) hu.1.1 hu.1.2 hu.2.2.2.1 dX4_compensate_9 ?_
  refine k_aload_n X (q := 0) dX4_compensate_12 rfl rfl ?_
  refine gX4_172 X (S := S) hu.1.1 hu.1.2 dX4_compensate_13 (fun v_13_2 ev_13_2 => ?_)
  refine k_gotI X (vX4_175 X (S := S) ⟨(h.at hj).1, (h.at hj).2⟩ (c_X1_give C.l C.e0 S (cz j) v_13_2  ⟨(h.at hj).1, (h.at hj).2⟩) (As := [.int v_13_2]) (rest := [.int v_5_1, .ref (cz i)]) rfl rfl rfl rfl ⟨Nat.le_of_ble_eq_true rfl, Nat.le_of_ble_eq_true rfl⟩ (Nat.le_of_ble_eq_true rfl) ⟨Nat.le_of_ble_eq_true rfl, Nat.le_of_ble_eq_true rfl⟩ dX4_compensate_16) (fun v_16_4 S_16_5 h_16_2 => ?_)
  obtain ⟨rfl, ev_16_4⟩ := h_16_2
  refine k_iadd X dX4_compensate_19 (fun v_19_6 ev_19_6 => ?_)
  refine pX4_169 X (S := (kgive S (cz j) v_13_2)) (h.at hi).1 (h.at hi).2 dX4_compensate_20 ?_
  obtain ⟨w1, w2, w3⟩ := h.w0 hi
  obtain ⟨x1, x2, x3⟩ := h.w0 hj
  have x4 := kWe_ge n (fun i hi => (h.ci hi).2.1)
  obtain ⟨-, -, m3, -, m5⟩ := h.my
  have hp : 0 ≤ (kmin (S.I (cz j) 4) v_13_2).toInt := by
    rcases (kmin_i (S.I (cz j) 4) v_13_2).2.2 with e | e
    · rw [e]; exact x1
    · rw [e, ev_13_2, hu.2.2.2.2.2.2.2, nI_toInt (by have := hu.2.2.2.2.2.2.1; omega)]; omega
  have hp2 := (kmin_i (S.I (cz j) 4) v_13_2).1
  have hq1 : (S.I (cz j) 4 - kmin (S.I (cz j) 4) v_13_2).toInt = (S.I (cz j) 4).toInt - (kmin (S.I (cz j) 4) v_13_2).toInt := i_sub (by omega) (by omega)
  have hq2 : (v_19_6).toInt = (S.I (cz i) 4).toInt + (kmin (S.I (cz j) 4) v_13_2).toInt := by rw [ev_19_6, ev_5_1, ev_16_4]; exact i_add (by omega) (by omega)
  obtain ⟨hI_7, hx_7⟩ := h.two hj hi (fun z => hij z.symm) (v := S.I (cz j) 4 - kmin (S.I (cz j) 4) v_13_2) (w := v_19_6) (by omega) (by omega) (by omega)
  have hK_7 := (kKe.rf).tr hx_7
  exact k_vret X E dX4_compensate_23 (Nat.le_of_ble_eq_true rfl) (Nat.le_of_ble_eq_true rfl) (⟨hI_7.mono (by omega) (by omega) (by omega), hK_7⟩)
set_option maxHeartbeats 1000000 in
set_option maxRecDepth 20000 in
theorem c_X10_isMoot (l : Launch) (e0 : Nat × Nat) (S : kS) (u : Nat)  (n : Nat) (cz : Nat → Nat) (i j t : Nat) (d : Option Nat) (hu : kSv S u (cz i) (cz j) d t) (hi : i < n) (hj : j < n) (hij : ¬ i = j) (hac : S.at (cz i) 1) (had : S.at (cz j) 1) : kM l e0 yX10_isMoot cX10_isMoot 1 (Option.some Jvm.ClassFile.FieldType.boolean) ({ frames := 1, cells := 0, slots := 0, locals := 20 } : Room) 0 0 [.ref u] S (kQi (fun v S9 => S = S9 ∧ (v = 0 → ¬ (S.I (cz i) 6 = 3 ∨ S.I (cz i) 6 = 4 ∨ S.I (cz i) 6 = 5) ∧ ¬ (S.I (cz j) 6 = 3 ∨ S.I (cz j) 6 = 4 ∨ S.I (cz j) 6 = 5)))) := by
  refine kMetE (by decide +kernel) (Nat.le_of_ble_eq_true rfl) (fun C he hl X E hm => ?_)
  have X : kX C RX10 cX10_isMoot 1 ({ frames := 1, cells := 0, slots := 0, locals := 20 } : Room) := X
  subst he hl
  show kG C 1 S 0 0 0 [(0, .ref u)] []
  refine k_aload_n X (q := 0) dX10_isMoot_0 rfl rfl ?_
  refine gX10_13s X (S := S) hu.1.1 hu.1.2 hu.2.2.1 dX10_isMoot_1 ?_
  refine k_gotI X (vX10_38 X (S := S) ⟨hac.1, hac.2⟩ (c_X1_isGone C.l C.e0 S (cz i) hac) (As := []) (rest := []) rfl rfl rfl rfl ⟨Nat.le_of_ble_eq_true rfl, Nat.le_of_ble_eq_true rfl⟩ (Nat.le_of_ble_eq_true rfl) ⟨Nat.le_of_ble_eq_true rfl, Nat.le_of_ble_eq_true rfl⟩ dX10_isMoot_4) (fun v_4_2 S_4_3 h_4_0 => ?_)
  obtain ⟨rfl, ev_4_2⟩ := h_4_0
  refine k_if_ne (tgt := 37) X dX10_isMoot_7 (by decide) (fun c_7 => ?_) (fun c_7 => ?_)
  · skip
    rw [ev_4_2] at c_7
    refine k_iconst X (v := 1) dX10_isMoot_37 (by decide) ?_
    refine k_goto (tgt := 42) X dX10_isMoot_38 (by decide) ?_
    exact k_zret X E (Or.inr rfl) dX10_isMoot_42 (Nat.le_of_ble_eq_true rfl) (Nat.le_of_ble_eq_true rfl) (⟨rfl, fun hz => absurd hz (by decide)⟩)
  · skip
    rw [ev_4_2] at c_7
    refine k_aload_n X (q := 0) dX10_isMoot_10 rfl rfl ?_
    refine gX10_17s X (S := S) hu.1.1 hu.1.2 hu.2.2.2.1 dX10_isMoot_11 ?_
    refine k_gotI X (vX10_38 X (S := S) ⟨had.1, had.2⟩ (c_X1_isGone C.l C.e0 S (cz j) had) (As := []) (rest := []) rfl rfl rfl rfl ⟨Nat.le_of_ble_eq_true rfl, Nat.le_of_ble_eq_true rfl⟩ (Nat.le_of_ble_eq_true rfl) ⟨Nat.le_of_ble_eq_true rfl, Nat.le_of_ble_eq_true rfl⟩ dX10_isMoot_14) (fun v_14_5 S_14_6 h_14_3 => ?_)
    obtain ⟨rfl, ev_14_5⟩ := h_14_3
    refine k_if_ne (tgt := 37) X dX10_isMoot_17 (by decide) (fun c_17 => ?_) (fun c_17 => ?_)
    · skip
      rw [ev_14_5] at c_17
      refine k_iconst X (v := 1) dX10_isMoot_37 (by decide) ?_
      refine k_goto (tgt := 42) X dX10_isMoot_38 (by decide) ?_
      exact k_zret X E (Or.inr rfl) dX10_isMoot_42 (Nat.le_of_ble_eq_true rfl) (Nat.le_of_ble_eq_true rfl) (⟨rfl, fun hz => absurd hz (by decide)⟩)
    · skip
      rw [ev_14_5] at c_17
      refine k_aload_n X (q := 0) dX10_isMoot_20 rfl rfl ?_
      refine gX10_30 X (S := S) hu.1.1 hu.1.2 dX10_isMoot_21 (fun r_21_7 er_21_7 => ?_)
      refine k_ifnull (tgt := 41) X dX10_isMoot_24 (by decide) (fun c_24 => ?_) (fun a_24_8 c_24 => ?_)
      · skip
        subst c_24
        refine k_iconst X (v := 0) dX10_isMoot_41 (by decide) ?_
        exact k_zret X E (Or.inl rfl) dX10_isMoot_42 (Nat.le_of_ble_eq_true rfl) (Nat.le_of_ble_eq_true rfl) (⟨rfl, fun hz => ⟨by simpa [kb, and_assoc] using c_7, by simpa [kb, and_assoc] using c_17⟩⟩)
      · skip
        subst c_24
        refine k_aload_n X (q := 0) dX10_isMoot_27 rfl rfl ?_
        refine gX10_30s X (S := S) hu.1.1 hu.1.2 er_21_7.symm dX10_isMoot_28 ?_
        refine gX10_43 X (S := S) (hu.2.2.2.2.2.1 _ (hu.2.2.2.2.1.symm.trans er_21_7.symm)).1.1 (hu.2.2.2.2.2.1 _ (hu.2.2.2.2.1.symm.trans er_21_7.symm)).1.2 dX10_isMoot_31 (fun v_31_9 ev_31_9 => ?_)
        refine k_if_ne (tgt := 41) X dX10_isMoot_34 (by decide) (fun c_34 => ?_) (fun c_34 => ?_)
        · skip
          refine k_iconst X (v := 0) dX10_isMoot_41 (by decide) ?_
          exact k_zret X E (Or.inl rfl) dX10_isMoot_42 (Nat.le_of_ble_eq_true rfl) (Nat.le_of_ble_eq_true rfl) (⟨rfl, fun hz => ⟨by simpa [kb, and_assoc] using c_7, by simpa [kb, and_assoc] using c_17⟩⟩)
        · skip
          refine k_iconst X (v := 1) dX10_isMoot_37 (by decide) ?_
          refine k_goto (tgt := 42) X dX10_isMoot_38 (by decide) ?_
          exact k_zret X E (Or.inr rfl) dX10_isMoot_42 (Nat.le_of_ble_eq_true rfl) (Nat.le_of_ble_eq_true rfl) (⟨rfl, fun hz => absurd hz (by decide)⟩)
set_option maxHeartbeats 1000000 in
set_option maxRecDepth 20000 in
theorem c_X4_punish (l : Launch) (e0 : Nat × Nat) (S : kS) (u : Nat) (A : Nat → Nat) (n : Nat) (cz : Nat → Nat) (T G Z : Nat) (h : kI e0 A n cz T G Z S) (i j t : Nat) (d : Option Nat) (hu : kSv S u (cz i) (cz j) d t) (hi : i < n) (hj : j < n) (hij : ¬ i = j) (hsi : S.I (cz i) 6 = 1 ∨ S.I (cz i) 6 = 2) (hsj : S.I (cz j) 6 = 1 ∨ S.I (cz j) 6 = 2) (hb : T + 0 ≤ 900000 ∧ G + 1 ≤ 60000 ∧ Z + 0 ≤ 150000) : kM l e0 yX4_punish cX4_punish 2 none ({ frames := 4, cells := 0, slots := 0, locals := 87 } : Room) 0 0 [.ref (A 3), .ref u] S (kQv (fun S9 => kI e0 A n cz (T + 0) (G + 1) (Z + 0) S9 ∧ kKe A S S9)) := by
  refine kMetE (by decide +kernel) (Nat.le_of_ble_eq_true rfl) (fun C he hl X E hm => ?_)
  have X : kX C RX4 cX4_punish 2 ({ frames := 4, cells := 0, slots := 0, locals := 87 } : Room) := X
  subst he hl
  show kG C 2 S 0 0 0 [(0, .ref (A 3)), (1, .ref u)] []
  have hn := h.n40
  refine k_aload_n X (q := 1) dX4_punish_0 rfl rfl ?_
  refine k_gotI X (vX4_194 X (S := S) ⟨hu.1.1, hu.1.2⟩ (c_X10_isPrivate C.l C.e0 S u  ⟨hu.1.1, hu.1.2⟩) (As := []) (rest := []) rfl rfl rfl rfl ⟨Nat.le_of_ble_eq_true rfl, Nat.le_of_ble_eq_true rfl⟩ (Nat.le_of_ble_eq_true rfl) ⟨Nat.le_of_ble_eq_true rfl, Nat.le_of_ble_eq_true rfl⟩ dX4_punish_1) (fun v_1_2 S_1_3 h_1_0 => ?_)
  obtain ⟨rfl, ev_1_2⟩ := h_1_0
  refine k_if_eq (tgt := 14) X dX4_punish_4 (by decide) (fun c_4 => ?_) (fun c_4 => ?_)
  · skip
    rw [ev_1_2] at c_4
    refine k_aload_n X (q := 1) dX4_punish_14 rfl rfl ?_
    refine gX4_207 X (S := S) hu.1.1 hu.1.2 dX4_punish_15 (fun v_15_4 ev_15_4 => ?_)
    refine k_iconst X (v := 2) dX4_punish_18 (by decide) ?_
    refine k_icmp_ne (tgt := 68) X dX4_punish_19 (by decide) (fun c_19 => ?_) (fun c_19 => ?_)
    · skip
      refine k_aload_n X (q := 0) dX4_punish_68 rfl rfl ?_
      refine gX4_40s X (S := S) (st_3 h.st).1 (st_3 h.st).2 (sr_3_0 h.st) dX4_punish_69 ?_
      refine k_aload_n X (q := 1) dX4_punish_72 rfl rfl ?_
      refine gX4_144s X (S := S) hu.1.1 hu.1.2 hu.2.2.2.1 dX4_punish_73 ?_
      obtain ⟨m, xs, hL, hm9, hxs⟩ := h.cl (r := 16) (by unfold clR; omega)
      refine k_aload_n X (q := 0) dX4_punish_76 rfl rfl ?_
      refine k_aload_n X (q := 1) dX4_punish_77 rfl rfl ?_
      refine gX4_138 X (S := S) hu.1.1 hu.1.2 dX4_punish_78 (fun v_78_5 ev_78_5 => ?_)
      refine k_gotI X (vX4_215 X (S := S) ⟨(st_3 h.st).1, (st_3 h.st).2⟩ (c_X4_isStrict C.l C.e0 S v_78_5 A h.st m xs (hL) (by omega)) (As := [.int v_78_5]) (rest := [.ref (cz j), .ref (A 1)]) rfl rfl rfl rfl ⟨Nat.le_of_ble_eq_true rfl, Nat.le_of_ble_eq_true rfl⟩ (Nat.le_of_ble_eq_true rfl) ⟨Nat.le_of_ble_eq_true rfl, Nat.le_of_ble_eq_true rfl⟩ dX4_punish_81) (fun v_81_7 S_81_8 h_81_5 => ?_)
      subst h_81_5
      refine k_if_eq (tgt := 94) X dX4_punish_84 (by decide) (fun c_84 => ?_) (fun c_84 => ?_)
      · skip
        refine k_aload_n X (q := 1) dX4_punish_94 rfl rfl ?_
        refine gX4_172 X (S := S) hu.1.1 hu.1.2 dX4_punish_95 (fun v_95_9 ev_95_9 => ?_)
        refine k_iconst X (v := 3) dX4_punish_98 (by decide) ?_
        refine k_iadd X dX4_punish_99 (fun v_99_10 ev_99_10 => ?_)
        refine k_iconst X (v := 4) dX4_punish_100 (by decide) ?_
        refine k_idiv X dX4_punish_101 (by decide) (fun v_101_11 ev_101_11 => ?_)
        have ht9 := hu.2.2.2.2.2.2.1
        have hfb : 0 ≤ (v_101_11).toInt ∧ (v_101_11).toInt ≤ 32000 := by
          rw [ev_101_11, ev_99_10, ev_95_9, hu.2.2.2.2.2.2.2, show (3 : Int32) = nI 3 from rfl, nI_add, show (4 : Int32) = nI 4 from rfl, pk_div (by omega) (by omega) (by omega), nI_toInt (by omega)]
          omega
        refine k_gotV X (vX4_200 X (S := S) ⟨(st_1 h.st).1, (st_1 h.st).2⟩ (c_X2_fine C.l C.e0 S (cz j) v_101_11 A h.st ⟨(h.at hj).1, (h.at hj).2⟩) (As := [.ref (cz j), .int v_101_11]) (rest := []) rfl rfl rfl rfl ⟨Nat.le_of_ble_eq_true rfl, Nat.le_of_ble_eq_true rfl⟩ (Nat.le_of_ble_eq_true rfl) ⟨Nat.le_of_ble_eq_true rfl, Nat.le_of_ble_eq_true rfl⟩ dX4_punish_102) (fun S_102_13 h_102_11 => ?_)
        subst h_102_11
        obtain ⟨hI_14, hx_14⟩ := h.fine (i := j) hj (x := v_101_11) (hfb) (by first | exact hsj | (rw [uI_I, if_neg (by omega)]; exact hsj)) (by omega) (by omega)
        have hK_14 := (kKe.rf).tr hx_14
        have hu_15 := hu.kp hx_14.1
        refine k_aload_n X (q := 1) dX4_punish_105 rfl rfl ?_
        refine gX4_207 X (S := (kfine S A (cz j) v_101_11)) hu_15.1.1 hu_15.1.2 dX4_punish_106 (fun v_106_16 ev_106_16 => ?_)
        refine k_iconst X (v := 3) dX4_punish_109 (by decide) ?_
        refine k_icmp_ne (tgt := 121) X dX4_punish_110 (by decide) (fun c_110 => ?_) (fun c_110 => ?_)
        · skip
          exact k_vret X E dX4_punish_121 (Nat.le_of_ble_eq_true rfl) (Nat.le_of_ble_eq_true rfl) (⟨hI_14.mono (by omega) (by omega) (by omega), hK_14⟩)
        · skip
          refine k_aload_n X (q := 1) dX4_punish_113 rfl rfl ?_
          refine gX4_144s X (S := (kfine S A (cz j) v_101_11)) hu_15.1.1 hu_15.1.2 hu_15.2.2.2.1 dX4_punish_114 ?_
          refine k_iconst X (v := (-1)) dX4_punish_117 (by decide) ?_
          refine pX4_218 X (S := (kfine S A (cz j) v_101_11)) (hI_14.at hj).1 (hI_14.at hj).2 dX4_punish_118 ?_
          obtain ⟨hI_17, hx_17⟩ := (⟨hI_14.fI (i := 11) (v := (-1 : Int32)) (hI_14.oc _ hj) (by unfold pSM; omega) (by unfold pVM pCi pHo pCh pLe pMy pMs pOf; omega) (by unfold pLu; omega), hI_14.fIk (i := 11) (v := (-1 : Int32)) (hI_14.oc _ hj) (by unfold pKe; omega)⟩ : _ ∧ _)
          have hK_17 := (hK_14).tr hx_17
          have hu_18 := hu_15.kp hx_17.1
          exact k_vret X E dX4_punish_121 (Nat.le_of_ble_eq_true rfl) (Nat.le_of_ble_eq_true rfl) (⟨hI_17.mono (by omega) (by omega) (by omega), hK_17⟩)
      · skip
        refine k_aload_n X (q := 1) dX4_punish_87 rfl rfl ?_
        refine gX4_172 X (S := S) hu.1.1 hu.1.2 dX4_punish_88 (fun v_88_19 ev_88_19 => ?_)
        refine k_goto (tgt := 102) X dX4_punish_91 (by decide) ?_
        have ht9 := hu.2.2.2.2.2.2.1
        have hfb : 0 ≤ (v_88_19).toInt ∧ (v_88_19).toInt ≤ 32000 := by
          rw [ev_88_19, hu.2.2.2.2.2.2.2, nI_toInt (by omega)]
          omega
        refine k_gotV X (vX4_200 X (S := S) ⟨(st_1 h.st).1, (st_1 h.st).2⟩ (c_X2_fine C.l C.e0 S (cz j) v_88_19 A h.st ⟨(h.at hj).1, (h.at hj).2⟩) (As := [.ref (cz j), .int v_88_19]) (rest := []) rfl rfl rfl rfl ⟨Nat.le_of_ble_eq_true rfl, Nat.le_of_ble_eq_true rfl⟩ (Nat.le_of_ble_eq_true rfl) ⟨Nat.le_of_ble_eq_true rfl, Nat.le_of_ble_eq_true rfl⟩ dX4_punish_102) (fun S_102_21 h_102_19 => ?_)
        subst h_102_19
        obtain ⟨hI_22, hx_22⟩ := h.fine (i := j) hj (x := v_88_19) (hfb) (by first | exact hsj | (rw [uI_I, if_neg (by omega)]; exact hsj)) (by omega) (by omega)
        have hK_22 := (kKe.rf).tr hx_22
        have hu_23 := hu.kp hx_22.1
        refine k_aload_n X (q := 1) dX4_punish_105 rfl rfl ?_
        refine gX4_207 X (S := (kfine S A (cz j) v_88_19)) hu_23.1.1 hu_23.1.2 dX4_punish_106 (fun v_106_24 ev_106_24 => ?_)
        refine k_iconst X (v := 3) dX4_punish_109 (by decide) ?_
        refine k_icmp_ne (tgt := 121) X dX4_punish_110 (by decide) (fun c_110 => ?_) (fun c_110 => ?_)
        · skip
          exact k_vret X E dX4_punish_121 (Nat.le_of_ble_eq_true rfl) (Nat.le_of_ble_eq_true rfl) (⟨hI_22.mono (by omega) (by omega) (by omega), hK_22⟩)
        · skip
          refine k_aload_n X (q := 1) dX4_punish_113 rfl rfl ?_
          refine gX4_144s X (S := (kfine S A (cz j) v_88_19)) hu_23.1.1 hu_23.1.2 hu_23.2.2.2.1 dX4_punish_114 ?_
          refine k_iconst X (v := (-1)) dX4_punish_117 (by decide) ?_
          refine pX4_218 X (S := (kfine S A (cz j) v_88_19)) (hI_22.at hj).1 (hI_22.at hj).2 dX4_punish_118 ?_
          obtain ⟨hI_25, hx_25⟩ := (⟨hI_22.fI (i := 11) (v := (-1 : Int32)) (hI_22.oc _ hj) (by unfold pSM; omega) (by unfold pVM pCi pHo pCh pLe pMy pMs pOf; omega) (by unfold pLu; omega), hI_22.fIk (i := 11) (v := (-1 : Int32)) (hI_22.oc _ hj) (by unfold pKe; omega)⟩ : _ ∧ _)
          have hK_25 := (hK_22).tr hx_25
          have hu_26 := hu_23.kp hx_25.1
          exact k_vret X E dX4_punish_121 (Nat.le_of_ble_eq_true rfl) (Nat.le_of_ble_eq_true rfl) (⟨hI_25.mono (by omega) (by omega) (by omega), hK_25⟩)
    · skip
      refine k_aload_n X (q := 1) dX4_punish_22 rfl rfl ?_
      refine gX4_58 X (S := S) hu.1.1 hu.1.2 dX4_punish_23 (fun r_23_27 er_23_27 => ?_)
      refine k_ifnull (tgt := 37) X dX4_punish_26 (by decide) (fun c_26 => ?_) (fun a_26_28 c_26 => ?_)
      · skip
        subst c_26
        refine k_aload_n X (q := 0) dX4_punish_37 rfl rfl ?_
        refine gX4_40s X (S := S) (st_3 h.st).1 (st_3 h.st).2 (sr_3_0 h.st) dX4_punish_38 ?_
        refine k_aload_n X (q := 1) dX4_punish_41 rfl rfl ?_
        refine gX4_144s X (S := S) hu.1.1 hu.1.2 hu.2.2.2.1 dX4_punish_42 ?_
        refine k_aload_n X (q := 1) dX4_punish_45 rfl rfl ?_
        refine gX4_172 X (S := S) hu.1.1 hu.1.2 dX4_punish_46 (fun v_46_29 ev_46_29 => ?_)
        refine k_iconst X (v := 2) dX4_punish_49 (by decide) ?_
        refine k_idiv X dX4_punish_50 (by decide) (fun v_50_30 ev_50_30 => ?_)
        have ht9 := hu.2.2.2.2.2.2.1
        have hfb : 0 ≤ (v_50_30).toInt ∧ (v_50_30).toInt ≤ 32000 := by
          rw [ev_50_30, ev_46_29, hu.2.2.2.2.2.2.2, show (2 : Int32) = nI 2 from rfl, pk_div (by omega) (by omega) (by omega), nI_toInt (by omega)]
          omega
        refine k_gotV X (vX4_200 X (S := S) ⟨(st_1 h.st).1, (st_1 h.st).2⟩ (c_X2_fine C.l C.e0 S (cz j) v_50_30 A h.st ⟨(h.at hj).1, (h.at hj).2⟩) (As := [.ref (cz j), .int v_50_30]) (rest := []) rfl rfl rfl rfl ⟨Nat.le_of_ble_eq_true rfl, Nat.le_of_ble_eq_true rfl⟩ (Nat.le_of_ble_eq_true rfl) ⟨Nat.le_of_ble_eq_true rfl, Nat.le_of_ble_eq_true rfl⟩ dX4_punish_51) (fun S_51_32 h_51_30 => ?_)
        subst h_51_30
        obtain ⟨hI_33, hx_33⟩ := h.fine (i := j) hj (x := v_50_30) (hfb) (by first | exact hsj | (rw [uI_I, if_neg (by omega)]; exact hsj)) (by omega) (by omega)
        have hK_33 := (kKe.rf).tr hx_33
        have hu_34 := hu.kp hx_33.1
        refine k_aload_n X (q := 0) dX4_punish_54 rfl rfl ?_
        refine gX4_40s X (S := (kfine S A (cz j) v_50_30)) (st_3 hI_33.st).1 (st_3 hI_33.st).2 (sr_3_0 hI_33.st) dX4_punish_55 ?_
        refine k_aload_n X (q := 1) dX4_punish_58 rfl rfl ?_
        refine gX4_144s X (S := (kfine S A (cz j) v_50_30)) hu_34.1.1 hu_34.1.2 hu_34.2.2.2.1 dX4_punish_59 ?_
        refine k_gotV X (vX4_203 X (S := (kfine S A (cz j) v_50_30)) ⟨(st_1 hI_33.st).1, (st_1 hI_33.st).2⟩ (c_X2_bar C.l C.e0 (kfine S A (cz j) v_50_30) (cz j) A hI_33.st ⟨(hI_33.at hj).1, (hI_33.at hj).2⟩) (As := [.ref (cz j)]) (rest := []) rfl rfl rfl rfl ⟨Nat.le_of_ble_eq_true rfl, Nat.le_of_ble_eq_true rfl⟩ (Nat.le_of_ble_eq_true rfl) ⟨Nat.le_of_ble_eq_true rfl, Nat.le_of_ble_eq_true rfl⟩ dX4_punish_62) (fun S_62_36 h_62_34 => ?_)
        subst h_62_34
        obtain ⟨hI_37, hx_37⟩ := hI_33.c0 (c := (cz j)) (i := 7) ⟨_, hj, rfl⟩ (by omega)
        have hK_37 := (hK_33).tr hx_37
        have hu_38 := hu_34.kp hx_37.1
        refine k_goto (tgt := 121) X dX4_punish_65 (by decide) ?_
        exact k_vret X E dX4_punish_121 (Nat.le_of_ble_eq_true rfl) (Nat.le_of_ble_eq_true rfl) (⟨hI_37.mono (by omega) (by omega) (by omega), hK_37⟩)
      · skip
        subst c_26
        have hd9 := hu.2.2.2.2.2.1 _ (hu.2.2.2.2.1.symm.trans er_23_27.symm)
        refine k_aload_n X (q := 1) dX4_punish_29 rfl rfl ?_
        refine gX4_58s X (S := S) hu.1.1 hu.1.2 er_23_27.symm dX4_punish_30 ?_
        refine k_iconst X (v := 1) dX4_punish_33 (by decide) ?_
        refine pX4_210 X (S := S) hd9.1.1 hd9.1.2 (Or.inr rfl) dX4_punish_34 ?_
        obtain ⟨hI_39, hx_39⟩ := (⟨h.fI (i := 7) (v := 1) hd9.2 (by unfold pSM; omega) (by unfold pVM pCi pHo pCh pLe pMy pMs pOf; omega) (by unfold pLu; omega), h.fIk (i := 7) (v := 1) hd9.2 (by unfold pKe; omega)⟩ : _ ∧ _)
        have hK_39 := (kKe.rf).tr hx_39
        have hu_40 := hu.kp hx_39.1
        refine k_aload_n X (q := 0) dX4_punish_37 rfl rfl ?_
        refine gX4_40s X (S := (S.uI a_26_28 7 1)) (st_3 hI_39.st).1 (st_3 hI_39.st).2 (sr_3_0 hI_39.st) dX4_punish_38 ?_
        refine k_aload_n X (q := 1) dX4_punish_41 rfl rfl ?_
        refine gX4_144s X (S := (S.uI a_26_28 7 1)) hu_40.1.1 hu_40.1.2 hu_40.2.2.2.1 dX4_punish_42 ?_
        refine k_aload_n X (q := 1) dX4_punish_45 rfl rfl ?_
        refine gX4_172 X (S := (S.uI a_26_28 7 1)) hu_40.1.1 hu_40.1.2 dX4_punish_46 (fun v_46_41 ev_46_41 => ?_)
        refine k_iconst X (v := 2) dX4_punish_49 (by decide) ?_
        refine k_idiv X dX4_punish_50 (by decide) (fun v_50_42 ev_50_42 => ?_)
        have ht9 := hu.2.2.2.2.2.2.1
        have hfb : 0 ≤ (v_50_42).toInt ∧ (v_50_42).toInt ≤ 32000 := by
          rw [ev_50_42, ev_46_41, hu_40.2.2.2.2.2.2.2, show (2 : Int32) = nI 2 from rfl, pk_div (by omega) (by omega) (by omega), nI_toInt (by omega)]
          omega
        refine k_gotV X (vX4_200 X (S := (S.uI a_26_28 7 1)) ⟨(st_1 hI_39.st).1, (st_1 hI_39.st).2⟩ (c_X2_fine C.l C.e0 (S.uI a_26_28 7 1) (cz j) v_50_42 A hI_39.st ⟨(hI_39.at hj).1, (hI_39.at hj).2⟩) (As := [.ref (cz j), .int v_50_42]) (rest := []) rfl rfl rfl rfl ⟨Nat.le_of_ble_eq_true rfl, Nat.le_of_ble_eq_true rfl⟩ (Nat.le_of_ble_eq_true rfl) ⟨Nat.le_of_ble_eq_true rfl, Nat.le_of_ble_eq_true rfl⟩ dX4_punish_51) (fun S_51_44 h_51_42 => ?_)
        subst h_51_42
        obtain ⟨hI_45, hx_45⟩ := hI_39.fine (i := j) hj (x := v_50_42) (hfb) (by first | exact hsj | (rw [uI_I, if_neg (by omega)]; exact hsj)) (by omega) (by omega)
        have hK_45 := (hK_39).tr hx_45
        have hu_46 := hu_40.kp hx_45.1
        refine k_aload_n X (q := 0) dX4_punish_54 rfl rfl ?_
        refine gX4_40s X (S := (kfine (S.uI a_26_28 7 1) A (cz j) v_50_42)) (st_3 hI_45.st).1 (st_3 hI_45.st).2 (sr_3_0 hI_45.st) dX4_punish_55 ?_
        refine k_aload_n X (q := 1) dX4_punish_58 rfl rfl ?_
        refine gX4_144s X (S := (kfine (S.uI a_26_28 7 1) A (cz j) v_50_42)) hu_46.1.1 hu_46.1.2 hu_46.2.2.2.1 dX4_punish_59 ?_
        refine k_gotV X (vX4_203 X (S := (kfine (S.uI a_26_28 7 1) A (cz j) v_50_42)) ⟨(st_1 hI_45.st).1, (st_1 hI_45.st).2⟩ (c_X2_bar C.l C.e0 (kfine (S.uI a_26_28 7 1) A (cz j) v_50_42) (cz j) A hI_45.st ⟨(hI_45.at hj).1, (hI_45.at hj).2⟩) (As := [.ref (cz j)]) (rest := []) rfl rfl rfl rfl ⟨Nat.le_of_ble_eq_true rfl, Nat.le_of_ble_eq_true rfl⟩ (Nat.le_of_ble_eq_true rfl) ⟨Nat.le_of_ble_eq_true rfl, Nat.le_of_ble_eq_true rfl⟩ dX4_punish_62) (fun S_62_48 h_62_46 => ?_)
        subst h_62_46
        obtain ⟨hI_49, hx_49⟩ := hI_45.c0 (c := (cz j)) (i := 7) ⟨_, hj, rfl⟩ (by omega)
        have hK_49 := (hK_45).tr hx_49
        have hu_50 := hu_46.kp hx_49.1
        refine k_goto (tgt := 121) X dX4_punish_65 (by decide) ?_
        exact k_vret X E dX4_punish_121 (Nat.le_of_ble_eq_true rfl) (Nat.le_of_ble_eq_true rfl) (⟨hI_49.mono (by omega) (by omega) (by omega), hK_49⟩)
  · skip
    rw [ev_1_2] at c_4
    refine k_aload_n X (q := 1) dX4_punish_7 rfl rfl ?_
    refine k_gotV X (vX4_154 X (S := S) (c_X4_compensate C.l C.e0 S u A n cz _ _ _ h i j _ _ hu hi hj hij (by omega)) (As := [.ref u]) (rest := []) rfl rfl rfl rfl ⟨Nat.le_of_ble_eq_true rfl, Nat.le_of_ble_eq_true rfl⟩ (Nat.le_of_ble_eq_true rfl) ⟨Nat.le_of_ble_eq_true rfl, Nat.le_of_ble_eq_true rfl⟩ dX4_punish_8) (fun S_8_52 h_8_50 => ?_)
    obtain ⟨hI_53, hx_53⟩ := h_8_50
    have hK_53 := (kKe.rf).tr hx_53
    have hu_54 := hu.kp hx_53.1
    refine k_goto (tgt := 121) X dX4_punish_11 (by decide) ?_
    exact k_vret X E dX4_punish_121 (Nat.le_of_ble_eq_true rfl) (Nat.le_of_ble_eq_true rfl) (⟨hI_53.mono (by omega) (by omega) (by omega), hK_53⟩)
set_option maxHeartbeats 1000000 in
set_option maxRecDepth 20000 in
theorem c_X4_judge (l : Launch) (e0 : Nat × Nat) (S : kS) (u : Nat) (A : Nat → Nat) (n : Nat) (cz : Nat → Nat) (T G Z : Nat) (h : kI e0 A n cz T G Z S) (i j t : Nat) (d : Option Nat) (hu : kSv S u (cz i) (cz j) d t) (hi : i < n) (hj : j < n) (hij : ¬ i = j) (hsi : S.I (cz i) 6 = 1 ∨ S.I (cz i) 6 = 2) (hsj : S.I (cz j) 6 = 1 ∨ S.I (cz j) 6 = 2) (hb : T + 161 ≤ 900000 ∧ G + 1 ≤ 60000 ∧ Z + 0 ≤ 150000) : kM l e0 yX4_judge cX4_judge 2 none ({ frames := 10, cells := 48, slots := 2560, locals := 265 } : Room) 48 2560 [.ref (A 3), .ref u] S (kQv (fun S9 => kI e0 A n cz (T + 161) (G + 1) (Z + 0) S9 ∧ kKe A S S9)) := by
  refine kMetE (by decide +kernel) (Nat.le_of_ble_eq_true rfl) (fun C he hl X E hm => ?_)
  have X : kX C RX4 cX4_judge 2 ({ frames := 10, cells := 48, slots := 2560, locals := 265 } : Room) := X
  subst he hl
  show kG C 2 S 0 0 0 [(0, .ref (A 3)), (1, .ref u)] []
  have hn := h.n40
  refine k_aload_n X (q := 0) dX4_judge_0 rfl rfl ?_
  refine k_aload_n X (q := 1) dX4_judge_1 rfl rfl ?_
  refine k_gotI X (vX4_194 X (S := S) ⟨hu.1.1, hu.1.2⟩ (c_X10_isPrivate C.l C.e0 S u  ⟨hu.1.1, hu.1.2⟩) (As := []) (rest := [.ref (A 3)]) rfl rfl rfl rfl ⟨Nat.le_of_ble_eq_true rfl, Nat.le_of_ble_eq_true rfl⟩ (Nat.le_of_ble_eq_true rfl) ⟨Nat.le_of_ble_eq_true rfl, Nat.le_of_ble_eq_true rfl⟩ dX4_judge_2) (fun v_2_2 S_2_3 h_2_0 => ?_)
  obtain ⟨rfl, ev_2_2⟩ := h_2_0
  refine k_if_eq (tgt := 12) X dX4_judge_5 (by decide) (fun c_5 => ?_) (fun c_5 => ?_)
  · skip
    rw [ev_2_2] at c_5
    refine k_iconst X (v := 2) dX4_judge_12 (by decide) ?_
    refine k_aload_n X (q := 1) dX4_judge_13 rfl rfl ?_
    refine gX4_148s X (S := S) hu.1.1 hu.1.2 hu.2.2.1 dX4_judge_14 ?_
    refine k_aload_n X (q := 1) dX4_judge_17 rfl rfl ?_
    refine gX4_144s X (S := S) hu.1.1 hu.1.2 hu.2.2.2.1 dX4_judge_18 ?_
    refine k_gotV X (vX4_104 X (S := S) ⟨(st_3 h.st).1, (st_3 h.st).2⟩ (c_X4_drawJury C.l C.e0 S (some (cz i)) (some (cz j)) A n cz _ _ _ h 2 (by omega) (by omega)) (As := [.int 2, .ref (cz i), .ref (cz j)]) (rest := []) rfl rfl rfl rfl ⟨Nat.le_of_ble_eq_true rfl, Nat.le_of_ble_eq_true rfl⟩ (Nat.le_of_ble_eq_true rfl) ⟨Nat.le_of_ble_eq_true rfl, Nat.le_of_ble_eq_true rfl⟩ dX4_judge_21) (fun S_21_5 h_21_3 => ?_)
    obtain ⟨hI_6, hx_6, hm_6⟩ := h_21_3
    have hK_6 := (kKe.rf).tr hx_6
    have hu_7 := hu.kp hx_6.1
    refine k_aload_n X (q := 0) dX4_judge_24 rfl rfl ?_
    refine k_aload_n X (q := 1) dX4_judge_25 rfl rfl ?_
    refine gX4_138 X (S := S_21_5) hu_7.1.1 hu_7.1.2 dX4_judge_26 (fun v_26_8 ev_26_8 => ?_)
    refine k_gotI X (vX4_110 X (S := S_21_5) ⟨(st_3 hI_6.st).1, (st_3 hI_6.st).2⟩ (c_X4_decide C.l C.e0 S_21_5 v_26_8 A n cz _ _ _ hI_6  (by omega)) (As := [.int v_26_8]) (rest := []) rfl rfl rfl rfl ⟨Nat.le_of_ble_eq_true rfl, Nat.le_of_ble_eq_true rfl⟩ (Nat.le_of_ble_eq_true rfl) ⟨Nat.le_of_ble_eq_true rfl, Nat.le_of_ble_eq_true rfl⟩ dX4_judge_29) (fun v_29_10 S_29_11 h_29_8 => ?_)
    obtain ⟨hI_12, hx_12, hm_12⟩ := h_29_8
    have hK_12 := (hK_6).tr hx_12
    have hu_13 := hu_7.kp hx_12.1
    refine k_if_eq (tgt := 53) X dX4_judge_32 (by decide) (fun c_32 => ?_) (fun c_32 => ?_)
    · skip
      refine k_aload_n X (q := 0) dX4_judge_53 rfl rfl ?_
      refine k_dup X dX4_judge_54 rfl ?_
      refine gX4_31 X (S := S_29_11) (st_3 hI_12.st).1 (st_3 hI_12.st).2 dX4_judge_55 (fun v_55_14 ev_55_14 => ?_)
      refine k_iconst X (v := 1) dX4_judge_58 (by decide) ?_
      refine k_iadd X dX4_judge_59 (fun v_59_15 ev_59_15 => ?_)
      refine pX4_31 X (S := S_29_11) (st_3 hI_12.st).1 (st_3 hI_12.st).2 dX4_judge_60 ?_
      obtain ⟨hI_16, hx_16⟩ := (⟨hI_12.fI (i := 6) (v := v_59_15) (so_3 hI_12.st) (by unfold pSM; omega) (by unfold pVM pCi pHo pCh pLe pMy pMs pOf; omega) (by unfold pLu; omega), hI_12.fIk (i := 6) (v := v_59_15) (so_3 hI_12.st) (by unfold pKe; omega)⟩ : _ ∧ _)
      have hK_16 := (hK_12).tr hx_16
      have hu_17 := hu_13.kp hx_16.1
      refine k_aload_n X (q := 1) dX4_judge_63 rfl rfl ?_
      refine k_gotI X (vX4_194 X (S := (S_29_11.uI (A 3) 6 v_59_15)) ⟨hu_17.1.1, hu_17.1.2⟩ (c_X10_isPrivate C.l C.e0 (S_29_11.uI (A 3) 6 v_59_15) u  ⟨hu_17.1.1, hu_17.1.2⟩) (As := []) (rest := []) rfl rfl rfl rfl ⟨Nat.le_of_ble_eq_true rfl, Nat.le_of_ble_eq_true rfl⟩ (Nat.le_of_ble_eq_true rfl) ⟨Nat.le_of_ble_eq_true rfl, Nat.le_of_ble_eq_true rfl⟩ dX4_judge_64) (fun v_64_19 S_64_20 h_64_17 => ?_)
      obtain ⟨rfl, ev_64_19⟩ := h_64_17
      refine k_if_ne (tgt := 110) X dX4_judge_67 (by decide) (fun c_67 => ?_) (fun c_67 => ?_)
      · skip
        rw [ev_64_19] at c_67
        exact k_vret X E dX4_judge_110 (Nat.le_of_ble_eq_true rfl) (Nat.le_of_ble_eq_true rfl) (⟨hI_16.mono (by omega) (by omega) (by omega), hK_16⟩)
      · skip
        rw [ev_64_19] at c_67
        refine k_iconst X (v := 5) dX4_judge_70 (by decide) ?_
        refine k_aload_n X (q := 0) dX4_judge_71 rfl rfl ?_
        refine gX4_24 X (S := (S_29_11.uI (A 3) 6 v_59_15)) (st_3 hI_16.st).1 (st_3 hI_16.st).2 dX4_judge_72 (fun v_72_21 ev_72_21 => ?_)
        refine k_imul X dX4_judge_75 (fun v_75_22 ev_75_22 => ?_)
        obtain ⟨m, xs, hL, hm9, hxs⟩ := hI_16.cl (r := 16) (by unfold clR; omega)
        refine k_aload_n X (q := 0) dX4_judge_76 rfl rfl ?_
        refine gX4_18s X (S := (S_29_11.uI (A 3) 6 v_59_15)) (st_3 hI_16.st).1 (st_3 hI_16.st).2 (sr_3_2 hI_16.st) dX4_judge_77 ?_
        refine k_gotI X (vX4_48 X (S := (S_29_11.uI (A 3) 6 v_59_15)) ⟨(st_16 hI_16.st).1, (st_16 hI_16.st).2⟩ (c_Jx4a65c_size_8abf5 C.l C.e0 (S_29_11.uI (A 3) 6 v_59_15) (A 16) (st_16 hI_16.st)) (As := []) (rest := [.int v_75_22]) rfl rfl rfl rfl ⟨Nat.le_of_ble_eq_true rfl, Nat.le_of_ble_eq_true rfl⟩ (Nat.le_of_ble_eq_true rfl) ⟨Nat.le_of_ble_eq_true rfl, Nat.le_of_ble_eq_true rfl⟩ dX4_judge_80) (fun v_80_24 S_80_25 h_80_22 => ?_)
        obtain ⟨rfl, ev_80_24⟩ := h_80_22
        have hz_v_80_24 : nI m = v_80_24 := by rw [ev_80_24]; exact (hL).2.1.symm
        subst hz_v_80_24
        refine k_icmp_ge (tgt := 110) X dX4_judge_83 (by decide) (fun c_83 => ?_) (fun c_83 => ?_)
        · skip
          exact k_vret X E dX4_judge_110 (Nat.le_of_ble_eq_true rfl) (Nat.le_of_ble_eq_true rfl) (⟨hI_16.mono (by omega) (by omega) (by omega), hK_16⟩)
        · skip
          refine k_aload_n X (q := 0) dX4_judge_86 rfl rfl ?_
          refine gX4_40s X (S := (S_29_11.uI (A 3) 6 v_59_15)) (st_3 hI_16.st).1 (st_3 hI_16.st).2 (sr_3_0 hI_16.st) dX4_judge_87 ?_
          refine k_aload_n X (q := 1) dX4_judge_90 rfl rfl ?_
          refine gX4_148s X (S := (S_29_11.uI (A 3) 6 v_59_15)) hu_17.1.1 hu_17.1.2 hu_17.2.2.1 dX4_judge_91 ?_
          refine k_bipush X (v := 10) dX4_judge_94 (by decide) ?_
          refine k_gotV X (vX4_200 X (S := (S_29_11.uI (A 3) 6 v_59_15)) ⟨(st_1 hI_16.st).1, (st_1 hI_16.st).2⟩ (c_X2_fine C.l C.e0 (S_29_11.uI (A 3) 6 v_59_15) (cz i) 10 A hI_16.st ⟨(hI_16.at hi).1, (hI_16.at hi).2⟩) (As := [.ref (cz i), .int 10]) (rest := []) rfl rfl rfl rfl ⟨Nat.le_of_ble_eq_true rfl, Nat.le_of_ble_eq_true rfl⟩ (Nat.le_of_ble_eq_true rfl) ⟨Nat.le_of_ble_eq_true rfl, Nat.le_of_ble_eq_true rfl⟩ dX4_judge_96) (fun S_96_27 h_96_25 => ?_)
          subst h_96_25
          obtain ⟨hI_28, hx_28⟩ := hI_16.fine (i := i) hi (x := 10) (by decide) (by (try rw [uI_I, if_neg (fun z => hI_12.cne hi ⟨⟨4, by decide⟩, by omega⟩ z.1)]); rw [hm_12 _ 6 (hI_12.cne hi ⟨⟨4, by decide⟩, by omega⟩), hm_6 i hi 6]; exact hsi) (by omega) (by omega)
          have hK_28 := (hK_16).tr hx_28
          have hu_29 := hu_17.kp hx_28.1
          refine k_aload_n X (q := 0) dX4_judge_99 rfl rfl ?_
          refine gX4_40s X (S := (kfine (S_29_11.uI (A 3) 6 v_59_15) A (cz i) 10)) (st_3 hI_28.st).1 (st_3 hI_28.st).2 (sr_3_0 hI_28.st) dX4_judge_100 ?_
          refine k_aload_n X (q := 1) dX4_judge_103 rfl rfl ?_
          refine gX4_148s X (S := (kfine (S_29_11.uI (A 3) 6 v_59_15) A (cz i) 10)) hu_29.1.1 hu_29.1.2 hu_29.2.2.1 dX4_judge_104 ?_
          refine k_gotV X (vX4_203 X (S := (kfine (S_29_11.uI (A 3) 6 v_59_15) A (cz i) 10)) ⟨(st_1 hI_28.st).1, (st_1 hI_28.st).2⟩ (c_X2_bar C.l C.e0 (kfine (S_29_11.uI (A 3) 6 v_59_15) A (cz i) 10) (cz i) A hI_28.st ⟨(hI_28.at hi).1, (hI_28.at hi).2⟩) (As := [.ref (cz i)]) (rest := []) rfl rfl rfl rfl ⟨Nat.le_of_ble_eq_true rfl, Nat.le_of_ble_eq_true rfl⟩ (Nat.le_of_ble_eq_true rfl) ⟨Nat.le_of_ble_eq_true rfl, Nat.le_of_ble_eq_true rfl⟩ dX4_judge_107) (fun S_107_31 h_107_29 => ?_)
          subst h_107_29
          obtain ⟨hI_32, hx_32⟩ := hI_28.c0 (c := (cz i)) (i := 7) ⟨_, hi, rfl⟩ (by omega)
          have hK_32 := (hK_28).tr hx_32
          have hu_33 := hu_29.kp hx_32.1
          exact k_vret X E dX4_judge_110 (Nat.le_of_ble_eq_true rfl) (Nat.le_of_ble_eq_true rfl) (⟨hI_32.mono (by omega) (by omega) (by omega), hK_32⟩)
    · skip
      refine k_aload_n X (q := 0) dX4_judge_35 rfl rfl ?_
      refine k_dup X dX4_judge_36 rfl ?_
      refine gX4_28 X (S := S_29_11) (st_3 hI_12.st).1 (st_3 hI_12.st).2 dX4_judge_37 (fun v_37_34 ev_37_34 => ?_)
      refine k_iconst X (v := 1) dX4_judge_40 (by decide) ?_
      refine k_iadd X dX4_judge_41 (fun v_41_35 ev_41_35 => ?_)
      refine pX4_28 X (S := S_29_11) (st_3 hI_12.st).1 (st_3 hI_12.st).2 dX4_judge_42 ?_
      obtain ⟨hI_36, hx_36⟩ := (⟨hI_12.fI (i := 5) (v := v_41_35) (so_3 hI_12.st) (by unfold pSM; omega) (by unfold pVM pCi pHo pCh pLe pMy pMs pOf; omega) (by unfold pLu; omega), hI_12.fIk (i := 5) (v := v_41_35) (so_3 hI_12.st) (by unfold pKe; omega)⟩ : _ ∧ _)
      have hK_36 := (hK_12).tr hx_36
      have hu_37 := hu_13.kp hx_36.1
      refine k_aload_n X (q := 0) dX4_judge_45 rfl rfl ?_
      refine k_aload_n X (q := 1) dX4_judge_46 rfl rfl ?_
      refine k_gotV X (vX4_197 X (S := (S_29_11.uI (A 3) 5 v_41_35)) ⟨(st_3 hI_36.st).1, (st_3 hI_36.st).2⟩ (c_X4_punish C.l C.e0 (S_29_11.uI (A 3) 5 v_41_35) u A n cz _ _ _ hI_36 i j _ _ hu_37 hi hj hij (by (try rw [uI_I, if_neg (fun z => hI_12.cne hi ⟨⟨4, by decide⟩, by omega⟩ z.1)]); rw [hm_12 _ 6 (hI_12.cne hi ⟨⟨4, by decide⟩, by omega⟩), hm_6 i hi 6]; exact hsi) (by (try rw [uI_I, if_neg (fun z => hI_12.cne hj ⟨⟨4, by decide⟩, by omega⟩ z.1)]); rw [hm_12 _ 6 (hI_12.cne hj ⟨⟨4, by decide⟩, by omega⟩), hm_6 j hj 6]; exact hsj) (by omega)) (As := [.ref u]) (rest := []) rfl rfl rfl rfl ⟨Nat.le_of_ble_eq_true rfl, Nat.le_of_ble_eq_true rfl⟩ (Nat.le_of_ble_eq_true rfl) ⟨Nat.le_of_ble_eq_true rfl, Nat.le_of_ble_eq_true rfl⟩ dX4_judge_47) (fun S_47_39 h_47_37 => ?_)
      obtain ⟨hI_40, hx_40⟩ := h_47_37
      have hK_40 := (hK_36).tr hx_40
      have hu_41 := hu_37.kp hx_40.1
      refine k_goto (tgt := 110) X dX4_judge_50 (by decide) ?_
      exact k_vret X E dX4_judge_110 (Nat.le_of_ble_eq_true rfl) (Nat.le_of_ble_eq_true rfl) (⟨hI_40.mono (by omega) (by omega) (by omega), hK_40⟩)
  · skip
    rw [ev_2_2] at c_5
    refine k_iconst X (v := 1) dX4_judge_8 (by decide) ?_
    refine k_goto (tgt := 13) X dX4_judge_9 (by decide) ?_
    refine k_aload_n X (q := 1) dX4_judge_13 rfl rfl ?_
    refine gX4_148s X (S := S) hu.1.1 hu.1.2 hu.2.2.1 dX4_judge_14 ?_
    refine k_aload_n X (q := 1) dX4_judge_17 rfl rfl ?_
    refine gX4_144s X (S := S) hu.1.1 hu.1.2 hu.2.2.2.1 dX4_judge_18 ?_
    refine k_gotV X (vX4_104 X (S := S) ⟨(st_3 h.st).1, (st_3 h.st).2⟩ (c_X4_drawJury C.l C.e0 S (some (cz i)) (some (cz j)) A n cz _ _ _ h 1 (by omega) (by omega)) (As := [.int 1, .ref (cz i), .ref (cz j)]) (rest := []) rfl rfl rfl rfl ⟨Nat.le_of_ble_eq_true rfl, Nat.le_of_ble_eq_true rfl⟩ (Nat.le_of_ble_eq_true rfl) ⟨Nat.le_of_ble_eq_true rfl, Nat.le_of_ble_eq_true rfl⟩ dX4_judge_21) (fun S_21_43 h_21_41 => ?_)
    obtain ⟨hI_44, hx_44, hm_44⟩ := h_21_41
    have hK_44 := (kKe.rf).tr hx_44
    have hu_45 := hu.kp hx_44.1
    refine k_aload_n X (q := 0) dX4_judge_24 rfl rfl ?_
    refine k_aload_n X (q := 1) dX4_judge_25 rfl rfl ?_
    refine gX4_138 X (S := S_21_43) hu_45.1.1 hu_45.1.2 dX4_judge_26 (fun v_26_46 ev_26_46 => ?_)
    refine k_gotI X (vX4_110 X (S := S_21_43) ⟨(st_3 hI_44.st).1, (st_3 hI_44.st).2⟩ (c_X4_decide C.l C.e0 S_21_43 v_26_46 A n cz _ _ _ hI_44  (by omega)) (As := [.int v_26_46]) (rest := []) rfl rfl rfl rfl ⟨Nat.le_of_ble_eq_true rfl, Nat.le_of_ble_eq_true rfl⟩ (Nat.le_of_ble_eq_true rfl) ⟨Nat.le_of_ble_eq_true rfl, Nat.le_of_ble_eq_true rfl⟩ dX4_judge_29) (fun v_29_48 S_29_49 h_29_46 => ?_)
    obtain ⟨hI_50, hx_50, hm_50⟩ := h_29_46
    have hK_50 := (hK_44).tr hx_50
    have hu_51 := hu_45.kp hx_50.1
    refine k_if_eq (tgt := 53) X dX4_judge_32 (by decide) (fun c_32 => ?_) (fun c_32 => ?_)
    · skip
      refine k_aload_n X (q := 0) dX4_judge_53 rfl rfl ?_
      refine k_dup X dX4_judge_54 rfl ?_
      refine gX4_31 X (S := S_29_49) (st_3 hI_50.st).1 (st_3 hI_50.st).2 dX4_judge_55 (fun v_55_52 ev_55_52 => ?_)
      refine k_iconst X (v := 1) dX4_judge_58 (by decide) ?_
      refine k_iadd X dX4_judge_59 (fun v_59_53 ev_59_53 => ?_)
      refine pX4_31 X (S := S_29_49) (st_3 hI_50.st).1 (st_3 hI_50.st).2 dX4_judge_60 ?_
      obtain ⟨hI_54, hx_54⟩ := (⟨hI_50.fI (i := 6) (v := v_59_53) (so_3 hI_50.st) (by unfold pSM; omega) (by unfold pVM pCi pHo pCh pLe pMy pMs pOf; omega) (by unfold pLu; omega), hI_50.fIk (i := 6) (v := v_59_53) (so_3 hI_50.st) (by unfold pKe; omega)⟩ : _ ∧ _)
      have hK_54 := (hK_50).tr hx_54
      have hu_55 := hu_51.kp hx_54.1
      refine k_aload_n X (q := 1) dX4_judge_63 rfl rfl ?_
      refine k_gotI X (vX4_194 X (S := (S_29_49.uI (A 3) 6 v_59_53)) ⟨hu_55.1.1, hu_55.1.2⟩ (c_X10_isPrivate C.l C.e0 (S_29_49.uI (A 3) 6 v_59_53) u  ⟨hu_55.1.1, hu_55.1.2⟩) (As := []) (rest := []) rfl rfl rfl rfl ⟨Nat.le_of_ble_eq_true rfl, Nat.le_of_ble_eq_true rfl⟩ (Nat.le_of_ble_eq_true rfl) ⟨Nat.le_of_ble_eq_true rfl, Nat.le_of_ble_eq_true rfl⟩ dX4_judge_64) (fun v_64_57 S_64_58 h_64_55 => ?_)
      obtain ⟨rfl, ev_64_57⟩ := h_64_55
      refine k_if_ne (tgt := 110) X dX4_judge_67 (by decide) (fun c_67 => ?_) (fun c_67 => ?_)
      · skip
        rw [ev_64_57] at c_67
        exact k_vret X E dX4_judge_110 (Nat.le_of_ble_eq_true rfl) (Nat.le_of_ble_eq_true rfl) (⟨hI_54.mono (by omega) (by omega) (by omega), hK_54⟩)
      · skip
        rw [ev_64_57] at c_67
        refine k_iconst X (v := 5) dX4_judge_70 (by decide) ?_
        refine k_aload_n X (q := 0) dX4_judge_71 rfl rfl ?_
        refine gX4_24 X (S := (S_29_49.uI (A 3) 6 v_59_53)) (st_3 hI_54.st).1 (st_3 hI_54.st).2 dX4_judge_72 (fun v_72_59 ev_72_59 => ?_)
        refine k_imul X dX4_judge_75 (fun v_75_60 ev_75_60 => ?_)
        obtain ⟨m, xs, hL, hm9, hxs⟩ := hI_54.cl (r := 16) (by unfold clR; omega)
        refine k_aload_n X (q := 0) dX4_judge_76 rfl rfl ?_
        refine gX4_18s X (S := (S_29_49.uI (A 3) 6 v_59_53)) (st_3 hI_54.st).1 (st_3 hI_54.st).2 (sr_3_2 hI_54.st) dX4_judge_77 ?_
        refine k_gotI X (vX4_48 X (S := (S_29_49.uI (A 3) 6 v_59_53)) ⟨(st_16 hI_54.st).1, (st_16 hI_54.st).2⟩ (c_Jx4a65c_size_8abf5 C.l C.e0 (S_29_49.uI (A 3) 6 v_59_53) (A 16) (st_16 hI_54.st)) (As := []) (rest := [.int v_75_60]) rfl rfl rfl rfl ⟨Nat.le_of_ble_eq_true rfl, Nat.le_of_ble_eq_true rfl⟩ (Nat.le_of_ble_eq_true rfl) ⟨Nat.le_of_ble_eq_true rfl, Nat.le_of_ble_eq_true rfl⟩ dX4_judge_80) (fun v_80_62 S_80_63 h_80_60 => ?_)
        obtain ⟨rfl, ev_80_62⟩ := h_80_60
        have hz_v_80_62 : nI m = v_80_62 := by rw [ev_80_62]; exact (hL).2.1.symm
        subst hz_v_80_62
        refine k_icmp_ge (tgt := 110) X dX4_judge_83 (by decide) (fun c_83 => ?_) (fun c_83 => ?_)
        · skip
          exact k_vret X E dX4_judge_110 (Nat.le_of_ble_eq_true rfl) (Nat.le_of_ble_eq_true rfl) (⟨hI_54.mono (by omega) (by omega) (by omega), hK_54⟩)
        · skip
          refine k_aload_n X (q := 0) dX4_judge_86 rfl rfl ?_
          refine gX4_40s X (S := (S_29_49.uI (A 3) 6 v_59_53)) (st_3 hI_54.st).1 (st_3 hI_54.st).2 (sr_3_0 hI_54.st) dX4_judge_87 ?_
          refine k_aload_n X (q := 1) dX4_judge_90 rfl rfl ?_
          refine gX4_148s X (S := (S_29_49.uI (A 3) 6 v_59_53)) hu_55.1.1 hu_55.1.2 hu_55.2.2.1 dX4_judge_91 ?_
          refine k_bipush X (v := 10) dX4_judge_94 (by decide) ?_
          refine k_gotV X (vX4_200 X (S := (S_29_49.uI (A 3) 6 v_59_53)) ⟨(st_1 hI_54.st).1, (st_1 hI_54.st).2⟩ (c_X2_fine C.l C.e0 (S_29_49.uI (A 3) 6 v_59_53) (cz i) 10 A hI_54.st ⟨(hI_54.at hi).1, (hI_54.at hi).2⟩) (As := [.ref (cz i), .int 10]) (rest := []) rfl rfl rfl rfl ⟨Nat.le_of_ble_eq_true rfl, Nat.le_of_ble_eq_true rfl⟩ (Nat.le_of_ble_eq_true rfl) ⟨Nat.le_of_ble_eq_true rfl, Nat.le_of_ble_eq_true rfl⟩ dX4_judge_96) (fun S_96_65 h_96_63 => ?_)
          subst h_96_63
          obtain ⟨hI_66, hx_66⟩ := hI_54.fine (i := i) hi (x := 10) (by decide) (by (try rw [uI_I, if_neg (fun z => hI_50.cne hi ⟨⟨4, by decide⟩, by omega⟩ z.1)]); rw [hm_50 _ 6 (hI_50.cne hi ⟨⟨4, by decide⟩, by omega⟩), hm_44 i hi 6]; exact hsi) (by omega) (by omega)
          have hK_66 := (hK_54).tr hx_66
          have hu_67 := hu_55.kp hx_66.1
          refine k_aload_n X (q := 0) dX4_judge_99 rfl rfl ?_
          refine gX4_40s X (S := (kfine (S_29_49.uI (A 3) 6 v_59_53) A (cz i) 10)) (st_3 hI_66.st).1 (st_3 hI_66.st).2 (sr_3_0 hI_66.st) dX4_judge_100 ?_
          refine k_aload_n X (q := 1) dX4_judge_103 rfl rfl ?_
          refine gX4_148s X (S := (kfine (S_29_49.uI (A 3) 6 v_59_53) A (cz i) 10)) hu_67.1.1 hu_67.1.2 hu_67.2.2.1 dX4_judge_104 ?_
          refine k_gotV X (vX4_203 X (S := (kfine (S_29_49.uI (A 3) 6 v_59_53) A (cz i) 10)) ⟨(st_1 hI_66.st).1, (st_1 hI_66.st).2⟩ (c_X2_bar C.l C.e0 (kfine (S_29_49.uI (A 3) 6 v_59_53) A (cz i) 10) (cz i) A hI_66.st ⟨(hI_66.at hi).1, (hI_66.at hi).2⟩) (As := [.ref (cz i)]) (rest := []) rfl rfl rfl rfl ⟨Nat.le_of_ble_eq_true rfl, Nat.le_of_ble_eq_true rfl⟩ (Nat.le_of_ble_eq_true rfl) ⟨Nat.le_of_ble_eq_true rfl, Nat.le_of_ble_eq_true rfl⟩ dX4_judge_107) (fun S_107_69 h_107_67 => ?_)
          subst h_107_67
          obtain ⟨hI_70, hx_70⟩ := hI_66.c0 (c := (cz i)) (i := 7) ⟨_, hi, rfl⟩ (by omega)
          have hK_70 := (hK_66).tr hx_70
          have hu_71 := hu_67.kp hx_70.1
          exact k_vret X E dX4_judge_110 (Nat.le_of_ble_eq_true rfl) (Nat.le_of_ble_eq_true rfl) (⟨hI_70.mono (by omega) (by omega) (by omega), hK_70⟩)
    · skip
      refine k_aload_n X (q := 0) dX4_judge_35 rfl rfl ?_
      refine k_dup X dX4_judge_36 rfl ?_
      refine gX4_28 X (S := S_29_49) (st_3 hI_50.st).1 (st_3 hI_50.st).2 dX4_judge_37 (fun v_37_72 ev_37_72 => ?_)
      refine k_iconst X (v := 1) dX4_judge_40 (by decide) ?_
      refine k_iadd X dX4_judge_41 (fun v_41_73 ev_41_73 => ?_)
      refine pX4_28 X (S := S_29_49) (st_3 hI_50.st).1 (st_3 hI_50.st).2 dX4_judge_42 ?_
      obtain ⟨hI_74, hx_74⟩ := (⟨hI_50.fI (i := 5) (v := v_41_73) (so_3 hI_50.st) (by unfold pSM; omega) (by unfold pVM pCi pHo pCh pLe pMy pMs pOf; omega) (by unfold pLu; omega), hI_50.fIk (i := 5) (v := v_41_73) (so_3 hI_50.st) (by unfold pKe; omega)⟩ : _ ∧ _)
      have hK_74 := (hK_50).tr hx_74
      have hu_75 := hu_51.kp hx_74.1
      refine k_aload_n X (q := 0) dX4_judge_45 rfl rfl ?_
      refine k_aload_n X (q := 1) dX4_judge_46 rfl rfl ?_
      refine k_gotV X (vX4_197 X (S := (S_29_49.uI (A 3) 5 v_41_73)) ⟨(st_3 hI_74.st).1, (st_3 hI_74.st).2⟩ (c_X4_punish C.l C.e0 (S_29_49.uI (A 3) 5 v_41_73) u A n cz _ _ _ hI_74 i j _ _ hu_75 hi hj hij (by (try rw [uI_I, if_neg (fun z => hI_50.cne hi ⟨⟨4, by decide⟩, by omega⟩ z.1)]); rw [hm_50 _ 6 (hI_50.cne hi ⟨⟨4, by decide⟩, by omega⟩), hm_44 i hi 6]; exact hsi) (by (try rw [uI_I, if_neg (fun z => hI_50.cne hj ⟨⟨4, by decide⟩, by omega⟩ z.1)]); rw [hm_50 _ 6 (hI_50.cne hj ⟨⟨4, by decide⟩, by omega⟩), hm_44 j hj 6]; exact hsj) (by omega)) (As := [.ref u]) (rest := []) rfl rfl rfl rfl ⟨Nat.le_of_ble_eq_true rfl, Nat.le_of_ble_eq_true rfl⟩ (Nat.le_of_ble_eq_true rfl) ⟨Nat.le_of_ble_eq_true rfl, Nat.le_of_ble_eq_true rfl⟩ dX4_judge_47) (fun S_47_77 h_47_75 => ?_)
      obtain ⟨hI_78, hx_78⟩ := h_47_75
      have hK_78 := (hK_74).tr hx_78
      have hu_79 := hu_75.kp hx_78.1
      refine k_goto (tgt := 110) X dX4_judge_50 (by decide) ?_
      exact k_vret X E dX4_judge_110 (Nat.le_of_ble_eq_true rfl) (Nat.le_of_ble_eq_true rfl) (⟨hI_78.mono (by omega) (by omega) (by omega), hK_78⟩)
