/-- the first of the first n -/
def kff (p : Nat → Bool) : Nat → Option Nat
  | 0 => none
  | n + 1 => match kff p n with
    | some i => some i
    | none => if p n = true then some n else none
theorem kff_s {p : Nat → Bool} {i : Nat} (h : kff p i = none) (hp : ¬ p i = true) : kff p (i + 1) = none := by
  unfold kff; rw [h]; exact if_neg hp
theorem kff_m {p : Nat → Bool} {i j : Nat} : ∀ n, i ≤ n → kff p i = some j → kff p n = some j
  | 0, h, q => by rw [show i = 0 by omega] at q; exact q
  | n + 1, h, q => by
    by_cases hi : i = n + 1
    · rw [← hi]; exact q
    · have := kff_m n (by omega) q
      unfold kff; rw [this]
theorem kff_hit {p : Nat → Bool} {i n : Nat} (h : kff p i = none) (hp : p i = true) (hn : i < n) : kff p n = some i := by
  refine kff_m (i := i + 1) n hn ?_
  unfold kff; rw [h]; exact if_pos hp
theorem kff_at {p : Nat → Bool} {j : Nat} : ∀ n, kff p n = some j → p j = true ∧ j < n
  | 0, q => by cases q
  | n + 1, q => by
    unfold kff at q
    cases h : kff p n with
    | some k =>
      rw [h] at q
      cases q
      have := kff_at n h
      exact ⟨this.1, by omega⟩
    | none =>
      rw [h] at q
      by_cases hp : p n = true
      · have q2 : some n = some j := (if_pos hp).symm.trans q
        cases q2
        exact ⟨hp, by omega⟩
      · have q2 : none = some j := (if_neg hp).symm.trans q
        cases q2
theorem kff_no {p : Nat → Bool} : ∀ n, kff p n = none → ∀ i, i < n → ¬ p i = true
  | 0, _, i, h => absurd h (by omega)
  | n + 1, q, i, h => by
    unfold kff at q
    cases h2 : kff p n with
    | some k => rw [h2] at q; cases q
    | none =>
      rw [h2] at q
      intro hp
      by_cases hi : i = n
      · rw [hi] at hp
        have q2 : some n = none := (if_pos hp).symm.trans q
        cases q2
      · exact kff_no n h2 i (by omega) hp
def kidx (o : Option Nat) : Int32 := match o with
  | some i => nI i
  | none => -1
def kof (A : Nat → Nat) (k : Nat) : Nat := A (60 + k)
set_option maxHeartbeats 1000000 in
set_option maxRecDepth 20000 in
theorem c_X2_officeOf (l : Launch) (e0 : Nat × Nat) (S : kS) (c : Nat) (A : Nat → Nat) (hst : kSt A S) (hO : kLs e0 S (A 11) 8 7 (kof A)) : kM l e0 yX2_officeOf cX2_officeOf 3 (Option.some Jvm.ClassFile.FieldType.int) ({ frames := 3, cells := 0, slots := 0, locals := 64 } : Room) 0 0 [.ref (A 1), .ref c] S (kQi (fun v S9 => S = S9 ∧ v = kidx (kff (fun i => decide (S.R (kof A i) 1 = some c)) 7))) := by
  refine kMetE (by decide +kernel) (Nat.le_of_ble_eq_true rfl) (fun C he hl X E hm => ?_)
  have X : kX C RX2 cX2_officeOf 3 ({ frames := 3, cells := 0, slots := 0, locals := 64 } : Room) := X
  subst he hl
  show kG C 3 S 0 0 0 [(0, .ref (A 1)), (1, .ref c)] []
  obtain ⟨P, hP⟩ : ∃ P : Nat → Bool, P = fun i => decide (S.R (kof A i) 1 = some c) := ⟨_, rfl⟩
  refine k_iconst X (v := 0) dX2_officeOf_0 (by decide) ?_
  refine k_istore_n X [(2, .int 0), (0, .ref (A 1)), (1, .ref c)] dX2_officeOf_1 rfl (by decide) rfl ?_
  have L_2 : ∀ (N : Nat) (i : Nat) (x : Int32), 7 - i = N → x = nI i → kff P i = none → i ≤ 7 → kG C 3 S 0 0 2 [(2, .int x), (0, .ref (A 1)), (1, .ref c)] [] := by
    intro N
    induction N using Nat.strongRecOn with
    | _ N ih =>
    intro i x hMs h2_0 h2_1 h2_2
    subst h2_0
    refine k_iload_n X (q := 0) dX2_officeOf_2 rfl rfl ?_
    refine k_aload_n X (q := 1) dX2_officeOf_3 rfl rfl ?_
    refine gX2_61s X (S := S) (st_1 hst).1 (st_1 hst).2 (sr_1_13 hst) dX2_officeOf_4 ?_
    refine k_gotI X (vX2_86 X (S := S) ⟨(st_11 hst).1, (st_11 hst).2⟩ (c_Jx4a65c_size_8abf5 C.l C.e0 S (A 11) (st_11 hst)) (As := []) (rest := [.int (nI i)]) rfl rfl rfl rfl ⟨Nat.le_of_ble_eq_true rfl, Nat.le_of_ble_eq_true rfl⟩ (Nat.le_of_ble_eq_true rfl) ⟨Nat.le_of_ble_eq_true rfl, Nat.le_of_ble_eq_true rfl⟩ dX2_officeOf_7) (fun v_7_2 S_7_3 h_7_0 => ?_)
    obtain ⟨rfl, ev_7_2⟩ := h_7_0
    have hz_v_7_2 : nI 7 = v_7_2 := by rw [ev_7_2]; exact (hO).2.1.symm
    subst hz_v_7_2
    refine k_icmp_ge (tgt := 39) X dX2_officeOf_10 (by decide) (fun c_10 => ?_) (fun c_10 => ?_)
    · skip
      have hin : 7 = i := by have := ge_of_le c_10 (by omega); omega
      rw [← hin] at h2_1
      refine k_iconst X (v := (-1)) dX2_officeOf_39 (by decide) ?_
      exact k_iret X E dX2_officeOf_40 (Nat.le_of_ble_eq_true rfl) (Nat.le_of_ble_eq_true rfl) (⟨rfl, by rw [← hP, h2_1]; rfl⟩)
    · skip
      have hlt : i < 7 := lt_of_nle c_10 (by omega)
      refine k_aload_n X (q := 1) dX2_officeOf_13 rfl rfl ?_
      refine gX2_61s X (S := S) (st_1 hst).1 (st_1 hst).2 (sr_1_13 hst) dX2_officeOf_14 ?_
      refine k_iload_n X (q := 0) dX2_officeOf_17 rfl rfl ?_
      refine k_gotQ X (vX2_94 X (S := S) ⟨(st_11 hst).1, (st_11 hst).2⟩ (c_Jx4a65c_get_915e3 C.l C.e0 S (A 11) 8 7 i (kof A) (hO) hlt) (As := [.int (nI i)]) (rest := []) rfl rfl rfl rfl ⟨Nat.le_of_ble_eq_true rfl, Nat.le_of_ble_eq_true rfl⟩ (Nat.le_of_ble_eq_true rfl) ⟨Nat.le_of_ble_eq_true rfl, Nat.le_of_ble_eq_true rfl⟩ dX2_officeOf_18) (fun r_18_5 S_18_6 h_18_3 => ?_)
      obtain ⟨rfl, er_18_5⟩ := h_18_3
      subst er_18_5
      refine tX2_77 X (S := S) ⟨(kLs.el (hO) hlt).1, (kLs.el (hO) hlt).2⟩ dX2_officeOf_21 ?_
      refine gX2_175 X (S := S) (kLs.el (hO) hlt).1 (kLs.el (hO) hlt).2 dX2_officeOf_24 (fun r_24_7 er_24_7 => ?_)
      refine k_aload_n X (q := 2) dX2_officeOf_27 rfl rfl ?_
      refine k_acmp_ne (rx := r_24_7) (ry := some c) (tgt := 33) X dX2_officeOf_28 (by decide) (fun c_28 => ?_) (fun c_28 => ?_)
      · skip
        have hmiss : ¬ P i = true := by rw [hP]; simp_all
        obtain ⟨v_33_8, ev_33_8⟩ : ∃ z : Int32, z = (nI i) + 1 := ⟨_, rfl⟩
        refine k_iinc X (q := 0) (v := v_33_8) [(2, .int v_33_8), (0, .ref (A 1)), (1, .ref c)] dX2_officeOf_33 rfl (by rw [ev_33_8]; rfl) (by decide) rfl ?_
        refine k_goto (tgt := 2) X dX2_officeOf_36 (by decide) ?_
        refine k_lv [0, 1, 2] _ rfl ?_
        exact ih (7 - (i + 1)) (by omega) (i + 1) _ rfl (by rw [ev_33_8, nI_1]) (kff_s h2_1 hmiss) (by omega)
      · skip
        have hhit : P i = true := by rw [hP]; simp_all
        have hfound := kff_hit h2_1 hhit hlt
        refine k_iload_n X (q := 0) dX2_officeOf_31 rfl rfl ?_
        exact k_iret X E dX2_officeOf_32 (Nat.le_of_ble_eq_true rfl) (Nat.le_of_ble_eq_true rfl) (⟨rfl, by rw [← hP, hfound]; rfl⟩)
  refine k_lv [0, 1, 2] _ rfl ?_
  exact L_2 _ 0 0 rfl nI_0.symm rfl (Nat.zero_le _)
set_option maxHeartbeats 1000000 in
set_option maxRecDepth 20000 in
theorem c_X9_isRuler (l : Launch) (e0 : Nat × Nat) (S : kS) (c : Nat) (A : Nat → Nat) (hst : kSt A S) (m : Nat) (xs : Nat → Nat) (hL : kLs e0 S (A 23) 1 m xs) (hm9 : m ≤ 100) : kM l e0 yX9_isRuler cX9_isRuler 3 (Option.some Jvm.ClassFile.FieldType.boolean) ({ frames := 3, cells := 0, slots := 0, locals := 64 } : Room) 0 0 [.ref (A 6), .ref c] S (kQi (fun v S9 => S = S9 ∧ v = kb (kff (fun i => decide (xs i = c)) m).isSome)) := by
  refine kMetE (by decide +kernel) (Nat.le_of_ble_eq_true rfl) (fun C he hl X E hm => ?_)
  have X : kX C RX9 cX9_isRuler 3 ({ frames := 3, cells := 0, slots := 0, locals := 64 } : Room) := X
  subst he hl
  show kG C 3 S 0 0 0 [(0, .ref (A 6)), (1, .ref c)] []
  obtain ⟨P, hP⟩ : ∃ P : Nat → Bool, P = fun i => decide (xs i = c) := ⟨_, rfl⟩
  refine k_iconst X (v := 0) dX9_isRuler_0 (by decide) ?_
  refine k_istore_n X [(2, .int 0), (0, .ref (A 6)), (1, .ref c)] dX9_isRuler_1 rfl (by decide) rfl ?_
  have L_2 : ∀ (N : Nat) (i : Nat) (x : Int32), m - i = N → x = nI i → kff P i = none → i ≤ m → kG C 3 S 0 0 2 [(2, .int x), (0, .ref (A 6)), (1, .ref c)] [] := by
    intro N
    induction N using Nat.strongRecOn with
    | _ N ih =>
    intro i x hMs h2_0 h2_1 h2_2
    subst h2_0
    refine k_iload_n X (q := 0) dX9_isRuler_2 rfl rfl ?_
    refine k_aload_n X (q := 1) dX9_isRuler_3 rfl rfl ?_
    refine gX9_12s X (S := S) (st_6 hst).1 (st_6 hst).2 (sr_6_3 hst) dX9_isRuler_4 ?_
    refine k_gotI X (vX9_97 X (S := S) ⟨(st_23 hst).1, (st_23 hst).2⟩ (c_Jx4a65c_size_8abf5 C.l C.e0 S (A 23) (st_23 hst)) (As := []) (rest := [.int (nI i)]) rfl rfl rfl rfl ⟨Nat.le_of_ble_eq_true rfl, Nat.le_of_ble_eq_true rfl⟩ (Nat.le_of_ble_eq_true rfl) ⟨Nat.le_of_ble_eq_true rfl, Nat.le_of_ble_eq_true rfl⟩ dX9_isRuler_7) (fun v_7_2 S_7_3 h_7_0 => ?_)
    obtain ⟨rfl, ev_7_2⟩ := h_7_0
    have hz_v_7_2 : nI m = v_7_2 := by rw [ev_7_2]; exact (hL).2.1.symm
    subst hz_v_7_2
    refine k_icmp_ge (tgt := 33) X dX9_isRuler_10 (by decide) (fun c_10 => ?_) (fun c_10 => ?_)
    · skip
      have hin : m = i := by have := ge_of_le c_10 (by omega); omega
      rw [← hin] at h2_1
      refine k_iconst X (v := 0) dX9_isRuler_33 (by decide) ?_
      exact k_zret X E (Or.inl rfl) dX9_isRuler_34 (Nat.le_of_ble_eq_true rfl) (Nat.le_of_ble_eq_true rfl) (⟨rfl, by rw [← hP, h2_1]; rfl⟩)
    · skip
      have hlt : i < m := lt_of_nle c_10 (by omega)
      refine k_aload_n X (q := 1) dX9_isRuler_13 rfl rfl ?_
      refine gX9_12s X (S := S) (st_6 hst).1 (st_6 hst).2 (sr_6_3 hst) dX9_isRuler_14 ?_
      refine k_iload_n X (q := 0) dX9_isRuler_17 rfl rfl ?_
      refine k_gotQ X (vX9_53 X (S := S) ⟨(st_23 hst).1, (st_23 hst).2⟩ (c_Jx4a65c_get_915e3 C.l C.e0 S (A 23) 1 m i xs (hL) hlt) (As := [.int (nI i)]) (rest := []) rfl rfl rfl rfl ⟨Nat.le_of_ble_eq_true rfl, Nat.le_of_ble_eq_true rfl⟩ (Nat.le_of_ble_eq_true rfl) ⟨Nat.le_of_ble_eq_true rfl, Nat.le_of_ble_eq_true rfl⟩ dX9_isRuler_18) (fun r_18_5 S_18_6 h_18_3 => ?_)
      obtain ⟨rfl, er_18_5⟩ := h_18_3
      subst er_18_5
      refine k_aload_n X (q := 2) dX9_isRuler_21 rfl rfl ?_
      refine k_acmp_ne (rx := some (xs i)) (ry := some c) (tgt := 27) X dX9_isRuler_22 (by decide) (fun c_22 => ?_) (fun c_22 => ?_)
      · skip
        have hmiss : ¬ P i = true := by rw [hP]; simp_all
        obtain ⟨v_27_7, ev_27_7⟩ : ∃ z : Int32, z = (nI i) + 1 := ⟨_, rfl⟩
        refine k_iinc X (q := 0) (v := v_27_7) [(2, .int v_27_7), (0, .ref (A 6)), (1, .ref c)] dX9_isRuler_27 rfl (by rw [ev_27_7]; rfl) (by decide) rfl ?_
        refine k_goto (tgt := 2) X dX9_isRuler_30 (by decide) ?_
        refine k_lv [0, 1, 2] _ rfl ?_
        exact ih (m - (i + 1)) (by omega) (i + 1) _ rfl (by rw [ev_27_7, nI_1]) (kff_s h2_1 hmiss) (by omega)
      · skip
        have hhit : P i = true := by rw [hP]; simp_all
        have hfound := kff_hit h2_1 hhit hlt
        refine k_iconst X (v := 1) dX9_isRuler_25 (by decide) ?_
        exact k_zret X E (Or.inr rfl) dX9_isRuler_26 (Nat.le_of_ble_eq_true rfl) (Nat.le_of_ble_eq_true rfl) (⟨rfl, by rw [← hP, hfound]; rfl⟩)
  refine k_lv [0, 1, 2] _ rfl ?_
  exact L_2 _ 0 0 rfl nI_0.symm rfl (Nat.zero_le _)
set_option maxHeartbeats 1000000 in
set_option maxRecDepth 20000 in
theorem c_X8_isStanding (l : Launch) (e0 : Nat × Nat) (S : kS) (o : Nat) (c : Nat)  (a m : Nat) (xs : Nat → Nat) (ho : S.at o 8) (hoa : S.R o 4 = some a) (hL : kLs e0 S a 1 m xs) (hm9 : m ≤ 100) : kM l e0 yX8_isStanding cX8_isStanding 3 (Option.some Jvm.ClassFile.FieldType.boolean) ({ frames := 3, cells := 0, slots := 0, locals := 64 } : Room) 0 0 [.ref o, .ref c] S (kQi (fun v S9 => S = S9 ∧ v = kb (kff (fun i => decide (xs i = c)) m).isSome)) := by
  refine kMetE (by decide +kernel) (Nat.le_of_ble_eq_true rfl) (fun C he hl X E hm => ?_)
  have X : kX C RX8 cX8_isStanding 3 ({ frames := 3, cells := 0, slots := 0, locals := 64 } : Room) := X
  subst he hl
  show kG C 3 S 0 0 0 [(0, .ref o), (1, .ref c)] []
  obtain ⟨P, hP⟩ : ∃ P : Nat → Bool, P = fun i => decide (xs i = c) := ⟨_, rfl⟩
  refine k_iconst X (v := 0) dX8_isStanding_0 (by decide) ?_
  refine k_istore_n X [(2, .int 0), (0, .ref o), (1, .ref c)] dX8_isStanding_1 rfl (by decide) rfl ?_
  have L_2 : ∀ (N : Nat) (i : Nat) (x : Int32), m - i = N → x = nI i → kff P i = none → i ≤ m → kG C 3 S 0 0 2 [(2, .int x), (0, .ref o), (1, .ref c)] [] := by
    intro N
    induction N using Nat.strongRecOn with
    | _ N ih =>
    intro i x hMs h2_0 h2_1 h2_2
    subst h2_0
    refine k_iload_n X (q := 0) dX8_isStanding_2 rfl rfl ?_
    refine k_aload_n X (q := 1) dX8_isStanding_3 rfl rfl ?_
    refine gX8_25s X (S := S) ho.1 ho.2 hoa dX8_isStanding_4 ?_
    refine k_gotI X (vX8_65 X (S := S) ⟨(hL).1.1, (hL).1.2⟩ (c_Jx4a65c_size_8abf5 C.l C.e0 S a (hL).1) (As := []) (rest := [.int (nI i)]) rfl rfl rfl rfl ⟨Nat.le_of_ble_eq_true rfl, Nat.le_of_ble_eq_true rfl⟩ (Nat.le_of_ble_eq_true rfl) ⟨Nat.le_of_ble_eq_true rfl, Nat.le_of_ble_eq_true rfl⟩ dX8_isStanding_7) (fun v_7_2 S_7_3 h_7_0 => ?_)
    obtain ⟨rfl, ev_7_2⟩ := h_7_0
    have hz_v_7_2 : nI m = v_7_2 := by rw [ev_7_2]; exact (hL).2.1.symm
    subst hz_v_7_2
    refine k_icmp_ge (tgt := 33) X dX8_isStanding_10 (by decide) (fun c_10 => ?_) (fun c_10 => ?_)
    · skip
      have hin : m = i := by have := ge_of_le c_10 (by omega); omega
      rw [← hin] at h2_1
      refine k_iconst X (v := 0) dX8_isStanding_33 (by decide) ?_
      exact k_zret X E (Or.inl rfl) dX8_isStanding_34 (Nat.le_of_ble_eq_true rfl) (Nat.le_of_ble_eq_true rfl) (⟨rfl, by rw [← hP, h2_1]; rfl⟩)
    · skip
      have hlt : i < m := lt_of_nle c_10 (by omega)
      refine k_aload_n X (q := 1) dX8_isStanding_13 rfl rfl ?_
      refine gX8_25s X (S := S) ho.1 ho.2 hoa dX8_isStanding_14 ?_
      refine k_iload_n X (q := 0) dX8_isStanding_17 rfl rfl ?_
      refine k_gotQ X (vX8_68 X (S := S) ⟨(hL).1.1, (hL).1.2⟩ (c_Jx4a65c_get_915e3 C.l C.e0 S a 1 m i xs (hL) hlt) (As := [.int (nI i)]) (rest := []) rfl rfl rfl rfl ⟨Nat.le_of_ble_eq_true rfl, Nat.le_of_ble_eq_true rfl⟩ (Nat.le_of_ble_eq_true rfl) ⟨Nat.le_of_ble_eq_true rfl, Nat.le_of_ble_eq_true rfl⟩ dX8_isStanding_18) (fun r_18_5 S_18_6 h_18_3 => ?_)
      obtain ⟨rfl, er_18_5⟩ := h_18_3
      subst er_18_5
      refine k_aload_n X (q := 2) dX8_isStanding_21 rfl rfl ?_
      refine k_acmp_ne (rx := some (xs i)) (ry := some c) (tgt := 27) X dX8_isStanding_22 (by decide) (fun c_22 => ?_) (fun c_22 => ?_)
      · skip
        have hmiss : ¬ P i = true := by rw [hP]; simp_all
        obtain ⟨v_27_7, ev_27_7⟩ : ∃ z : Int32, z = (nI i) + 1 := ⟨_, rfl⟩
        refine k_iinc X (q := 0) (v := v_27_7) [(2, .int v_27_7), (0, .ref o), (1, .ref c)] dX8_isStanding_27 rfl (by rw [ev_27_7]; rfl) (by decide) rfl ?_
        refine k_goto (tgt := 2) X dX8_isStanding_30 (by decide) ?_
        refine k_lv [0, 1, 2] _ rfl ?_
        exact ih (m - (i + 1)) (by omega) (i + 1) _ rfl (by rw [ev_27_7, nI_1]) (kff_s h2_1 hmiss) (by omega)
      · skip
        have hhit : P i = true := by rw [hP]; simp_all
        have hfound := kff_hit h2_1 hhit hlt
        refine k_iconst X (v := 1) dX8_isStanding_25 (by decide) ?_
        exact k_zret X E (Or.inr rfl) dX8_isStanding_26 (Nat.le_of_ble_eq_true rfl) (Nat.le_of_ble_eq_true rfl) (⟨rfl, by rw [← hP, hfound]; rfl⟩)
  refine k_lv [0, 1, 2] _ rfl ?_
  exact L_2 _ 0 0 rfl nI_0.symm rfl (Nat.zero_le _)
set_option maxHeartbeats 1000000 in
set_option maxRecDepth 20000 in
theorem c_X4_isContested (l : Launch) (e0 : Nat × Nat) (S : kS) (d : Nat) (A : Nat → Nat) (hst : kSt A S) (m : Nat) (xs : Nat → Nat) (hL : kLs e0 S (A 15) 10 m xs) (hm9 : m ≤ 100) : kM l e0 yX4_isContested cX4_isContested 3 (Option.some Jvm.ClassFile.FieldType.boolean) ({ frames := 3, cells := 0, slots := 0, locals := 64 } : Room) 0 0 [.ref (A 3), .ref d] S (kQi (fun v S9 => S = S9 ∧ v = kb (kff (fun i => decide (S.R (xs i) 5 = some d)) m).isSome)) := by
  refine kMetE (by decide +kernel) (Nat.le_of_ble_eq_true rfl) (fun C he hl X E hm => ?_)
  have X : kX C RX4 cX4_isContested 3 ({ frames := 3, cells := 0, slots := 0, locals := 64 } : Room) := X
  subst he hl
  show kG C 3 S 0 0 0 [(0, .ref (A 3)), (1, .ref d)] []
  obtain ⟨P, hP⟩ : ∃ P : Nat → Bool, P = fun i => decide (S.R (xs i) 5 = some d) := ⟨_, rfl⟩
  refine k_iconst X (v := 0) dX4_isContested_0 (by decide) ?_
  refine k_istore_n X [(2, .int 0), (0, .ref (A 3)), (1, .ref d)] dX4_isContested_1 rfl (by decide) rfl ?_
  have L_2 : ∀ (N : Nat) (i : Nat) (x : Int32), m - i = N → x = nI i → kff P i = none → i ≤ m → kG C 3 S 0 0 2 [(2, .int x), (0, .ref (A 3)), (1, .ref d)] [] := by
    intro N
    induction N using Nat.strongRecOn with
    | _ N ih =>
    intro i x hMs h2_0 h2_1 h2_2
    subst h2_0
    refine k_iload_n X (q := 0) dX4_isContested_2 rfl rfl ?_
    refine k_aload_n X (q := 1) dX4_isContested_3 rfl rfl ?_
    refine gX4_12s X (S := S) (st_3 hst).1 (st_3 hst).2 (sr_3_1 hst) dX4_isContested_4 ?_
    refine k_gotI X (vX4_48 X (S := S) ⟨(st_15 hst).1, (st_15 hst).2⟩ (c_Jx4a65c_size_8abf5 C.l C.e0 S (A 15) (st_15 hst)) (As := []) (rest := [.int (nI i)]) rfl rfl rfl rfl ⟨Nat.le_of_ble_eq_true rfl, Nat.le_of_ble_eq_true rfl⟩ (Nat.le_of_ble_eq_true rfl) ⟨Nat.le_of_ble_eq_true rfl, Nat.le_of_ble_eq_true rfl⟩ dX4_isContested_7) (fun v_7_2 S_7_3 h_7_0 => ?_)
    obtain ⟨rfl, ev_7_2⟩ := h_7_0
    have hz_v_7_2 : nI m = v_7_2 := by rw [ev_7_2]; exact (hL).2.1.symm
    subst hz_v_7_2
    refine k_icmp_ge (tgt := 39) X dX4_isContested_10 (by decide) (fun c_10 => ?_) (fun c_10 => ?_)
    · skip
      have hin : m = i := by have := ge_of_le c_10 (by omega); omega
      rw [← hin] at h2_1
      refine k_iconst X (v := 0) dX4_isContested_39 (by decide) ?_
      exact k_zret X E (Or.inl rfl) dX4_isContested_40 (Nat.le_of_ble_eq_true rfl) (Nat.le_of_ble_eq_true rfl) (⟨rfl, by rw [← hP, h2_1]; rfl⟩)
    · skip
      have hlt : i < m := lt_of_nle c_10 (by omega)
      refine k_aload_n X (q := 1) dX4_isContested_13 rfl rfl ?_
      refine gX4_12s X (S := S) (st_3 hst).1 (st_3 hst).2 (sr_3_1 hst) dX4_isContested_14 ?_
      refine k_iload_n X (q := 0) dX4_isContested_17 rfl rfl ?_
      refine k_gotQ X (vX4_52 X (S := S) ⟨(st_15 hst).1, (st_15 hst).2⟩ (c_Jx4a65c_get_915e3 C.l C.e0 S (A 15) 10 m i xs (hL) hlt) (As := [.int (nI i)]) (rest := []) rfl rfl rfl rfl ⟨Nat.le_of_ble_eq_true rfl, Nat.le_of_ble_eq_true rfl⟩ (Nat.le_of_ble_eq_true rfl) ⟨Nat.le_of_ble_eq_true rfl, Nat.le_of_ble_eq_true rfl⟩ dX4_isContested_18) (fun r_18_5 S_18_6 h_18_3 => ?_)
      obtain ⟨rfl, er_18_5⟩ := h_18_3
      subst er_18_5
      refine tX4_56 X (S := S) ⟨(kLs.el (hL) hlt).1, (kLs.el (hL) hlt).2⟩ dX4_isContested_21 ?_
      refine gX4_58 X (S := S) (kLs.el (hL) hlt).1 (kLs.el (hL) hlt).2 dX4_isContested_24 (fun r_24_7 er_24_7 => ?_)
      refine k_aload_n X (q := 2) dX4_isContested_27 rfl rfl ?_
      refine k_acmp_ne (rx := r_24_7) (ry := some d) (tgt := 33) X dX4_isContested_28 (by decide) (fun c_28 => ?_) (fun c_28 => ?_)
      · skip
        have hmiss : ¬ P i = true := by rw [hP]; simp_all
        obtain ⟨v_33_8, ev_33_8⟩ : ∃ z : Int32, z = (nI i) + 1 := ⟨_, rfl⟩
        refine k_iinc X (q := 0) (v := v_33_8) [(2, .int v_33_8), (0, .ref (A 3)), (1, .ref d)] dX4_isContested_33 rfl (by rw [ev_33_8]; rfl) (by decide) rfl ?_
        refine k_goto (tgt := 2) X dX4_isContested_36 (by decide) ?_
        refine k_lv [0, 1, 2] _ rfl ?_
        exact ih (m - (i + 1)) (by omega) (i + 1) _ rfl (by rw [ev_33_8, nI_1]) (kff_s h2_1 hmiss) (by omega)
      · skip
        have hhit : P i = true := by rw [hP]; simp_all
        have hfound := kff_hit h2_1 hhit hlt
        refine k_iconst X (v := 1) dX4_isContested_31 (by decide) ?_
        exact k_zret X E (Or.inr rfl) dX4_isContested_32 (Nat.le_of_ble_eq_true rfl) (Nat.le_of_ble_eq_true rfl) (⟨rfl, by rw [← hP, hfound]; rfl⟩)
  refine k_lv [0, 1, 2] _ rfl ?_
  exact L_2 _ 0 0 rfl nI_0.symm rfl (Nat.zero_le _)
set_option maxHeartbeats 1000000 in
set_option maxRecDepth 20000 in
theorem c_X6_heightOf (l : Launch) (e0 : Nat × Nat) (S : kS) (a : Nat) (x1 : Int32) (m : Nat) (xs : Nat → Nat) (hL : kLs e0 S a 1 m xs) (hm9 : m ≤ 100)  : kM l e0 yX6_heightOf cX6_heightOf 4 (Option.some Jvm.ClassFile.FieldType.int) ({ frames := 3, cells := 0, slots := 0, locals := 64 } : Room) 0 0 [.ref a, .int x1] S (kQi (fun v S9 => S = S9 ∧ v = ksum (fun i => kb (decide (S.I (xs i) 0 - S.I (xs i) 0 / 3 * 3 = x1))) m)) := by
  refine kMetE (by decide +kernel) (Nat.le_of_ble_eq_true rfl) (fun C he hl X E hm => ?_)
  have X : kX C RX6 cX6_heightOf 4 ({ frames := 3, cells := 0, slots := 0, locals := 64 } : Room) := X
  subst he hl
  show kG C 4 S 0 0 0 [(0, .ref a), (1, .int x1)] []
  obtain ⟨F, hF⟩ : ∃ F : Nat → Int32, F = fun i => kb (decide (S.I (xs i) 0 - S.I (xs i) 0 / 3 * 3 = x1)) := ⟨_, rfl⟩
  refine k_iconst X (v := 0) dX6_heightOf_0 (by decide) ?_
  refine k_istore_n X [(2, .int 0), (0, .ref a), (1, .int x1)] dX6_heightOf_1 rfl (by decide) rfl ?_
  refine k_iconst X (v := 0) dX6_heightOf_2 (by decide) ?_
  refine k_istore_n X [(3, .int 0), (2, .int 0), (0, .ref a), (1, .int x1)] dX6_heightOf_3 rfl (by decide) rfl ?_
  have L_4 : ∀ (N : Nat) (i : Nat) (x y : Int32), m - i = N → x = nI i → y = ksum F i → i ≤ m → kG C 4 S 0 0 4 [(3, .int x), (2, .int y), (0, .ref a), (1, .int x1)] [] := by
    intro N
    induction N using Nat.strongRecOn with
    | _ N ih =>
    intro i x y hMs h4_0 h4_1 h4_2
    subst h4_0 h4_1
    refine k_iload_n X (q := 0) dX6_heightOf_4 rfl rfl ?_
    refine k_aload_n X (q := 2) dX6_heightOf_5 rfl rfl ?_
    refine k_gotI X (vX6_22 X (S := S) ⟨(hL).1.1, (hL).1.2⟩ (c_Jx4a65c_size_8abf5 C.l C.e0 S a (hL).1) (As := []) (rest := [.int (nI i)]) rfl rfl rfl rfl ⟨Nat.le_of_ble_eq_true rfl, Nat.le_of_ble_eq_true rfl⟩ (Nat.le_of_ble_eq_true rfl) ⟨Nat.le_of_ble_eq_true rfl, Nat.le_of_ble_eq_true rfl⟩ dX6_heightOf_6) (fun v_6_2 S_6_3 h_6_0 => ?_)
    obtain ⟨rfl, ev_6_2⟩ := h_6_0
    have hz_v_6_2 : nI m = v_6_2 := by rw [ev_6_2]; exact (hL).2.1.symm
    subst hz_v_6_2
    refine k_icmp_ge (tgt := 38) X dX6_heightOf_9 (by decide) (fun c_9 => ?_) (fun c_9 => ?_)
    · skip
      have hin : m = i := by have := ge_of_le c_9 (by omega); omega
      subst hin
      refine k_iload_n X (q := 1) dX6_heightOf_38 rfl rfl ?_
      exact k_iret X E dX6_heightOf_39 (Nat.le_of_ble_eq_true rfl) (Nat.le_of_ble_eq_true rfl) (⟨rfl, by rw [hF]⟩)
    · skip
      have hlt : i < m := lt_of_nle c_9 (by omega)
      refine k_aload_n X (q := 2) dX6_heightOf_12 rfl rfl ?_
      refine k_iload_n X (q := 0) dX6_heightOf_13 rfl rfl ?_
      refine k_gotQ X (vX6_56 X (S := S) ⟨(hL).1.1, (hL).1.2⟩ (c_Jx4a65c_get_915e3 C.l C.e0 S a 1 m i xs (hL) hlt) (As := [.int (nI i)]) (rest := []) rfl rfl rfl rfl ⟨Nat.le_of_ble_eq_true rfl, Nat.le_of_ble_eq_true rfl⟩ (Nat.le_of_ble_eq_true rfl) ⟨Nat.le_of_ble_eq_true rfl, Nat.le_of_ble_eq_true rfl⟩ dX6_heightOf_14) (fun r_14_5 S_14_6 h_14_3 => ?_)
      obtain ⟨rfl, er_14_5⟩ := h_14_3
      subst er_14_5
      refine tX6_40 X (S := S) ⟨(kLs.el (hL) hlt).1, (kLs.el (hL) hlt).2⟩ dX6_heightOf_17 ?_
      refine gX6_59 X (S := S) (kLs.el (hL) hlt).1 (kLs.el (hL) hlt).2 dX6_heightOf_20 (fun v_20_7 ev_20_7 => ?_)
      refine k_iconst X (v := 3) dX6_heightOf_23 (by decide) ?_
      refine k_irem X dX6_heightOf_24 (by decide) (fun v_24_8 ev_24_8 => ?_)
      refine k_iload_n X (q := 3) dX6_heightOf_25 rfl rfl ?_
      refine k_icmp_ne (tgt := 32) X dX6_heightOf_26 (by decide) (fun c_26 => ?_) (fun c_26 => ?_)
      · skip
        obtain ⟨v_32_9, ev_32_9⟩ : ∃ z : Int32, z = (nI i) + 1 := ⟨_, rfl⟩
        refine k_iinc X (q := 0) (v := v_32_9) [(3, .int v_32_9), (2, .int (ksum F i)), (0, .ref a), (1, .int x1)] dX6_heightOf_32 rfl (by rw [ev_32_9]; rfl) (by decide) rfl ?_
        refine k_goto (tgt := 4) X dX6_heightOf_35 (by decide) ?_
        refine k_lv [0, 1, 2, 3] _ rfl ?_
        exact ih (m - (i + 1)) (by omega) (i + 1) _ _ rfl (by rw [ev_32_9, nI_1]) (by show _ = ksum F i + F i; rw [show F i = 0 from (by rw [hF]; (try subst_vars); simp_all [kb])]; exact (Int32.add_zero _).symm) (by omega)
      · skip
        obtain ⟨v_29_10, ev_29_10⟩ : ∃ z : Int32, z = (ksum F i) + 1 := ⟨_, rfl⟩
        refine k_iinc X (q := 1) (v := v_29_10) [(2, .int v_29_10), (3, .int (nI i)), (0, .ref a), (1, .int x1)] dX6_heightOf_29 rfl (by rw [ev_29_10]; rfl) (by decide) rfl ?_
        obtain ⟨v_32_11, ev_32_11⟩ : ∃ z : Int32, z = (nI i) + 1 := ⟨_, rfl⟩
        refine k_iinc X (q := 1) (v := v_32_11) [(3, .int v_32_11), (2, .int v_29_10), (0, .ref a), (1, .int x1)] dX6_heightOf_32 rfl (by rw [ev_32_11]; rfl) (by decide) rfl ?_
        refine k_goto (tgt := 4) X dX6_heightOf_35 (by decide) ?_
        refine k_lv [0, 1, 2, 3] _ rfl ?_
        exact ih (m - (i + 1)) (by omega) (i + 1) _ _ rfl (by rw [ev_32_11, nI_1]) (by rw [ev_29_10]; show _ = ksum F i + F i; refine congrArg (fun z => ksum F i + z) ?_; exact Eq.symm (by rw [hF]; (try subst_vars); simp_all [kb])) (by omega)
  refine k_lv [0, 1, 2, 3] _ rfl ?_
  exact L_4 _ 0 0 0 rfl nI_0.symm rfl (Nat.zero_le _)
set_option maxHeartbeats 1000000 in
set_option maxRecDepth 20000 in
theorem c_X11_agreeing (l : Launch) (e0 : Nat × Nat) (S : kS) (a : Nat) (x1 : Int32) (m : Nat) (xs : Nat → Nat) (hL : kLs e0 S a 1 m xs) (hm9 : m ≤ 100)  : kM l e0 yX11_agreeing cX11_agreeing 4 (Option.some Jvm.ClassFile.FieldType.int) ({ frames := 3, cells := 0, slots := 0, locals := 66 } : Room) 0 0 [.ref a, .int x1] S (kQi (fun v S9 => S = S9 ∧ v = ksum (fun i => kb (decide (kabs (S.I (xs i) 2 - x1) ≤ 5))) m)) := by
  refine kMetE (by decide +kernel) (Nat.le_of_ble_eq_true rfl) (fun C he hl X E hm => ?_)
  have X : kX C RX11 cX11_agreeing 4 ({ frames := 3, cells := 0, slots := 0, locals := 66 } : Room) := X
  subst he hl
  show kG C 4 S 0 0 0 [(0, .ref a), (1, .int x1)] []
  obtain ⟨F, hF⟩ : ∃ F : Nat → Int32, F = fun i => kb (decide (kabs (S.I (xs i) 2 - x1) ≤ 5)) := ⟨_, rfl⟩
  refine k_iconst X (v := 0) dX11_agreeing_0 (by decide) ?_
  refine k_istore_n X [(2, .int 0), (0, .ref a), (1, .int x1)] dX11_agreeing_1 rfl (by decide) rfl ?_
  refine k_iconst X (v := 0) dX11_agreeing_2 (by decide) ?_
  refine k_istore_n X [(3, .int 0), (2, .int 0), (0, .ref a), (1, .int x1)] dX11_agreeing_3 rfl (by decide) rfl ?_
  have L_4 : ∀ (N : Nat) (i : Nat) (x y : Int32), m - i = N → x = nI i → y = ksum F i → i ≤ m → kG C 4 S 0 0 4 [(3, .int x), (2, .int y), (0, .ref a), (1, .int x1)] [] := by
    intro N
    induction N using Nat.strongRecOn with
    | _ N ih =>
    intro i x y hMs h4_0 h4_1 h4_2
    subst h4_0 h4_1
    refine k_iload_n X (q := 0) dX11_agreeing_4 rfl rfl ?_
    refine k_aload_n X (q := 2) dX11_agreeing_5 rfl rfl ?_
    refine k_gotI X (vX11_76 X (S := S) ⟨(hL).1.1, (hL).1.2⟩ (c_Jx4a65c_size_8abf5 C.l C.e0 S a (hL).1) (As := []) (rest := [.int (nI i)]) rfl rfl rfl rfl ⟨Nat.le_of_ble_eq_true rfl, Nat.le_of_ble_eq_true rfl⟩ (Nat.le_of_ble_eq_true rfl) ⟨Nat.le_of_ble_eq_true rfl, Nat.le_of_ble_eq_true rfl⟩ dX11_agreeing_6) (fun v_6_2 S_6_3 h_6_0 => ?_)
    obtain ⟨rfl, ev_6_2⟩ := h_6_0
    have hz_v_6_2 : nI m = v_6_2 := by rw [ev_6_2]; exact (hL).2.1.symm
    subst hz_v_6_2
    refine k_icmp_ge (tgt := 36) X dX11_agreeing_9 (by decide) (fun c_9 => ?_) (fun c_9 => ?_)
    · skip
      have hin : m = i := by have := ge_of_le c_9 (by omega); omega
      subst hin
      refine k_iload_n X (q := 1) dX11_agreeing_36 rfl rfl ?_
      exact k_iret X E dX11_agreeing_37 (Nat.le_of_ble_eq_true rfl) (Nat.le_of_ble_eq_true rfl) (⟨rfl, by rw [hF]⟩)
    · skip
      have hlt : i < m := lt_of_nle c_9 (by omega)
      refine k_aload_n X (q := 2) dX11_agreeing_12 rfl rfl ?_
      refine k_iload_n X (q := 0) dX11_agreeing_13 rfl rfl ?_
      refine k_gotQ X (vX11_202 X (S := S) ⟨(hL).1.1, (hL).1.2⟩ (c_Jx4a65c_get_915e3 C.l C.e0 S a 1 m i xs (hL) hlt) (As := [.int (nI i)]) (rest := []) rfl rfl rfl rfl ⟨Nat.le_of_ble_eq_true rfl, Nat.le_of_ble_eq_true rfl⟩ (Nat.le_of_ble_eq_true rfl) ⟨Nat.le_of_ble_eq_true rfl, Nat.le_of_ble_eq_true rfl⟩ dX11_agreeing_14) (fun r_14_5 S_14_6 h_14_3 => ?_)
      obtain ⟨rfl, er_14_5⟩ := h_14_3
      subst er_14_5
      refine tX11_89 X (S := S) ⟨(kLs.el (hL) hlt).1, (kLs.el (hL) hlt).2⟩ dX11_agreeing_17 ?_
      refine k_iload_n X (q := 3) dX11_agreeing_20 rfl rfl ?_
      refine k_gotI X (vX11_621 X (S := S) ⟨(kLs.el (hL) hlt).1, (kLs.el (hL) hlt).2⟩ (c_X1_agrees C.l C.e0 S (xs i) x1 (kLs.el (hL) hlt)) (As := [.int x1]) (rest := []) rfl rfl rfl rfl ⟨Nat.le_of_ble_eq_true rfl, Nat.le_of_ble_eq_true rfl⟩ (Nat.le_of_ble_eq_true rfl) ⟨Nat.le_of_ble_eq_true rfl, Nat.le_of_ble_eq_true rfl⟩ dX11_agreeing_21) (fun v_21_8 S_21_9 h_21_6 => ?_)
      obtain ⟨rfl, ev_21_8⟩ := h_21_6
      refine k_if_eq (tgt := 30) X dX11_agreeing_24 (by decide) (fun c_24 => ?_) (fun c_24 => ?_)
      · skip
        rw [ev_21_8] at c_24
        obtain ⟨v_30_10, ev_30_10⟩ : ∃ z : Int32, z = (nI i) + 1 := ⟨_, rfl⟩
        refine k_iinc X (q := 0) (v := v_30_10) [(3, .int v_30_10), (2, .int (ksum F i)), (0, .ref a), (1, .int x1)] dX11_agreeing_30 rfl (by rw [ev_30_10]; rfl) (by decide) rfl ?_
        refine k_goto (tgt := 4) X dX11_agreeing_33 (by decide) ?_
        refine k_lv [0, 1, 2, 3] _ rfl ?_
        exact ih (m - (i + 1)) (by omega) (i + 1) _ _ rfl (by rw [ev_30_10, nI_1]) (by show _ = ksum F i + F i; rw [show F i = 0 from (by rw [hF]; (try subst_vars); simp_all [kb])]; exact (Int32.add_zero _).symm) (by omega)
      · skip
        rw [ev_21_8] at c_24
        obtain ⟨v_27_11, ev_27_11⟩ : ∃ z : Int32, z = (ksum F i) + 1 := ⟨_, rfl⟩
        refine k_iinc X (q := 1) (v := v_27_11) [(2, .int v_27_11), (3, .int (nI i)), (0, .ref a), (1, .int x1)] dX11_agreeing_27 rfl (by rw [ev_27_11]; rfl) (by decide) rfl ?_
        obtain ⟨v_30_12, ev_30_12⟩ : ∃ z : Int32, z = (nI i) + 1 := ⟨_, rfl⟩
        refine k_iinc X (q := 1) (v := v_30_12) [(3, .int v_30_12), (2, .int v_27_11), (0, .ref a), (1, .int x1)] dX11_agreeing_30 rfl (by rw [ev_30_12]; rfl) (by decide) rfl ?_
        refine k_goto (tgt := 4) X dX11_agreeing_33 (by decide) ?_
        refine k_lv [0, 1, 2, 3] _ rfl ?_
        exact ih (m - (i + 1)) (by omega) (i + 1) _ _ rfl (by rw [ev_30_12, nI_1]) (by rw [ev_27_11]; show _ = ksum F i + F i; refine congrArg (fun z => ksum F i + z) ?_; exact Eq.symm (by rw [hF]; (try subst_vars); simp_all [kb])) (by omega)
  refine k_lv [0, 1, 2, 3] _ rfl ?_
  exact L_4 _ 0 0 0 rfl nI_0.symm rfl (Nat.zero_le _)
