theorem kenu_all {P : Nat → Bool} {cz xs : Nat → Nat} : ∀ {n : Nat}, kenu P cz xs n → ∀ t, t < kcnt P n → ∃ j, j < n ∧ xs t = cz j
  | 0, _, t, ht => absurd ht (by show ¬ t < 0; omega)
  | n + 1, h, t, ht => by
    have h0 : kenu P cz xs n := fun j hj hp => h j (by omega) hp
    by_cases hp : P n = true
    · rw [kcnt_t hp] at ht
      by_cases e : t = kcnt P n
      · exact ⟨n, by omega, by rw [e]; exact h n (by omega) hp⟩
      · obtain ⟨j, h1, h2⟩ := kenu_all h0 t (by omega)
        exact ⟨j, by omega, h2⟩
    · rw [kcnt_f hp] at ht
      obtain ⟨j, h1, h2⟩ := kenu_all h0 t ht
      exact ⟨j, by omega, h2⟩
section KJU
variable {e0 : Nat × Nat} {A : Nat → Nat} {n : Nat} {cz : Nat → Nat} {T G E : Nat} {S S' : kS}
theorem kall.cl {Q : Nat → Prop} {m c r : Nat} {xs : Nat → Nat} (hl : kLc e0 S (A r) 1 m xs c) (hm : m ≤ 40) (ha : kall n cz Q m xs) : kCl e0 A n cz S r := ⟨m, xs, hl.s, hm, fun t ht => by
  obtain ⟨j, h1, h2, -⟩ := ha t ht
  exact ⟨j, h1, h2⟩⟩
theorem kI.gath (h : kI e0 A n cz T G E S) {P : Nat → Bool} {xs : Nat → Nat} {c : Nat} (hf : kFr S S' (kRo S 20)) (hl : kLc e0 S' (A 20) 1 (kcnt P n) xs c) (he : kenu P cz xs n) (hT : T ≤ 1000000) : kI e0 A n cz T G E S' ∧ kKe A S S' :=
  h.frC (by unfold clR; omega) hf ⟨_, xs, hl.s, by have := kcnt_le P n; have := h.n40; omega, kenu_all he⟩ hT
/-- a fixed row that the invariant doesn't look at -/
theorem kI.pat (h : kI e0 A n cz T G E S) {a ρ : Nat} {x v : Int32} (ha : S.O a = ρ) (hr : 41 ≤ ρ ∧ ρ < 52 ∧ ¬ ρ = 45) : kI e0 A n cz T G E (kpat S a x v) ∧ (¬ ρ = 41 → kKe A S (kpat S a x v)) := by
  unfold kpat
  by_cases h1 : x < 0
  · rw [if_pos h1]; exact ⟨h, fun _ => kKe.rf⟩
  · rw [if_neg h1]
    by_cases h2 : Int32.ofNat (S.N a) ≤ x
    · rw [if_pos h2]; exact ⟨h, fun _ => kKe.rf⟩
    · rw [if_neg h2]
      exact ⟨h.fI ha (by unfold pSM; omega) (by unfold pVM pCi pHo pCh pLe pMy pMs pOf; omega) (by unfold pLu; omega), fun h4 => h.fIk ha (by unfold pKe; omega)⟩
theorem kI.aat (h : kI e0 A n cz T G E S) {a ρ : Nat} {x v : Int32} (ha : S.O a = ρ) (hr : 41 ≤ ρ ∧ ρ < 52 ∧ ¬ ρ = 45) : kI e0 A n cz T G E (kaat S a x v) ∧ (¬ ρ = 41 → kKe A S (kaat S a x v)) := by
  unfold kaat
  by_cases h1 : x < 0
  · rw [if_pos h1]; exact ⟨h, fun _ => kKe.rf⟩
  · rw [if_neg h1]
    by_cases h2 : Int32.ofNat (S.N a) ≤ x
    · rw [if_pos h2]; exact ⟨h, fun _ => kKe.rf⟩
    · rw [if_neg h2]
      exact ⟨h.fI ha (by unfold pSM; omega) (by unfold pVM pCi pHo pCh pLe pMy pMs pOf; omega) (by unfold pLu; omega), fun h4 => h.fIk ha (by unfold pKe; omega)⟩
end KJU
set_option maxHeartbeats 1000000 in
set_option maxRecDepth 20000 in
theorem c_X4_isStrict (l : Launch) (e0 : Nat × Nat) (S : kS) (x1 : Int32) (A : Nat → Nat) (hst : kSt A S) (m : Nat) (xs : Nat → Nat) (hL : kLs e0 S (A 16) 1 m xs) (hm9 : m ≤ 100) : kM l e0 yX4_isStrict cX4_isStrict 4 (Option.some Jvm.ClassFile.FieldType.boolean) ({ frames := 3, cells := 0, slots := 0, locals := 64 } : Room) 0 0 [.ref (A 3), .int x1] S (kQi (fun v S9 => S = S9)) := by
  refine kMetE (by decide +kernel) (Nat.le_of_ble_eq_true rfl) (fun C he hl X E hm => ?_)
  have X : kX C RX4 cX4_isStrict 4 ({ frames := 3, cells := 0, slots := 0, locals := 64 } : Room) := X
  subst he hl
  show kG C 4 S 0 0 0 [(0, .ref (A 3)), (1, .int x1)] []
  refine k_iconst X (v := 0) dX4_isStrict_0 (by decide) ?_
  refine k_istore_n X [(2, .int 0), (0, .ref (A 3)), (1, .int x1)] dX4_isStrict_1 rfl (by decide) rfl ?_
  refine k_iconst X (v := 0) dX4_isStrict_2 (by decide) ?_
  refine k_istore_n X [(3, .int 0), (2, .int 0), (0, .ref (A 3)), (1, .int x1)] dX4_isStrict_3 rfl (by decide) rfl ?_
  have L_4 : ∀ (N : Nat) (i : Nat) (x y : Int32), m - i = N → x = nI i → i ≤ m → kG C 4 S 0 0 4 [(3, .int x), (2, .int y), (0, .ref (A 3)), (1, .int x1)] [] := by
    intro N
    induction N using Nat.strongRecOn with
    | _ N ih =>
    intro i x y hMs h4_0 h4_1
    subst h4_0
    refine k_iload_n X (q := 0) dX4_isStrict_4 rfl rfl ?_
    refine k_aload_n X (q := 2) dX4_isStrict_5 rfl rfl ?_
    refine gX4_18s X (S := S) (st_3 hst).1 (st_3 hst).2 (sr_3_2 hst) dX4_isStrict_6 ?_
    refine k_gotI X (vX4_48 X (S := S) ⟨(st_16 hst).1, (st_16 hst).2⟩ (c_Jx4a65c_size_8abf5 C.l C.e0 S (A 16) (st_16 hst)) (As := []) (rest := [.int (nI i)]) rfl rfl rfl rfl ⟨Nat.le_of_ble_eq_true rfl, Nat.le_of_ble_eq_true rfl⟩ (Nat.le_of_ble_eq_true rfl) ⟨Nat.le_of_ble_eq_true rfl, Nat.le_of_ble_eq_true rfl⟩ dX4_isStrict_9) (fun v_9_2 S_9_3 h_9_0 => ?_)
    obtain ⟨rfl, ev_9_2⟩ := h_9_0
    have hz_v_9_2 : nI m = v_9_2 := by rw [ev_9_2]; exact (hL).2.1.symm
    subst hz_v_9_2
    refine k_icmp_ge (tgt := 54) X dX4_isStrict_12 (by decide) (fun c_12 => ?_) (fun c_12 => ?_)
    · skip
      refine k_iconst X (v := 2) dX4_isStrict_54 (by decide) ?_
      refine k_iload_n X (q := 1) dX4_isStrict_55 rfl rfl ?_
      refine k_imul X dX4_isStrict_56 (fun v_56_4 ev_56_4 => ?_)
      refine k_aload_n X (q := 2) dX4_isStrict_57 rfl rfl ?_
      refine gX4_18s X (S := S) (st_3 hst).1 (st_3 hst).2 (sr_3_2 hst) dX4_isStrict_58 ?_
      refine k_gotI X (vX4_48 X (S := S) ⟨(st_16 hst).1, (st_16 hst).2⟩ (c_Jx4a65c_size_8abf5 C.l C.e0 S (A 16) (st_16 hst)) (As := []) (rest := [.int v_56_4]) rfl rfl rfl rfl ⟨Nat.le_of_ble_eq_true rfl, Nat.le_of_ble_eq_true rfl⟩ (Nat.le_of_ble_eq_true rfl) ⟨Nat.le_of_ble_eq_true rfl, Nat.le_of_ble_eq_true rfl⟩ dX4_isStrict_61) (fun v_61_6 S_61_7 h_61_4 => ?_)
      obtain ⟨rfl, ev_61_6⟩ := h_61_4
      have hz_v_61_6 : nI m = v_61_6 := by rw [ev_61_6]; exact (hL).2.1.symm
      subst hz_v_61_6
      refine k_icmp_le (tgt := 71) X dX4_isStrict_64 (by decide) (fun c_64 => ?_) (fun c_64 => ?_)
      · skip
        refine k_iconst X (v := 0) dX4_isStrict_71 (by decide) ?_
        exact k_zret X E (Or.inl rfl) dX4_isStrict_72 (Nat.le_of_ble_eq_true rfl) (Nat.le_of_ble_eq_true rfl) rfl
      · skip
        refine k_iconst X (v := 1) dX4_isStrict_67 (by decide) ?_
        refine k_goto (tgt := 72) X dX4_isStrict_68 (by decide) ?_
        exact k_zret X E (Or.inr rfl) dX4_isStrict_72 (Nat.le_of_ble_eq_true rfl) (Nat.le_of_ble_eq_true rfl) rfl
    · skip
      have hlt : i < m := lt_of_nle c_12 (by omega)
      refine k_iload_n X (q := 1) dX4_isStrict_15 rfl rfl ?_
      refine k_aload_n X (q := 2) dX4_isStrict_16 rfl rfl ?_
      refine gX4_18s X (S := S) (st_3 hst).1 (st_3 hst).2 (sr_3_2 hst) dX4_isStrict_17 ?_
      refine k_iload_n X (q := 0) dX4_isStrict_20 rfl rfl ?_
      refine k_gotQ X (vX4_52 X (S := S) ⟨(st_16 hst).1, (st_16 hst).2⟩ (c_Jx4a65c_get_915e3 C.l C.e0 S (A 16) 1 m i xs (hL) hlt) (As := [.int (nI i)]) (rest := [.int y]) rfl rfl rfl rfl ⟨Nat.le_of_ble_eq_true rfl, Nat.le_of_ble_eq_true rfl⟩ (Nat.le_of_ble_eq_true rfl) ⟨Nat.le_of_ble_eq_true rfl, Nat.le_of_ble_eq_true rfl⟩ dX4_isStrict_21) (fun r_21_9 S_21_10 h_21_7 => ?_)
      obtain ⟨rfl, er_21_9⟩ := h_21_7
      subst er_21_9
      refine tX4_91 X (S := S) ⟨(kLs.el (hL) hlt).1, (kLs.el (hL) hlt).2⟩ dX4_isStrict_24 ?_
      refine gX4_107 X (S := S) (kLs.el (hL) hlt).1 (kLs.el (hL) hlt).2 dX4_isStrict_27 (fun v_27_11 ev_27_11 => ?_)
      refine k_iload_n X (q := 3) dX4_isStrict_30 rfl rfl ?_
      refine k_gotI X (vX4_221 X (S := S) (c_X11_gap C.l C.e0 S v_27_11 x1 ) (As := [.int v_27_11, .int x1]) (rest := [.int y]) rfl rfl rfl rfl ⟨Nat.le_of_ble_eq_true rfl, Nat.le_of_ble_eq_true rfl⟩ (Nat.le_of_ble_eq_true rfl) ⟨Nat.le_of_ble_eq_true rfl, Nat.le_of_ble_eq_true rfl⟩ dX4_isStrict_31) (fun v_31_13 S_31_14 h_31_11 => ?_)
      obtain ⟨rfl, ev_31_13⟩ := h_31_11
      refine k_iconst X (v := 2) dX4_isStrict_34 (by decide) ?_
      refine k_icmp_gt (tgt := 42) X dX4_isStrict_35 (by decide) (fun c_35 => ?_) (fun c_35 => ?_)
      · skip
        refine k_iconst X (v := 0) dX4_isStrict_42 (by decide) ?_
        refine k_gotI X (vX4_225 X (S := S) (c_X11_asNumber C.l C.e0 S 0 ) (As := [.int 0]) (rest := [.int y]) rfl rfl rfl rfl ⟨Nat.le_of_ble_eq_true rfl, Nat.le_of_ble_eq_true rfl⟩ (Nat.le_of_ble_eq_true rfl) ⟨Nat.le_of_ble_eq_true rfl, Nat.le_of_ble_eq_true rfl⟩ dX4_isStrict_43) (fun v_43_16 S_43_17 h_43_14 => ?_)
        obtain ⟨rfl, ev_43_16⟩ := h_43_14
        refine k_iadd X dX4_isStrict_46 (fun v_46_18 ev_46_18 => ?_)
        refine k_istore_n X [(2, .int v_46_18), (3, .int (nI i)), (0, .ref (A 3)), (1, .int x1)] dX4_isStrict_47 rfl (by decide) rfl ?_
        obtain ⟨v_48_19, ev_48_19⟩ : ∃ z : Int32, z = (nI i) + 1 := ⟨_, rfl⟩
        refine k_iinc X (q := 1) (v := v_48_19) [(3, .int v_48_19), (2, .int v_46_18), (0, .ref (A 3)), (1, .int x1)] dX4_isStrict_48 rfl (by rw [ev_48_19]; rfl) (by decide) rfl ?_
        refine k_goto (tgt := 4) X dX4_isStrict_51 (by decide) ?_
        refine k_lv [0, 1, 2, 3] _ rfl ?_
        exact ih (m - (i + 1)) (by omega) (i + 1) _ _ rfl (by rw [ev_48_19, nI_1]) (by omega)
      · skip
        refine k_iconst X (v := 1) dX4_isStrict_38 (by decide) ?_
        refine k_goto (tgt := 43) X dX4_isStrict_39 (by decide) ?_
        refine k_gotI X (vX4_225 X (S := S) (c_X11_asNumber C.l C.e0 S 1 ) (As := [.int 1]) (rest := [.int y]) rfl rfl rfl rfl ⟨Nat.le_of_ble_eq_true rfl, Nat.le_of_ble_eq_true rfl⟩ (Nat.le_of_ble_eq_true rfl) ⟨Nat.le_of_ble_eq_true rfl, Nat.le_of_ble_eq_true rfl⟩ dX4_isStrict_43) (fun v_43_21 S_43_22 h_43_19 => ?_)
        obtain ⟨rfl, ev_43_21⟩ := h_43_19
        refine k_iadd X dX4_isStrict_46 (fun v_46_23 ev_46_23 => ?_)
        refine k_istore_n X [(2, .int v_46_23), (3, .int (nI i)), (0, .ref (A 3)), (1, .int x1)] dX4_isStrict_47 rfl (by decide) rfl ?_
        obtain ⟨v_48_24, ev_48_24⟩ : ∃ z : Int32, z = (nI i) + 1 := ⟨_, rfl⟩
        refine k_iinc X (q := 1) (v := v_48_24) [(3, .int v_48_24), (2, .int v_46_23), (0, .ref (A 3)), (1, .int x1)] dX4_isStrict_48 rfl (by rw [ev_48_24]; rfl) (by decide) rfl ?_
        refine k_goto (tgt := 4) X dX4_isStrict_51 (by decide) ?_
        refine k_lv [0, 1, 2, 3] _ rfl ?_
        exact ih (m - (i + 1)) (by omega) (i + 1) _ _ rfl (by rw [ev_48_24, nI_1]) (by omega)
  refine k_lv [0, 1, 2, 3] _ rfl ?_
  exact L_4 _ 0 0 0 rfl nI_0.symm (Nat.zero_le _)
set_option maxHeartbeats 1000000 in
set_option maxRecDepth 20000 in
theorem c_X4_decide (l : Launch) (e0 : Nat × Nat) (S : kS) (x1 : Int32) (A : Nat → Nat) (n : Nat) (cz : Nat → Nat) (T G Z : Nat) (h : kI e0 A n cz T G Z S)  (hb : T + 0 ≤ 900000 ∧ G + 0 ≤ 60000 ∧ Z + 0 ≤ 150000) : kM l e0 yX4_decide cX4_decide 2 (Option.some Jvm.ClassFile.FieldType.boolean) ({ frames := 4, cells := 0, slots := 0, locals := 89 } : Room) 0 0 [.ref (A 3), .int x1] S (kQi (fun v S9 => kI e0 A n cz (T + 0) (G + 0) (Z + 0) S9 ∧ kKe A S S9 ∧ ∀ b j, ¬ b = A 3 → S9.I b j = S.I b j)) := by
  refine kMetE (by decide +kernel) (Nat.le_of_ble_eq_true rfl) (fun C he hl X E hm => ?_)
  have X : kX C RX4 cX4_decide 2 ({ frames := 4, cells := 0, slots := 0, locals := 89 } : Room) := X
  subst he hl
  show kG C 2 S 0 0 0 [(0, .ref (A 3)), (1, .int x1)] []
  have hn := h.n40
  obtain ⟨m, xs, hL, hm9, hxs⟩ := h.cl (r := 16) (by unfold clR; omega)
  refine k_aload_n X (q := 0) dX4_decide_0 rfl rfl ?_
  refine k_aload_n X (q := 0) dX4_decide_1 rfl rfl ?_
  refine gX4_18s X (S := S) (st_3 h.st).1 (st_3 h.st).2 (sr_3_2 h.st) dX4_decide_2 ?_
  refine k_iload_n X (q := 1) dX4_decide_5 rfl rfl ?_
  refine k_gotI X (vX4_100 X (S := S) (c_X11_agreeing C.l C.e0 S (A 16) x1  m xs (hL) (by omega)) (As := [.ref (A 16), .int x1]) (rest := [.ref (A 3)]) rfl rfl rfl rfl ⟨Nat.le_of_ble_eq_true rfl, Nat.le_of_ble_eq_true rfl⟩ (Nat.le_of_ble_eq_true rfl) ⟨Nat.le_of_ble_eq_true rfl, Nat.le_of_ble_eq_true rfl⟩ dX4_decide_6) (fun v_6_2 S_6_3 h_6_0 => ?_)
  obtain ⟨rfl, ev_6_2⟩ := h_6_0
  refine pX4_24 X (S := S) (st_3 h.st).1 (st_3 h.st).2 dX4_decide_9 ?_
  have hLk_4 := (hL).uI (b := (A 3)) (j := 4) (v := v_6_2) (κb := 4) ⟨(st_3 h.st).1, (st_3 h.st).2⟩ (by decide)
  obtain ⟨hI_5, hx_5⟩ := (⟨h.fI (i := 4) (v := v_6_2) (so_3 h.st) (by unfold pSM; omega) (by unfold pVM pCi pHo pCh pLe pMy pMs pOf; omega) (by unfold pLu; omega), h.fIk (i := 4) (v := v_6_2) (so_3 h.st) (by unfold pKe; omega)⟩ : _ ∧ _)
  have hK_5 := (kKe.rf).tr hx_5
  refine k_iconst X (v := 2) dX4_decide_12 (by decide) ?_
  refine k_aload_n X (q := 0) dX4_decide_13 rfl rfl ?_
  refine gX4_24 X (S := (S.uI (A 3) 4 v_6_2)) (st_3 hI_5.st).1 (st_3 hI_5.st).2 dX4_decide_14 (fun v_14_6 ev_14_6 => ?_)
  refine k_imul X dX4_decide_17 (fun v_17_7 ev_17_7 => ?_)
  refine k_aload_n X (q := 0) dX4_decide_18 rfl rfl ?_
  refine gX4_18s X (S := (S.uI (A 3) 4 v_6_2)) (st_3 hI_5.st).1 (st_3 hI_5.st).2 (sr_3_2 hI_5.st) dX4_decide_19 ?_
  refine k_gotI X (vX4_48 X (S := (S.uI (A 3) 4 v_6_2)) ⟨(st_16 hI_5.st).1, (st_16 hI_5.st).2⟩ (c_Jx4a65c_size_8abf5 C.l C.e0 (S.uI (A 3) 4 v_6_2) (A 16) (st_16 hI_5.st)) (As := []) (rest := [.int v_17_7]) rfl rfl rfl rfl ⟨Nat.le_of_ble_eq_true rfl, Nat.le_of_ble_eq_true rfl⟩ (Nat.le_of_ble_eq_true rfl) ⟨Nat.le_of_ble_eq_true rfl, Nat.le_of_ble_eq_true rfl⟩ dX4_decide_22) (fun v_22_9 S_22_10 h_22_7 => ?_)
  obtain ⟨rfl, ev_22_9⟩ := h_22_7
  have hz_v_22_9 : nI m = v_22_9 := by rw [ev_22_9]; exact (hLk_4).2.1.symm
  subst hz_v_22_9
  refine k_icmp_le (tgt := 32) X dX4_decide_25 (by decide) (fun c_25 => ?_) (fun c_25 => ?_)
  · skip
    refine k_iconst X (v := 0) dX4_decide_32 (by decide) ?_
    exact k_zret X E (Or.inl rfl) dX4_decide_33 (Nat.le_of_ble_eq_true rfl) (Nat.le_of_ble_eq_true rfl) (⟨hI_5.mono (by omega) (by omega) (by omega), hK_5, fun b j hb9 => by rw [uI_I, if_neg (fun z => hb9 z.1)]⟩)
  · skip
    refine k_iconst X (v := 1) dX4_decide_28 (by decide) ?_
    refine k_goto (tgt := 33) X dX4_decide_29 (by decide) ?_
    exact k_zret X E (Or.inr rfl) dX4_decide_33 (Nat.le_of_ble_eq_true rfl) (Nat.le_of_ble_eq_true rfl) (⟨hI_5.mono (by omega) (by omega) (by omega), hK_5, fun b j hb9 => by rw [uI_I, if_neg (fun z => hb9 z.1)]⟩)
set_option maxHeartbeats 1000000 in
set_option maxRecDepth 20000 in
theorem c_X4_drawJury (l : Launch) (e0 : Nat × Nat) (S : kS) (o1 : Option Nat) (o2 : Option Nat) (A : Nat → Nat) (n : Nat) (cz : Nat → Nat) (T G Z : Nat) (h : kI e0 A n cz T G Z S) (w0 : Nat) (hw0 : w0 ≤ 2) (hb : T + 161 ≤ 900000 ∧ G + 0 ≤ 60000 ∧ Z + 0 ≤ 150000) : kM l e0 yX4_drawJury cX4_drawJury 5 none ({ frames := 9, cells := 48, slots := 2560, locals := 241 } : Room) 48 2560 [.ref (A 3), .int (nI w0), va_rf o1, va_rf o2] S (kQv (fun S9 => kI e0 A n cz (T + 161) (G + 0) (Z + 0) S9 ∧ kKe A S S9 ∧ ∀ i, i < n → ∀ f, S9.I (cz i) f = S.I (cz i) f)) := by
  refine kMetE (by decide +kernel) (by simp [lg_sl, va_cat, cat_i, cat_r, cat_l]) (fun C he hl X E hm => ?_)
  have X : kX C RX4 cX4_drawJury 5 ({ frames := 9, cells := 48, slots := 2560, locals := 241 } : Room) := X
  subst he hl
  rw [show lv_args 0 [.ref (A 3), .int (nI w0), va_rf o1, va_rf o2] = [(0, .ref (A 3)), (1, .int (nI w0)), (2, va_rf o1), (3, va_rf o2)] from by simp [lv_args, va_cat, cat_i, cat_r, cat_l]]
  show kG C 5 S 0 0 0 [(0, .ref (A 3)), (1, .int (nI w0)), (2, va_rf o1), (3, va_rf o2)] []
  have hn := h.n40
  obtain ⟨m0, xs0, hL0, -, -⟩ := h.cl (r := 16) (by unfold clR; omega)
  refine k_aload_n X (q := 0) dX4_drawJury_0 rfl rfl ?_
  refine gX4_18s X (S := S) (st_3 h.st).1 (st_3 h.st).2 (sr_3_2 h.st) dX4_drawJury_1 ?_
  refine k_gotV X (vX4_62 X (S := S) ⟨(st_16 h.st).1, (st_16 h.st).2⟩ (c_Jx4a65c_clear_da8c8 C.l C.e0 S (A 16) 1 m0 xs0 hL0) (As := []) (rest := []) rfl rfl rfl rfl ⟨Nat.le_of_ble_eq_true rfl, Nat.le_of_ble_eq_true rfl⟩ (Nat.le_of_ble_eq_true rfl) ⟨(by show _ ≤ 48; omega), (by show _ ≤ 2560; omega)⟩ dX4_drawJury_4) (fun S_4_2 h_4_0 => ?_)
  obtain ⟨hfr0, hls0, -⟩ := h_4_0
  rw [so_16 h.st] at hfr0
  obtain ⟨c0, hlc0⟩ := hls0.c
  obtain ⟨hI0, hK0⟩ := h.frC (r := 16) (by unfold clR; omega) hfr0 ⟨0, _, hls0, by omega, fun t ht => absurd ht (by omega)⟩ (by omega)
  have hc0 : ∀ b j, b ∈ S.L → ¬ (S.O b = 16 ∨ S.O b = 116) → S_4_2.I b j = S.I b j := fun b j hb9 hn9 => (hfr0.2 b hb9 hn9).1 j
  refine k_iconst X (v := 0) dX4_drawJury_7 (by decide) ?_
  refine k_istore X [(4, .int 0), (0, .ref (A 3)), (1, .int (nI w0)), (2, va_rf o1), (3, va_rf o2)] dX4_drawJury_8 (by decide) (by simp [List.filter, va_cat]) ?_
  have L_10 : ∀ (N : Nat) (i : Nat) (x : Int32) (Si : kS), 4 - i = N → x = nI i → (i ≤ 4 ∧ kI C.e0 A n cz (T + 40 * i) G Z Si ∧ kKe A S Si ∧ (∀ i, i < n → ∀ f, Si.I (cz i) f = S.I (cz i) f) ∧ ∃ mb ys cb, kLc C.e0 Si (A 16) 1 mb ys cb ∧ mb ≤ 6 * i ∧ kall n cz (fun _ => True) mb ys) → kG C 5 Si (12 * i) (640 * i) 10 [(4, .int x), (0, .ref (A 3)), (1, .int (nI w0)), (2, va_rf o1), (3, va_rf o2)] [] := by
    intro N
    induction N using Nat.strongRecOn with
    | _ N ih =>
    intro i x Si hMs h10_0 h10_1
    subst h10_0
    obtain ⟨hi4, hIi, hKi, hci, mb, ys, cb, hlb, hmb, hab⟩ := h10_1
    refine k_iload X (q := 0) dX4_drawJury_10 rfl ?_
    refine k_iconst X (v := 4) dX4_drawJury_12 (by decide) ?_
    refine k_icmp_ge (tgt := 49) X dX4_drawJury_13 (by decide) (fun c_13 => ?_) (fun c_13 => ?_)
    · skip
      have hi44 : 4 = i := by have := ge_of_le (m := 4) c_13 (by omega); omega
      subst hi44
      refine k_aload_n X (q := 1) dX4_drawJury_49 rfl rfl ?_
      refine gX4_40s X (S := Si) (st_3 hIi.st).1 (st_3 hIi.st).2 (sr_3_0 hIi.st) dX4_drawJury_50 ?_
      refine k_aload_n X (q := 1) dX4_drawJury_53 rfl rfl ?_
      refine gX4_18s X (S := Si) (st_3 hIi.st).1 (st_3 hIi.st).2 (sr_3_2 hIi.st) dX4_drawJury_54 ?_
      refine k_gotI X (vX4_48 X (S := Si) ⟨(st_16 hIi.st).1, (st_16 hIi.st).2⟩ (c_Jx4a65c_size_8abf5 C.l C.e0 Si (A 16) (st_16 hIi.st)) (As := []) (rest := [.ref (A 1)]) rfl rfl rfl rfl ⟨Nat.le_of_ble_eq_true rfl, Nat.le_of_ble_eq_true rfl⟩ (Nat.le_of_ble_eq_true rfl) ⟨(by show _ ≤ 48; omega), (by show _ ≤ 2560; omega)⟩ dX4_drawJury_57) (fun v_57_4 S_57_5 h_57_2 => ?_)
      obtain ⟨rfl, ev_57_4⟩ := h_57_2
      have hz_v_57_4 : nI mb = v_57_4 := by rw [ev_57_4]; exact (hlb.s).2.1.symm
      subst hz_v_57_4
      refine k_gotI X (vX4_81 X (S := Si) ⟨(st_1 hIi.st).1, (st_1 hIi.st).2⟩ (c_X2_payOut C.l C.e0 Si (nI mb) A hIi.st ) (As := [.int (nI mb)]) (rest := []) rfl rfl rfl rfl ⟨Nat.le_of_ble_eq_true rfl, Nat.le_of_ble_eq_true rfl⟩ (Nat.le_of_ble_eq_true rfl) ⟨(by show _ ≤ 48; omega), (by show _ ≤ 2560; omega)⟩ dX4_drawJury_60) (fun v_60_7 S_60_8 h_60_5 => ?_)
      obtain ⟨rfl, ev_60_7⟩ := h_60_5
      obtain ⟨hI_9, hx_9⟩ := hIi.pay (x := (nI mb)) (by rw [nI_toInt (by omega)]; omega) (by omega)
      have hK_9 := (hKi).tr hx_9
      refine k_if_ne (tgt := 79) X dX4_drawJury_63 (by decide) (fun c_63 => ?_) (fun c_63 => ?_)
      · skip
        rw [ev_60_7] at c_63
        exact k_vret X E dX4_drawJury_79 (by show _ ≤ 48; omega) (by show _ ≤ 2560; omega) (⟨hI_9.mono (by omega) (by omega) (by omega), hK_9, fun j hj f => by have h19 : ¬ cz j = A 1 := h.one hj; unfold kpay; simp only [uI_I, h19, false_and, if_false]; exact hci j hj f⟩)
      · skip
        rw [ev_60_7] at c_63
        refine k_aload_n X (q := 1) dX4_drawJury_66 rfl rfl ?_
        refine gX4_40s X (S := (kpay Si A (nI mb))) (st_3 hI_9.st).1 (st_3 hI_9.st).2 (sr_3_0 hI_9.st) dX4_drawJury_67 ?_
        refine k_dup X dX4_drawJury_70 rfl ?_
        refine gX4_85 X (S := (kpay Si A (nI mb))) (st_1 hI_9.st).1 (st_1 hI_9.st).2 dX4_drawJury_71 (fun v_71_10 ev_71_10 => ?_)
        refine k_iconst X (v := 1) dX4_drawJury_74 (by decide) ?_
        refine k_iadd X dX4_drawJury_75 (fun v_75_11 ev_75_11 => ?_)
        refine pX4_85 X (S := (kpay Si A (nI mb))) (st_1 hI_9.st).1 (st_1 hI_9.st).2 dX4_drawJury_76 ?_
        have hun : 0 ≤ (v_75_11).toInt ∧ (v_75_11).toInt ≤ 3 * ((T + 161 : Nat) : Int) := by
          obtain ⟨-, ⟨u1, u2⟩, -⟩ := hI_9.ms
          rw [ev_75_11, i_add (by rw [ev_71_10, t_1]; omega) (by rw [ev_71_10, t_1]; omega), ev_71_10, t_1]
          omega
        obtain ⟨hI_12, hx_12⟩ := (hI_9.mono (T' := T + 161) (by omega) (Nat.le_refl _) (Nat.le_refl _)).un hun
        have hK_12 := (hK_9).tr hx_12
        exact k_vret X E dX4_drawJury_79 (by show _ ≤ 48; omega) (by show _ ≤ 2560; omega) (⟨hI_12.mono (by omega) (by omega) (by omega), hK_12, fun j hj f => by have h19 : ¬ cz j = A 1 := h.one hj; unfold kpay; simp only [uI_I, h19, false_and, if_false]; exact hci j hj f⟩)
    · skip
      have hlt : i < 4 := lt_of_nle c_13 (by omega)
      obtain ⟨mt0, xt0, hLt0, -, -⟩ := hIi.cl (r := 17) (by unfold clR; omega)
      refine k_aload_n X (q := 1) dX4_drawJury_16 rfl rfl ?_
      refine k_iload X (q := 0) dX4_drawJury_17 rfl ?_
      refine k_aload_nQ X (q := 3) dX4_drawJury_19 rfl rfl ?_
      refine k_aload_nQ X (q := 4) dX4_drawJury_20 rfl rfl ?_
      refine k_gotV X (vX4_65 X (S := Si) ⟨(st_3 hIi.st).1, (st_3 hIi.st).2⟩ (c_X4_gatherJurors C.l C.e0 Si (nI i) o1 o2 A n cz hIi.st hIi.hC hn hIi.oc mt0 xt0 hLt0) (As := [.int (nI i), va_rf o1, va_rf o2]) (rest := []) rfl rfl rfl rfl ⟨Nat.le_of_ble_eq_true rfl, Nat.le_of_ble_eq_true rfl⟩ (Nat.le_of_ble_eq_true rfl) ⟨(by show _ ≤ 48; omega), (by show _ ≤ 2560; omega)⟩ dX4_drawJury_21) (fun S_21_14 h_21_12 => ?_)
      obtain ⟨hfg, mt, xt, ct, hlt9, hmt, hat⟩ := h_21_12
      obtain ⟨hI1, hK1⟩ := hIi.frC (r := 17) (by unfold clR; omega) hfg (kall.cl hlt9 (by omega) hat) (by omega)
      have hK2 := hKi.tr hK1
      have hlb1 := hlb.frR (so_16 hIi.st) hfg (by decide) (by decide) (by decide)
      refine k_aload_n X (q := 1) dX4_drawJury_24 rfl rfl ?_
      refine gX4_40s X (S := S_21_14) (st_3 hI1.st).1 (st_3 hI1.st).2 (sr_3_0 hI1.st) dX4_drawJury_25 ?_
      refine gX4_69s X (S := S_21_14) (st_1 hI1.st).1 (st_1 hI1.st).2 (sr_1_11 hI1.st) dX4_drawJury_28 ?_
      refine k_aload_n X (q := 1) dX4_drawJury_31 rfl rfl ?_
      refine gX4_21s X (S := S_21_14) (st_3 hI1.st).1 (st_3 hI1.st).2 (sr_3_3 hI1.st) dX4_drawJury_32 ?_
      refine k_iload_n X (q := 2) dX4_drawJury_35 rfl rfl ?_
      refine k_aload_n X (q := 1) dX4_drawJury_36 rfl rfl ?_
      refine gX4_18s X (S := S_21_14) (st_3 hI1.st).1 (st_3 hI1.st).2 (sr_3_2 hI1.st) dX4_drawJury_37 ?_
      refine k_gotV X (vX4_75 X (S := S_21_14) ⟨(st_7 hI1.st).1, (st_7 hI1.st).2⟩ (c_X6_takeRows C.l C.e0 S_21_14 (A 17) (A 16) A hI1.st w0 mt mb cb 17 16 xt ys hlt9.s (by omega) hlb1 (so_17 hI1.st) (so_16 hI1.st) (by omega) (by omega) (by omega) (by omega) hI1.lu.1 hw0) (As := [.ref (A 17), .int (nI w0), .ref (A 16)]) (rest := []) rfl rfl rfl rfl ⟨Nat.le_of_ble_eq_true rfl, Nat.le_of_ble_eq_true rfl⟩ (Nat.le_of_ble_eq_true rfl) ⟨(by show _ ≤ 48; omega), (by show _ ≤ 2560; omega)⟩ dX4_drawJury_40) (fun S_40_16 h_40_14 => ?_)
      obtain ⟨hfq, mq, yq, cq, rq, hlq, hap, hmq, hrq, hluq, hdrq⟩ := h_40_14
      have haq : kall n cz (fun _ => True) mq yq := fun t ht => by
        rcases hap.2 t ht with ⟨g1, g2⟩ | ⟨g1, g2, g3⟩
        · rw [g2]; exact hab t g1
        · rw [g3]; exact hat g1 g2
      obtain ⟨hI3, hK3⟩ := hI1.frD (r := 16) (t := rq) (by unfold clR; omega) hfq (kall.cl hlq (by omega) haq) hluq hdrq (by omega)
      have hK4 := hK2.tr hK3
      have hc3 : ∀ i, i < n → ∀ f, S_40_16.I (cz i) f = S.I (cz i) f := fun j hj f => by
        rw [(hfq.2 _ (hI1.at hj).1 (fun z => by have h5 := hI1.oc j hj; rcases z with (z | z) | z <;> omega)).1 f, (hfg.2 _ (hIi.at hj).1 (fun z => by unfold kRo at z; rw [hIi.oc j hj] at z; omega)).1 f]
        exact hci j hj f
      obtain ⟨v_43_17, ev_43_17⟩ : ∃ z : Int32, z = (nI i) + 1 := ⟨_, rfl⟩
      refine k_iinc X (q := 0) (v := v_43_17) [(4, .int v_43_17), (0, .ref (A 3)), (1, .int (nI w0)), (2, va_rf o1), (3, va_rf o2)] dX4_drawJury_43 rfl (by rw [ev_43_17]; rfl) (by decide) (by simp [List.filter, va_cat]) ?_
      refine k_goto (tgt := 10) X dX4_drawJury_46 (by decide) ?_
      refine k_lv [0, 1, 2, 3, 4] _ rfl ?_
      refine k_room (k' := 12 * (i + 1)) (n' := 640 * (i + 1)) (by omega) (by omega) ?_
      exact ih (4 - (i + 1)) (by omega) (i + 1) _ _ rfl (by rw [ev_43_17, nI_1]) ⟨by omega, hI3.mono (by omega) (by omega) (by omega), hK4, hc3, mq, yq, cq, hlq, by omega, haq⟩
  refine k_lv [0, 1, 2, 3, 4] _ rfl ?_
  exact L_10 _ 0 0 _ rfl nI_0.symm ⟨by omega, hI0, hK0, fun j hj f => hc0 _ f (h.at hj).1 (by rw [h.oc j hj]; omega), 0, _, c0, hlc0, by omega, kall_0⟩
