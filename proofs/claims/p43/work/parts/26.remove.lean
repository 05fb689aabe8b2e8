theorem kLc.fr {e0 : Nat × Nat} {S S' : kS} {P : Nat → Prop} {a κ m c : Nat} {xs : Nat → Nat} (h : kLc e0 S a κ m xs c) (hf : kFr S S' P) (hp : ∀ b, b ∈ S.L → kRo S (S.O a) b → ¬ P b) : kLc e0 S' a κ m xs c := by
  obtain ⟨h1, h2, b, h3, h4⟩ := h
  have ha := hf.2 a h1.1 (hp a h1.1 (Or.inl rfl))
  refine ⟨hf.at h1, by rw [ha.1]; exact h2, b, by rw [ha.2]; exact h3, ?_⟩
  rcases h4 with h5 | ⟨h5, h6, h7, h8, h9, h10⟩
  · exact Or.inl h5
  · have hb := hf.2 b h5.1 (hp b h5.1 (Or.inr h6))
    exact Or.inr ⟨hf.at h5, by rw [(hf.1 b h5.1).2.2.1, (hf.1 a h1.1).2.2.1]; exact h6, by rw [(hf.1 b h5.1).2.2.2]; exact h7, h8, h9, fun i hi => ⟨by rw [hb.2]; exact (h10 i hi).1, hf.at (h10 i hi).2⟩⟩
theorem kLc.u0 {e0 : Nat × Nat} {S : kS} {a κ m c : Nat} {xs : Nat → Nat} {v : Int32} (h : kLc e0 S a κ m xs c) : kLc e0 (S.uI a 0 v) a κ m xs c := by
  obtain ⟨h1, h2, h3⟩ := h
  exact ⟨h1, by rw [uI_I, if_neg (by omega)]; exact h2, h3⟩
/-- the things of a list without the one at j -/
def kxr (xs : Nat → Nat) (j : Nat) : Nat → Nat := fun i => if i < j then xs i else xs (i + 1)
set_option maxHeartbeats 1000000 in
set_option maxRecDepth 20000 in
theorem c_Jx4a65c_add_9ea2d (l : Launch) (e0 : Nat × Nat) (S : kS) (a κ m c x : Nat) (xs : Nat → Nat) (hκ : kEl κ) (h : kLc e0 S a κ m xs c) (hx : S.at x κ) (hm64 : m ≤ 64) : kM l e0 yJx4a65c_add_9ea2d cJx4a65c_add_9ea2d 2 (Option.some Jvm.ClassFile.FieldType.boolean) ({ frames := 6, cells := (kmc c m), slots := (kms c m), locals := 170 } : Room) (kmc c m) (kms c m) [.ref a, .ref x] S (kQi (fun v S9 => v = 1 ∧ kFr S S9 (kRo S (S.O a)) ∧ kLc e0 S9 a κ (m + 1) (va_up xs m x) (knc c m))) := by
  refine kMetE (by decide +kernel) (Nat.le_of_ble_eq_true rfl) (fun C he hl X E hm => ?_)
  have X : kX C RJx4a65c cJx4a65c_add_9ea2d 2 ({ frames := 6, cells := (kmc c m), slots := (kms c m), locals := 170 } : Room) := X
  subst he hl
  show kG C 2 S 0 0 0 [(0, .ref a), (1, .ref x)] []
  have ha := h.1
  obtain ⟨b, hb, -⟩ := h.2.2
  refine k_aload_n X (q := 0) dJx4a65c_add_9ea2d_0 rfl rfl ?_
  refine k_dup X dJx4a65c_add_9ea2d_1 rfl ?_
  refine gJx4a65c_63 X (S := S) ha.1 ha.2 dJx4a65c_add_9ea2d_2 (fun v_2_1 ev_2_1 => ?_)
  refine k_iconst X (v := 1) dJx4a65c_add_9ea2d_5 (by decide) ?_
  refine k_iadd X dJx4a65c_add_9ea2d_6 (fun v_6_2 ev_6_2 => ?_)
  refine pJx4a65c_63 X (S := S) ha.1 ha.2 dJx4a65c_add_9ea2d_7 ?_
  refine k_aload_n X (q := 0) dJx4a65c_add_9ea2d_10 rfl rfl ?_
  refine k_aload_n X (q := 1) dJx4a65c_add_9ea2d_11 rfl rfl ?_
  refine k_aload_n X (q := 0) dJx4a65c_add_9ea2d_12 rfl rfl ?_
  refine gJx4a65c_9s X (S := (S.uI a 0 v_6_2)) ha.1 ha.2 hb dJx4a65c_add_9ea2d_13 ?_
  refine k_aload_n X (q := 0) dJx4a65c_add_9ea2d_16 rfl rfl ?_
  refine gJx4a65c_48 X (S := (S.uI a 0 v_6_2)) ha.1 ha.2 dJx4a65c_add_9ea2d_17 (fun v_17_3 ev_17_3 => ?_)
  have hv9 : nI m = v_17_3 := by rw [ev_17_3, uI_I, if_neg (by omega)]; exact h.2.1.symm
  subst hv9
  refine k_gotV X (vJx4a65c_131 X (S := (S.uI a 0 v_6_2)) ⟨ha.1, ha.2⟩ (c_Jx4a65c_add_72be8 C.l C.e0 (S.uI a 0 v_6_2) a κ m c x b xs hκ h.u0 hb hx hm64) (As := [.ref x, .ref b, .int (nI m)]) (rest := []) rfl rfl rfl rfl ⟨Nat.le_of_ble_eq_true rfl, Nat.le_of_ble_eq_true rfl⟩ (Nat.le_of_ble_eq_true rfl) ⟨(by show 0 + _ ≤ kmc c m; omega), (by show 0 + _ ≤ kms c m; omega)⟩ dJx4a65c_add_9ea2d_20) (fun S_20_5 h_20_3 => ?_)
  obtain ⟨hfr, hls⟩ := h_20_3
  refine k_iconst X (v := 1) dJx4a65c_add_9ea2d_23 (by decide) ?_
  exact k_zret X E (Or.inr rfl) dJx4a65c_add_9ea2d_24 (by show 0 + kmc c m ≤ kmc c m; omega) (by show 0 + kms c m ≤ kms c m; omega) (⟨rfl, kFr.trR (kFr.uI (P := kRo S (S.O a)) (a := a) (kFr.rf S _) (Or.inl rfl)) hfr, hls⟩)
set_option maxHeartbeats 1000000 in
set_option maxRecDepth 20000 in
theorem c_Jxa1e45_init_da8c8 (l : Launch) (e0 : Nat × Nat) (S : kS) (a : Nat) : kM l e0 yJxa1e45_init_da8c8 cJxa1e45_init_da8c8 1 none ({ frames := 1, cells := 0, slots := 0, locals := 24 } : Room) 0 0 [.ref a] S (kQv (fun S9 => S = S9)) := by
  refine kMetE (by decide +kernel) (Nat.le_of_ble_eq_true rfl) (fun C he hl X E hm => ?_)
  have X : kX C RJxa1e45 cJxa1e45_init_da8c8 1 ({ frames := 1, cells := 0, slots := 0, locals := 24 } : Room) := X
  subst he hl
  show kG C 1 S 0 0 0 [(0, .ref a)] []
  refine k_aload_n X (q := 0) dJxa1e45_init_da8c8_0 rfl rfl ?_
  refine k_objInit X qmJxa1e45_1 (Nat.le_of_ble_eq_true rfl) (Nat.le_of_ble_eq_true rfl) dJxa1e45_init_da8c8_1 ?_
  exact k_vret X E dJxa1e45_init_da8c8_4 (Nat.le_of_ble_eq_true rfl) (Nat.le_of_ble_eq_true rfl) rfl
set_option maxHeartbeats 1000000 in
set_option maxRecDepth 20000 in
theorem c_Jxc12de_init_da8c8 (l : Launch) (e0 : Nat × Nat) (S : kS) (a : Nat) (ha : S.at a 12) : kM l e0 yJxc12de_init_da8c8 cJxc12de_init_da8c8 1 none ({ frames := 2, cells := 0, slots := 0, locals := 44 } : Room) 0 0 [.ref a] S (kQv (fun S9 => S9 = S.uI a 0 0)) := by
  refine kMetE (by decide +kernel) (Nat.le_of_ble_eq_true rfl) (fun C he hl X E hm => ?_)
  have X : kX C RJxc12de cJxc12de_init_da8c8 1 ({ frames := 2, cells := 0, slots := 0, locals := 44 } : Room) := X
  subst he hl
  show kG C 1 S 0 0 0 [(0, .ref a)] []
  refine k_aload_n X (q := 0) dJxc12de_init_da8c8_0 rfl rfl ?_
  refine k_gotV X (vJxc12de_1 X (S := S) (c_Jxa1e45_init_da8c8 C.l C.e0 S a) (As := []) (rest := []) rfl rfl rfl rfl ⟨Nat.le_of_ble_eq_true rfl, Nat.le_of_ble_eq_true rfl⟩ (Nat.le_of_ble_eq_true rfl) ⟨Nat.le_of_ble_eq_true rfl, Nat.le_of_ble_eq_true rfl⟩ dJxc12de_init_da8c8_1) (fun S_1_2 h_1_0 => ?_)
  subst h_1_0
  refine k_aload_n X (q := 0) dJxc12de_init_da8c8_4 rfl rfl ?_
  refine k_iconst X (v := 0) dJxc12de_init_da8c8_5 (by decide) ?_
  refine pJxc12de_7 X (S := S) ha.1 ha.2 dJxc12de_init_da8c8_6 ?_
  exact k_vret X E dJxc12de_init_da8c8_9 (Nat.le_of_ble_eq_true rfl) (Nat.le_of_ble_eq_true rfl) rfl
set_option maxHeartbeats 1000000 in
set_option maxRecDepth 20000 in
theorem c_Jx4a65c_init_da8c8 (l : Launch) (e0 : Nat × Nat) (S : kS) (a : Nat) (ha : S.at a 12) : kM l e0 yJx4a65c_init_da8c8 cJx4a65c_init_da8c8 1 none ({ frames := 3, cells := 0, slots := 0, locals := 64 } : Room) 0 0 [.ref a] S (kQv (fun S9 => S9 = (S.uI a 0 0).uR a 1 (some e0.1))) := by
  refine kMetE (by decide +kernel) (Nat.le_of_ble_eq_true rfl) (fun C he hl X E hm => ?_)
  have X : kX C RJx4a65c cJx4a65c_init_da8c8 1 ({ frames := 3, cells := 0, slots := 0, locals := 64 } : Room) := X
  subst he hl
  show kG C 1 S 0 0 0 [(0, .ref a)] []
  refine k_aload_n X (q := 0) dJx4a65c_init_da8c8_0 rfl rfl ?_
  refine k_gotV X (vJx4a65c_1 X (S := S) (c_Jxc12de_init_da8c8 C.l C.e0 S a ha) (As := []) (rest := []) rfl rfl rfl rfl ⟨Nat.le_of_ble_eq_true rfl, Nat.le_of_ble_eq_true rfl⟩ (Nat.le_of_ble_eq_true rfl) ⟨Nat.le_of_ble_eq_true rfl, Nat.le_of_ble_eq_true rfl⟩ dJx4a65c_init_da8c8_1) (fun S_1_2 h_1_0 => ?_)
  subst h_1_0
  refine k_aload_n X (q := 0) dJx4a65c_init_da8c8_4 rfl rfl ?_
  refine k_gets39 X dJx4a65c_init_da8c8_5 ?_
  refine pJx4a65c_9 X (S := (S.uI a 0 0)) ha.1 ha.2 (r := (some C.e0.1)) dJx4a65c_init_da8c8_8 ?_
  exact k_vret X E dJx4a65c_init_da8c8_11 (Nat.le_of_ble_eq_true rfl) (Nat.le_of_ble_eq_true rfl) rfl
set_option maxHeartbeats 1000000 in
set_option maxRecDepth 20000 in
theorem c_Jx4a65c_fastRemove_b59b0 (l : Launch) (e0 : Nat × Nat) (S : kS) (a κ m c j b : Nat) (xs : Nat → Nat) (hκ : kEl κ) (h : kLc e0 S a κ m xs c) (hb : S.R a 1 = some b) (hj : j < m) (hm64 : m ≤ 64) : kM l e0 yJx4a65c_fastRemove_b59b0 cJx4a65c_fastRemove_b59b0 4 none ({ frames := 1, cells := 0, slots := 0, locals := 60 } : Room) 0 0 [.ref a, .ref b, .int (nI j)] S (kQv (fun S9 => kFr S S9 (kRo S (S.O a)) ∧ kLc e0 S9 a κ (m - 1) (kxr xs j) c)) := by
  refine kMetE (by decide +kernel) (Nat.le_of_ble_eq_true rfl) (fun C he hl X E hm => ?_)
  have X : kX C RJx4a65c cJx4a65c_fastRemove_b59b0 4 ({ frames := 1, cells := 0, slots := 0, locals := 60 } : Room) := X
  subst he hl
  show kG C 4 S 0 0 0 [(0, .ref a), (1, .ref b), (2, .int (nI j))] []
  obtain ⟨Cn, Ty, NN, hcl, hsh, hca⟩ := id hκ
  obtain ⟨ha, hsz, b2, hb2, hh⟩ := id h
  rw [hb] at hb2
  cases hb2
  rcases hh with ⟨-, hm0, -⟩ | ⟨hB, hO, hNc, hmN, hcap, hxs⟩
  · exact absurd hj (by omega)
  have hne : ¬ a = b := ha.ne hB (by decide)
  have hN9 : c ≤ 73 := by unfold kcapOk at hcap; omega
  refine k_aload_n X (q := 0) dJx4a65c_fastRemove_b59b0_0 rfl rfl ?_
  refine k_dup X dJx4a65c_fastRemove_b59b0_1 rfl ?_
  refine gJx4a65c_63 X (S := S) ha.1 ha.2 dJx4a65c_fastRemove_b59b0_2 (fun v_2_1 ev_2_1 => ?_)
  refine k_iconst X (v := 1) dJx4a65c_fastRemove_b59b0_5 (by decide) ?_
  refine k_iadd X dJx4a65c_fastRemove_b59b0_6 (fun v_6_2 ev_6_2 => ?_)
  refine pJx4a65c_63 X (S := S) ha.1 ha.2 dJx4a65c_fastRemove_b59b0_7 ?_
  refine k_aload_n X (q := 0) dJx4a65c_fastRemove_b59b0_10 rfl rfl ?_
  refine gJx4a65c_48 X (S := (S.uI a 0 v_6_2)) ha.1 ha.2 dJx4a65c_fastRemove_b59b0_11 (fun v_11_3 ev_11_3 => ?_)
  refine k_iconst X (v := 1) dJx4a65c_fastRemove_b59b0_14 (by decide) ?_
  refine k_isub X dJx4a65c_fastRemove_b59b0_15 (fun v_15_4 ev_15_4 => ?_)
  have hv9 : nI (m - 1) = v_15_4 := by rw [ev_15_4, ev_11_3, uI_I, if_neg (by omega), hsz, show (1 : Int32) = nI 1 from rfl, pk_sub (by omega)]
  subst hv9
  refine k_dup X dJx4a65c_fastRemove_b59b0_16 rfl ?_
  refine k_istore_n X [(3, .int (nI (m - 1))), (0, .ref a), (1, .ref b), (2, .int (nI j))] dJx4a65c_fastRemove_b59b0_17 rfl (by decide) rfl ?_
  refine k_iload_n X (q := 3) dJx4a65c_fastRemove_b59b0_18 rfl rfl ?_
  refine k_icmp_le (tgt := 34) X dJx4a65c_fastRemove_b59b0_19 (by decide) (fun c_19 => ?_) (fun c_19 => ?_)
  · skip
    have hjm : m - 1 ≤ j := ge_of_le c_19 (by omega)
    refine k_aload_n X (q := 2) dJx4a65c_fastRemove_b59b0_34 rfl rfl ?_
    refine k_aload_n X (q := 1) dJx4a65c_fastRemove_b59b0_35 rfl rfl ?_
    refine k_iload_n X (q := 0) dJx4a65c_fastRemove_b59b0_36 rfl rfl ?_
    refine k_dup_x1 X dJx4a65c_fastRemove_b59b0_37 rfl rfl ?_
    refine pJx4a65c_48 X (S := (S.uI a 0 v_6_2)) ha.1 ha.2 dJx4a65c_fastRemove_b59b0_38 ?_
    refine k_null X dJx4a65c_fastRemove_b59b0_41 ?_
    refine k_aastN X (S := ((S.uI a 0 v_6_2).uI a 2 (nI (m - 1)))) (Or.inr hB) (show vp_in (nI (m - 1)) (S.N b) from vp_in_nI (by omega) (by omega)) dJx4a65c_fastRemove_b59b0_42 ?_
    exact k_vret X E dJx4a65c_fastRemove_b59b0_43 (Nat.le_of_ble_eq_true rfl) (Nat.le_of_ble_eq_true rfl) (⟨kFr.uR (P := kRo S (S.O a)) (a := b) (kFr.uI (P := kRo S (S.O a)) (a := a) (kFr.uI (P := kRo S (S.O a)) (a := a) (kFr.rf S _) (Or.inl rfl)) (Or.inl rfl)) (Or.inr hO), ⟨ha, by rw [uR_I, uI_I, if_pos ⟨rfl, rfl⟩], b, by rw [uR_R, if_neg (fun z => hne z.1)]; exact hb, Or.inr ⟨hB, hO, hNc, by omega, hcap, fun i hi => by
      rw [uR_R, nI_clamp (by omega), if_neg (by omega)]
      unfold kxr
      rw [if_pos (by omega)]
      exact hxs i (by omega)⟩⟩⟩)
  · skip
    have hjm : j < m - 1 := lt_of_nle c_19 (by omega)
    refine k_aload_n X (q := 2) dJx4a65c_fastRemove_b59b0_22 rfl rfl ?_
    refine k_iload_n X (q := 3) dJx4a65c_fastRemove_b59b0_23 rfl rfl ?_
    refine k_iconst X (v := 1) dJx4a65c_fastRemove_b59b0_24 (by decide) ?_
    refine k_iadd X dJx4a65c_fastRemove_b59b0_25 (fun v_25_5 ev_25_5 => ?_)
    have hv8 : nI (j + 1) = v_25_5 := by rw [ev_25_5, nI_1]
    subst hv8
    refine k_aload_n X (q := 2) dJx4a65c_fastRemove_b59b0_26 rfl rfl ?_
    refine k_iload_n X (q := 3) dJx4a65c_fastRemove_b59b0_27 rfl rfl ?_
    refine k_iload_n X (q := 0) dJx4a65c_fastRemove_b59b0_28 rfl rfl ?_
    refine k_iload_n X (q := 3) dJx4a65c_fastRemove_b59b0_29 rfl rfl ?_
    refine k_isub X dJx4a65c_fastRemove_b59b0_30 (fun v_30_6 ev_30_6 => ?_)
    have hv7 : nI (m - 1 - j) = v_30_6 := by rw [ev_30_6, pk_sub (by omega)]
    subst hv7
    refine k_copy X (S := (S.uI a 0 v_6_2)) hcl hsh hca qmJx4a65c_112 hB hB (nI_pos (by omega)) (nI_pos (by omega)) (nI_pos (by omega)) (by show _ ≤ S.N b; rw [nI_clamp (by omega), nI_clamp (by omega)]; omega) (by show _ ≤ S.N b; rw [nI_clamp (by omega), nI_clamp (by omega)]; omega) (fun i hi y hy => by rw [nI_clamp (by omega)] at hi; rw [nI_clamp (by omega)] at hy; have h9 := hxs (j + 1 + i) (by omega); have h8 : S.R b (j + 1 + i) = some y := hy; rw [h9.1] at h8; cases h8; exact h9.2) (Nat.le_of_ble_eq_true rfl) (Nat.le_of_ble_eq_true rfl) dJx4a65c_fastRemove_b59b0_31 ?_
    refine k_aload_n X (q := 2) dJx4a65c_fastRemove_b59b0_34 rfl rfl ?_
    refine k_aload_n X (q := 1) dJx4a65c_fastRemove_b59b0_35 rfl rfl ?_
    refine k_iload_n X (q := 0) dJx4a65c_fastRemove_b59b0_36 rfl rfl ?_
    refine k_dup_x1 X dJx4a65c_fastRemove_b59b0_37 rfl rfl ?_
    refine pJx4a65c_48 X (S := ((S.uI a 0 v_6_2).cp b b (nI (j + 1)).toNatClampNeg (nI j).toNatClampNeg (nI (m - 1 - j)).toNatClampNeg)) ha.1 ha.2 dJx4a65c_fastRemove_b59b0_38 ?_
    refine k_null X dJx4a65c_fastRemove_b59b0_41 ?_
    refine k_aastN X (S := (((S.uI a 0 v_6_2).cp b b (nI (j + 1)).toNatClampNeg (nI j).toNatClampNeg (nI (m - 1 - j)).toNatClampNeg).uI a 2 (nI (m - 1)))) (Or.inr hB) (show vp_in (nI (m - 1)) (S.N b) from vp_in_nI (by omega) (by omega)) dJx4a65c_fastRemove_b59b0_42 ?_
    exact k_vret X E dJx4a65c_fastRemove_b59b0_43 (Nat.le_of_ble_eq_true rfl) (Nat.le_of_ble_eq_true rfl) (⟨kFr.uR (P := kRo S (S.O a)) (a := b) (kFr.uI (P := kRo S (S.O a)) (a := a) (kFr.cp (P := kRo S (S.O a)) (a := b) (kFr.uI (P := kRo S (S.O a)) (a := a) (kFr.rf S _) (Or.inl rfl)) (Or.inr hO)) (Or.inl rfl)) (Or.inr hO), ⟨ha, by rw [uR_I, uI_I, if_pos ⟨rfl, rfl⟩], b, by rw [uR_R, if_neg (fun z => hne z.1), uI_R, cp_R, if_neg hne]; exact hb, Or.inr ⟨hB, hO, hNc, by omega, hcap, fun i hi => by
      rw [uR_R, nI_clamp (by omega), if_neg (by omega), uI_R, cp_R, if_pos rfl, nI_clamp (by omega), nI_clamp (by omega), nI_clamp (by omega)]
      unfold va_cpy kxr
      by_cases hij : i < j
      · rw [if_neg (by omega), if_pos hij]
        exact hxs i (by omega)
      · rw [if_pos (by omega), if_neg hij, show j + 1 + (i - j) = i + 1 by omega]
        exact hxs (i + 1) (by omega)⟩⟩⟩)
set_option maxHeartbeats 1000000 in
set_option maxRecDepth 20000 in
theorem c_Jx4a65c_remove_915e3 (l : Launch) (e0 : Nat × Nat) (S : kS) (a κ m c j : Nat) (xs : Nat → Nat) (hκ : kEl κ) (h : kLc e0 S a κ m xs c) (hj : j < m) (hm64 : m ≤ 64) : kM l e0 yJx4a65c_remove_915e3 cJx4a65c_remove_915e3 4 (Option.some (Jvm.ClassFile.FieldType.object "java/lang/Object")) ({ frames := 2, cells := 0, slots := 0, locals := 83 } : Room) 0 0 [.ref a, .int (nI j)] S (kQq (fun v S9 => v = some (xs j) ∧ kFr S S9 (kRo S (S.O a)) ∧ kLc e0 S9 a κ (m - 1) (kxr xs j) c)) := by
  refine kMetE (by decide +kernel) (Nat.le_of_ble_eq_true rfl) (fun C he hl X E hm => ?_)
  have X : kX C RJx4a65c cJx4a65c_remove_915e3 4 ({ frames := 2, cells := 0, slots := 0, locals := 83 } : Room) := X
  subst he hl
  show kG C 4 S 0 0 0 [(0, .ref a), (1, .int (nI j))] []
  obtain ⟨Cn, Ty, NN, hcl, hsh, hca⟩ := id hκ
  obtain ⟨ha, hsz, b, hb, hh⟩ := id h
  rcases hh with ⟨-, hm0, -⟩ | ⟨hB, hO, hNc, hmN, hcap, hxs⟩
  · exact absurd hj (by omega)
  have hne : ¬ a = b := ha.ne hB (by decide)
  have hN9 : c ≤ 73 := by unfold kcapOk at hcap; omega
  refine k_iload_n X (q := 1) dJx4a65c_remove_915e3_0 rfl rfl ?_
  refine k_aload_n X (q := 0) dJx4a65c_remove_915e3_1 rfl rfl ?_
  refine gJx4a65c_48 X (S := S) ha.1 ha.2 dJx4a65c_remove_915e3_2 (fun v_2_1 ev_2_1 => ?_)
  refine k_gotI X (vJx4a65c_118 X (S := S) (c_J15_checkIndex_7cf53 C.l C.e0 S (nI j) v_2_1 (nI_pos (by omega)) (by rw [ev_2_1, hsz]; exact nI_lt (by omega) (by omega))) (As := [.int (nI j), .int v_2_1]) (rest := []) rfl rfl rfl rfl ⟨Nat.le_of_ble_eq_true rfl, Nat.le_of_ble_eq_true rfl⟩ (Nat.le_of_ble_eq_true rfl) ⟨Nat.le_of_ble_eq_true rfl, Nat.le_of_ble_eq_true rfl⟩ dJx4a65c_remove_915e3_5) (fun v_5_3 S_5_4 h_5_1 => ?_)
  obtain ⟨rfl, ev_5_3⟩ := h_5_1
  refine k_pop X dJx4a65c_remove_915e3_8 rfl ?_
  refine k_aload_n X (q := 0) dJx4a65c_remove_915e3_9 rfl rfl ?_
  refine gJx4a65c_9s X (S := S) ha.1 ha.2 hb dJx4a65c_remove_915e3_10 ?_
  refine k_astore_n X [(2, .ref b), (0, .ref a), (1, .int (nI j))] dJx4a65c_remove_915e3_13 rfl (by decide) rfl ?_
  refine k_aload_n X (q := 0) dJx4a65c_remove_915e3_14 rfl rfl ?_
  refine k_iload_n X (q := 2) dJx4a65c_remove_915e3_15 rfl rfl ?_
  refine k_aald X (S := S) hB.1 (by simp [hB.2]) (show vp_in (nI j) (S.N b) from vp_in_nI (by omega) (by omega)) dJx4a65c_remove_915e3_16 (fun r_16_5 er_16_5 => ?_)
  have hv9 : some (xs j) = r_16_5 := by rw [er_16_5, nI_clamp (by omega)]; exact (hxs j hj).1.symm
  subst hv9
  refine k_astore_n X [(3, .ref (xs j)), (2, .ref b), (0, .ref a), (1, .int (nI j))] dJx4a65c_remove_915e3_17 rfl (by decide) rfl ?_
  refine k_aload_n X (q := 2) dJx4a65c_remove_915e3_18 rfl rfl ?_
  refine k_aload_n X (q := 1) dJx4a65c_remove_915e3_19 rfl rfl ?_
  refine k_iload_n X (q := 3) dJx4a65c_remove_915e3_20 rfl rfl ?_
  refine k_gotV X (vJx4a65c_144 X (S := S) ⟨ha.1, ha.2⟩ (c_Jx4a65c_fastRemove_b59b0 C.l C.e0 S a κ m c j b xs hκ h hb hj hm64) (As := [.ref b, .int (nI j)]) (rest := []) rfl rfl rfl rfl ⟨Nat.le_of_ble_eq_true rfl, Nat.le_of_ble_eq_true rfl⟩ (Nat.le_of_ble_eq_true rfl) ⟨Nat.le_of_ble_eq_true rfl, Nat.le_of_ble_eq_true rfl⟩ dJx4a65c_remove_915e3_21) (fun S_21_7 h_21_5 => ?_)
  obtain ⟨hfr, hls⟩ := h_21_5
  refine k_aload_n X (q := 0) dJx4a65c_remove_915e3_24 rfl rfl ?_
  exact k_aret X E (r := (some (xs j))) (Or.inl ⟨_, rfl⟩) dJx4a65c_remove_915e3_25 (Nat.le_of_ble_eq_true rfl) (Nat.le_of_ble_eq_true rfl) (⟨rfl, hfr, hls⟩)
