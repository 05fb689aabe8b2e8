set_option maxHeartbeats 1000000 in
set_option maxRecDepth 20000 in
theorem c_X8_init (l : Launch) (e0 : Nat × Nat) (S : kS) (q k : Nat) (hq : kOj S q 8 (60 + k) 0) : kM l e0 yX8_init cX8_init 2 none ({ frames := 4, cells := 1, slots := 3, locals := 84 } : Room) 1 3 [.ref q, .int (nI k)] S (kQv (fun S9 => ∃ g, kFr S S9 (fun b => b = q) ∧ kB8 e0 S9 q g k)) := by
  refine kMetE (by decide +kernel) (Nat.le_of_ble_eq_true rfl) (fun C he hl X E hm => ?_)
  have X : kX C RX8 cX8_init 2 ({ frames := 4, cells := 1, slots := 3, locals := 84 } : Room) := X
  subst he hl
  show kG C 2 S 0 0 0 [(0, .ref q), (1, .int (nI k))] []
  refine k_aload_n X (q := 0) dX8_init_0 rfl rfl ?_
  refine k_objInit X qmX8_3 (Nat.le_of_ble_eq_true rfl) (Nat.le_of_ble_eq_true rfl) dX8_init_1 ?_
  refine k_aload_n X (q := 0) dX8_init_4 rfl rfl ?_
  refine k_null X dX8_init_5 ?_
  refine pX8_9 X (S := S) hq.1.1 hq.1.2 (r := none) dX8_init_6 ?_
  have hat_1 := at_uR (b := q) (j := 1) (v := none) hq.1
  refine k_aload_n X (q := 0) dX8_init_9 rfl rfl ?_
  refine k_iconst X (v := 0) dX8_init_10 (by decide) ?_
  refine pX8_15 X (S := (S.uR q 1 none)) hat_1.1 hat_1.2 dX8_init_11 ?_
  have hat_2 := at_uI (b := q) (j := 2) (v := 0) hat_1
  refine k_aload_n X (q := 0) dX8_init_14 rfl rfl ?_
  refine k_iconst X (v := 0) dX8_init_15 (by decide) ?_
  refine pX8_19 X (S := ((S.uR q 1 none).uI q 2 0)) hat_2.1 hat_2.2 dX8_init_16 ?_
  have hat_3 := at_uI (b := q) (j := 3) (v := 0) hat_2
  refine k_aload_n X (q := 0) dX8_init_19 rfl rfl ?_
  refine nX8_22 X (25 + k) (Nat.le_of_ble_eq_true rfl) (Nat.le_of_ble_eq_true rfl) dX8_init_20 (fun a_20_4 fa_20_4 => ?_)
  have hat_5 := nw_at (κ := 12) (ρ := (25 + k)) (n := 0) fa_20_4 hat_3
  have hat_a_20_4 := nw_self (S := (((S.uR q 1 none).uI q 2 0).uI q 3 0)) (q := a_20_4) (κ := 12) (ρ := (25 + k)) (n := 0)
  refine k_dup X dX8_init_23 rfl ?_
  refine k_gotV X (vX8_24 X (S := ((((S.uR q 1 none).uI q 2 0).uI q 3 0).nw a_20_4 12 (25 + k) 0)) (c_Jx4a65c_init_da8c8 C.l C.e0 ((((S.uR q 1 none).uI q 2 0).uI q 3 0).nw a_20_4 12 (25 + k) 0) a_20_4 hat_a_20_4) (As := []) (rest := [.ref a_20_4, .ref q]) rfl rfl rfl rfl ⟨Nat.le_of_ble_eq_true rfl, Nat.le_of_ble_eq_true rfl⟩ (Nat.le_of_ble_eq_true rfl) ⟨Nat.le_of_ble_eq_true rfl, Nat.le_of_ble_eq_true rfl⟩ dX8_init_24) (fun S_24_7 h_24_5 => ?_)
  subst h_24_5
  have hat_8 := at_uI (b := a_20_4) (j := 0) (v := 0) hat_5
  have hat_9 := at_uI (b := a_20_4) (j := 0) (v := 0) hat_a_20_4
  have hat_10 := at_uR (b := a_20_4) (j := 1) (v := some C.e0.1) hat_8
  have hat_11 := at_uR (b := a_20_4) (j := 1) (v := some C.e0.1) hat_9
  refine pX8_25 X (S := ((((((S.uR q 1 none).uI q 2 0).uI q 3 0).nw a_20_4 12 (25 + k) 0).uI a_20_4 0 0).uR a_20_4 1 (some C.e0.1))) hat_10.1 hat_10.2 hm (r := (some a_20_4)) dX8_init_27 ?_
  have hat_12 := at_uR (b := q) (j := 4) (v := (some a_20_4)) hat_10
  have hat_13 := at_uR (b := q) (j := 4) (v := (some a_20_4)) hat_11
  refine k_aload_n X (q := 0) dX8_init_30 rfl rfl ?_
  refine k_iload_n X (q := 1) dX8_init_31 rfl rfl ?_
  refine pX8_29 X (S := (((((((S.uR q 1 none).uI q 2 0).uI q 3 0).nw a_20_4 12 (25 + k) 0).uI a_20_4 0 0).uR a_20_4 1 (some C.e0.1)).uR q 4 (some a_20_4))) hat_12.1 hat_12.2 hm dX8_init_32 ?_
  have hat_14 := at_uI (b := q) (j := 0) (v := (nI k)) hat_12
  have hat_15 := at_uI (b := q) (j := 0) (v := (nI k)) hat_13
  have ga_20_4 : ¬ a_20_4 ∈ S.L := fun z => fa_20_4 (by simp [uI_L, uR_L, nwL', fiL', z])
  have na_20_4 : ¬ a_20_4 = q := fun e => ga_20_4 (by rw [e]; exact hq.1.1)
  have oa_20_4 : ¬ q = a_20_4 := fun e => na_20_4 e.symm
  have hFr : kFr S ((((((((S.uR q 1 none).uI q 2 0).uI q 3 0).nw a_20_4 12 (25 + k) 0).uI a_20_4 0 0).uR a_20_4 1 (some C.e0.1)).uR q 4 (some a_20_4)).uI q 0 (nI k)) (fun b => b = q) := by
    refine ⟨fun b hb => ?_, fun b hb hn => ?_⟩
    · have wa_20_4 : ¬ b = a_20_4 := fun e => ga_20_4 (e ▸ hb)
      simp [kS.at_, uI_L, uI_K, uI_O, uI_N, uI_R, uI_I, uR_L, uR_K, uR_O, uR_N, uR_I, uR_R, nwL', nwK', nwO', nwN', nwI', nwR', fiL', fiK', fiO', fiN', fiR', fiI', hb, wa_20_4]
    · have hn : ¬ b = q := hn
      have wa_20_4 : ¬ b = a_20_4 := fun e => ga_20_4 (e ▸ hb)
      simp [kS.at_, uI_L, uI_K, uI_O, uI_N, uI_R, uI_I, uR_L, uR_K, uR_O, uR_N, uR_I, uR_R, nwL', nwK', nwO', nwN', nwI', nwR', fiL', fiK', fiO', fiN', fiR', fiI', hn, wa_20_4]
  have hBu : kB8 C.e0 ((((((((S.uR q 1 none).uI q 2 0).uI q 3 0).nw a_20_4 12 (25 + k) 0).uI a_20_4 0 0).uR a_20_4 1 (some C.e0.1)).uR q 4 (some a_20_4)).uI q 0 (nI k)) q a_20_4 k := by
    obtain ⟨hq1, hq2, hq3⟩ := hq
    obtain ⟨hq4, hq5⟩ := hq1
    unfold kB8 kOj
    simp [kS.at_, uI_L, uI_K, uI_O, uI_N, uI_R, uI_I, uR_L, uR_K, uR_O, uR_N, uR_I, uR_R, nwL', nwK', nwO', nwN', nwI', nwR', fiL', fiK', fiO', fiN', fiR', fiI', hq4, hq5, hq2, hq3, na_20_4, oa_20_4]
  exact k_vret X E dX8_init_35 (Nat.le_of_ble_eq_true rfl) (Nat.le_of_ble_eq_true rfl) (⟨a_20_4, hFr, hBu⟩)
theorem kLc_0 {e0 : Nat × Nat} {S : kS} {a κ : Nat} {xs : Nat → Nat} (h : S.at a 12) (h1 : S.I a 2 = 0) (h2 : S.R a 1 = some e0.1) : kLc e0 S a κ 0 xs 0 := ⟨h, h1.trans nI_0.symm, e0.1, h2, Or.inl ⟨rfl, rfl, rfl⟩⟩
theorem kFr.ad {S S' : kS} {a : Nat} {r : Nat} (hf : kFr S S' (kRo S (S.O a))) (ho : S.O a = r) : kFr S S' (fun z => (fun ρ => ρ = r ∨ ρ = 100 + r) (S.O z)) := by
  rw [ho] at hf
  exact hf
set_option maxHeartbeats 1000000 in
set_option maxRecDepth 20000 in
theorem c_X2_init (l : Launch) (e0 : Nat × Nat) (S : kS) (q : Nat) (hq : kOj S q 2 1 0) (hO : ∀ z, z ∈ S.L → S.O z < 10) : kM l e0 yX2_init cX2_init 2 none ({ frames := 7, cells := 27, slots := 584, locals := 191 } : Room) 27 584 [.ref q] S (kQv (fun S9 => ∃ a7 a10 a11 a52 a40 a12 : Nat, ∃ f g : Nat → Nat, ∃ c : Nat, kFr S S9 (fun b => b = q) ∧ kB2 e0 S9 q a7 a10 a11 a52 a40 a12 ∧ kOj S9 a11 12 11 0 ∧ kLc e0 S9 a11 8 7 f c ∧ ∀ k, k < 7 → kB8 e0 S9 (f k) (g k) k)) := by
  refine kMetE (by decide +kernel) (Nat.le_of_ble_eq_true rfl) (fun C he hl X E hm => ?_)
  have X : kX C RX2 cX2_init 2 ({ frames := 7, cells := 27, slots := 584, locals := 191 } : Room) := X
  subst he hl
  show kG C 2 S 0 0 0 [(0, .ref q)] []
  refine k_aload_n X (q := 0) dX2_init_0 rfl rfl ?_
  refine k_objInit X qmX2_3 (Nat.le_of_ble_eq_true rfl) (Nat.le_of_ble_eq_true rfl) dX2_init_1 ?_
  refine k_aload_n X (q := 0) dX2_init_4 rfl rfl ?_
  refine k_iconst X (v := 0) dX2_init_5 (by decide) ?_
  refine pX2_9 X (S := S) hq.1.1 hq.1.2 dX2_init_6 ?_
  have hat_1 := at_uI (b := q) (j := 0) (v := 0) hq.1
  refine k_aload_n X (q := 0) dX2_init_9 rfl rfl ?_
  refine k_iconst X (v := 1) dX2_init_10 (by decide) ?_
  refine pX2_15 X (S := (S.uI q 0 0)) hat_1.1 hat_1.2 (Or.inr rfl) dX2_init_11 ?_
  have hat_2 := at_uI (b := q) (j := 1) (v := 1) hat_1
  refine k_aload_n X (q := 0) dX2_init_14 rfl rfl ?_
  refine k_iconst X (v := 0) dX2_init_15 (by decide) ?_
  refine pX2_19 X (S := ((S.uI q 0 0).uI q 1 1)) hat_2.1 hat_2.2 dX2_init_16 ?_
  have hat_3 := at_uI (b := q) (j := 2) (v := 0) hat_2
  refine k_aload_n X (q := 0) dX2_init_19 rfl rfl ?_
  refine k_sipush X (v := 300) dX2_init_20 (by decide) ?_
  refine pX2_22 X (S := (((S.uI q 0 0).uI q 1 1).uI q 2 0)) hat_3.1 hat_3.2 dX2_init_23 ?_
  have hat_4 := at_uI (b := q) (j := 3) (v := 300) hat_3
  refine k_aload_n X (q := 0) dX2_init_26 rfl rfl ?_
  refine k_iconst X (v := 0) dX2_init_27 (by decide) ?_
  refine pX2_25 X (S := ((((S.uI q 0 0).uI q 1 1).uI q 2 0).uI q 3 300)) hat_4.1 hat_4.2 dX2_init_28 ?_
  have hat_5 := at_uI (b := q) (j := 4) (v := 0) hat_4
  refine k_aload_n X (q := 0) dX2_init_31 rfl rfl ?_
  refine k_iconst X (v := 0) dX2_init_32 (by decide) ?_
  refine pX2_28 X (S := (((((S.uI q 0 0).uI q 1 1).uI q 2 0).uI q 3 300).uI q 4 0)) hat_5.1 hat_5.2 dX2_init_33 ?_
  have hat_6 := at_uI (b := q) (j := 5) (v := 0) hat_5
  refine k_aload_n X (q := 0) dX2_init_36 rfl rfl ?_
  refine k_iconst X (v := 0) dX2_init_37 (by decide) ?_
  refine pX2_31 X (S := ((((((S.uI q 0 0).uI q 1 1).uI q 2 0).uI q 3 300).uI q 4 0).uI q 5 0)) hat_6.1 hat_6.2 dX2_init_38 ?_
  have hat_7 := at_uI (b := q) (j := 6) (v := 0) hat_6
  refine k_aload_n X (q := 0) dX2_init_41 rfl rfl ?_
  refine k_iconst X (v := 0) dX2_init_42 (by decide) ?_
  refine pX2_34 X (S := (((((((S.uI q 0 0).uI q 1 1).uI q 2 0).uI q 3 300).uI q 4 0).uI q 5 0).uI q 6 0)) hat_7.1 hat_7.2 dX2_init_43 ?_
  have hat_8 := at_uI (b := q) (j := 7) (v := 0) hat_7
  refine k_aload_n X (q := 0) dX2_init_46 rfl rfl ?_
  refine k_iconst X (v := 0) dX2_init_47 (by decide) ?_
  refine pX2_37 X (S := ((((((((S.uI q 0 0).uI q 1 1).uI q 2 0).uI q 3 300).uI q 4 0).uI q 5 0).uI q 6 0).uI q 7 0)) hat_8.1 hat_8.2 dX2_init_48 ?_
  have hat_9 := at_uI (b := q) (j := 8) (v := 0) hat_8
  refine k_aload_n X (q := 0) dX2_init_51 rfl rfl ?_
  refine k_iconst X (v := (-1)) dX2_init_52 (by decide) ?_
  refine pX2_40 X (S := (((((((((S.uI q 0 0).uI q 1 1).uI q 2 0).uI q 3 300).uI q 4 0).uI q 5 0).uI q 6 0).uI q 7 0).uI q 8 0)) hat_9.1 hat_9.2 dX2_init_53 ?_
  have hat_10 := at_uI (b := q) (j := 9) (v := (-1 : Int32)) hat_9
  refine k_aload_n X (q := 0) dX2_init_56 rfl rfl ?_
  refine k_null X dX2_init_57 ?_
  refine pX2_43 X (S := ((((((((((S.uI q 0 0).uI q 1 1).uI q 2 0).uI q 3 300).uI q 4 0).uI q 5 0).uI q 6 0).uI q 7 0).uI q 8 0).uI q 9 (-1 : Int32))) hat_10.1 hat_10.2 (r := none) dX2_init_58 ?_
  have hat_11 := at_uR (b := q) (j := 10) (v := none) hat_10
  refine k_aload_n X (q := 0) dX2_init_61 rfl rfl ?_
  refine nX2_47 X 7 (by show _ ≤ 27; omega) (by show _ ≤ 584; omega) dX2_init_62 (fun a_62_12 fa_62_12 => ?_)
  have hat_13 := nw_at (κ := 6) (ρ := 7) (n := 0) fa_62_12 hat_11
  have hat_a_62_12 := nw_self (S := (((((((((((S.uI q 0 0).uI q 1 1).uI q 2 0).uI q 3 300).uI q 4 0).uI q 5 0).uI q 6 0).uI q 7 0).uI q 8 0).uI q 9 (-1 : Int32)).uR q 10 none)) (q := a_62_12) (κ := 6) (ρ := 7) (n := 0)
  refine k_dup X dX2_init_65 rfl ?_
  refine k_gotV X (vX2_49 X (S := ((((((((((((S.uI q 0 0).uI q 1 1).uI q 2 0).uI q 3 300).uI q 4 0).uI q 5 0).uI q 6 0).uI q 7 0).uI q 8 0).uI q 9 (-1 : Int32)).uR q 10 none).nw a_62_12 6 7 0)) (c_X6_init C.l C.e0 ((((((((((((S.uI q 0 0).uI q 1 1).uI q 2 0).uI q 3 300).uI q 4 0).uI q 5 0).uI q 6 0).uI q 7 0).uI q 8 0).uI q 9 (-1 : Int32)).uR q 10 none).nw a_62_12 6 7 0) a_62_12 hat_a_62_12) (As := []) (rest := [.ref a_62_12, .ref q]) rfl rfl rfl rfl ⟨Nat.le_of_ble_eq_true rfl, Nat.le_of_ble_eq_true rfl⟩ (Nat.le_of_ble_eq_true rfl) ⟨(by show _ ≤ 27; omega), (by show _ ≤ 584; omega)⟩ dX2_init_66) (fun S_66_15 h_66_13 => ?_)
  subst h_66_13
  have hat_16 := at_uI (b := a_62_12) (j := 0) (v := 0) hat_13
  have hat_17 := at_uI (b := a_62_12) (j := 0) (v := 0) hat_a_62_12
  have hat_18 := at_uI (b := a_62_12) (j := 1) (v := 0) hat_16
  have hat_19 := at_uI (b := a_62_12) (j := 1) (v := 0) hat_17
  refine pX2_50 X (S := ((((((((((((((S.uI q 0 0).uI q 1 1).uI q 2 0).uI q 3 300).uI q 4 0).uI q 5 0).uI q 6 0).uI q 7 0).uI q 8 0).uI q 9 (-1 : Int32)).uR q 10 none).nw a_62_12 6 7 0).uI a_62_12 0 0).uI a_62_12 1 0)) hat_18.1 hat_18.2 hm (r := (some a_62_12)) dX2_init_69 ?_
  have hat_20 := at_uR (b := q) (j := 11) (v := (some a_62_12)) hat_18
  have hat_21 := at_uR (b := q) (j := 11) (v := (some a_62_12)) hat_19
  refine k_aload_n X (q := 0) dX2_init_72 rfl rfl ?_
  refine nX2_54 X 10 (by show _ ≤ 27; omega) (by show _ ≤ 584; omega) dX2_init_73 (fun a_73_22 fa_73_22 => ?_)
  have hat_23 := nw_at (κ := 12) (ρ := 10) (n := 0) fa_73_22 hat_20
  have hat_24 := nw_at (κ := 12) (ρ := 10) (n := 0) fa_73_22 hat_21
  have hat_a_73_22 := nw_self (S := (((((((((((((((S.uI q 0 0).uI q 1 1).uI q 2 0).uI q 3 300).uI q 4 0).uI q 5 0).uI q 6 0).uI q 7 0).uI q 8 0).uI q 9 (-1 : Int32)).uR q 10 none).nw a_62_12 6 7 0).uI a_62_12 0 0).uI a_62_12 1 0).uR q 11 (some a_62_12))) (q := a_73_22) (κ := 12) (ρ := 10) (n := 0)
  refine k_dup X dX2_init_76 rfl ?_
  refine k_gotV X (vX2_56 X (S := ((((((((((((((((S.uI q 0 0).uI q 1 1).uI q 2 0).uI q 3 300).uI q 4 0).uI q 5 0).uI q 6 0).uI q 7 0).uI q 8 0).uI q 9 (-1 : Int32)).uR q 10 none).nw a_62_12 6 7 0).uI a_62_12 0 0).uI a_62_12 1 0).uR q 11 (some a_62_12)).nw a_73_22 12 10 0)) (c_Jx4a65c_init_da8c8 C.l C.e0 ((((((((((((((((S.uI q 0 0).uI q 1 1).uI q 2 0).uI q 3 300).uI q 4 0).uI q 5 0).uI q 6 0).uI q 7 0).uI q 8 0).uI q 9 (-1 : Int32)).uR q 10 none).nw a_62_12 6 7 0).uI a_62_12 0 0).uI a_62_12 1 0).uR q 11 (some a_62_12)).nw a_73_22 12 10 0) a_73_22 hat_a_73_22) (As := []) (rest := [.ref a_73_22, .ref q]) rfl rfl rfl rfl ⟨Nat.le_of_ble_eq_true rfl, Nat.le_of_ble_eq_true rfl⟩ (Nat.le_of_ble_eq_true rfl) ⟨(by show _ ≤ 27; omega), (by show _ ≤ 584; omega)⟩ dX2_init_77) (fun S_77_26 h_77_24 => ?_)
  subst h_77_24
  have hat_27 := at_uI (b := a_73_22) (j := 0) (v := 0) hat_23
  have hat_28 := at_uI (b := a_73_22) (j := 0) (v := 0) hat_a_73_22
  have hat_29 := at_uR (b := a_73_22) (j := 1) (v := some C.e0.1) hat_27
  have hat_30 := at_uR (b := a_73_22) (j := 1) (v := some C.e0.1) hat_28
  refine pX2_57 X (S := ((((((((((((((((((S.uI q 0 0).uI q 1 1).uI q 2 0).uI q 3 300).uI q 4 0).uI q 5 0).uI q 6 0).uI q 7 0).uI q 8 0).uI q 9 (-1 : Int32)).uR q 10 none).nw a_62_12 6 7 0).uI a_62_12 0 0).uI a_62_12 1 0).uR q 11 (some a_62_12)).nw a_73_22 12 10 0).uI a_73_22 0 0).uR a_73_22 1 (some C.e0.1))) hat_29.1 hat_29.2 hm (r := (some a_73_22)) dX2_init_80 ?_
  have hat_31 := at_uR (b := q) (j := 12) (v := (some a_73_22)) hat_29
  have hat_32 := at_uR (b := q) (j := 12) (v := (some a_73_22)) hat_30
  refine k_aload_n X (q := 0) dX2_init_83 rfl rfl ?_
  refine nX2_54 X 11 (by show _ ≤ 27; omega) (by show _ ≤ 584; omega) dX2_init_84 (fun a_84_33 fa_84_33 => ?_)
  have hat_34 := nw_at (κ := 12) (ρ := 11) (n := 0) fa_84_33 hat_31
  have hat_35 := nw_at (κ := 12) (ρ := 11) (n := 0) fa_84_33 hat_32
  have hat_a_84_33 := nw_self (S := (((((((((((((((((((S.uI q 0 0).uI q 1 1).uI q 2 0).uI q 3 300).uI q 4 0).uI q 5 0).uI q 6 0).uI q 7 0).uI q 8 0).uI q 9 (-1 : Int32)).uR q 10 none).nw a_62_12 6 7 0).uI a_62_12 0 0).uI a_62_12 1 0).uR q 11 (some a_62_12)).nw a_73_22 12 10 0).uI a_73_22 0 0).uR a_73_22 1 (some C.e0.1)).uR q 12 (some a_73_22))) (q := a_84_33) (κ := 12) (ρ := 11) (n := 0)
  refine k_dup X dX2_init_87 rfl ?_
  refine k_gotV X (vX2_56 X (S := ((((((((((((((((((((S.uI q 0 0).uI q 1 1).uI q 2 0).uI q 3 300).uI q 4 0).uI q 5 0).uI q 6 0).uI q 7 0).uI q 8 0).uI q 9 (-1 : Int32)).uR q 10 none).nw a_62_12 6 7 0).uI a_62_12 0 0).uI a_62_12 1 0).uR q 11 (some a_62_12)).nw a_73_22 12 10 0).uI a_73_22 0 0).uR a_73_22 1 (some C.e0.1)).uR q 12 (some a_73_22)).nw a_84_33 12 11 0)) (c_Jx4a65c_init_da8c8 C.l C.e0 ((((((((((((((((((((S.uI q 0 0).uI q 1 1).uI q 2 0).uI q 3 300).uI q 4 0).uI q 5 0).uI q 6 0).uI q 7 0).uI q 8 0).uI q 9 (-1 : Int32)).uR q 10 none).nw a_62_12 6 7 0).uI a_62_12 0 0).uI a_62_12 1 0).uR q 11 (some a_62_12)).nw a_73_22 12 10 0).uI a_73_22 0 0).uR a_73_22 1 (some C.e0.1)).uR q 12 (some a_73_22)).nw a_84_33 12 11 0) a_84_33 hat_a_84_33) (As := []) (rest := [.ref a_84_33, .ref q]) rfl rfl rfl rfl ⟨Nat.le_of_ble_eq_true rfl, Nat.le_of_ble_eq_true rfl⟩ (Nat.le_of_ble_eq_true rfl) ⟨(by show _ ≤ 27; omega), (by show _ ≤ 584; omega)⟩ dX2_init_88) (fun S_88_37 h_88_35 => ?_)
  subst h_88_35
  have hat_38 := at_uI (b := a_84_33) (j := 0) (v := 0) hat_34
  have hat_39 := at_uI (b := a_84_33) (j := 0) (v := 0) hat_a_84_33
  have hat_40 := at_uR (b := a_84_33) (j := 1) (v := some C.e0.1) hat_38
  have hat_41 := at_uR (b := a_84_33) (j := 1) (v := some C.e0.1) hat_39
  refine pX2_61 X (S := ((((((((((((((((((((((S.uI q 0 0).uI q 1 1).uI q 2 0).uI q 3 300).uI q 4 0).uI q 5 0).uI q 6 0).uI q 7 0).uI q 8 0).uI q 9 (-1 : Int32)).uR q 10 none).nw a_62_12 6 7 0).uI a_62_12 0 0).uI a_62_12 1 0).uR q 11 (some a_62_12)).nw a_73_22 12 10 0).uI a_73_22 0 0).uR a_73_22 1 (some C.e0.1)).uR q 12 (some a_73_22)).nw a_84_33 12 11 0).uI a_84_33 0 0).uR a_84_33 1 (some C.e0.1))) hat_40.1 hat_40.2 hm (r := (some a_84_33)) dX2_init_91 ?_
  have hat_42 := at_uR (b := q) (j := 13) (v := (some a_84_33)) hat_40
  have hat_43 := at_uR (b := q) (j := 13) (v := (some a_84_33)) hat_41
  refine k_aload_n X (q := 0) dX2_init_94 rfl rfl ?_
  refine k_iconst X (v := 3) dX2_init_95 (by decide) ?_
  refine k_newC X (N' := 3) 52 qlX2_64 (by decide) (by decide) (by decide) (by show _ ≤ 27; omega) (by show _ ≤ 584; omega) dX2_init_96 (fun a_96_44 fa_96_44 => ?_)
  have hat_45 := nw_at (κ := 14) (ρ := 52) (n := 3) fa_96_44 hat_42
  have hat_46 := nw_at (κ := 14) (ρ := 52) (n := 3) fa_96_44 hat_43
  have hat_a_96_44 := nw_self (S := (((((((((((((((((((((((S.uI q 0 0).uI q 1 1).uI q 2 0).uI q 3 300).uI q 4 0).uI q 5 0).uI q 6 0).uI q 7 0).uI q 8 0).uI q 9 (-1 : Int32)).uR q 10 none).nw a_62_12 6 7 0).uI a_62_12 0 0).uI a_62_12 1 0).uR q 11 (some a_62_12)).nw a_73_22 12 10 0).uI a_73_22 0 0).uR a_73_22 1 (some C.e0.1)).uR q 12 (some a_73_22)).nw a_84_33 12 11 0).uI a_84_33 0 0).uR a_84_33 1 (some C.e0.1)).uR q 13 (some a_84_33))) (q := a_96_44) (κ := 14) (ρ := 52) (n := 3)
  refine pX2_66 X (S := ((((((((((((((((((((((((S.uI q 0 0).uI q 1 1).uI q 2 0).uI q 3 300).uI q 4 0).uI q 5 0).uI q 6 0).uI q 7 0).uI q 8 0).uI q 9 (-1 : Int32)).uR q 10 none).nw a_62_12 6 7 0).uI a_62_12 0 0).uI a_62_12 1 0).uR q 11 (some a_62_12)).nw a_73_22 12 10 0).uI a_73_22 0 0).uR a_73_22 1 (some C.e0.1)).uR q 12 (some a_73_22)).nw a_84_33 12 11 0).uI a_84_33 0 0).uR a_84_33 1 (some C.e0.1)).uR q 13 (some a_84_33)).nw a_96_44 14 52 3)) hat_45.1 hat_45.2 hm (r := (some a_96_44)) dX2_init_99 ?_
  have hat_47 := at_uR (b := q) (j := 14) (v := (some a_96_44)) hat_45
  have hat_48 := at_uR (b := q) (j := 14) (v := (some a_96_44)) hat_a_96_44
  refine k_aload_n X (q := 0) dX2_init_102 rfl rfl ?_
  refine k_iconst X (v := 3) dX2_init_103 (by decide) ?_
  refine k_newI X (N' := 3) 40 qAI (by decide) (by decide) (by decide) (Nat.le_of_ble_eq_true rfl) (Nat.le_of_ble_eq_true rfl) dX2_init_104 (fun a_104_49 fa_104_49 => ?_)
  have hat_50 := nw_at (κ := 13) (ρ := 40) (n := 3) fa_104_49 hat_47
  have hat_51 := nw_at (κ := 13) (ρ := 40) (n := 3) fa_104_49 hat_48
  have hat_a_104_49 := nw_self (S := (((((((((((((((((((((((((S.uI q 0 0).uI q 1 1).uI q 2 0).uI q 3 300).uI q 4 0).uI q 5 0).uI q 6 0).uI q 7 0).uI q 8 0).uI q 9 (-1 : Int32)).uR q 10 none).nw a_62_12 6 7 0).uI a_62_12 0 0).uI a_62_12 1 0).uR q 11 (some a_62_12)).nw a_73_22 12 10 0).uI a_73_22 0 0).uR a_73_22 1 (some C.e0.1)).uR q 12 (some a_73_22)).nw a_84_33 12 11 0).uI a_84_33 0 0).uR a_84_33 1 (some C.e0.1)).uR q 13 (some a_84_33)).nw a_96_44 14 52 3).uR q 14 (some a_96_44))) (q := a_104_49) (κ := 13) (ρ := 40) (n := 3)
  refine pX2_70 X (S := ((((((((((((((((((((((((((S.uI q 0 0).uI q 1 1).uI q 2 0).uI q 3 300).uI q 4 0).uI q 5 0).uI q 6 0).uI q 7 0).uI q 8 0).uI q 9 (-1 : Int32)).uR q 10 none).nw a_62_12 6 7 0).uI a_62_12 0 0).uI a_62_12 1 0).uR q 11 (some a_62_12)).nw a_73_22 12 10 0).uI a_73_22 0 0).uR a_73_22 1 (some C.e0.1)).uR q 12 (some a_73_22)).nw a_84_33 12 11 0).uI a_84_33 0 0).uR a_84_33 1 (some C.e0.1)).uR q 13 (some a_84_33)).nw a_96_44 14 52 3).uR q 14 (some a_96_44)).nw a_104_49 13 40 3)) hat_50.1 hat_50.2 hm (r := (some a_104_49)) dX2_init_106 ?_
  have hat_52 := at_uR (b := q) (j := 15) (v := (some a_104_49)) hat_50
  have hat_53 := at_uR (b := q) (j := 15) (v := (some a_104_49)) hat_a_104_49
  refine k_aload_n X (q := 0) dX2_init_109 rfl rfl ?_
  refine nX2_54 X 12 (by show _ ≤ 27; omega) (by show _ ≤ 584; omega) dX2_init_110 (fun a_110_54 fa_110_54 => ?_)
  have hat_55 := nw_at (κ := 12) (ρ := 12) (n := 0) fa_110_54 hat_52
  have hat_56 := nw_at (κ := 12) (ρ := 12) (n := 0) fa_110_54 hat_53
  have hat_a_110_54 := nw_self (S := (((((((((((((((((((((((((((S.uI q 0 0).uI q 1 1).uI q 2 0).uI q 3 300).uI q 4 0).uI q 5 0).uI q 6 0).uI q 7 0).uI q 8 0).uI q 9 (-1 : Int32)).uR q 10 none).nw a_62_12 6 7 0).uI a_62_12 0 0).uI a_62_12 1 0).uR q 11 (some a_62_12)).nw a_73_22 12 10 0).uI a_73_22 0 0).uR a_73_22 1 (some C.e0.1)).uR q 12 (some a_73_22)).nw a_84_33 12 11 0).uI a_84_33 0 0).uR a_84_33 1 (some C.e0.1)).uR q 13 (some a_84_33)).nw a_96_44 14 52 3).uR q 14 (some a_96_44)).nw a_104_49 13 40 3).uR q 15 (some a_104_49))) (q := a_110_54) (κ := 12) (ρ := 12) (n := 0)
  refine k_dup X dX2_init_113 rfl ?_
  refine k_gotV X (vX2_56 X (S := ((((((((((((((((((((((((((((S.uI q 0 0).uI q 1 1).uI q 2 0).uI q 3 300).uI q 4 0).uI q 5 0).uI q 6 0).uI q 7 0).uI q 8 0).uI q 9 (-1 : Int32)).uR q 10 none).nw a_62_12 6 7 0).uI a_62_12 0 0).uI a_62_12 1 0).uR q 11 (some a_62_12)).nw a_73_22 12 10 0).uI a_73_22 0 0).uR a_73_22 1 (some C.e0.1)).uR q 12 (some a_73_22)).nw a_84_33 12 11 0).uI a_84_33 0 0).uR a_84_33 1 (some C.e0.1)).uR q 13 (some a_84_33)).nw a_96_44 14 52 3).uR q 14 (some a_96_44)).nw a_104_49 13 40 3).uR q 15 (some a_104_49)).nw a_110_54 12 12 0)) (c_Jx4a65c_init_da8c8 C.l C.e0 ((((((((((((((((((((((((((((S.uI q 0 0).uI q 1 1).uI q 2 0).uI q 3 300).uI q 4 0).uI q 5 0).uI q 6 0).uI q 7 0).uI q 8 0).uI q 9 (-1 : Int32)).uR q 10 none).nw a_62_12 6 7 0).uI a_62_12 0 0).uI a_62_12 1 0).uR q 11 (some a_62_12)).nw a_73_22 12 10 0).uI a_73_22 0 0).uR a_73_22 1 (some C.e0.1)).uR q 12 (some a_73_22)).nw a_84_33 12 11 0).uI a_84_33 0 0).uR a_84_33 1 (some C.e0.1)).uR q 13 (some a_84_33)).nw a_96_44 14 52 3).uR q 14 (some a_96_44)).nw a_104_49 13 40 3).uR q 15 (some a_104_49)).nw a_110_54 12 12 0) a_110_54 hat_a_110_54) (As := []) (rest := [.ref a_110_54, .ref q]) rfl rfl rfl rfl ⟨Nat.le_of_ble_eq_true rfl, Nat.le_of_ble_eq_true rfl⟩ (Nat.le_of_ble_eq_true rfl) ⟨(by show _ ≤ 27; omega), (by show _ ≤ 584; omega)⟩ dX2_init_114) (fun S_114_58 h_114_56 => ?_)
  subst h_114_56
  have hat_59 := at_uI (b := a_110_54) (j := 0) (v := 0) hat_55
  have hat_60 := at_uI (b := a_110_54) (j := 0) (v := 0) hat_a_110_54
  have hat_61 := at_uR (b := a_110_54) (j := 1) (v := some C.e0.1) hat_59
  have hat_62 := at_uR (b := a_110_54) (j := 1) (v := some C.e0.1) hat_60
  refine pX2_74 X (S := ((((((((((((((((((((((((((((((S.uI q 0 0).uI q 1 1).uI q 2 0).uI q 3 300).uI q 4 0).uI q 5 0).uI q 6 0).uI q 7 0).uI q 8 0).uI q 9 (-1 : Int32)).uR q 10 none).nw a_62_12 6 7 0).uI a_62_12 0 0).uI a_62_12 1 0).uR q 11 (some a_62_12)).nw a_73_22 12 10 0).uI a_73_22 0 0).uR a_73_22 1 (some C.e0.1)).uR q 12 (some a_73_22)).nw a_84_33 12 11 0).uI a_84_33 0 0).uR a_84_33 1 (some C.e0.1)).uR q 13 (some a_84_33)).nw a_96_44 14 52 3).uR q 14 (some a_96_44)).nw a_104_49 13 40 3).uR q 15 (some a_104_49)).nw a_110_54 12 12 0).uI a_110_54 0 0).uR a_110_54 1 (some C.e0.1))) hat_61.1 hat_61.2 hm (r := (some a_110_54)) dX2_init_117 ?_
  have hat_63 := at_uR (b := q) (j := 16) (v := (some a_110_54)) hat_61
  have hat_64 := at_uR (b := q) (j := 16) (v := (some a_110_54)) hat_62
  have ga_62_12 : ¬ a_62_12 ∈ S.L := fun z => fa_62_12 (by simp [uI_L, uR_L, nwL', fiL', z])
  have na_62_12 : ¬ a_62_12 = q := fun e => ga_62_12 (by rw [e]; exact hq.1.1)
  have oa_62_12 : ¬ q = a_62_12 := fun e => na_62_12 e.symm
  have ga_73_22 : ¬ a_73_22 ∈ S.L := fun z => fa_73_22 (by simp [uI_L, uR_L, nwL', fiL', z])
  have na_73_22 : ¬ a_73_22 = q := fun e => ga_73_22 (by rw [e]; exact hq.1.1)
  have oa_73_22 : ¬ q = a_73_22 := fun e => na_73_22 e.symm
  have na_73_22a_62_12 : ¬ a_73_22 = a_62_12 := fun e => fa_73_22 (by rw [e]; simp [uI_L, uR_L, nwL', fiL'])
  have oa_73_22a_62_12 : ¬ a_62_12 = a_73_22 := fun e => na_73_22a_62_12 e.symm
  have ga_84_33 : ¬ a_84_33 ∈ S.L := fun z => fa_84_33 (by simp [uI_L, uR_L, nwL', fiL', z])
  have na_84_33 : ¬ a_84_33 = q := fun e => ga_84_33 (by rw [e]; exact hq.1.1)
  have oa_84_33 : ¬ q = a_84_33 := fun e => na_84_33 e.symm
  have na_84_33a_62_12 : ¬ a_84_33 = a_62_12 := fun e => fa_84_33 (by rw [e]; simp [uI_L, uR_L, nwL', fiL'])
  have oa_84_33a_62_12 : ¬ a_62_12 = a_84_33 := fun e => na_84_33a_62_12 e.symm
  have na_84_33a_73_22 : ¬ a_84_33 = a_73_22 := fun e => fa_84_33 (by rw [e]; simp [uI_L, uR_L, nwL', fiL'])
  have oa_84_33a_73_22 : ¬ a_73_22 = a_84_33 := fun e => na_84_33a_73_22 e.symm
  have ga_96_44 : ¬ a_96_44 ∈ S.L := fun z => fa_96_44 (by simp [uI_L, uR_L, nwL', fiL', z])
  have na_96_44 : ¬ a_96_44 = q := fun e => ga_96_44 (by rw [e]; exact hq.1.1)
  have oa_96_44 : ¬ q = a_96_44 := fun e => na_96_44 e.symm
  have na_96_44a_62_12 : ¬ a_96_44 = a_62_12 := fun e => fa_96_44 (by rw [e]; simp [uI_L, uR_L, nwL', fiL'])
  have oa_96_44a_62_12 : ¬ a_62_12 = a_96_44 := fun e => na_96_44a_62_12 e.symm
  have na_96_44a_73_22 : ¬ a_96_44 = a_73_22 := fun e => fa_96_44 (by rw [e]; simp [uI_L, uR_L, nwL', fiL'])
  have oa_96_44a_73_22 : ¬ a_73_22 = a_96_44 := fun e => na_96_44a_73_22 e.symm
  have na_96_44a_84_33 : ¬ a_96_44 = a_84_33 := fun e => fa_96_44 (by rw [e]; simp [uI_L, uR_L, nwL', fiL'])
  have oa_96_44a_84_33 : ¬ a_84_33 = a_96_44 := fun e => na_96_44a_84_33 e.symm
  have ga_104_49 : ¬ a_104_49 ∈ S.L := fun z => fa_104_49 (by simp [uI_L, uR_L, nwL', fiL', z])
  have na_104_49 : ¬ a_104_49 = q := fun e => ga_104_49 (by rw [e]; exact hq.1.1)
  have oa_104_49 : ¬ q = a_104_49 := fun e => na_104_49 e.symm
  have na_104_49a_62_12 : ¬ a_104_49 = a_62_12 := fun e => fa_104_49 (by rw [e]; simp [uI_L, uR_L, nwL', fiL'])
  have oa_104_49a_62_12 : ¬ a_62_12 = a_104_49 := fun e => na_104_49a_62_12 e.symm
  have na_104_49a_73_22 : ¬ a_104_49 = a_73_22 := fun e => fa_104_49 (by rw [e]; simp [uI_L, uR_L, nwL', fiL'])
  have oa_104_49a_73_22 : ¬ a_73_22 = a_104_49 := fun e => na_104_49a_73_22 e.symm
  have na_104_49a_84_33 : ¬ a_104_49 = a_84_33 := fun e => fa_104_49 (by rw [e]; simp [uI_L, uR_L, nwL', fiL'])
  have oa_104_49a_84_33 : ¬ a_84_33 = a_104_49 := fun e => na_104_49a_84_33 e.symm
  have na_104_49a_96_44 : ¬ a_104_49 = a_96_44 := fun e => fa_104_49 (by rw [e]; simp [uI_L, uR_L, nwL', fiL'])
  have oa_104_49a_96_44 : ¬ a_96_44 = a_104_49 := fun e => na_104_49a_96_44 e.symm
  have ga_110_54 : ¬ a_110_54 ∈ S.L := fun z => fa_110_54 (by simp [uI_L, uR_L, nwL', fiL', z])
  have na_110_54 : ¬ a_110_54 = q := fun e => ga_110_54 (by rw [e]; exact hq.1.1)
  have oa_110_54 : ¬ q = a_110_54 := fun e => na_110_54 e.symm
  have na_110_54a_62_12 : ¬ a_110_54 = a_62_12 := fun e => fa_110_54 (by rw [e]; simp [uI_L, uR_L, nwL', fiL'])
  have oa_110_54a_62_12 : ¬ a_62_12 = a_110_54 := fun e => na_110_54a_62_12 e.symm
  have na_110_54a_73_22 : ¬ a_110_54 = a_73_22 := fun e => fa_110_54 (by rw [e]; simp [uI_L, uR_L, nwL', fiL'])
  have oa_110_54a_73_22 : ¬ a_73_22 = a_110_54 := fun e => na_110_54a_73_22 e.symm
  have na_110_54a_84_33 : ¬ a_110_54 = a_84_33 := fun e => fa_110_54 (by rw [e]; simp [uI_L, uR_L, nwL', fiL'])
  have oa_110_54a_84_33 : ¬ a_84_33 = a_110_54 := fun e => na_110_54a_84_33 e.symm
  have na_110_54a_96_44 : ¬ a_110_54 = a_96_44 := fun e => fa_110_54 (by rw [e]; simp [uI_L, uR_L, nwL', fiL'])
  have oa_110_54a_96_44 : ¬ a_96_44 = a_110_54 := fun e => na_110_54a_96_44 e.symm
  have na_110_54a_104_49 : ¬ a_110_54 = a_104_49 := fun e => fa_110_54 (by rw [e]; simp [uI_L, uR_L, nwL', fiL'])
  have oa_110_54a_104_49 : ¬ a_104_49 = a_110_54 := fun e => na_110_54a_104_49 e.symm
  obtain ⟨Zc, hZc⟩ : ∃ z : kS, z = (((((((((((((((((((((((((((((((S.uI q 0 0).uI q 1 1).uI q 2 0).uI q 3 300).uI q 4 0).uI q 5 0).uI q 6 0).uI q 7 0).uI q 8 0).uI q 9 (-1 : Int32)).uR q 10 none).nw a_62_12 6 7 0).uI a_62_12 0 0).uI a_62_12 1 0).uR q 11 (some a_62_12)).nw a_73_22 12 10 0).uI a_73_22 0 0).uR a_73_22 1 (some C.e0.1)).uR q 12 (some a_73_22)).nw a_84_33 12 11 0).uI a_84_33 0 0).uR a_84_33 1 (some C.e0.1)).uR q 13 (some a_84_33)).nw a_96_44 14 52 3).uR q 14 (some a_96_44)).nw a_104_49 13 40 3).uR q 15 (some a_104_49)).nw a_110_54 12 12 0).uI a_110_54 0 0).uR a_110_54 1 (some C.e0.1)).uR q 16 (some a_110_54)) := ⟨_, rfl⟩
  rw [← hZc]
  have hFr : kFr S Zc (fun b => b = q) := by
    rw [hZc]
    refine ⟨fun b hb => ?_, fun b hb hn => ?_⟩
    · have wa_62_12 : ¬ b = a_62_12 := fun e => ga_62_12 (e ▸ hb)
      have wa_73_22 : ¬ b = a_73_22 := fun e => ga_73_22 (e ▸ hb)
      have wa_84_33 : ¬ b = a_84_33 := fun e => ga_84_33 (e ▸ hb)
      have wa_96_44 : ¬ b = a_96_44 := fun e => ga_96_44 (e ▸ hb)
      have wa_104_49 : ¬ b = a_104_49 := fun e => ga_104_49 (e ▸ hb)
      have wa_110_54 : ¬ b = a_110_54 := fun e => ga_110_54 (e ▸ hb)
      simp [kS.at_, uI_L, uI_K, uI_O, uI_N, uI_R, uI_I, uR_L, uR_K, uR_O, uR_N, uR_I, uR_R, nwL', nwK', nwO', nwN', nwI', nwR', fiL', fiK', fiO', fiN', fiR', fiI', hb, wa_62_12, wa_73_22, wa_84_33, wa_96_44, wa_104_49, wa_110_54]
    · have hn : ¬ b = q := hn
      have wa_62_12 : ¬ b = a_62_12 := fun e => ga_62_12 (e ▸ hb)
      have wa_73_22 : ¬ b = a_73_22 := fun e => ga_73_22 (e ▸ hb)
      have wa_84_33 : ¬ b = a_84_33 := fun e => ga_84_33 (e ▸ hb)
      have wa_96_44 : ¬ b = a_96_44 := fun e => ga_96_44 (e ▸ hb)
      have wa_104_49 : ¬ b = a_104_49 := fun e => ga_104_49 (e ▸ hb)
      have wa_110_54 : ¬ b = a_110_54 := fun e => ga_110_54 (e ▸ hb)
      simp [kS.at_, uI_L, uI_K, uI_O, uI_N, uI_R, uI_I, uR_L, uR_K, uR_O, uR_N, uR_I, uR_R, nwL', nwK', nwO', nwN', nwI', nwR', fiL', fiK', fiO', fiN', fiR', fiI', hn, wa_62_12, wa_73_22, wa_84_33, wa_96_44, wa_104_49, wa_110_54]
  have hBu : kB2 C.e0 Zc q a_62_12 a_73_22 a_84_33 a_96_44 a_104_49 a_110_54 := by
    obtain ⟨hq1, hq2, hq3⟩ := hq
    obtain ⟨hq4, hq5⟩ := hq1
    unfold kB2 kOj
    rw [hZc]
    simp [kS.at_, uI_L, uI_K, uI_O, uI_N, uI_R, uI_I, uR_L, uR_K, uR_O, uR_N, uR_I, uR_R, nwL', nwK', nwO', nwN', nwI', nwR', fiL', fiK', fiO', fiN', fiR', fiI', hq4, hq5, hq2, hq3, na_62_12, oa_62_12, na_73_22, oa_73_22, na_73_22a_62_12, oa_73_22a_62_12, na_84_33, oa_84_33, na_84_33a_62_12, oa_84_33a_62_12, na_84_33a_73_22, oa_84_33a_73_22, na_96_44, oa_96_44, na_96_44a_62_12, oa_96_44a_62_12, na_96_44a_73_22, oa_96_44a_73_22, na_96_44a_84_33, oa_96_44a_84_33, na_104_49, oa_104_49, na_104_49a_62_12, oa_104_49a_62_12, na_104_49a_73_22, oa_104_49a_73_22, na_104_49a_84_33, oa_104_49a_84_33, na_104_49a_96_44, oa_104_49a_96_44, na_110_54, oa_110_54, na_110_54a_62_12, oa_110_54a_62_12, na_110_54a_73_22, oa_110_54a_73_22, na_110_54a_84_33, oa_110_54a_84_33, na_110_54a_96_44, oa_110_54a_96_44, na_110_54a_104_49, oa_110_54a_104_49]
  have h11 : kOj Zc a_84_33 12 11 0 := by
    unfold kOj
    rw [hZc]
    simp [kS.at_, uI_L, uI_K, uI_O, uI_N, uI_R, uI_I, uR_L, uR_K, uR_O, uR_N, uR_I, uR_R, nwL', nwK', nwO', nwN', nwI', nwR', fiL', fiK', fiO', fiN', fiR', fiI', na_62_12, oa_62_12, na_73_22, oa_73_22, na_73_22a_62_12, oa_73_22a_62_12, na_84_33, oa_84_33, na_84_33a_62_12, oa_84_33a_62_12, na_84_33a_73_22, oa_84_33a_73_22, na_96_44, oa_96_44, na_96_44a_62_12, oa_96_44a_62_12, na_96_44a_73_22, oa_96_44a_73_22, na_96_44a_84_33, oa_96_44a_84_33, na_104_49, oa_104_49, na_104_49a_62_12, oa_104_49a_62_12, na_104_49a_73_22, oa_104_49a_73_22, na_104_49a_84_33, oa_104_49a_84_33, na_104_49a_96_44, oa_104_49a_96_44, na_110_54, oa_110_54, na_110_54a_62_12, oa_110_54a_62_12, na_110_54a_73_22, oa_110_54a_73_22, na_110_54a_84_33, oa_110_54a_84_33, na_110_54a_96_44, oa_110_54a_96_44, na_110_54a_104_49, oa_110_54a_104_49]
  have hl11 : kLc C.e0 Zc a_84_33 8 0 (fun _ => 0) 0 := kLc_0 h11.1 (by rw [hZc]; simp [kS.at_, uI_L, uI_K, uI_O, uI_N, uI_R, uI_I, uR_L, uR_K, uR_O, uR_N, uR_I, uR_R, nwL', nwK', nwO', nwN', nwI', nwR', fiL', fiK', fiO', fiN', fiR', fiI', na_62_12, oa_62_12, na_73_22, oa_73_22, na_73_22a_62_12, oa_73_22a_62_12, na_84_33, oa_84_33, na_84_33a_62_12, oa_84_33a_62_12, na_84_33a_73_22, oa_84_33a_73_22, na_96_44, oa_96_44, na_96_44a_62_12, oa_96_44a_62_12, na_96_44a_73_22, oa_96_44a_73_22, na_96_44a_84_33, oa_96_44a_84_33, na_104_49, oa_104_49, na_104_49a_62_12, oa_104_49a_62_12, na_104_49a_73_22, oa_104_49a_73_22, na_104_49a_84_33, oa_104_49a_84_33, na_104_49a_96_44, oa_104_49a_96_44, na_110_54, oa_110_54, na_110_54a_62_12, oa_110_54a_62_12, na_110_54a_73_22, oa_110_54a_73_22, na_110_54a_84_33, oa_110_54a_84_33, na_110_54a_96_44, oa_110_54a_96_44, na_110_54a_104_49, oa_110_54a_104_49]) (by rw [hZc]; simp [kS.at_, uI_L, uI_K, uI_O, uI_N, uI_R, uI_I, uR_L, uR_K, uR_O, uR_N, uR_I, uR_R, nwL', nwK', nwO', nwN', nwI', nwR', fiL', fiK', fiO', fiN', fiR', fiI', na_62_12, oa_62_12, na_73_22, oa_73_22, na_73_22a_62_12, oa_73_22a_62_12, na_84_33, oa_84_33, na_84_33a_62_12, oa_84_33a_62_12, na_84_33a_73_22, oa_84_33a_73_22, na_96_44, oa_96_44, na_96_44a_62_12, oa_96_44a_62_12, na_96_44a_73_22, oa_96_44a_73_22, na_96_44a_84_33, oa_96_44a_84_33, na_104_49, oa_104_49, na_104_49a_62_12, oa_104_49a_62_12, na_104_49a_73_22, oa_104_49a_73_22, na_104_49a_84_33, oa_104_49a_84_33, na_104_49a_96_44, oa_104_49a_96_44, na_110_54, oa_110_54, na_110_54a_62_12, oa_110_54a_62_12, na_110_54a_73_22, oa_110_54a_73_22, na_110_54a_84_33, oa_110_54a_84_33, na_110_54a_96_44, oa_110_54a_96_44, na_110_54a_104_49, oa_110_54a_104_49])
  refine k_iconst X (v := 0) dX2_init_120 (by decide) ?_
  refine k_istore_n X [(1, .int 0), (0, .ref q)] dX2_init_121 rfl (by decide) rfl ?_
  refine k_room (k' := 6 + 3 * 0) (n' := 17 + 81 * 0) (by omega) (by omega) ?_
  have L_122 : ∀ (N : Nat) (i : Nat) (x : Int32) (Si : kS) (f g : Nat → Nat) (c : Nat), 7 - i = N → x = nI i → (i ≤ 7 ∧ kFr Zc Si (fun z => (fun ρ => ρ = 11 ∨ ρ = 111) (Zc.O z)) ∧ kLc C.e0 Si a_84_33 8 i f c ∧ ∀ k, k < i → kB8 C.e0 Si (f k) (g k) k) → kG C 2 Si (6 + 3 * i) (17 + 81 * i) 122 [(1, .int x), (0, .ref q)] [] := by
    intro N
    induction N using Nat.strongRecOn with
    | _ N ih =>
    intro i x Si f g c hMs h122_0 h122_1
    subst h122_0
    obtain ⟨hi7, hfi, hlc, hall⟩ := h122_1
    have hBi := hBu.fr (Pr := fun ρ => ρ = 11 ∨ ρ = 111) hfi (by decide) (by decide) (by decide) (by decide) (by decide) (by decide)
    have h11i := h11.fr hfi
    refine k_iload_n X (q := 0) dX2_init_122 rfl rfl ?_
    refine k_bipush X (v := 7) dX2_init_123 (by decide) ?_
    refine k_icmp_ge (tgt := 150) X dX2_init_125 (by decide) (fun c_125 => ?_) (fun c_125 => ?_)
    · skip
      have hin : 7 = i := by have := ge_of_le (m := 7) c_125 (by omega); omega
      subst hin
      exact k_vret X E dX2_init_150 (by show _ ≤ 27; omega) (by show _ ≤ 584; omega) (⟨a_62_12, a_73_22, a_84_33, a_96_44, a_104_49, a_110_54, f, g, c, hFr.trX hfi (fun z hz hz2 => by have h5 := (hFr.1 z hz).2.2.1; have h6 : Zc.O z = 11 ∨ Zc.O z = 111 := hz2; have h7 := hO z hz; omega), hBi, h11i, hlc, hall⟩)
    · skip
      have hlt : i < 7 := lt_of_nle (m := 7) c_125 (by omega)
      refine k_aload_n X (q := 1) dX2_init_128 rfl rfl ?_
      refine gX2_61s X (S := Si) hBi.1.1.1.1 hBi.1.1.1.2 hBi.1.2.2.2.2.2.2.2.2.2.2.2.1 dX2_init_129 ?_
      refine nX2_77 X (60 + i) (by show _ ≤ 27; omega) (by show _ ≤ 584; omega) dX2_init_132 (fun a_132_65 fa_132_65 => ?_)
      have hq9 : kOj (Si.nw a_132_65 8 (60 + i) 0) a_132_65 8 (60 + i) 0 := ⟨nw_self (S := Si) (κ := 8) (ρ := 60 + i) (n := 0), nw_Oq (S := Si) (κ := 8) (ρ := 60 + i) (n := 0), nw_Nq (S := Si) (κ := 8) (ρ := 60 + i) (n := 0)⟩
      refine k_dup X dX2_init_135 rfl ?_
      refine k_iload_n X (q := 0) dX2_init_136 rfl rfl ?_
      refine k_gotV X (vX2_79 X (S := (Si.nw a_132_65 8 (60 + i) 0)) (c_X8_init C.l C.e0 (Si.nw a_132_65 8 (60 + i) 0) a_132_65 i hq9) (As := [.int (nI i)]) (rest := [.ref a_132_65, .ref a_84_33]) rfl rfl rfl rfl ⟨Nat.le_of_ble_eq_true rfl, Nat.le_of_ble_eq_true rfl⟩ (Nat.le_of_ble_eq_true rfl) ⟨(by show _ ≤ 27; omega), (by show _ ≤ 584; omega)⟩ dX2_init_137) (fun S_137_67 h_137_65 => ?_)
      obtain ⟨g9, hfr8, hb8⟩ := h_137_65
      have hF12 : kFr Si S_137_67 (fun _ => False) := ((kFr.rf Si _).nw fa_132_65).trX hfr8 (fun z hz e => absurd hz (by rw [e]; exact fa_132_65))
      have hlc2 := hlc.fr hF12 (fun b hb _ z => z)
      have h112 := h11i.fr hF12
      obtain ⟨cx, hcx⟩ : ∃ z, z = c := ⟨_, rfl⟩
      have hkm9 := kmc_le c i
      have hks9 := kms_le hlc.cap (by omega)
      refine k_gotI X (vX2_82 X (S := S_137_67) ⟨h112.1.1, h112.1.2⟩ (c_Jx4a65c_add_9ea2d C.l C.e0 S_137_67 a_84_33 8 i c a_132_65 f kEl_8 hlc2 hb8.1.1.1 (by omega)) (As := [.ref a_132_65]) (rest := []) rfl rfl rfl rfl ⟨Nat.le_of_ble_eq_true rfl, Nat.le_of_ble_eq_true rfl⟩ (Nat.le_of_ble_eq_true rfl) ⟨(by show _ ≤ 27; omega), (by show _ ≤ 584; omega)⟩ dX2_init_140) (fun v_140_69 S_140_70 h_140_67 => ?_)
      obtain ⟨-, hfa, hla⟩ := h_140_67
      have hfb := hfa.ad h112.2.1
      have hF13 : kFr Si S_140_70 (fun z => (fun ρ => ρ = 11 ∨ ρ = 111) (Si.O z)) := (hF12.mono (fun b hb z => absurd z id)).trX hfb (fun z hz hz2 => by
        have h5 := (hF12.1 z hz).2.2.1
        have h6 : (S_137_67).O z = 11 ∨ (S_137_67).O z = 111 := hz2
        rw [h5] at h6
        exact h6)
      have hFn : kFr Zc S_140_70 (fun z => (fun ρ => ρ = 11 ∨ ρ = 111) (Zc.O z)) := hfi.trX hF13 (fun z hz hz2 => by
        have h5 := (hfi.1 z hz).2.2.1
        have h6 : Si.O z = 11 ∨ Si.O z = 111 := hz2
        rw [h5] at h6
        exact h6)
      have halln : ∀ k, k < i + 1 → kB8 C.e0 S_140_70 (va_up f i a_132_65 k) (va_up g i g9 k) k := fun k hk => by
        by_cases e : k = i
        · rw [show va_up f i a_132_65 k = a_132_65 from if_pos e, show va_up g i g9 k = g9 from if_pos e, e]
          exact hb8.fr (Pr := fun ρ => ρ = 11 ∨ ρ = 111) hfb (fun z => by omega) (fun z => by omega)
        · rw [show va_up f i a_132_65 k = f k from if_neg e, show va_up g i g9 k = g k from if_neg e]
          exact (hall k (by omega)).fr (Pr := fun ρ => ρ = 11 ∨ ρ = 111) hF13 (fun z => by omega) (fun z => by omega)
      refine k_pop X dX2_init_143 rfl ?_
      obtain ⟨v_144_71, ev_144_71⟩ : ∃ z : Int32, z = (nI i) + 1 := ⟨_, rfl⟩
      refine k_iinc X (q := 0) (v := v_144_71) [(1, .int v_144_71), (0, .ref q)] dX2_init_144 rfl (by rw [ev_144_71]; rfl) (by decide) rfl ?_
      refine k_goto (tgt := 122) X dX2_init_147 (by decide) ?_
      refine k_lv [0, 1] _ rfl ?_
      refine k_room (k' := 6 + 3 * (i + 1)) (n' := 17 + 81 * (i + 1)) (by omega) (by omega) ?_
      exact ih (7 - (i + 1)) (by omega) (i + 1) _ _ (va_up f i a_132_65) (va_up g i g9) _ rfl (by rw [ev_144_71, nI_1]) ⟨by omega, hFn, hla, halln⟩
  refine k_lv [0, 1] _ rfl ?_
  exact L_122 _ 0 0 _ (fun _ => 0) (fun _ => 0) _ rfl nI_0.symm ⟨by omega, kFr.rf _ _, hl11, fun k hk => absurd hk (by omega)⟩
