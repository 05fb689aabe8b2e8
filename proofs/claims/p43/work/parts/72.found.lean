set_option maxHeartbeats 1000000 in
set_option maxRecDepth 20000 in
theorem c_X1_init (l : Launch) (e0 : Nat × Nat) (S : kS) (q : Nat) (x1 x2 x3 x4 x5 x6 : Int32) (hq : kOj S q 1 200 0) : kM l e0 yX1_init cX1_init 7 none ({ frames := 1, cells := 0, slots := 0, locals := 24 } : Room) 0 0 [.ref q, .int x1, .int x2, .int x3, .int x4, .int x5, .int x6] S (kQv (fun S9 => kFr S S9 (fun b => b = q) ∧ kOj S9 q 1 200 0 ∧ S9.I q 0 = x1 ∧ S9.I q 1 = x2 ∧ S9.I q 3 = x3 ∧ S9.I q 4 = x4 ∧ S9.I q 6 = x6 ∧ S9.I q 5 = 0 ∧ S9.I q 9 = 0)) := by
  refine kMetE (by decide +kernel) (Nat.le_of_ble_eq_true rfl) (fun C he hl X E hm => ?_)
  have X : kX C RX1 cX1_init 7 ({ frames := 1, cells := 0, slots := 0, locals := 24 } : Room) := X
  subst he hl
  show kG C 7 S 0 0 0 [(0, .ref q), (1, .int x1), (2, .int x2), (3, .int x3), (4, .int x4), (5, .int x5), (6, .int x6)] []
  refine k_aload_n X (q := 0) dX1_init_0 rfl rfl ?_
  refine k_objInit X qmX1_3 (Nat.le_of_ble_eq_true rfl) (Nat.le_of_ble_eq_true rfl) dX1_init_1 ?_
  refine k_aload_n X (q := 0) dX1_init_4 rfl rfl ?_
  refine k_iconst X (v := 0) dX1_init_5 (by decide) ?_
  refine pX1_9 X (S := S) hq.1.1 hq.1.2 dX1_init_6 ?_
  have hat_1 := at_uI (b := q) (j := 5) (v := 0) hq.1
  refine k_aload_n X (q := 0) dX1_init_9 rfl rfl ?_
  refine k_iconst X (v := 0) dX1_init_10 (by decide) ?_
  refine pX1_15 X (S := (S.uI q 5 0)) hat_1.1 hat_1.2 dX1_init_11 ?_
  have hat_2 := at_uI (b := q) (j := 7) (v := 0) hat_1
  refine k_aload_n X (q := 0) dX1_init_14 rfl rfl ?_
  refine k_iconst X (v := 0) dX1_init_15 (by decide) ?_
  refine pX1_18 X (S := ((S.uI q 5 0).uI q 7 0)) hat_2.1 hat_2.2 dX1_init_16 ?_
  have hat_3 := at_uI (b := q) (j := 8) (v := 0) hat_2
  refine k_aload_n X (q := 0) dX1_init_19 rfl rfl ?_
  refine k_iconst X (v := 0) dX1_init_20 (by decide) ?_
  refine pX1_21 X (S := (((S.uI q 5 0).uI q 7 0).uI q 8 0)) hat_3.1 hat_3.2 (Or.inl rfl) dX1_init_21 ?_
  have hat_4 := at_uI (b := q) (j := 9) (v := 0) hat_3
  refine k_aload_n X (q := 0) dX1_init_24 rfl rfl ?_
  refine k_iconst X (v := (-1)) dX1_init_25 (by decide) ?_
  refine pX1_25 X (S := ((((S.uI q 5 0).uI q 7 0).uI q 8 0).uI q 9 0)) hat_4.1 hat_4.2 dX1_init_26 ?_
  have hat_5 := at_uI (b := q) (j := 10) (v := (-1 : Int32)) hat_4
  refine k_aload_n X (q := 0) dX1_init_29 rfl rfl ?_
  refine k_iconst X (v := (-1)) dX1_init_30 (by decide) ?_
  refine pX1_28 X (S := (((((S.uI q 5 0).uI q 7 0).uI q 8 0).uI q 9 0).uI q 10 (-1 : Int32))) hat_5.1 hat_5.2 dX1_init_31 ?_
  have hat_6 := at_uI (b := q) (j := 11) (v := (-1 : Int32)) hat_5
  refine k_aload_n X (q := 0) dX1_init_34 rfl rfl ?_
  refine k_iconst X (v := 0) dX1_init_35 (by decide) ?_
  refine pX1_31 X (S := ((((((S.uI q 5 0).uI q 7 0).uI q 8 0).uI q 9 0).uI q 10 (-1 : Int32)).uI q 11 (-1 : Int32))) hat_6.1 hat_6.2 dX1_init_36 ?_
  have hat_7 := at_uI (b := q) (j := 12) (v := 0) hat_6
  refine k_aload_n X (q := 0) dX1_init_39 rfl rfl ?_
  refine k_iconst X (v := 0) dX1_init_40 (by decide) ?_
  refine pX1_34 X (S := (((((((S.uI q 5 0).uI q 7 0).uI q 8 0).uI q 9 0).uI q 10 (-1 : Int32)).uI q 11 (-1 : Int32)).uI q 12 0)) hat_7.1 hat_7.2 (Or.inl rfl) dX1_init_41 ?_
  have hat_8 := at_uI (b := q) (j := 13) (v := 0) hat_7
  refine k_aload_n X (q := 0) dX1_init_44 rfl rfl ?_
  refine k_iconst X (v := 0) dX1_init_45 (by decide) ?_
  refine pX1_37 X (S := ((((((((S.uI q 5 0).uI q 7 0).uI q 8 0).uI q 9 0).uI q 10 (-1 : Int32)).uI q 11 (-1 : Int32)).uI q 12 0).uI q 13 0)) hat_8.1 hat_8.2 (Or.inl rfl) dX1_init_46 ?_
  have hat_9 := at_uI (b := q) (j := 14) (v := 0) hat_8
  refine k_aload_n X (q := 0) dX1_init_49 rfl rfl ?_
  refine k_iconst X (v := 0) dX1_init_50 (by decide) ?_
  refine pX1_40 X (S := (((((((((S.uI q 5 0).uI q 7 0).uI q 8 0).uI q 9 0).uI q 10 (-1 : Int32)).uI q 11 (-1 : Int32)).uI q 12 0).uI q 13 0).uI q 14 0)) hat_9.1 hat_9.2 (Or.inl rfl) dX1_init_51 ?_
  have hat_10 := at_uI (b := q) (j := 15) (v := 0) hat_9
  refine k_aload_n X (q := 0) dX1_init_54 rfl rfl ?_
  refine k_iload_n X (q := 1) dX1_init_55 rfl rfl ?_
  refine pX1_43 X (S := ((((((((((S.uI q 5 0).uI q 7 0).uI q 8 0).uI q 9 0).uI q 10 (-1 : Int32)).uI q 11 (-1 : Int32)).uI q 12 0).uI q 13 0).uI q 14 0).uI q 15 0)) hat_10.1 hat_10.2 hm dX1_init_56 ?_
  have hat_11 := at_uI (b := q) (j := 0) (v := x1) hat_10
  refine k_aload_n X (q := 0) dX1_init_59 rfl rfl ?_
  refine k_iload_n X (q := 2) dX1_init_60 rfl rfl ?_
  refine pX1_46 X (S := (((((((((((S.uI q 5 0).uI q 7 0).uI q 8 0).uI q 9 0).uI q 10 (-1 : Int32)).uI q 11 (-1 : Int32)).uI q 12 0).uI q 13 0).uI q 14 0).uI q 15 0).uI q 0 x1)) hat_11.1 hat_11.2 hm dX1_init_61 ?_
  have hat_12 := at_uI (b := q) (j := 1) (v := x2) hat_11
  refine k_aload_n X (q := 0) dX1_init_64 rfl rfl ?_
  refine k_iload_n X (q := 3) dX1_init_65 rfl rfl ?_
  refine pX1_49 X (S := ((((((((((((S.uI q 5 0).uI q 7 0).uI q 8 0).uI q 9 0).uI q 10 (-1 : Int32)).uI q 11 (-1 : Int32)).uI q 12 0).uI q 13 0).uI q 14 0).uI q 15 0).uI q 0 x1).uI q 1 x2)) hat_12.1 hat_12.2 dX1_init_66 ?_
  have hat_13 := at_uI (b := q) (j := 3) (v := x3) hat_12
  refine k_aload_n X (q := 0) dX1_init_69 rfl rfl ?_
  refine k_iload X (q := 4) dX1_init_70 rfl ?_
  refine pX1_52 X (S := (((((((((((((S.uI q 5 0).uI q 7 0).uI q 8 0).uI q 9 0).uI q 10 (-1 : Int32)).uI q 11 (-1 : Int32)).uI q 12 0).uI q 13 0).uI q 14 0).uI q 15 0).uI q 0 x1).uI q 1 x2).uI q 3 x3)) hat_13.1 hat_13.2 dX1_init_72 ?_
  have hat_14 := at_uI (b := q) (j := 4) (v := x4) hat_13
  refine k_aload_n X (q := 0) dX1_init_75 rfl rfl ?_
  refine k_iload X (q := 5) dX1_init_76 rfl ?_
  refine pX1_55 X (S := ((((((((((((((S.uI q 5 0).uI q 7 0).uI q 8 0).uI q 9 0).uI q 10 (-1 : Int32)).uI q 11 (-1 : Int32)).uI q 12 0).uI q 13 0).uI q 14 0).uI q 15 0).uI q 0 x1).uI q 1 x2).uI q 3 x3).uI q 4 x4)) hat_14.1 hat_14.2 hm dX1_init_78 ?_
  have hat_15 := at_uI (b := q) (j := 2) (v := x5) hat_14
  refine k_aload_n X (q := 0) dX1_init_81 rfl rfl ?_
  refine k_iload X (q := 6) dX1_init_82 rfl ?_
  refine pX1_58 X (S := (((((((((((((((S.uI q 5 0).uI q 7 0).uI q 8 0).uI q 9 0).uI q 10 (-1 : Int32)).uI q 11 (-1 : Int32)).uI q 12 0).uI q 13 0).uI q 14 0).uI q 15 0).uI q 0 x1).uI q 1 x2).uI q 3 x3).uI q 4 x4).uI q 2 x5)) hat_15.1 hat_15.2 dX1_init_84 ?_
  have hat_16 := at_uI (b := q) (j := 6) (v := x6) hat_15
  have hFr : kFr S ((((((((((((((((S.uI q 5 0).uI q 7 0).uI q 8 0).uI q 9 0).uI q 10 (-1 : Int32)).uI q 11 (-1 : Int32)).uI q 12 0).uI q 13 0).uI q 14 0).uI q 15 0).uI q 0 x1).uI q 1 x2).uI q 3 x3).uI q 4 x4).uI q 2 x5).uI q 6 x6) (fun b => b = q) := by
    refine ⟨fun b hb => ?_, fun b hb hn => ?_⟩
    · 
      simp [kS.at_, uI_L, uI_K, uI_O, uI_N, uI_R, uI_I, uR_L, uR_K, uR_O, uR_N, uR_I, uR_R, nwL', nwK', nwO', nwN', nwI', nwR', fiL', fiK', fiO', fiN', fiR', fiI', hb, ]
    · have hn : ¬ b = q := hn
      simp [kS.at_, uI_L, uI_K, uI_O, uI_N, uI_R, uI_I, uR_L, uR_K, uR_O, uR_N, uR_I, uR_R, nwL', nwK', nwO', nwN', nwI', nwR', fiL', fiK', fiO', fiN', fiR', fiI', hn, ]
  have hBu : kOj ((((((((((((((((S.uI q 5 0).uI q 7 0).uI q 8 0).uI q 9 0).uI q 10 (-1 : Int32)).uI q 11 (-1 : Int32)).uI q 12 0).uI q 13 0).uI q 14 0).uI q 15 0).uI q 0 x1).uI q 1 x2).uI q 3 x3).uI q 4 x4).uI q 2 x5).uI q 6 x6) q 1 200 0 ∧ ((((((((((((((((S.uI q 5 0).uI q 7 0).uI q 8 0).uI q 9 0).uI q 10 (-1 : Int32)).uI q 11 (-1 : Int32)).uI q 12 0).uI q 13 0).uI q 14 0).uI q 15 0).uI q 0 x1).uI q 1 x2).uI q 3 x3).uI q 4 x4).uI q 2 x5).uI q 6 x6).I q 0 = x1 ∧ ((((((((((((((((S.uI q 5 0).uI q 7 0).uI q 8 0).uI q 9 0).uI q 10 (-1 : Int32)).uI q 11 (-1 : Int32)).uI q 12 0).uI q 13 0).uI q 14 0).uI q 15 0).uI q 0 x1).uI q 1 x2).uI q 3 x3).uI q 4 x4).uI q 2 x5).uI q 6 x6).I q 1 = x2 ∧ ((((((((((((((((S.uI q 5 0).uI q 7 0).uI q 8 0).uI q 9 0).uI q 10 (-1 : Int32)).uI q 11 (-1 : Int32)).uI q 12 0).uI q 13 0).uI q 14 0).uI q 15 0).uI q 0 x1).uI q 1 x2).uI q 3 x3).uI q 4 x4).uI q 2 x5).uI q 6 x6).I q 3 = x3 ∧ ((((((((((((((((S.uI q 5 0).uI q 7 0).uI q 8 0).uI q 9 0).uI q 10 (-1 : Int32)).uI q 11 (-1 : Int32)).uI q 12 0).uI q 13 0).uI q 14 0).uI q 15 0).uI q 0 x1).uI q 1 x2).uI q 3 x3).uI q 4 x4).uI q 2 x5).uI q 6 x6).I q 4 = x4 ∧ ((((((((((((((((S.uI q 5 0).uI q 7 0).uI q 8 0).uI q 9 0).uI q 10 (-1 : Int32)).uI q 11 (-1 : Int32)).uI q 12 0).uI q 13 0).uI q 14 0).uI q 15 0).uI q 0 x1).uI q 1 x2).uI q 3 x3).uI q 4 x4).uI q 2 x5).uI q 6 x6).I q 6 = x6 ∧ ((((((((((((((((S.uI q 5 0).uI q 7 0).uI q 8 0).uI q 9 0).uI q 10 (-1 : Int32)).uI q 11 (-1 : Int32)).uI q 12 0).uI q 13 0).uI q 14 0).uI q 15 0).uI q 0 x1).uI q 1 x2).uI q 3 x3).uI q 4 x4).uI q 2 x5).uI q 6 x6).I q 5 = 0 ∧ ((((((((((((((((S.uI q 5 0).uI q 7 0).uI q 8 0).uI q 9 0).uI q 10 (-1 : Int32)).uI q 11 (-1 : Int32)).uI q 12 0).uI q 13 0).uI q 14 0).uI q 15 0).uI q 0 x1).uI q 1 x2).uI q 3 x3).uI q 4 x4).uI q 2 x5).uI q 6 x6).I q 9 = 0 := by
    obtain ⟨hq1, hq2, hq3⟩ := hq
    obtain ⟨hq4, hq5⟩ := hq1
    unfold kOj
    simp [kS.at_, uI_L, uI_K, uI_O, uI_N, uI_R, uI_I, uR_L, uR_K, uR_O, uR_N, uR_I, uR_R, nwL', nwK', nwO', nwN', nwI', nwR', fiL', fiK', fiO', fiN', fiR', fiI', hq4, hq5, hq2, hq3]
  exact k_vret X E dX1_init_87 (Nat.le_of_ble_eq_true rfl) (Nat.le_of_ble_eq_true rfl) (⟨hFr, hBu⟩)
theorem clR_k {r : Nat} (h : clR r) : (r, 12) ∈ stK := by
  unfold clR at h
  rcases (show r = 12 ∨ r = 13 ∨ r = 14 ∨ r = 16 ∨ r = 17 ∨ r = 20 ∨ r = 21 ∨ r = 22 ∨ r = 23 ∨ r = 24 ∨ r = 25 ∨ r = 26 ∨ r = 27 ∨ r = 28 ∨ r = 29 ∨ r = 30 ∨ r = 31 by omega) with rfl | rfl | rfl | rfl | rfl | rfl | rfl | rfl | rfl | rfl | rfl | rfl | rfl | rfl | rfl | rfl | rfl <;> decide
theorem kSt_oo {A : Nat → Nat} {S : kS} (h0 : kSt A S) : ∀ k, k < 7 → S.at (kof A k) 8 ∧ S.O (kof A k) = 60 + k := fun k hk => by
  rcases (show k = 0 ∨ k = 1 ∨ k = 2 ∨ k = 3 ∨ k = 4 ∨ k = 5 ∨ k = 6 by omega) with rfl | rfl | rfl | rfl | rfl | rfl | rfl
  · exact ⟨st_60 h0, so_60 h0⟩
  · exact ⟨st_61 h0, so_61 h0⟩
  · exact ⟨st_62 h0, so_62 h0⟩
  · exact ⟨st_63 h0, so_63 h0⟩
  · exact ⟨st_64 h0, so_64 h0⟩
  · exact ⟨st_65 h0, so_65 h0⟩
  · exact ⟨st_66 h0, so_66 h0⟩
theorem kRo_no {S : kS} {b r ρ : Nat} (ho : S.O b = r) (h : ¬ r = ρ ∧ ¬ r = 100 + ρ) : ¬ kRo S ρ b := fun z => by unfold kRo at z; omega
theorem kZ.add {e0 : Nat × Nat} {A : Nat → Nat} {i q c : Nat} {cz : Nat → Nat} {S S' : kS} (h : kZ e0 A i cz S) (hF : kFr S S' (kRo S 10)) (hl : kLc e0 S' (A 10) 1 (i + 1) (va_up cz i q) c) (hq : kCz S' q i) (hqn : q ∉ S.L) : kZ e0 A (i + 1) (va_up cz i q) S' := by
  obtain ⟨h0, ⟨c0, h1⟩, h2, h3, ⟨h4, h5⟩, h6, h7, h8, h9, ⟨⟨b1, b2, b3, b4, b5, b6, b7, b8⟩, ⟨b9, b10⟩, b11, b12, b13, b14⟩⟩ := h
  have hn : ∀ {r κ : Nat}, (r, κ) ∈ stK → ¬ r = 10 ∧ ¬ r = 110 → (∀ j, S'.I (A r) j = S.I (A r) j) ∧ ∀ j, S'.R (A r) j = S.R (A r) j := fun {r κ} hm hr => hF.2 _ (h0.1 _ hm).1.1 (kRo_no (h0.1 _ hm).2 hr)
  have i1 := hn (r := 1) (κ := 2) (by decide) (by decide)
  have i7 := hn (r := 7) (κ := 6) (by decide) (by decide)
  have i52 := hn (r := 52) (κ := 14) (by decide) (by decide)
  have i40 := hn (r := 40) (κ := 13) (by decide) (by decide)
  have i5 := hn (r := 5) (κ := 5) (by decide) (by decide)
  have i45 := hn (r := 45) (κ := 13) (by decide) (by decide)
  have hmem : ∀ t, t < i → cz t ∈ S.L := fun t ht => (kLs.el h1.s ht).1
  refine ⟨h0.frR hF (by decide), ⟨c, hl⟩, h2.frR (so_11 h0) hF (by decide) (by decide) (by decide), fun r hr => (h3 r hr).frR (h0.1 _ (clR_k hr)).2 hF (by unfold clR at hr; omega) (by unfold clR at hr; omega) (by unfold clR at hr; omega), ⟨h4.frR (so_18 h0) hF (by decide) (by decide) (by decide), h5.frR (so_19 h0) hF (by decide) (by decide) (by decide)⟩, h6.frR (so_15 h0) hF (by decide) (by decide) (by decide), fun t ht => ?_, fun t t' ht ht' e => ?_, fun k hk => ?_, ⟨⟨(i1.1 _).trans b1, (i1.1 _).trans b2, (i1.1 _).trans b3, (i1.1 _).trans b4, (i1.1 _).trans b5, (i1.1 _).trans b6, (i1.1 _).trans b7, (i1.2 _).trans b8⟩, ⟨(i7.1 _).trans b9, (i7.1 _).trans b10⟩, fun j => (i52.2 j).trans (b11 j), fun j => (i40.1 j).trans (b12 j), (i5.1 _).trans b13, fun j => (i45.1 j).trans (b14 j)⟩⟩
  · by_cases e : t = i
    · rw [show va_up cz i q t = q from if_pos e, e]; exact hq
    · rw [show va_up cz i q t = cz t from if_neg e]
      obtain ⟨c1, c2, c3, c4, c5, c6, c7, c8⟩ := h7 t (by omega)
      have hi := (hF.2 _ (hmem t (by omega)) (kRo_no c1 (by decide))).1
      exact ⟨((hF.1 _ (hmem t (by omega))).2.2.1).trans c1, (hi _).trans c2, (hi _).trans c3, (hi _).trans c4, (hi _).trans c5, (hi _).trans c6, by rw [hi]; exact c7, by rw [hi]; exact c8⟩
  · by_cases e1 : t = i
    · by_cases e2 : t' = i
      · omega
      · rw [show va_up cz i q t = q from if_pos e1, show va_up cz i q t' = cz t' from if_neg e2] at e
        exact absurd (hmem t' (by omega)) (by rw [← e]; exact hqn)
    · by_cases e2 : t' = i
      · rw [show va_up cz i q t = cz t from if_neg e1, show va_up cz i q t' = q from if_pos e2] at e
        exact absurd (hmem t (by omega)) (by rw [e]; exact hqn)
      · rw [show va_up cz i q t = cz t from if_neg e1, show va_up cz i q t' = cz t' from if_neg e2] at e
        exact h8 t t' (by omega) (by omega) e
  · obtain ⟨c1, c2, c3, c4⟩ := h9 k hk
    obtain ⟨k1, k2⟩ := kSt_oo h0 k hk
    obtain ⟨ii, rr⟩ := hF.2 _ k1.1 (kRo_no k2 (by omega))
    exact ⟨(ii _).trans c1, (ii _).trans c2, (ii _).trans c3, (rr _).trans c4⟩
theorem kWe_le {S : kS} {cz : Nat → Nat} : ∀ m, (∀ i, i < m → 0 ≤ (S.I (cz i) 4).toInt ∧ (S.I (cz i) 4).toInt ≤ 149) → kWe S cz m ≤ 149 * (m : Int)
  | 0, _ => by show (0 : Int) ≤ _; omega
  | m + 1, h => by
    have h1 := kWe_le m (fun i hi => h i (by omega))
    have h2 := h m (by omega)
    show kWe S cz m + (S.I (cz m) 4).toInt ≤ _
    omega
/-- the city is founded: what holds of it -/
theorem kZ.kI {e0 : Nat × Nat} {A : Nat → Nat} {n : Nat} {cz : Nat → Nat} {S : kS} (h : kZ e0 A n cz S) (hn : 20 ≤ n ∧ n ≤ 40) : kI e0 A n cz 0 0 0 S := by
  obtain ⟨h0, ⟨c0, h1⟩, h2, h3, ⟨h4, h5⟩, h6, h7, h8, h9, ⟨⟨b1, b2, b3, b4, b5, b6, b7, b8⟩, ⟨b9, b10⟩, b11, b12, b13, b14⟩⟩ := h
  have z0 : (0 : Int32).toInt = 0 := rfl
  have hw : ∀ i, i < n → 0 ≤ (S.I (cz i) 4).toInt ∧ (S.I (cz i) 4).toInt ≤ 149 := fun i hi => by
    obtain ⟨-, -, -, -, -, -, ⟨w, w1, w2⟩, -⟩ := h7 i hi
    rw [w2, nI_toInt (by omega)]; omega
  have hwe := kWe_le n hw
  refine ⟨⟨h0, h1.s, h2, fun r hr => ⟨0, _, h3 r hr, by omega, fun t ht => absurd ht (by omega)⟩, ⟨⟨0, _, h4, by omega, fun t ht => absurd ht (by omega)⟩, ⟨0, _, h5, by omega, fun t ht => absurd ht (by omega)⟩⟩, ⟨0, _, h6, by omega, fun t ht => absurd ht (by omega)⟩, ⟨hn, fun i hi => ⟨(h7 i hi).1, (h7 i hi).2.1, (h7 i hi).2.2.1⟩, fun i j hi hj e => h8 i j hi hj e⟩, fun k hk => (h9 k hk).1⟩, fun i hi => ?_, ⟨fun k hk c hc => absurd ((h9 k hk).2.2.2.symm.trans hc) (by simp), fun k k' hk hk' c hc => absurd ((h9 k hk).2.2.2.symm.trans hc) (by simp)⟩, fun c hc => absurd (b8.symm.trans hc) (by simp), ⟨fun k hk c hc => absurd ((b11 k).symm.trans hc) (by simp), fun k hk => ⟨0, by omega, (b12 k).trans nI_0.symm⟩⟩, ?_, ⟨⟨⟨0, by omega, b9.trans nI_0.symm⟩, by rw [b10, z0]; omega, by rw [b10, z0]; omega⟩, ⟨0, _, h3 23 (by unfold clR; omega), fun t ht => absurd ht (by omega), fun t t' ht => absurd ht (by omega)⟩⟩, ⟨Or.inr b2, ⟨by rw [b3, z0]; omega, by rw [b3, z0]; omega⟩, ⟨0, by omega, b1.trans nI_0.symm⟩, Or.inl b7, ⟨0, by omega, b13.trans nI_0.symm⟩, fun k hk => ⟨0, by omega, (b14 k).trans nI_0.symm⟩⟩, fun k hk => ?_⟩
  · obtain ⟨c1, c2, c3, c4, c5, c6, ⟨w, w1, w2⟩, ⟨a, a1, a2⟩⟩ := h7 i hi
    exact ⟨⟨1, by omega, by omega, c4⟩, by rw [w2, nI_toInt (by omega)]; omega, ⟨by rw [c5, z0]; omega, by rw [c5, z0]; omega⟩, fun _ => c5, Or.inl c6, by rw [a2, nI_toInt (by omega)]; omega, by rw [a2, nI_toInt (by omega)]; omega⟩
  · refine ⟨?_, ?_, ?_, ?_, ?_⟩
    · rw [b4, b5, b6]; rfl
    · rw [b4]; decide
    · rw [b5, z0]; omega
    · rw [b6, z0]; omega
    · rw [b5, z0]; omega
  · obtain ⟨-, c2, c3, -⟩ := h9 k hk
    exact ⟨⟨by rw [c2, z0]; omega, by rw [c2, b1, z0]; omega⟩, by rw [c3, z0]; omega, by rw [c3, b5, b6, z0]; omega⟩
theorem kfr_okg {a k m : Nat} (h1 : a ≤ k) (h2 : k ≤ m) (h3 : m ≤ 1000) : ¬ kb (decide (nI a ≤ nI k) && decide (nI k ≤ nI m)) = 0 := by
  have g1 : nI a ≤ nI k := nI_le (by omega) (by omega)
  have g2 : nI k ≤ nI m := nI_le (by omega) (by omega)
  simp [kb, g1, g2]
set_option maxHeartbeats 1000000 in
set_option maxRecDepth 20000 in
theorem c_X2_inscribe (l : Launch) (e0 : Nat × Nat) (S : kS) (A : Nat → Nat) (i : Nat) (cz : Nat → Nat) (h : kZ e0 A i cz S) (hi40 : i < 40) (a u : Nat) (ha : a ≤ 100) (hu : u ≤ 149) (v9 : Int32) : kM l e0 yX2_inscribe cX2_inscribe 7 (Option.some Jvm.ClassFile.FieldType.int) ({ frames := 7, cells := 2, slots := 89, locals := 191 } : Room) 2 89 [.ref (A 1), .int (nI (i % 8)), .int (nI a), .int (nI u), .int v9, .int 1] S (kQi (fun v S9 => ∃ q, kZ e0 A (i + 1) (va_up cz i q) S9)) := by
  refine kMetE (by decide +kernel) (Nat.le_of_ble_eq_true rfl) (fun C he hl X E hm => ?_)
  have X : kX C RX2 cX2_inscribe 7 ({ frames := 7, cells := 2, slots := 89, locals := 191 } : Room) := X
  subst he hl
  show kG C 7 S 0 0 0 [(0, .ref (A 1)), (1, .int (nI (i % 8))), (2, .int (nI a)), (3, .int (nI u)), (4, .int v9), (5, .int 1)] []
  obtain ⟨c, hlc⟩ := h.2.1
  refine k_aload_n X (q := 0) dX2_inscribe_0 rfl rfl ?_
  refine gX2_57s X (S := S) (st_1 h.1).1 (st_1 h.1).2 (sr_1_12 h.1) dX2_inscribe_1 ?_
  refine k_gotI X (vX2_86 X (S := S) ⟨(st_10 h.1).1, (st_10 h.1).2⟩ (c_Jx4a65c_size_8abf5 C.l C.e0 S (A 10) (st_10 h.1)) (As := []) (rest := []) rfl rfl rfl rfl ⟨Nat.le_of_ble_eq_true rfl, Nat.le_of_ble_eq_true rfl⟩ (Nat.le_of_ble_eq_true rfl) ⟨(by show _ ≤ 2; omega), (by show _ ≤ 89; omega)⟩ dX2_inscribe_4) (fun v_4_2 S_4_3 h_4_0 => ?_)
  obtain ⟨rfl, ev_4_2⟩ := h_4_0
  have hz_v_4_2 : nI i = v_4_2 := by rw [ev_4_2]; exact (hlc.s).2.1.symm
  subst hz_v_4_2
  refine k_istore X [(6, .int (nI i)), (0, .ref (A 1)), (1, .int (nI (i % 8))), (2, .int (nI a)), (3, .int (nI u)), (4, .int v9), (5, .int 1)] dX2_inscribe_7 (by decide) rfl ?_
  refine k_aload_n X (q := 1) dX2_inscribe_9 rfl rfl ?_
  refine gX2_57s X (S := S) (st_1 h.1).1 (st_1 h.1).2 (sr_1_12 h.1) dX2_inscribe_10 ?_
  refine nX2_64 X 200 (by show _ ≤ 2; omega) (by show _ ≤ 89; omega) dX2_inscribe_13 (fun a_13_4 fa_13_4 => ?_)
  have hq9 : kOj (S.nw a_13_4 1 200 0) a_13_4 1 200 0 := ⟨nw_self (S := S) (κ := 1) (ρ := 200) (n := 0), nw_Oq (S := S) (κ := 1) (ρ := 200) (n := 0), nw_Nq (S := S) (κ := 1) (ρ := 200) (n := 0)⟩
  refine k_dup X dX2_inscribe_16 rfl ?_
  refine k_iload X (q := 0) dX2_inscribe_17 rfl ?_
  refine k_iload_n X (q := 2) dX2_inscribe_19 rfl rfl ?_
  refine k_iload_n X (q := 3) dX2_inscribe_20 rfl rfl ?_
  refine k_iload_n X (q := 4) dX2_inscribe_21 rfl rfl ?_
  refine k_iload X (q := 5) dX2_inscribe_22 rfl ?_
  refine k_iload X (q := 6) dX2_inscribe_24 rfl ?_
  refine k_gotV X (vX2_98 X (S := (S.nw a_13_4 1 200 0)) (c_X1_init C.l C.e0 (S.nw a_13_4 1 200 0) a_13_4 (nI i) (nI (i % 8)) (nI a) (nI u) v9 1 hq9) (As := [.int (nI i), .int (nI (i % 8)), .int (nI a), .int (nI u), .int v9, .int 1]) (rest := [.ref a_13_4, .ref (A 10)]) rfl rfl rfl rfl ⟨Nat.le_of_ble_eq_true rfl, Nat.le_of_ble_eq_true rfl⟩ (Nat.le_of_ble_eq_true rfl) ⟨(by show _ ≤ 2; omega), (by show _ ≤ 89; omega)⟩ dX2_inscribe_26) (fun S_26_6 h_26_4 => ?_)
  obtain ⟨hfr9, hb9⟩ := h_26_4
  have hF12 : kFr S S_26_6 (fun _ => False) := ((kFr.rf S _).nw fa_13_4).trX hfr9 (fun z hz e => absurd hz (by rw [e]; exact fa_13_4))
  have hlc2 := hlc.fr hF12 (fun b hb _ z => z)
  have ho10 : S_26_6.O (A 10) = 10 := ((hF12.1 _ (st_10 h.1).1).2.2.1).trans (so_10 h.1)
  have hkm9 := kmc_le c i
  have hks9 := kms_le hlc.cap (by omega)
  refine k_gotI X (vX2_82 X (S := S_26_6) ⟨(hF12.at (st_10 h.1)).1, (hF12.at (st_10 h.1)).2⟩ (c_Jx4a65c_add_9ea2d C.l C.e0 S_26_6 (A 10) 1 i c a_13_4 cz kEl_1 hlc2 hb9.1.1 (by omega)) (As := [.ref a_13_4]) (rest := []) rfl rfl rfl rfl ⟨Nat.le_of_ble_eq_true rfl, Nat.le_of_ble_eq_true rfl⟩ (Nat.le_of_ble_eq_true rfl) ⟨(by show _ ≤ 2; omega), (by show _ ≤ 89; omega)⟩ dX2_inscribe_29) (fun v_29_8 S_29_9 h_29_6 => ?_)
  obtain ⟨-, hfa, hla⟩ := h_29_6
  rw [ho10] at hfa
  have hF : kFr S S_29_9 (kRo S 10) := (hF12.mono (fun b hb z => absurd z id)).trX hfa (fun z hz hz2 => by
    have h5 := (hF12.1 z hz).2.2.1
    unfold kRo at hz2 ⊢
    rw [h5] at hz2
    exact hz2)
  have hcz : kCz S_29_9 a_13_4 i := by
    obtain ⟨⟨o1, o2, o3⟩, c1, c2, c3, c4, c5, c6, c7⟩ := hb9
    have hi := (hfa.2 _ o1.1 (kRo_no o2 (by decide))).1
    exact ⟨((hfa.1 _ o1.1).2.2.1).trans o2, (hi _).trans c1, (hi _).trans c2, (hi _).trans c5, (hi _).trans c6, (hi _).trans c7, ⟨u, hu, (hi _).trans c4⟩, ⟨a, ha, (hi _).trans c3⟩⟩
  have hz9 := h.add hF hla hcz fa_13_4
  refine k_pop X dX2_inscribe_32 rfl ?_
  refine k_iload X (q := 0) dX2_inscribe_33 rfl ?_
  exact k_iret X E dX2_inscribe_35 (by show _ ≤ 2; omega) (by show _ ≤ 89; omega) (⟨a_13_4, hz9⟩)
set_option maxHeartbeats 1000000 in
set_option maxRecDepth 20000 in
theorem c_X11_found (l : Launch) (e0 : Nat × Nat) (S : kS) (A : Nat → Nat) (cz : Nat → Nat) (h : kZ e0 A 0 cz S) (n d : Nat) (hn : 20 ≤ n ∧ n ≤ 40) (hd : d ≤ 99) : kM l e0 yX11_found cX11_found 7 (Option.some Jvm.ClassFile.FieldType.int) ({ frames := 8, cells := 80, slots := 3560, locals := 217 } : Room) 80 3560 [.ref (A 0), .int (nI n), .int (nI d)] S (kQi (fun v S9 => ∃ cz, kZ e0 A n cz S9)) := by
  refine kMetE (by decide +kernel) (Nat.le_of_ble_eq_true rfl) (fun C he hl X E hm => ?_)
  have X : kX C RX11 cX11_found 7 ({ frames := 8, cells := 80, slots := 3560, locals := 217 } : Room) := X
  subst he hl
  show kG C 7 S 0 0 0 [(0, .ref (A 0)), (1, .int (nI n)), (2, .int (nI d))] []
  obtain ⟨c0, hlc0⟩ := h.2.1
  refine k_iload_n X (q := 1) dX11_found_0 rfl rfl ?_
  refine k_iconst X (v := 1) dX11_found_1 (by decide) ?_
  refine k_bipush X (v := 40) dX11_found_2 (by decide) ?_
  refine k_gotI X (vX11_61 X (S := S) (c_X11_isFrom C.l C.e0 S (nI n) 1 40 ) (As := [.int (nI n), .int 1, .int 40]) (rest := []) rfl rfl rfl rfl ⟨Nat.le_of_ble_eq_true rfl, Nat.le_of_ble_eq_true rfl⟩ (Nat.le_of_ble_eq_true rfl) ⟨(by show _ ≤ 80; omega), (by show _ ≤ 3560; omega)⟩ dX11_found_4) (fun v_4_2 S_4_3 h_4_0 => ?_)
  obtain ⟨rfl, ev_4_2⟩ := h_4_0
  refine k_if_eq (tgt := 20) X dX11_found_7 (by decide) (fun c_7 => ?_) (fun c_7 => ?_)
  · skip
    rw [ev_4_2] at c_7
    exact absurd c_7 (kfr_okg (a := 1) (m := 40) (by omega) (by omega) (by omega))
  · skip
    rw [ev_4_2] at c_7
    refine k_iload_n X (q := 2) dX11_found_10 rfl rfl ?_
    refine k_iconst X (v := 0) dX11_found_11 (by decide) ?_
    refine k_bipush X (v := 99) dX11_found_12 (by decide) ?_
    refine k_gotI X (vX11_61 X (S := S) (c_X11_isFrom C.l C.e0 S (nI d) 0 99 ) (As := [.int (nI d), .int 0, .int 99]) (rest := []) rfl rfl rfl rfl ⟨Nat.le_of_ble_eq_true rfl, Nat.le_of_ble_eq_true rfl⟩ (Nat.le_of_ble_eq_true rfl) ⟨(by show _ ≤ 80; omega), (by show _ ≤ 3560; omega)⟩ dX11_found_14) (fun v_14_5 S_14_6 h_14_3 => ?_)
    obtain ⟨rfl, ev_14_5⟩ := h_14_3
    refine k_if_ne (tgt := 28) X dX11_found_17 (by decide) (fun c_17 => ?_) (fun c_17 => ?_)
    · skip
      rw [ev_14_5] at c_17
      refine k_aload_n X (q := 0) dX11_found_28 rfl rfl ?_
      refine gX11_10s X (S := S) (st_0 h.1).1 (st_0 h.1).2 (sr_0_0 h.1) dX11_found_29 ?_
      refine gX11_72s X (S := S) (st_1 h.1).1 (st_1 h.1).2 (sr_1_12 h.1) dX11_found_32 ?_
      refine k_gotI X (vX11_76 X (S := S) ⟨(st_10 h.1).1, (st_10 h.1).2⟩ (c_Jx4a65c_size_8abf5 C.l C.e0 S (A 10) (st_10 h.1)) (As := []) (rest := []) rfl rfl rfl rfl ⟨Nat.le_of_ble_eq_true rfl, Nat.le_of_ble_eq_true rfl⟩ (Nat.le_of_ble_eq_true rfl) ⟨(by show _ ≤ 80; omega), (by show _ ≤ 3560; omega)⟩ dX11_found_35) (fun v_35_8 S_35_9 h_35_6 => ?_)
      obtain ⟨rfl, ev_35_8⟩ := h_35_6
      have hz_v_35_8 : nI 0 = v_35_8 := by rw [ev_35_8]; exact (hlc0.s).2.1.symm
      subst hz_v_35_8
      refine k_iload_n X (q := 1) dX11_found_38 rfl rfl ?_
      refine k_iadd X dX11_found_39 (fun v_39_10 ev_39_10 => ?_)
      refine k_bipush X (v := 40) dX11_found_40 (by decide) ?_
      refine k_icmp_le (tgt := 53) X dX11_found_42 (by decide) (fun c_42 => ?_) (fun c_42 => ?_)
      · skip
        refine k_iconst X (v := 0) dX11_found_53 (by decide) ?_
        refine k_istore_n X [(3, .int 0), (0, .ref (A 0)), (1, .int (nI n)), (2, .int (nI d))] dX11_found_54 rfl (by decide) rfl ?_
        refine k_room (k' := 2 * 0) (n' := 89 * 0) (by omega) (by omega) ?_
        have L_55 : ∀ (N : Nat) (i : Nat) (x : Int32) (Si : kS) (cz : Nat → Nat), n - i = N → x = nI i → (i ≤ n ∧ kZ C.e0 A i cz Si) → kG C 7 Si (2 * i) (89 * i) 55 [(3, .int x), (0, .ref (A 0)), (1, .int (nI n)), (2, .int (nI d))] [] := by
          intro N
          induction N using Nat.strongRecOn with
          | _ N ih =>
          intro i x Si cz hMs h55_0 h55_1
          subst h55_0
          obtain ⟨hin, hz⟩ := h55_1
          refine k_iload_n X (q := 0) dX11_found_55 rfl rfl ?_
          refine k_iload_n X (q := 2) dX11_found_56 rfl rfl ?_
          refine k_icmp_ge (tgt := 124) X dX11_found_57 (by decide) (fun c_57 => ?_) (fun c_57 => ?_)
          · skip
            have hin9 : n = i := by have := ge_of_le c_57 (by omega); omega
            subst hin9
            refine k_aload_n X (q := 1) dX11_found_124 rfl rfl ?_
            refine gX11_10s X (S := Si) (st_0 hz.1).1 (st_0 hz.1).2 (sr_0_0 hz.1) dX11_found_125 ?_
            refine gX11_72s X (S := Si) (st_1 hz.1).1 (st_1 hz.1).2 (sr_1_12 hz.1) dX11_found_128 ?_
            refine k_gotI X (vX11_76 X (S := Si) ⟨(st_10 hz.1).1, (st_10 hz.1).2⟩ (c_Jx4a65c_size_8abf5 C.l C.e0 Si (A 10) (st_10 hz.1)) (As := []) (rest := []) rfl rfl rfl rfl ⟨Nat.le_of_ble_eq_true rfl, Nat.le_of_ble_eq_true rfl⟩ (Nat.le_of_ble_eq_true rfl) ⟨(by show _ ≤ 80; omega), (by show _ ≤ 3560; omega)⟩ dX11_found_131) (fun v_131_12 S_131_13 h_131_10 => ?_)
            obtain ⟨rfl, ev_131_12⟩ := h_131_10
            exact k_iret X E dX11_found_134 (by show _ ≤ 80; omega) (by show _ ≤ 3560; omega) (⟨cz, hz⟩)
          · skip
            have hlt : i < n := lt_of_nle c_57 (by omega)
            refine k_bipush X (v := 20) dX11_found_60 (by decide) ?_
            refine k_bipush X (v := 7) dX11_found_62 (by decide) ?_
            refine k_iload_n X (q := 0) dX11_found_64 rfl rfl ?_
            refine k_imul X dX11_found_65 (fun v_65_14 ev_65_14 => ?_)
            refine k_iload_n X (q := 3) dX11_found_66 rfl rfl ?_
            refine k_iadd X dX11_found_67 (fun v_67_15 ev_67_15 => ?_)
            refine k_bipush X (v := 45) dX11_found_68 (by decide) ?_
            refine k_irem X dX11_found_70 (by decide) (fun v_70_16 ev_70_16 => ?_)
            refine k_iadd X dX11_found_71 (fun v_71_17 ev_71_17 => ?_)
            refine k_istore X [(4, .int v_71_17), (3, .int (nI i)), (0, .ref (A 0)), (1, .int (nI n)), (2, .int (nI d))] dX11_found_72 (by decide) rfl ?_
            refine k_bipush X (v := 31) dX11_found_74 (by decide) ?_
            refine k_iload_n X (q := 1) dX11_found_76 rfl rfl ?_
            refine k_imul X dX11_found_77 (fun v_77_18 ev_77_18 => ?_)
            refine k_bipush X (v := 11) dX11_found_78 (by decide) ?_
            refine k_iload_n X (q := 4) dX11_found_80 rfl rfl ?_
            refine k_imul X dX11_found_81 (fun v_81_19 ev_81_19 => ?_)
            refine k_iadd X dX11_found_82 (fun v_82_20 ev_82_20 => ?_)
            refine k_sipush X (v := 150) dX11_found_83 (by decide) ?_
            refine k_irem X dX11_found_86 (by decide) (fun v_86_21 ev_86_21 => ?_)
            refine k_istore X [(5, .int v_86_21), (4, .int v_71_17), (3, .int (nI i)), (0, .ref (A 0)), (1, .int (nI n)), (2, .int (nI d))] dX11_found_87 (by decide) rfl ?_
            refine k_iconst X (v := 5) dX11_found_89 (by decide) ?_
            refine k_iload_n X (q := 2) dX11_found_90 rfl rfl ?_
            refine k_imul X dX11_found_91 (fun v_91_22 ev_91_22 => ?_)
            refine k_iload_n X (q := 5) dX11_found_92 rfl rfl ?_
            refine k_iadd X dX11_found_93 (fun v_93_23 ev_93_23 => ?_)
            refine k_bipush X (v := 16) dX11_found_94 (by decide) ?_
            refine k_irem X dX11_found_96 (by decide) (fun v_96_24 ev_96_24 => ?_)
            refine k_istore X [(6, .int v_96_24), (5, .int v_86_21), (4, .int v_71_17), (3, .int (nI i)), (0, .ref (A 0)), (1, .int (nI n)), (2, .int (nI d))] dX11_found_97 (by decide) rfl ?_
            refine k_aload_n X (q := 4) dX11_found_99 rfl rfl ?_
            refine gX11_10s X (S := Si) (st_0 hz.1).1 (st_0 hz.1).2 (sr_0_0 hz.1) dX11_found_100 ?_
            refine k_iload_n X (q := 3) dX11_found_103 rfl rfl ?_
            refine k_bipush X (v := 8) dX11_found_104 (by decide) ?_
            refine k_irem X dX11_found_106 (by decide) (fun v_106_25 ev_106_25 => ?_)
            refine k_iload X (q := 2) dX11_found_107 rfl ?_
            refine k_iload X (q := 1) dX11_found_109 rfl ?_
            refine k_iload X (q := 0) dX11_found_111 rfl ?_
            refine k_iconst X (v := 1) dX11_found_113 (by decide) ?_
            have ha9 : v_71_17 = nI (20 + (7 * i + d) % 45) := by rw [ev_71_17, ev_70_16, ev_67_15, ev_65_14, show (7 : Int32) = nI 7 from rfl, show (45 : Int32) = nI 45 from rfl, show (20 : Int32) = nI 20 from rfl, pk_mul, nI_add, pk_rem (by omega) (by omega) (by omega), nI_add]
            have hu9 : v_86_21 = nI ((31 * i + 11 * d) % 150) := by rw [ev_86_21, ev_82_20, ev_81_19, ev_77_18, show (31 : Int32) = nI 31 from rfl, show (11 : Int32) = nI 11 from rfl, show (150 : Int32) = nI 150 from rfl, pk_mul, pk_mul, nI_add, pk_rem (by omega) (by omega) (by omega)]
            have hd9 : v_106_25 = nI (i % 8) := by rw [ev_106_25, show (8 : Int32) = nI 8 from rfl, pk_rem (by omega) (by omega) (by omega)]
            rw [ha9, hu9, hd9]
            refine k_gotI X (vX11_91 X (S := Si) ⟨(st_1 hz.1).1, (st_1 hz.1).2⟩ (c_X2_inscribe C.l C.e0 Si A i cz hz (by omega) _ _ (by omega) (by omega) v_96_24) (As := [.int (nI (i % 8)), .int (nI (20 + (7 * i + d) % 45)), .int (nI ((31 * i + 11 * d) % 150)), .int v_96_24, .int 1]) (rest := []) rfl rfl rfl rfl ⟨Nat.le_of_ble_eq_true rfl, Nat.le_of_ble_eq_true rfl⟩ (Nat.le_of_ble_eq_true rfl) ⟨(by show _ ≤ 80; omega), (by show _ ≤ 3560; omega)⟩ dX11_found_114) (fun v_114_27 S_114_28 h_114_25 => ?_)
            obtain ⟨q9, hz9⟩ := h_114_25
            refine k_pop X dX11_found_117 rfl ?_
            obtain ⟨v_118_29, ev_118_29⟩ : ∃ z : Int32, z = (nI i) + 1 := ⟨_, rfl⟩
            refine k_iinc X (q := 3) (v := v_118_29) [(3, .int v_118_29), (6, .int v_96_24), (5, .int (nI ((31 * i + 11 * d) % 150))), (4, .int (nI (20 + (7 * i + d) % 45))), (0, .ref (A 0)), (1, .int (nI n)), (2, .int (nI d))] dX11_found_118 rfl (by rw [ev_118_29]; rfl) (by decide) rfl ?_
            refine k_goto (tgt := 55) X dX11_found_121 (by decide) ?_
            refine k_lv [0, 4, 5, 6] _ rfl ?_
            refine k_room (k' := 2 * (i + 1)) (n' := 89 * (i + 1)) (by omega) (by omega) ?_
            exact ih (n - (i + 1)) (by omega) (i + 1) _ _ _ rfl (by rw [ev_118_29, nI_1]) ⟨by omega, hz9⟩
        refine k_lv [0, 1, 2, 3] _ rfl ?_
        exact L_55 _ 0 0 _ _ rfl nI_0.symm ⟨by omega, h⟩
      · skip
        exact absurd (show v_39_10 ≤ 40 from by rw [ev_39_10, nI_add]; exact nI_le (b := 40) (by omega) (by omega)) c_42
    · skip
      rw [ev_14_5] at c_17
      exact absurd c_17 (kfr_okg (a := 0) (m := 99) (by omega) (by omega) (by omega))
set_option maxHeartbeats 1000000 in
set_option maxRecDepth 20000 in
theorem c_X11_ally (l : Launch) (e0 : Nat × Nat) (S : kS)  (A : Nat → Nat) (n : Nat) (cz : Nat → Nat) (T G Z : Nat) (h : kI e0 A n cz T G Z S) (t u a : Nat) (ht : 1 ≤ t ∧ t ≤ 60) (hu : 1 ≤ u ∧ u ≤ 99) (ha : a ≤ 3) (hal : S.I (A 5) 1 = nI a) (hb : T + 0 ≤ 900000 ∧ G + 0 ≤ 60000 ∧ Z + 0 ≤ 150000) : kM l e0 yX11_ally cX11_ally 3 (Option.some Jvm.ClassFile.FieldType.int) ({ frames := 2, cells := 0, slots := 0, locals := 44 } : Room) 0 0 [.ref (A 0), .int (nI t), .int (nI u)] S (kQi (fun v S9 => kI e0 A n cz (T + 0) (G + 0) (Z + 0) S9 ∧ kKe A S S9)) := by
  refine kMetE (by decide +kernel) (Nat.le_of_ble_eq_true rfl) (fun C he hl X E hm => ?_)
  have X : kX C RX11 cX11_ally 3 ({ frames := 2, cells := 0, slots := 0, locals := 44 } : Room) := X
  subst he hl
  show kG C 3 S 0 0 0 [(0, .ref (A 0)), (1, .int (nI t)), (2, .int (nI u))] []
  have hn := h.n40
  refine k_iload_n X (q := 1) dX11_ally_0 rfl rfl ?_
  refine k_iconst X (v := 1) dX11_ally_1 (by decide) ?_
  refine k_bipush X (v := 60) dX11_ally_2 (by decide) ?_
  refine k_gotI X (vX11_61 X (S := S) (c_X11_isFrom C.l C.e0 S (nI t) 1 60 ) (As := [.int (nI t), .int 1, .int 60]) (rest := []) rfl rfl rfl rfl ⟨Nat.le_of_ble_eq_true rfl, Nat.le_of_ble_eq_true rfl⟩ (Nat.le_of_ble_eq_true rfl) ⟨Nat.le_of_ble_eq_true rfl, Nat.le_of_ble_eq_true rfl⟩ dX11_ally_4) (fun v_4_2 S_4_3 h_4_0 => ?_)
  obtain ⟨rfl, ev_4_2⟩ := h_4_0
  refine k_if_eq (tgt := 20) X dX11_ally_7 (by decide) (fun c_7 => ?_) (fun c_7 => ?_)
  · skip
    rw [ev_4_2] at c_7
    exact absurd c_7 (kfr_okg (a := 1) (m := 60) (by omega) (by omega) (by omega))
  · skip
    rw [ev_4_2] at c_7
    refine k_iload_n X (q := 2) dX11_ally_10 rfl rfl ?_
    refine k_iconst X (v := 1) dX11_ally_11 (by decide) ?_
    refine k_bipush X (v := 99) dX11_ally_12 (by decide) ?_
    refine k_gotI X (vX11_61 X (S := S) (c_X11_isFrom C.l C.e0 S (nI u) 1 99 ) (As := [.int (nI u), .int 1, .int 99]) (rest := []) rfl rfl rfl rfl ⟨Nat.le_of_ble_eq_true rfl, Nat.le_of_ble_eq_true rfl⟩ (Nat.le_of_ble_eq_true rfl) ⟨Nat.le_of_ble_eq_true rfl, Nat.le_of_ble_eq_true rfl⟩ dX11_ally_14) (fun v_14_5 S_14_6 h_14_3 => ?_)
    obtain ⟨rfl, ev_14_5⟩ := h_14_3
    refine k_if_ne (tgt := 28) X dX11_ally_17 (by decide) (fun c_17 => ?_) (fun c_17 => ?_)
    · skip
      rw [ev_14_5] at c_17
      refine k_aload_n X (q := 0) dX11_ally_28 rfl rfl ?_
      refine gX11_44s X (S := S) (st_0 h.st).1 (st_0 h.st).2 (sr_0_4 h.st) dX11_ally_29 ?_
      refine gX11_369 X (S := S) (st_5 h.st).1 (st_5 h.st).2 dX11_ally_32 (fun v_32_7 ev_32_7 => ?_)
      refine k_iconst X (v := 4) dX11_ally_35 (by decide) ?_
      refine k_icmp_lt (tgt := 47) X dX11_ally_36 (by decide) (fun c_36 => ?_) (fun c_36 => ?_)
      · skip
        refine k_aload_n X (q := 0) dX11_ally_47 rfl rfl ?_
        refine gX11_44s X (S := S) (st_0 h.st).1 (st_0 h.st).2 (sr_0_4 h.st) dX11_ally_48 ?_
        refine k_iload_n X (q := 1) dX11_ally_51 rfl rfl ?_
        refine k_iload_n X (q := 2) dX11_ally_52 rfl rfl ?_
        refine k_gotI X (vX11_372 X (S := S) ⟨(st_5 h.st).1, (st_5 h.st).2⟩ (c_X5_addAlly C.l C.e0 S (nI u) A n cz _ _ _ h t a (by omega) ha hal (by omega)) (As := [.int (nI t), .int (nI u)]) (rest := []) rfl rfl rfl rfl ⟨Nat.le_of_ble_eq_true rfl, Nat.le_of_ble_eq_true rfl⟩ (Nat.le_of_ble_eq_true rfl) ⟨Nat.le_of_ble_eq_true rfl, Nat.le_of_ble_eq_true rfl⟩ dX11_ally_53) (fun v_53_9 S_53_10 h_53_7 => ?_)
        obtain ⟨hI_11, hx_11, hm_11⟩ := h_53_7
        have hK_11 := (kKe.rf).tr hx_11
        exact k_iret X E dX11_ally_56 (Nat.le_of_ble_eq_true rfl) (Nat.le_of_ble_eq_true rfl) (⟨hI_11.mono (by omega) (by omega) (by omega), hK_11⟩)
      · skip
        exact absurd (show v_32_7 < 4 from by rw [ev_32_7, hal]; exact nI_lt (b := 4) (by omega) (by omega)) c_36
    · skip
      rw [ev_14_5] at c_17
      exact absurd c_17 (kfr_okg (a := 1) (m := 99) (by omega) (by omega) (by omega))
