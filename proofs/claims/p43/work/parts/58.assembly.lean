section KAS
variable {e0 : Nat × Nat} {A : Nat → Nat} {n : Nat} {cz : Nat → Nat} {T G E : Nat} {S S' : kS}
theorem kI.ml (h : kI e0 A n cz T G E S) : kMl e0 A n cz S 18 ∧ kMl e0 A n cz S 19 := h.1.2.2.2.2.1
/-- a list of motions changes, and free things of motions -/
theorem kI.frM (h : kI e0 A n cz T G E S) {r : Nat} (hr : r = 18 ∨ r = 19) (hg : kGo S S' (fun ρ j => ρ = r ∨ ρ = 100 + r ∨ (ρ = 201 ∧ 5 ≤ j))) (hl : kMl e0 A n cz S' r) : kI e0 A n cz T G E S' ∧ kKe A S S' := by
  have hV : kNo (fun ρ j => ρ = r ∨ ρ = 100 + r ∨ (ρ = 201 ∧ 5 ≤ j)) pVM := fun ρ j z y => by unfold pVM pCi pHo pCh pLe pMy pMs pOf at y; omega
  exact ⟨⟨h.1.go (r := r) hg (by omega) (fun ρ j z y => by unfold pSM at y; omega) ⟨fun z => by unfold clR at z; omega, fun _ => hl, fun z => by omega⟩, h.gCi hg (fun ρ j z y => hV ρ j z (by unfold pVM; simp [y])), h.gHo hg (fun ρ j z y => hV ρ j z (by unfold pVM; simp [y])), h.gCh hg (fun ρ j z y => hV ρ j z (by unfold pVM; simp [y])), h.gLe hg (fun ρ j z y => hV ρ j z (by unfold pVM; simp [y])), h.gMy hg (fun ρ j z y => hV ρ j z (by unfold pVM; simp [y])), h.gLu hg (fun ρ j z y => by unfold pLu at y; omega), h.gMs hg (fun ρ j z y => hV ρ j z (by unfold pVM; simp [y])), h.gOf hg (fun ρ j z y => hV ρ j z (by unfold pVM; simp [y]))⟩, h.gKe hg (fun ρ j z y => by unfold pKe at y; omega)⟩
end KAS
set_option maxHeartbeats 1000000 in
set_option maxRecDepth 20000 in
theorem c_X0_spend (l : Launch) (e0 : Nat × Nat) (S : kS)  (A : Nat → Nat) (n : Nat) (cz : Nat → Nat) (T G Z : Nat) (h : kI e0 A n cz T G Z S) (t : Nat) (ht : t ≤ 300) (hb : T + 0 ≤ 900000 ∧ G + 0 ≤ 60000 ∧ Z + 0 ≤ 150000) : kM l e0 yX0_spend cX0_spend 2 (Option.some Jvm.ClassFile.FieldType.int) ({ frames := 2, cells := 0, slots := 0, locals := 46 } : Room) 0 0 [.ref (A 4), .int (nI t)] S (kQi (fun v S9 => kI e0 A n cz (T + 0) (G + 0) (Z + 0) S9 ∧ kKe A S S9)) := by
  refine kMetE (by decide +kernel) (Nat.le_of_ble_eq_true rfl) (fun C he hl X E hm => ?_)
  have X : kX C RX0 cX0_spend 2 ({ frames := 2, cells := 0, slots := 0, locals := 46 } : Room) := X
  subst he hl
  show kG C 2 S 0 0 0 [(0, .ref (A 4)), (1, .int (nI t))] []
  have hn := h.n40
  refine k_aload_n X (q := 0) dX0_spend_0 rfl rfl ?_
  refine gX0_38s X (S := S) (st_4 h.st).1 (st_4 h.st).2 (sr_4_0 h.st) dX0_spend_1 ?_
  refine gX0_180 X (S := S) (st_1 h.st).1 (st_1 h.st).2 dX0_spend_4 (fun v_4_1 ev_4_1 => ?_)
  refine k_iload_n X (q := 1) dX0_spend_7 rfl rfl ?_
  refine k_icmp_ge (tgt := 13) X dX0_spend_8 (by decide) (fun c_8 => ?_) (fun c_8 => ?_)
  · skip
    refine k_aload_n X (q := 0) dX0_spend_13 rfl rfl ?_
    refine gX0_38s X (S := S) (st_4 h.st).1 (st_4 h.st).2 (sr_4_0 h.st) dX0_spend_14 ?_
    refine k_iload_n X (q := 1) dX0_spend_17 rfl rfl ?_
    refine k_gotI X (vX0_122 X (S := S) ⟨(st_1 h.st).1, (st_1 h.st).2⟩ (c_X2_payOut C.l C.e0 S (nI t) A h.st ) (As := [.int (nI t)]) (rest := []) rfl rfl rfl rfl ⟨Nat.le_of_ble_eq_true rfl, Nat.le_of_ble_eq_true rfl⟩ (Nat.le_of_ble_eq_true rfl) ⟨Nat.le_of_ble_eq_true rfl, Nat.le_of_ble_eq_true rfl⟩ dX0_spend_18) (fun v_18_3 S_18_4 h_18_1 => ?_)
    obtain ⟨rfl, ev_18_3⟩ := h_18_1
    obtain ⟨hI_5, hx_5⟩ := h.pay (x := (nI t)) (by rw [nI_toInt (by omega)]; omega) (by omega)
    have hK_5 := (kKe.rf).tr hx_5
    refine k_pop X dX0_spend_21 rfl ?_
    refine k_iload_n X (q := 1) dX0_spend_22 rfl rfl ?_
    exact k_iret X E dX0_spend_23 (Nat.le_of_ble_eq_true rfl) (Nat.le_of_ble_eq_true rfl) (⟨hI_5.mono (by omega) (by omega) (by omega), hK_5⟩)
  · skip
    refine k_iconst X (v := 0) dX0_spend_11 (by decide) ?_
    exact k_iret X E dX0_spend_12 (Nat.le_of_ble_eq_true rfl) (Nat.le_of_ble_eq_true rfl) (⟨h.mono (by omega) (by omega) (by omega), kKe.rf⟩)
theorem kMo.fr2 {S S' : kS} {n : Nat} {cz : Nat → Nat} {x : Nat} (h : kMo S n cz x) (hf : kFr S S' (kRo S 19)) : kMo S' n cz x := h.go (W := fun ρ _ => ρ = 19 ∨ ρ = 119) (hf.go (fun b hb z j => z)) (fun j z => by omega)
set_option maxHeartbeats 1000000 in
set_option maxRecDepth 20000 in
theorem c_X0_keepDecree (l : Launch) (e0 : Nat × Nat) (S : kS) (u : Nat) (A : Nat → Nat) (n : Nat) (cz : Nat → Nat) (T G Z : Nat) (h : kI e0 A n cz T G Z S) (hu : kMo S n cz u) (hb : T + 0 ≤ 900000 ∧ G + 0 ≤ 60000 ∧ Z + 0 ≤ 150000) : kM l e0 yX0_keepDecree cX0_keepDecree 2 none ({ frames := 7, cells := 1, slots := 73, locals := 191 } : Room) 1 73 [.ref (A 4), .ref u] S (kQv (fun S9 => kI e0 A n cz (T + 0) (G + 0) (Z + 0) S9 ∧ kKe A S S9)) := by
  refine kMetE (by decide +kernel) (Nat.le_of_ble_eq_true rfl) (fun C he hl X E hm => ?_)
  have X : kX C RX0 cX0_keepDecree 2 ({ frames := 7, cells := 1, slots := 73, locals := 191 } : Room) := X
  subst he hl
  show kG C 2 S 0 0 0 [(0, .ref (A 4)), (1, .ref u)] []
  have hn := h.n40
  refine k_aload_n X (q := 1) dX0_keepDecree_0 rfl rfl ?_
  refine k_aload_n X (q := 0) dX0_keepDecree_1 rfl rfl ?_
  refine gX0_38s X (S := S) (st_4 h.st).1 (st_4 h.st).2 (sr_4_0 h.st) dX0_keepDecree_2 ?_
  refine gX0_101 X (S := S) (st_1 h.st).1 (st_1 h.st).2 dX0_keepDecree_5 (fun v_5_1 ev_5_1 => ?_)
  refine pX0_172 X (S := S) hu.1.1 hu.1.2 dX0_keepDecree_8 ?_
  refine k_aload_n X (q := 1) dX0_keepDecree_11 rfl rfl ?_
  refine k_iconst X (v := 1) dX0_keepDecree_12 (by decide) ?_
  refine pX0_173 X (S := (S.uI u 5 v_5_1)) hu.1.1 hu.1.2 (Or.inr rfl) dX0_keepDecree_13 ?_
  obtain ⟨m, xs, hL, hm12, hxs⟩ := h.ml.2
  obtain ⟨c, hlc0⟩ := hL.c
  obtain ⟨v8, hv8⟩ : ∃ z, z = v_5_1 := ⟨_, rfl⟩
  have hg0 : kGo S ((S.uI u 5 v8).uI u 6 1) (fun ρ j => ρ = 201 ∧ 5 ≤ j) := (kGo.rf.uI (fun _ => ⟨hu.2.1, by omega⟩)).uI (a := u) (fun _ => ⟨hu.2.1, by omega⟩)
  rw [← hv8]
  have hlc : kLc C.e0 ((S.uI u 5 v8).uI u 6 1) (A 19) 7 m xs c := hlc0.go hg0 (by rw [so_19 h.st]; intro j; omega)
  have hst1 : kSt A ((S.uI u 5 v8).uI u 6 1) := h.st
  have huA : ((S.uI u 5 v8).uI u 6 1).at u 7 := ⟨hu.1.1, hu.1.2⟩
  refine k_aload_n X (q := 0) dX0_keepDecree_16 rfl rfl ?_
  refine gX0_18s X (S := ((S.uI u 5 v8).uI u 6 1)) (st_4 hst1).1 (st_4 hst1).2 (sr_4_3 hst1) dX0_keepDecree_17 ?_
  refine k_aload_n X (q := 1) dX0_keepDecree_20 rfl rfl ?_
  refine k_gotI X (vX0_104 X (S := ((S.uI u 5 v8).uI u 6 1)) ⟨(st_19 hst1).1, (st_19 hst1).2⟩ (c_Jx4a65c_add_9ea2d C.l C.e0 ((S.uI u 5 v8).uI u 6 1) (A 19) 7 m c u xs kEl_7 hlc huA (by omega)) (As := [.ref u]) (rest := []) rfl rfl rfl rfl ⟨Nat.le_of_ble_eq_true rfl, Nat.le_of_ble_eq_true rfl⟩ (Nat.le_of_ble_eq_true rfl) ⟨(by show _ ≤ 1; have h9 := kmc_le c m; have h8 := kms_le hlc.cap (by omega); omega), (by show _ ≤ 73; have h9 := kmc_le c m; have h8 := kms_le hlc.cap (by omega); omega)⟩ dX0_keepDecree_21) (fun v_21_3 S_21_4 h_21_1 => ?_)
  obtain ⟨-, hfa, hla⟩ := h_21_1
  rw [show ((S.uI u 5 v8).uI u 6 1).O (A 19) = 19 from so_19 h.st] at hfa
  have hg1 : kGo S S_21_4 (fun ρ j => ρ = 19 ∨ ρ = 119 ∨ (ρ = 201 ∧ 5 ≤ j)) := (hg0.mono (fun ρ j z => by omega)).tr (hfa.go (fun b hb z j => by unfold kRo at z; omega))
  have hst2 := h.st.go hg1 (fun ρ j z y => by unfold pSM at y; omega)
  have hxs1 : ∀ t, t < m → kMo S_21_4 n cz (xs t) := fun t ht => (hxs t ht).go hg1 (fun j z => by have := z.2; unfold pSM at this; omega)
  have hu1 : kMo S_21_4 n cz u := hu.go hg1 (fun j z => by have := z.2; unfold pSM at this; omega)
  have hxs2 := va_up_in (Q := fun x => kMo S_21_4 n cz x) hxs1 hu1
  refine k_pop X dX0_keepDecree_24 rfl ?_
  refine k_aload_n X (q := 0) dX0_keepDecree_25 rfl rfl ?_
  refine gX0_18s X (S := S_21_4) (st_4 hst2).1 (st_4 hst2).2 (sr_4_3 hst2) dX0_keepDecree_26 ?_
  refine k_gotI X (vX0_84 X (S := S_21_4) ⟨(st_19 hst2).1, (st_19 hst2).2⟩ (c_Jx4a65c_size_8abf5 C.l C.e0 S_21_4 (A 19) (st_19 hst2)) (As := []) (rest := []) rfl rfl rfl rfl ⟨Nat.le_of_ble_eq_true rfl, Nat.le_of_ble_eq_true rfl⟩ (Nat.le_of_ble_eq_true rfl) ⟨(by show _ ≤ 1; first | omega | (have h9 := kmc_le c m; have h8 := kms_le hlc.cap (by omega); omega)), (by show _ ≤ 73; first | omega | (have h9 := kmc_le c m; have h8 := kms_le hlc.cap (by omega); omega))⟩ dX0_keepDecree_29) (fun v_29_6 S_29_7 h_29_4 => ?_)
  obtain ⟨rfl, ev_29_6⟩ := h_29_4
  have hz_v_29_6 : nI (m + 1) = v_29_6 := by rw [ev_29_6]; exact (hla.s).2.1.symm
  subst hz_v_29_6
  refine k_bipush X (v := 12) dX0_keepDecree_32 (by decide) ?_
  refine k_icmp_le (tgt := 52) X dX0_keepDecree_34 (by decide) (fun c_34 => ?_) (fun c_34 => ?_)
  · skip
    exact k_vret X E dX0_keepDecree_52 (by show _ ≤ 1; first | omega | (have h9 := kmc_le c m; have h8 := kms_le hlc.cap (by omega); omega)) (by show _ ≤ 73; first | omega | (have h9 := kmc_le c m; have h8 := kms_le hlc.cap (by omega); omega)) (by
          have hm9 : m + 1 ≤ 12 := by
            rcases Nat.lt_or_ge 12 (m + 1) with g | g
            · exact absurd c_34 (fun z => by have := ge_of_le (m := m + 1) (i := 12) z (by omega); omega)
            · exact g
          have hq := h.frM (r := 19) (by omega) hg1 ⟨m + 1, _, hla.s, by omega, hxs2⟩
          exact ⟨hq.1, hq.2⟩)
  · skip
    refine k_aload_n X (q := 0) dX0_keepDecree_37 rfl rfl ?_
    refine gX0_18s X (S := S_21_4) (st_4 hst2).1 (st_4 hst2).2 (sr_4_3 hst2) dX0_keepDecree_38 ?_
    refine k_iconst X (v := 0) dX0_keepDecree_41 (by decide) ?_
    show kG C 2 S_21_4 (0 + (kmc c m) + 0) (0 + (kms c m) + 0) 42 [(0, .ref (A 4)), (1, .ref u)] [.int (nI 0), .ref (A 19)]
    refine k_gotQ X (vX0_177 X (S := S_21_4) ⟨(st_19 hst2).1, (st_19 hst2).2⟩ (c_Jx4a65c_remove_915e3 C.l C.e0 S_21_4 (A 19) 7 (m + 1) (knc c m) 0 (va_up xs m u) kEl_7 hla (by omega) (by omega)) (As := [.int (nI 0)]) (rest := []) rfl rfl rfl rfl ⟨Nat.le_of_ble_eq_true rfl, Nat.le_of_ble_eq_true rfl⟩ (Nat.le_of_ble_eq_true rfl) ⟨(by show _ ≤ 1; first | omega | (have h9 := kmc_le c m; have h8 := kms_le hlc.cap (by omega); omega)), (by show _ ≤ 73; first | omega | (have h9 := kmc_le c m; have h8 := kms_le hlc.cap (by omega); omega))⟩ dX0_keepDecree_42) (fun r_42_9 S_42_10 h_42_7 => ?_)
    obtain ⟨hvr, hfr, hlr⟩ := h_42_7
    rw [so_19 hst2] at hfr
    subst hvr
    have hg2 := hg1.tr (S2 := S_42_10) (hfr.go (fun b hb z j => by unfold kRo at z; omega))
    have hst3 := h.st.go hg2 (fun ρ j z y => by unfold pSM at y; omega)
    have hx0 := hxs2 0 (by omega)
    have hx09 : kMo S_42_10 n cz (va_up xs m u 0) := hx0.fr2 hfr
    refine tX0_65 X (S := S_42_10) ⟨hx09.1.1, hx09.1.2⟩ dX0_keepDecree_45 ?_
    refine k_iconst X (v := 0) dX0_keepDecree_48 (by decide) ?_
    refine pX0_173 X (S := S_42_10) hx09.1.1 hx09.1.2 (Or.inl rfl) dX0_keepDecree_49 ?_
    exact k_vret X E dX0_keepDecree_52 (by show _ ≤ 1; first | omega | (have h9 := kmc_le c m; have h8 := kms_le hlc.cap (by omega); omega)) (by show _ ≤ 73; first | omega | (have h9 := kmc_le c m; have h8 := kms_le hlc.cap (by omega); omega)) (by
          have hO0 : S_42_10.O (va_up xs m u 0) = 201 := hx09.2.1
          have hg3 : kGo S (S_42_10.uI (va_up xs m u 0) 6 0) (fun ρ j => ρ = 19 ∨ ρ = 119 ∨ (ρ = 201 ∧ 5 ≤ j)) := hg2.tr (kGo.rf.uI (fun _ => by rw [hO0]; omega))
          have hq := h.frM (S' := S_42_10.uI (va_up xs m u 0) 6 0) (r := 19) (by omega) hg3 ⟨m + 1 - 1, _, hlr.s.uI (b := va_up xs m u 0) (κb := 7) hx09.1 (by decide), by omega, kxr_in (Q := fun x => kMo (S_42_10.uI (va_up xs m u 0) 6 0) n cz x) (fun t ht => ((hxs2 t ht).fr2 hfr).go (W := fun ρ j => ρ = 201 ∧ j = 6) (kGo.rf.uI (fun _ => ⟨hO0, rfl⟩)) (fun j z => by have := z.2; unfold pSM at this; omega)) (by omega)⟩
          exact ⟨hq.1, hq.2⟩)
set_option maxHeartbeats 1000000 in
set_option maxRecDepth 20000 in
theorem c_X0_carryOut (l : Launch) (e0 : Nat × Nat) (S : kS) (u : Nat) (A : Nat → Nat) (n : Nat) (cz : Nat → Nat) (T G Z : Nat) (h : kI e0 A n cz T G Z S) (hu : kMo S n cz u) (hb : T + 161 ≤ 900000 ∧ G + 0 ≤ 60000 ∧ Z + 0 ≤ 150000) : kM l e0 yX0_carryOut cX0_carryOut 2 none ({ frames := 10, cells := 49, slots := 2633, locals := 265 } : Room) 49 2633 [.ref (A 4), .ref u] S (kQv (fun S9 => kI e0 A n cz (T + 161) (G + 0) (Z + 0) S9 ∧ kKe A S S9)) := by
  refine kMetE (by decide +kernel) (Nat.le_of_ble_eq_true rfl) (fun C he hl X E hm => ?_)
  have X : kX C RX0 cX0_carryOut 2 ({ frames := 10, cells := 49, slots := 2633, locals := 265 } : Room) := X
  subst he hl
  show kG C 2 S 0 0 0 [(0, .ref (A 4)), (1, .ref u)] []
  have hn := h.n40
  refine k_aload_n X (q := 1) dX0_carryOut_0 rfl rfl ?_
  refine gX0_130 X (S := S) hu.1.1 hu.1.2 dX0_carryOut_1 (fun v_1_1 ev_1_1 => ?_)
  by_cases q_4_0 : v_1_1 = 0
  · skip
    rw [q_4_0]
    refine k_tableIn (x := 0) (off := 36) (tgt := 40) X dX0_carryOut_4 (by decide) (by decide) rfl (by decide) ?_
    refine k_aload_n X (q := 0) dX0_carryOut_40 rfl rfl ?_
    refine k_aload_n X (q := 1) dX0_carryOut_41 rfl rfl ?_
    refine k_gotV X (vX0_133 X (S := S) ⟨(st_4 h.st).1, (st_4 h.st).2⟩ (c_X0_keepDecree C.l C.e0 S u A n cz _ _ _ h hu (by omega)) (As := [.ref u]) (rest := []) rfl rfl rfl rfl ⟨Nat.le_of_ble_eq_true rfl, Nat.le_of_ble_eq_true rfl⟩ (Nat.le_of_ble_eq_true rfl) ⟨Nat.le_of_ble_eq_true rfl, Nat.le_of_ble_eq_true rfl⟩ dX0_carryOut_42) (fun S_42_3 h_42_1 => ?_)
    obtain ⟨hI_4, hx_4⟩ := h_42_1
    have hK_4 := (kKe.rf).tr hx_4
    have hmo_5 := hu.kp hx_4.1
    refine k_goto (tgt := 175) X dX0_carryOut_45 (by decide) ?_
    exact k_vret X E dX0_carryOut_175 (Nat.le_of_ble_eq_true rfl) (Nat.le_of_ble_eq_true rfl) (⟨hI_4.mono (by omega) (by omega) (by omega), hK_4⟩)
  · skip
    by_cases q_4_1 : v_1_1 = 1
    · skip
      rw [q_4_1]
      refine k_tableIn (x := 1) (off := 44) (tgt := 48) X dX0_carryOut_4 (by decide) (by decide) rfl (by decide) ?_
      refine k_aload_n X (q := 0) dX0_carryOut_48 rfl rfl ?_
      refine gX0_42s X (S := S) (st_4 h.st).1 (st_4 h.st).2 (sr_4_1 h.st) dX0_carryOut_49 ?_
      refine k_iconst X (v := 1) dX0_carryOut_52 (by decide) ?_
      refine k_null X dX0_carryOut_53 ?_
      refine k_null X dX0_carryOut_54 ?_
      refine k_gotV X (vX0_136 X (S := S) ⟨(st_3 h.st).1, (st_3 h.st).2⟩ (c_X4_drawJury C.l C.e0 S none none A n cz _ _ _ h 1 (by omega) (by omega)) (As := [.int 1, .null, .null]) (rest := []) rfl rfl rfl rfl ⟨Nat.le_of_ble_eq_true rfl, Nat.le_of_ble_eq_true rfl⟩ (Nat.le_of_ble_eq_true rfl) ⟨Nat.le_of_ble_eq_true rfl, Nat.le_of_ble_eq_true rfl⟩ dX0_carryOut_55) (fun S_55_7 h_55_5 => ?_)
      obtain ⟨hI_8, hx_8, hm_8⟩ := h_55_5
      have hK_8 := (kKe.rf).tr hx_8
      have hmo_9 := hu.kp hx_8.1
      refine k_aload_n X (q := 0) dX0_carryOut_58 rfl rfl ?_
      refine gX0_42s X (S := S_55_7) (st_4 hI_8.st).1 (st_4 hI_8.st).2 (sr_4_1 hI_8.st) dX0_carryOut_59 ?_
      refine k_aload_n X (q := 1) dX0_carryOut_62 rfl rfl ?_
      refine gX0_73 X (S := S_55_7) hmo_9.1.1 hmo_9.1.2 dX0_carryOut_63 (fun v_63_10 ev_63_10 => ?_)
      refine k_gotI X (vX0_142 X (S := S_55_7) ⟨(st_3 hI_8.st).1, (st_3 hI_8.st).2⟩ (c_X4_decide C.l C.e0 S_55_7 v_63_10 A n cz _ _ _ hI_8  (by omega)) (As := [.int v_63_10]) (rest := []) rfl rfl rfl rfl ⟨Nat.le_of_ble_eq_true rfl, Nat.le_of_ble_eq_true rfl⟩ (Nat.le_of_ble_eq_true rfl) ⟨Nat.le_of_ble_eq_true rfl, Nat.le_of_ble_eq_true rfl⟩ dX0_carryOut_66) (fun v_66_12 S_66_13 h_66_10 => ?_)
      obtain ⟨hI_14, hx_14, hm_14⟩ := h_66_10
      have hK_14 := (hK_8).tr hx_14
      have hmo_15 := hmo_9.kp hx_14.1
      refine k_if_eq (tgt := 175) X dX0_carryOut_69 (by decide) (fun c_69 => ?_) (fun c_69 => ?_)
      · skip
        exact k_vret X E dX0_carryOut_175 (Nat.le_of_ble_eq_true rfl) (Nat.le_of_ble_eq_true rfl) (⟨hI_14.mono (by omega) (by omega) (by omega), hK_14⟩)
      · skip
        refine k_aload_n X (q := 0) dX0_carryOut_72 rfl rfl ?_
        refine gX0_21s X (S := S_66_13) (st_4 hI_14.st).1 (st_4 hI_14.st).2 (sr_4_4 hI_14.st) dX0_carryOut_73 ?_
        refine k_aload_n X (q := 1) dX0_carryOut_76 rfl rfl ?_
        refine gX0_64 X (S := S_66_13) hmo_15.1.1 hmo_15.1.2 dX0_carryOut_77 (fun v_77_16 ev_77_16 => ?_)
        refine k_aload_n X (q := 1) dX0_carryOut_80 rfl rfl ?_
        refine gX0_73 X (S := S_66_13) hmo_15.1.1 hmo_15.1.2 dX0_carryOut_81 (fun v_81_17 ev_81_17 => ?_)
        refine k_gotV X (vX0_145 X (S := S_66_13) (c_X11_putAt C.l C.e0 S_66_13 (A 43) v_77_16 v_81_17 ⟨(st_43 hI_14.st).1, (st_43 hI_14.st).2⟩ (sm_43 hI_14.st)) (As := [.ref (A 43), .int v_77_16, .int v_81_17]) (rest := []) rfl rfl rfl rfl ⟨Nat.le_of_ble_eq_true rfl, Nat.le_of_ble_eq_true rfl⟩ (Nat.le_of_ble_eq_true rfl) ⟨Nat.le_of_ble_eq_true rfl, Nat.le_of_ble_eq_true rfl⟩ dX0_carryOut_84) (fun S_84_19 h_84_17 => ?_)
        subst h_84_17
        obtain ⟨hI_20, hx_20⟩ := (⟨(hI_14.pat (x := v_77_16) (v := v_81_17) (so_43 hI_14.st) (by omega)).1, (hI_14.pat (x := v_77_16) (v := v_81_17) (so_43 hI_14.st) (by omega)).2 (by omega)⟩ : _ ∧ _)
        have hK_20 := (hK_14).tr hx_20
        have hmo_21 := hmo_15.kp hx_20.1
        refine k_goto (tgt := 175) X dX0_carryOut_87 (by decide) ?_
        exact k_vret X E dX0_carryOut_175 (Nat.le_of_ble_eq_true rfl) (Nat.le_of_ble_eq_true rfl) (⟨hI_20.mono (by omega) (by omega) (by omega), hK_20⟩)
    · skip
      by_cases q_4_2 : v_1_1 = 2
      · skip
        rw [q_4_2]
        refine k_tableIn (x := 2) (off := 86) (tgt := 90) X dX0_carryOut_4 (by decide) (by decide) rfl (by decide) ?_
        refine k_aload_n X (q := 0) dX0_carryOut_90 rfl rfl ?_
        refine gX0_38s X (S := S) (st_4 h.st).1 (st_4 h.st).2 (sr_4_0 h.st) dX0_carryOut_91 ?_
        refine k_dup X dX0_carryOut_94 rfl ?_
        refine gX0_149 X (S := S) (st_1 h.st).1 (st_1 h.st).2 dX0_carryOut_95 (fun v_95_22 ev_95_22 => ?_)
        refine k_aload_n X (q := 0) dX0_carryOut_98 rfl rfl ?_
        refine k_aload_n X (q := 1) dX0_carryOut_99 rfl rfl ?_
        refine gX0_152 X (S := S) hu.1.1 hu.1.2 dX0_carryOut_100 (fun v_100_23 ev_100_23 => ?_)
        obtain ⟨t, ht, htv⟩ := hu.2.2.2.2
        have hv9 : nI t = v_100_23 := by rw [ev_100_23, htv]
        subst hv9
        refine k_gotI X (vX0_155 X (S := S) ⟨(st_4 h.st).1, (st_4 h.st).2⟩ (c_X0_spend C.l C.e0 S  A n cz _ _ _ h t ht (by omega)) (As := [.int (nI t)]) (rest := [.int v_95_22, .ref (A 1)]) rfl rfl rfl rfl ⟨Nat.le_of_ble_eq_true rfl, Nat.le_of_ble_eq_true rfl⟩ (Nat.le_of_ble_eq_true rfl) ⟨Nat.le_of_ble_eq_true rfl, Nat.le_of_ble_eq_true rfl⟩ dX0_carryOut_103) (fun v_103_25 S_103_26 h_103_23 => ?_)
        obtain ⟨hI_27, hx_27⟩ := h_103_23
        have hK_27 := (kKe.rf).tr hx_27
        have hmo_28 := hu.kp hx_27.1
        refine k_iadd X dX0_carryOut_106 (fun v_106_29 ev_106_29 => ?_)
        refine pX0_149 X (S := S_103_26) (st_1 hI_27.st).1 (st_1 hI_27.st).2 dX0_carryOut_107 ?_
        obtain ⟨hI_30, hx_30⟩ := (⟨hI_27.fI (i := 6) (v := v_106_29) (so_1 hI_27.st) (by unfold pSM; omega) (by unfold pVM pCi pHo pCh pLe pMy pMs pOf; omega) (by unfold pLu; omega), hI_27.fIk (i := 6) (v := v_106_29) (so_1 hI_27.st) (by unfold pKe; omega)⟩ : _ ∧ _)
        have hK_30 := (hK_27).tr hx_30
        have hmo_31 := hmo_28.kp hx_30.1
        refine k_goto (tgt := 175) X dX0_carryOut_110 (by decide) ?_
        exact k_vret X E dX0_carryOut_175 (Nat.le_of_ble_eq_true rfl) (Nat.le_of_ble_eq_true rfl) (⟨hI_30.mono (by omega) (by omega) (by omega), hK_30⟩)
      · skip
        by_cases q_4_3 : v_1_1 = 3
        · skip
          rw [q_4_3]
          refine k_tableIn (x := 3) (off := 109) (tgt := 113) X dX0_carryOut_4 (by decide) (by decide) rfl (by decide) ?_
          refine k_aload_n X (q := 0) dX0_carryOut_113 rfl rfl ?_
          refine gX0_38s X (S := S) (st_4 h.st).1 (st_4 h.st).2 (sr_4_0 h.st) dX0_carryOut_114 ?_
          refine k_dup X dX0_carryOut_117 rfl ?_
          refine gX0_158 X (S := S) (st_1 h.st).1 (st_1 h.st).2 dX0_carryOut_118 (fun v_118_32 ev_118_32 => ?_)
          refine k_aload_n X (q := 0) dX0_carryOut_121 rfl rfl ?_
          refine k_aload_n X (q := 1) dX0_carryOut_122 rfl rfl ?_
          refine gX0_152 X (S := S) hu.1.1 hu.1.2 dX0_carryOut_123 (fun v_123_33 ev_123_33 => ?_)
          obtain ⟨t, ht, htv⟩ := hu.2.2.2.2
          have hv9 : nI t = v_123_33 := by rw [ev_123_33, htv]
          subst hv9
          refine k_gotI X (vX0_155 X (S := S) ⟨(st_4 h.st).1, (st_4 h.st).2⟩ (c_X0_spend C.l C.e0 S  A n cz _ _ _ h t ht (by omega)) (As := [.int (nI t)]) (rest := [.int v_118_32, .ref (A 1)]) rfl rfl rfl rfl ⟨Nat.le_of_ble_eq_true rfl, Nat.le_of_ble_eq_true rfl⟩ (Nat.le_of_ble_eq_true rfl) ⟨Nat.le_of_ble_eq_true rfl, Nat.le_of_ble_eq_true rfl⟩ dX0_carryOut_126) (fun v_126_35 S_126_36 h_126_33 => ?_)
          obtain ⟨hI_37, hx_37⟩ := h_126_33
          have hK_37 := (kKe.rf).tr hx_37
          have hmo_38 := hu.kp hx_37.1
          refine k_iadd X dX0_carryOut_129 (fun v_129_39 ev_129_39 => ?_)
          refine pX0_158 X (S := S_126_36) (st_1 hI_37.st).1 (st_1 hI_37.st).2 dX0_carryOut_130 ?_
          obtain ⟨hI_40, hx_40⟩ := (⟨hI_37.fI (i := 7) (v := v_129_39) (so_1 hI_37.st) (by unfold pSM; omega) (by unfold pVM pCi pHo pCh pLe pMy pMs pOf; omega) (by unfold pLu; omega), hI_37.fIk (i := 7) (v := v_129_39) (so_1 hI_37.st) (by unfold pKe; omega)⟩ : _ ∧ _)
          have hK_40 := (hK_37).tr hx_40
          have hmo_41 := hmo_38.kp hx_40.1
          refine k_goto (tgt := 175) X dX0_carryOut_133 (by decide) ?_
          exact k_vret X E dX0_carryOut_175 (Nat.le_of_ble_eq_true rfl) (Nat.le_of_ble_eq_true rfl) (⟨hI_40.mono (by omega) (by omega) (by omega), hK_40⟩)
        · skip
          by_cases q_4_4 : v_1_1 = 4
          · skip
            rw [q_4_4]
            refine k_tableIn (x := 4) (off := 132) (tgt := 136) X dX0_carryOut_4 (by decide) (by decide) rfl (by decide) ?_
            refine k_aload_n X (q := 0) dX0_carryOut_136 rfl rfl ?_
            refine gX0_38s X (S := S) (st_4 h.st).1 (st_4 h.st).2 (sr_4_0 h.st) dX0_carryOut_137 ?_
            refine k_aload_n X (q := 1) dX0_carryOut_140 rfl rfl ?_
            refine gX0_152 X (S := S) hu.1.1 hu.1.2 dX0_carryOut_141 (fun v_141_42 ev_141_42 => ?_)
            obtain ⟨t, ht, htv⟩ := hu.2.2.2.2
            have hv9 : nI t = v_141_42 := by rw [ev_141_42, htv]
            subst hv9
            refine k_gotQ X (vX0_161 X (S := S) ⟨(st_1 h.st).1, (st_1 h.st).2⟩ (c_X2_numbered C.l C.e0 S (nI t) A n cz h.st h.hC hn (by have := h.who.1; omega)) (As := [.int (nI t)]) (rest := []) rfl rfl rfl rfl ⟨Nat.le_of_ble_eq_true rfl, Nat.le_of_ble_eq_true rfl⟩ (Nat.le_of_ble_eq_true rfl) ⟨Nat.le_of_ble_eq_true rfl, Nat.le_of_ble_eq_true rfl⟩ dX0_carryOut_144) (fun r_144_44 S_144_45 h_144_42 => ?_)
            obtain ⟨rfl, hnj_144, hnq_144⟩ := h_144_42
            have hcq : r_144_44 = none ∨ ∃ i, i < n ∧ r_144_44 = some (cz i) := by
              rcases hnq_144 with z | ⟨z, z1, z2, z3⟩
              · exact Or.inl z
              · exact Or.inr ⟨z, z1, z3⟩
            have hcat : ∀ x, r_144_44 = some x → S.at x 1 := fun x hx => by
              rcases hcq with z | ⟨i, z1, z2⟩
              · rw [z] at hx; cases hx
              · rw [z2] at hx; cases hx; exact h.at z1
            refine k_gotV X (vX0_165 X (S := S) (c_X0_callBack C.l C.e0 S r_144_44  hcat) (As := [va_rf r_144_44]) (rest := []) rfl rfl rfl rfl ⟨Nat.le_of_ble_eq_true rfl, Nat.le_of_ble_eq_true rfl⟩ (Nat.le_of_ble_eq_true rfl) ⟨Nat.le_of_ble_eq_true rfl, Nat.le_of_ble_eq_true rfl⟩ dX0_carryOut_147) (fun S_147_47 h_147_45 => ?_)
            subst h_147_45
            obtain ⟨hI_48, hx_48⟩ := h.back hcq
            have hK_48 := (kKe.rf).tr hx_48
            have hmo_49 := hu.kp hx_48.1
            refine k_goto (tgt := 175) X dX0_carryOut_150 (by decide) ?_
            exact k_vret X E dX0_carryOut_175 (Nat.le_of_ble_eq_true rfl) (Nat.le_of_ble_eq_true rfl) (⟨hI_48.mono (by omega) (by omega) (by omega), hK_48⟩)
          · skip
            refine k_tableOut (tgt := 153) X dX0_carryOut_4 (ktsw (N := 4) (by omega) (fun k hk => by
              rcases (show k = 0 ∨ k = 1 ∨ k = 2 ∨ k = 3 ∨ k = 4 by omega) with rfl | rfl | rfl | rfl | rfl
              · exact q_4_0
              · exact q_4_1
              · exact q_4_2
              · exact q_4_3
              · exact q_4_4)) (by decide) ?_
            refine k_aload_n X (q := 0) dX0_carryOut_153 rfl rfl ?_
            refine gX0_38s X (S := S) (st_4 h.st).1 (st_4 h.st).2 (sr_4_0 h.st) dX0_carryOut_154 ?_
            refine gX0_169 X (S := S) (st_1 h.st).1 (st_1 h.st).2 dX0_carryOut_157 (fun v_157_50 ev_157_50 => ?_)
            refine k_iconst X (v := (-1)) dX0_carryOut_160 (by decide) ?_
            refine k_icmp_ne (tgt := 175) X dX0_carryOut_161 (by decide) (fun c_161 => ?_) (fun c_161 => ?_)
            · skip
              exact k_vret X E dX0_carryOut_175 (Nat.le_of_ble_eq_true rfl) (Nat.le_of_ble_eq_true rfl) (⟨h.mono (by omega) (by omega) (by omega), kKe.rf⟩)
            · skip
              refine k_aload_n X (q := 0) dX0_carryOut_164 rfl rfl ?_
              refine gX0_38s X (S := S) (st_4 h.st).1 (st_4 h.st).2 (sr_4_0 h.st) dX0_carryOut_165 ?_
              refine k_aload_n X (q := 1) dX0_carryOut_168 rfl rfl ?_
              refine gX0_152 X (S := S) hu.1.1 hu.1.2 dX0_carryOut_169 (fun v_169_51 ev_169_51 => ?_)
              obtain ⟨t, ht, htv⟩ := hu.2.2.2.2
              have hv9 : nI t = v_169_51 := by rw [ev_169_51, htv]
              subst hv9
              refine pX0_169 X (S := S) (st_1 h.st).1 (st_1 h.st).2 dX0_carryOut_172 ?_
              obtain ⟨hI_52, hx_52⟩ := h.war (v := nI t) (Or.inr ⟨t, ht, rfl⟩)
              have hK_52 := (kKe.rf).tr hx_52
              have hmo_53 := hu.kp hx_52.1
              exact k_vret X E dX0_carryOut_175 (Nat.le_of_ble_eq_true rfl) (Nat.le_of_ble_eq_true rfl) (⟨hI_52.mono (by omega) (by omega) (by omega), hK_52⟩)
