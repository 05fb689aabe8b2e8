theorem kdiv10 {x : Int32} (h : 0 ≤ x.toInt) (h2 : x.toInt ≤ 320000) : 0 ≤ (x / 10).toInt ∧ (x / 10).toInt ≤ 32000 := by
  obtain ⟨t, ht, hx⟩ : ∃ t : Nat, t ≤ 320000 ∧ x = nI t := ⟨x.toInt.toNat, by omega, Int32.toInt_inj.mp (by rw [nI_toInt (by omega)]; omega)⟩
  rw [hx, show (10 : Int32) = nI 10 from rfl, pk_div (by omega) (by omega) (by omega), nI_toInt (by omega)]
  omega
set_option maxHeartbeats 1000000 in
set_option maxRecDepth 20000 in
theorem c_X2_dissolveCouncil (l : Launch) (e0 : Nat × Nat) (S : kS)  (A : Nat → Nat) (n : Nat) (cz : Nat → Nat) (T G Z : Nat) (h : kI e0 A n cz T G Z S)  (hb : T + 0 ≤ 900000 ∧ G + 0 ≤ 60000 ∧ Z + 0 ≤ 150000) : kM l e0 yX2_dissolveCouncil cX2_dissolveCouncil 2 none ({ frames := 3, cells := 0, slots := 0, locals := 64 } : Room) 0 0 [.ref (A 1)] S (kQv (fun S9 => kI e0 A n cz (T + 0) (G + 0) (Z + 0) S9 ∧ kKe A S S9 ∧ (∀ i, i < n → S9.I (cz i) 9 = 0) ∧ S9.R (A 1) 10 = none)) := by
  refine kMetE (by decide +kernel) (Nat.le_of_ble_eq_true rfl) (fun C he hl X E hm => ?_)
  have X : kX C RX2 cX2_dissolveCouncil 2 ({ frames := 3, cells := 0, slots := 0, locals := 64 } : Room) := X
  subst he hl
  show kG C 2 S 0 0 0 [(0, .ref (A 1))] []
  have hn := h.n40
  refine k_iconst X (v := 0) dX2_dissolveCouncil_0 (by decide) ?_
  refine k_istore_n X [(1, .int 0), (0, .ref (A 1))] dX2_dissolveCouncil_1 rfl (by decide) rfl ?_
  have L_2 : ∀ (N : Nat) (i : Nat) (x : Int32) (Si : kS), n - i = N → x = nI i → (i ≤ n ∧ kGo S Si (fun ρ j => (ρ = 200 ∧ j = 9) ∨ (ρ = 1 ∧ j = 10)) ∧ ∀ j, j < i → Si.I (cz j) 9 = 0) → kG C 2 Si 0 0 2 [(1, .int x), (0, .ref (A 1))] [] := by
    intro N
    induction N using Nat.strongRecOn with
    | _ N ih =>
    intro i x Si hMs h2_0 h2_1
    subst h2_0
    obtain ⟨hin9, hg, h0⟩ := h2_1
    have hstI : kSt A Si := h.st.go hg (fun ρ j z y => by unfold pSM at y; omega)
    have hCI : kLs C.e0 Si (A 10) 1 n cz := h.hC.go hg (by rw [so_10 h.st]; intro j; omega)
    refine k_iload_n X (q := 0) dX2_dissolveCouncil_2 rfl rfl ?_
    refine k_aload_n X (q := 1) dX2_dissolveCouncil_3 rfl rfl ?_
    refine gX2_57s X (S := Si) (st_1 hstI).1 (st_1 hstI).2 (sr_1_12 hstI) dX2_dissolveCouncil_4 ?_
    refine k_gotI X (vX2_86 X (S := Si) ⟨(st_10 hstI).1, (st_10 hstI).2⟩ (c_Jx4a65c_size_8abf5 C.l C.e0 Si (A 10) (st_10 hstI)) (As := []) (rest := [.int (nI i)]) rfl rfl rfl rfl ⟨Nat.le_of_ble_eq_true rfl, Nat.le_of_ble_eq_true rfl⟩ (Nat.le_of_ble_eq_true rfl) ⟨Nat.le_of_ble_eq_true rfl, Nat.le_of_ble_eq_true rfl⟩ dX2_dissolveCouncil_7) (fun v_7_2 S_7_3 h_7_0 => ?_)
    obtain ⟨rfl, ev_7_2⟩ := h_7_0
    have hz_v_7_2 : nI n = v_7_2 := by rw [ev_7_2]; exact (hCI).2.1.symm
    subst hz_v_7_2
    refine k_icmp_ge (tgt := 34) X dX2_dissolveCouncil_10 (by decide) (fun c_10 => ?_) (fun c_10 => ?_)
    · skip
      have hin : n = i := by have := ge_of_le c_10 (by omega); omega
      subst hin
      refine k_aload_n X (q := 1) dX2_dissolveCouncil_34 rfl rfl ?_
      refine k_null X dX2_dissolveCouncil_35 ?_
      refine pX2_43 X (S := Si) (st_1 hstI).1 (st_1 hstI).2 (r := none) dX2_dissolveCouncil_36 ?_
      exact k_vret X E dX2_dissolveCouncil_39 (Nat.le_of_ble_eq_true rfl) (Nat.le_of_ble_eq_true rfl) (by
          have hq := h.dis (S' := Si.uR (A 1) 10 none) (hg.uR (fun _ => by rw [so_1 h.st]; omega)) h0 (by rw [uR_R, if_pos ⟨rfl, rfl⟩])
          exact ⟨hq.1, hq.2, h0, by rw [uR_R, if_pos ⟨rfl, rfl⟩]⟩)
    · skip
      have hlti : i < n := lt_of_nle c_10 (by omega)
      refine k_aload_n X (q := 1) dX2_dissolveCouncil_13 rfl rfl ?_
      refine gX2_57s X (S := Si) (st_1 hstI).1 (st_1 hstI).2 (sr_1_12 hstI) dX2_dissolveCouncil_14 ?_
      refine k_iload_n X (q := 0) dX2_dissolveCouncil_17 rfl rfl ?_
      refine k_gotQ X (vX2_94 X (S := Si) ⟨(st_10 hstI).1, (st_10 hstI).2⟩ (c_Jx4a65c_get_915e3 C.l C.e0 Si (A 10) 1 n i cz (hCI) hlti) (As := [.int (nI i)]) (rest := []) rfl rfl rfl rfl ⟨Nat.le_of_ble_eq_true rfl, Nat.le_of_ble_eq_true rfl⟩ (Nat.le_of_ble_eq_true rfl) ⟨Nat.le_of_ble_eq_true rfl, Nat.le_of_ble_eq_true rfl⟩ dX2_dissolveCouncil_18) (fun r_18_5 S_18_6 h_18_3 => ?_)
      obtain ⟨rfl, er_18_5⟩ := h_18_3
      subst er_18_5
      refine tX2_64 X (S := Si) ⟨(kLs.el (hCI) hlti).1, (kLs.el (hCI) hlti).2⟩ dX2_dissolveCouncil_21 ?_
      refine k_iconst X (v := 0) dX2_dissolveCouncil_24 (by decide) ?_
      refine pX2_134 X (S := Si) (kLs.el (hCI) hlti).1 (kLs.el (hCI) hlti).2 (Or.inl rfl) dX2_dissolveCouncil_25 ?_
      obtain ⟨v_28_7, ev_28_7⟩ : ∃ z : Int32, z = (nI i) + 1 := ⟨_, rfl⟩
      refine k_iinc X (q := 0) (v := v_28_7) [(1, .int v_28_7), (0, .ref (A 1))] dX2_dissolveCouncil_28 rfl (by rw [ev_28_7]; rfl) (by decide) rfl ?_
      refine k_goto (tgt := 2) X dX2_dissolveCouncil_31 (by decide) ?_
      refine k_lv [0, 1] _ rfl ?_
      exact ih (n - (i + 1)) (by omega) (i + 1) _ _ rfl (by rw [ev_28_7, nI_1]) ⟨by omega, hg.uI (fun _ => by rw [h.oc i hlti]; omega), fun j hj => by
        rw [uI_I]
        by_cases e : cz j = cz i ∧ 9 = 9
        · rw [if_pos e]
        · rw [if_neg e]; exact h0 j (by rcases Nat.lt_or_ge j i with g | g; exact g; exact absurd ⟨by rw [show j = i by omega], rfl⟩ e)⟩
  refine k_lv [0, 1] _ rfl ?_
  exact L_2 _ 0 0 _ rfl nI_0.symm ⟨by omega, kGo.rf, fun j hj => absurd hj (by omega)⟩
set_option maxHeartbeats 1000000 in
set_option maxRecDepth 20000 in
theorem c_X8_dismiss (l : Launch) (e0 : Nat × Nat) (S : kS)  (A : Nat → Nat) (n : Nat) (cz : Nat → Nat) (T G Z : Nat) (h : kI e0 A n cz T G Z S) (k : Nat) (hk : k < 7) (hb : T + 1 ≤ 900000 ∧ G + 1 ≤ 60000 ∧ Z + 0 ≤ 150000) : kM l e0 yX8_dismiss cX8_dismiss 4 none ({ frames := 3, cells := 0, slots := 0, locals := 69 } : Room) 0 0 [.ref (kof A k), .ref (A 1)] S (kQv (fun S9 => kI e0 A n cz (T + 1) (G + 1) (Z + 0) S9 ∧ kKe A S S9)) := by
  refine kMetE (by decide +kernel) (Nat.le_of_ble_eq_true rfl) (fun C he hl X E hm => ?_)
  have X : kX C RX8 cX8_dismiss 4 ({ frames := 3, cells := 0, slots := 0, locals := 69 } : Room) := X
  subst he hl
  show kG C 4 S 0 0 0 [(0, .ref (kof A k)), (1, .ref (A 1))] []
  have hn := h.n40
  refine k_aload_n X (q := 0) dX8_dismiss_0 rfl rfl ?_
  refine gX8_9 X (S := S) (kLs.el h.hO hk).1 (kLs.el h.hO hk).2 dX8_dismiss_1 (fun r_1_1 er_1_1 => ?_)
  refine k_astore_nQ X [(2, va_rf r_1_1), (0, .ref (kof A k)), (1, .ref (A 1))] dX8_dismiss_4 rfl (by decide) rfl ?_
  refine k_aload_nQ X (q := 0) dX8_dismiss_5 rfl rfl ?_
  refine k_ifnonnull (tgt := 10) X dX8_dismiss_6 (by decide) (fun a_6_2 c_6 => ?_) (fun c_6 => ?_)
  · skip
    subst c_6
    obtain ⟨i, hi, hai, hs, h9⟩ := h.ho.1 k hk a_6_2 er_1_1.symm
    subst hai
    refine k_aload_n X (q := 1) dX8_dismiss_10 rfl rfl ?_
    refine k_aload_n X (q := 2) dX8_dismiss_11 rfl rfl ?_
    refine k_gotI X (vX8_132 X (S := S) ⟨(kLs.el h.hO hk).1, (kLs.el h.hO hk).2⟩ (c_X8_handled C.l C.e0 S (kof A k) A h.st ⟨(kLs.el h.hO hk).1, (kLs.el h.hO hk).2⟩) (As := [.ref (A 1)]) (rest := []) rfl rfl rfl rfl ⟨Nat.le_of_ble_eq_true rfl, Nat.le_of_ble_eq_true rfl⟩ (Nat.le_of_ble_eq_true rfl) ⟨Nat.le_of_ble_eq_true rfl, Nat.le_of_ble_eq_true rfl⟩ dX8_dismiss_12) (fun v_12_4 S_12_5 h_12_2 => ?_)
    obtain ⟨rfl, ev_12_4⟩ := h_12_2
    refine k_istore_n X [(3, .int v_12_4), (2, .ref (cz i)), (0, .ref (kof A k)), (1, .ref (A 1))] dX8_dismiss_15 rfl (by decide) rfl ?_
    refine k_aload_n X (q := 2) dX8_dismiss_16 rfl rfl ?_
    refine k_null X dX8_dismiss_17 ?_
    refine pX8_9 X (S := S) (kLs.el h.hO hk).1 (kLs.el h.hO hk).2 (r := none) dX8_dismiss_18 ?_
    obtain ⟨hI_6, hx_6⟩ := h.ho0 hk
    have hK_6 := (kKe.rf).tr hx_6
    refine k_aload_n X (q := 1) dX8_dismiss_21 rfl rfl ?_
    refine k_aload_n X (q := 3) dX8_dismiss_22 rfl rfl ?_
    refine gX8_120 X (S := (S.uR (kof A k) 1 none)) (st_1 hI_6.st).1 (st_1 hI_6.st).2 dX8_dismiss_23 (fun v_23_7 ev_23_7 => ?_)
    refine k_bipush X (v := 10) dX8_dismiss_26 (by decide) ?_
    refine k_iadd X dX8_dismiss_28 (fun v_28_8 ev_28_8 => ?_)
    refine pX8_136 X (S := (S.uR (kof A k) 1 none)) (hI_6.at hi).1 (hI_6.at hi).2 dX8_dismiss_29 ?_
    obtain ⟨hI_9, hx_9⟩ := (⟨hI_6.fI (i := 11) (v := v_28_8) (hI_6.oc _ hi) (by unfold pSM; omega) (by unfold pVM pCi pHo pCh pLe pMy pMs pOf; omega) (by unfold pLu; omega), hI_6.fIk (i := 11) (v := v_28_8) (hI_6.oc _ hi) (by unfold pKe; omega)⟩ : _ ∧ _)
    have hK_9 := (hK_6).tr hx_9
    refine k_aload_n X (q := 3) dX8_dismiss_32 rfl rfl ?_
    refine gX8_76s X (S := ((S.uR (kof A k) 1 none).uI (cz i) 11 v_28_8)) (st_1 hI_9.st).1 (st_1 hI_9.st).2 (sr_1_11 hI_9.st) dX8_dismiss_33 ?_
    refine k_bipush X (v := 8) dX8_dismiss_36 (by decide) ?_
    refine k_gotI X (vX8_139 X (S := ((S.uR (kof A k) 1 none).uI (cz i) 11 v_28_8)) ⟨(st_7 hI_9.st).1, (st_7 hI_9.st).2⟩ (c_X6_drawOneOf C.l C.e0 ((S.uR (kof A k) 1 none).uI (cz i) 11 v_28_8) 8 A hI_9.st ) (As := [.int 8]) (rest := []) rfl rfl rfl rfl ⟨Nat.le_of_ble_eq_true rfl, Nat.le_of_ble_eq_true rfl⟩ (Nat.le_of_ble_eq_true rfl) ⟨Nat.le_of_ble_eq_true rfl, Nat.le_of_ble_eq_true rfl⟩ dX8_dismiss_38) (fun v_38_11 S_38_12 h_38_9 => ?_)
    obtain ⟨rfl, ev_38_11⟩ := h_38_9
    obtain ⟨hI_13, hx_13⟩ := hI_9.draw (by omega)
    have hK_13 := (hK_9).tr hx_13
    refine k_if_ne (tgt := 53) X dX8_dismiss_41 (by decide) (fun c_41 => ?_) (fun c_41 => ?_)
    · skip
      exact k_vret X E dX8_dismiss_53 (Nat.le_of_ble_eq_true rfl) (Nat.le_of_ble_eq_true rfl) (⟨hI_13.mono (by omega) (by omega) (by omega), hK_13⟩)
    · skip
      refine k_aload_n X (q := 3) dX8_dismiss_44 rfl rfl ?_
      refine k_aload_n X (q := 1) dX8_dismiss_45 rfl rfl ?_
      refine k_iload_n X (q := 0) dX8_dismiss_46 rfl rfl ?_
      refine k_bipush X (v := 10) dX8_dismiss_47 (by decide) ?_
      refine k_idiv X dX8_dismiss_49 (by decide) (fun v_49_14 ev_49_14 => ?_)
      obtain ⟨t1, t2, t3, t4, t5, t6⟩ := h.t0
      obtain ⟨⟨o1, o2⟩, o3, o4⟩ := h.of k hk
      obtain ⟨-, -, ⟨dd, hdd, hd2⟩, -⟩ := h.ms
      have hd3 : (S.I (A 1) 0).toInt = dd := by rw [hd2, nI_toInt (by omega)]
      have hfb : 0 ≤ (v_49_14).toInt ∧ (v_49_14).toInt ≤ 32000 := by
        rw [ev_49_14]
        rw [← er_1_1] at ev_12_4
        dsimp only at ev_12_4
        by_cases g : S.I (kof A k) 0 = 1
        · rw [if_pos g] at ev_12_4
          have q1 : (S.I (A 1) 4 + S.I (A 1) 5).toInt = (S.I (A 1) 4).toInt + (S.I (A 1) 5).toInt := i_add (by omega) (by omega)
          have q2 : (S.I (A 1) 4 + S.I (A 1) 5 - S.I (kof A k) 3).toInt = (S.I (A 1) 4).toInt + (S.I (A 1) 5).toInt - (S.I (kof A k) 3).toInt := by rw [i_sub (by omega) (by omega), q1]
          exact kdiv10 (by rw [ev_12_4]; omega) (by rw [ev_12_4]; omega)
        · rw [if_neg g] at ev_12_4
          have q2 : (S.I (A 1) 0 - S.I (kof A k) 2).toInt = (S.I (A 1) 0).toInt - (S.I (kof A k) 2).toInt := i_sub (by omega) (by omega)
          exact kdiv10 (by rw [ev_12_4]; omega) (by rw [ev_12_4]; omega)
      have h71 : ¬ cz i = A 7 := h.cne hi (r := 7) ⟨⟨6, by decide⟩, by omega⟩
      have hs9 : ((kdraw ((S.uR (kof A k) 1 none).uI (cz i) 11 v_28_8) A)).I (cz i) 6 = 1 ∨ ((kdraw ((S.uR (kof A k) 1 none).uI (cz i) 11 v_28_8) A)).I (cz i) 6 = 2 := by
        unfold kdraw
        simp only [uI_I, uR_I, h71, false_and, if_false]
        rw [if_neg (by omega)]
        exact hs
      refine k_gotV X (vX8_142 X (S := (kdraw ((S.uR (kof A k) 1 none).uI (cz i) 11 v_28_8) A)) ⟨(st_1 hI_13.st).1, (st_1 hI_13.st).2⟩ (c_X2_fine C.l C.e0 (kdraw ((S.uR (kof A k) 1 none).uI (cz i) 11 v_28_8) A) (cz i) v_49_14 A hI_13.st ⟨(hI_13.at hi).1, (hI_13.at hi).2⟩) (As := [.ref (cz i), .int v_49_14]) (rest := []) rfl rfl rfl rfl ⟨Nat.le_of_ble_eq_true rfl, Nat.le_of_ble_eq_true rfl⟩ (Nat.le_of_ble_eq_true rfl) ⟨Nat.le_of_ble_eq_true rfl, Nat.le_of_ble_eq_true rfl⟩ dX8_dismiss_50) (fun S_50_16 h_50_14 => ?_)
      subst h_50_14
      obtain ⟨hI_17, hx_17⟩ := hI_13.fine (i := i) hi (x := v_49_14) (hfb) (hs9) (by omega) (by omega)
      have hK_17 := (hK_13).tr hx_17
      exact k_vret X E dX8_dismiss_53 (Nat.le_of_ble_eq_true rfl) (Nat.le_of_ble_eq_true rfl) (⟨hI_17.mono (by omega) (by omega) (by omega), hK_17⟩)
  · skip
    subst c_6
    exact k_vret X E dX8_dismiss_9 (Nat.le_of_ble_eq_true rfl) (Nat.le_of_ble_eq_true rfl) (⟨h.mono (by omega) (by omega) (by omega), kKe.rf⟩)
set_option maxHeartbeats 1000000 in
set_option maxRecDepth 20000 in
theorem c_X2_dismissAll (l : Launch) (e0 : Nat × Nat) (S : kS)  (A : Nat → Nat) (n : Nat) (cz : Nat → Nat) (T G Z : Nat) (h : kI e0 A n cz T G Z S)  (hb : T + 7 ≤ 900000 ∧ G + 7 ≤ 60000 ∧ Z + 0 ≤ 150000) : kM l e0 yX2_dismissAll cX2_dismissAll 2 none ({ frames := 4, cells := 0, slots := 0, locals := 92 } : Room) 0 0 [.ref (A 1)] S (kQv (fun S9 => kI e0 A n cz (T + 7) (G + 7) (Z + 0) S9 ∧ kKe A S S9)) := by
  refine kMetE (by decide +kernel) (Nat.le_of_ble_eq_true rfl) (fun C he hl X E hm => ?_)
  have X : kX C RX2 cX2_dismissAll 2 ({ frames := 4, cells := 0, slots := 0, locals := 92 } : Room) := X
  subst he hl
  show kG C 2 S 0 0 0 [(0, .ref (A 1))] []
  have hn := h.n40
  refine k_iconst X (v := 0) dX2_dismissAll_0 (by decide) ?_
  refine k_istore_n X [(1, .int 0), (0, .ref (A 1))] dX2_dismissAll_1 rfl (by decide) rfl ?_
  have L_2 : ∀ (N : Nat) (i : Nat) (x : Int32) (Si : kS), 7 - i = N → x = nI i → (i ≤ 7 ∧ kI C.e0 A n cz (T + 1 * i) (G + 1 * i) Z Si ∧ kKe A S Si) → kG C 2 Si 0 0 2 [(1, .int x), (0, .ref (A 1))] [] := by
    intro N
    induction N using Nat.strongRecOn with
    | _ N ih =>
    intro i x Si hMs h2_0 h2_1
    subst h2_0
    obtain ⟨hBi, hIi, hKi⟩ := h2_1
    refine k_iload_n X (q := 0) dX2_dismissAll_2 rfl rfl ?_
    refine k_aload_n X (q := 1) dX2_dismissAll_3 rfl rfl ?_
    refine gX2_61s X (S := Si) (st_1 hIi.st).1 (st_1 hIi.st).2 (sr_1_13 hIi.st) dX2_dismissAll_4 ?_
    refine k_gotI X (vX2_86 X (S := Si) ⟨(st_11 hIi.st).1, (st_11 hIi.st).2⟩ (c_Jx4a65c_size_8abf5 C.l C.e0 Si (A 11) (st_11 hIi.st)) (As := []) (rest := [.int (nI i)]) rfl rfl rfl rfl ⟨Nat.le_of_ble_eq_true rfl, Nat.le_of_ble_eq_true rfl⟩ (Nat.le_of_ble_eq_true rfl) ⟨Nat.le_of_ble_eq_true rfl, Nat.le_of_ble_eq_true rfl⟩ dX2_dismissAll_7) (fun v_7_2 S_7_3 h_7_0 => ?_)
    obtain ⟨rfl, ev_7_2⟩ := h_7_0
    have hz_v_7_2 : nI 7 = v_7_2 := by rw [ev_7_2]; exact (hIi.hO).2.1.symm
    subst hz_v_7_2
    refine k_icmp_ge (tgt := 34) X dX2_dismissAll_10 (by decide) (fun c_10 => ?_) (fun c_10 => ?_)
    · skip
      have hin : 7 = i := by have := ge_of_le (m := 7) c_10 (by omega); omega
      subst hin
      exact k_vret X E dX2_dismissAll_34 (Nat.le_of_ble_eq_true rfl) (Nat.le_of_ble_eq_true rfl) (⟨hIi.mono (by omega) (by omega) (by omega), hKi⟩)
    · skip
      have hlti : i < 7 := lt_of_nle (m := 7) c_10 (by omega)
      refine k_aload_n X (q := 1) dX2_dismissAll_13 rfl rfl ?_
      refine gX2_61s X (S := Si) (st_1 hIi.st).1 (st_1 hIi.st).2 (sr_1_13 hIi.st) dX2_dismissAll_14 ?_
      refine k_iload_n X (q := 0) dX2_dismissAll_17 rfl rfl ?_
      refine k_gotQ X (vX2_94 X (S := Si) ⟨(st_11 hIi.st).1, (st_11 hIi.st).2⟩ (c_Jx4a65c_get_915e3 C.l C.e0 Si (A 11) 8 7 i (kof A) (hIi.hO) hlti) (As := [.int (nI i)]) (rest := []) rfl rfl rfl rfl ⟨Nat.le_of_ble_eq_true rfl, Nat.le_of_ble_eq_true rfl⟩ (Nat.le_of_ble_eq_true rfl) ⟨Nat.le_of_ble_eq_true rfl, Nat.le_of_ble_eq_true rfl⟩ dX2_dismissAll_18) (fun r_18_5 S_18_6 h_18_3 => ?_)
      obtain ⟨rfl, er_18_5⟩ := h_18_3
      subst er_18_5
      refine tX2_77 X (S := Si) ⟨(kLs.el (hIi.hO) hlti).1, (kLs.el (hIi.hO) hlti).2⟩ dX2_dismissAll_21 ?_
      refine k_aload_n X (q := 1) dX2_dismissAll_24 rfl rfl ?_
      refine k_gotV X (vX2_190 X (S := Si) ⟨(kLs.el (hIi.hO) hlti).1, (kLs.el (hIi.hO) hlti).2⟩ (c_X8_dismiss C.l C.e0 Si  A n cz _ _ _ hIi i hlti (by omega)) (As := [.ref (A 1)]) (rest := []) rfl rfl rfl rfl ⟨Nat.le_of_ble_eq_true rfl, Nat.le_of_ble_eq_true rfl⟩ (Nat.le_of_ble_eq_true rfl) ⟨Nat.le_of_ble_eq_true rfl, Nat.le_of_ble_eq_true rfl⟩ dX2_dismissAll_25) (fun S_25_8 h_25_6 => ?_)
      obtain ⟨hI_9, hx_9⟩ := h_25_6
      have hK_9 := (hKi).tr hx_9
      obtain ⟨v_28_10, ev_28_10⟩ : ∃ z : Int32, z = (nI i) + 1 := ⟨_, rfl⟩
      refine k_iinc X (q := 0) (v := v_28_10) [(1, .int v_28_10), (0, .ref (A 1))] dX2_dismissAll_28 rfl (by rw [ev_28_10]; rfl) (by decide) rfl ?_
      refine k_goto (tgt := 2) X dX2_dismissAll_31 (by decide) ?_
      refine k_lv [0, 1] _ rfl ?_
      exact ih (7 - (i + 1)) (by omega) (i + 1) _ _ rfl (by rw [ev_28_10, nI_1]) ⟨by omega, hI_9.mono (by omega) (by omega) (by omega), hK_9⟩
  refine k_lv [0, 1] _ rfl ?_
  exact L_2 _ 0 0 _ rfl nI_0.symm ⟨by omega, h.mono (by omega) (by omega) (by omega), kKe.rf⟩
set_option maxHeartbeats 1000000 in
set_option maxRecDepth 20000 in
theorem c_X2_emptyOffices (l : Launch) (e0 : Nat × Nat) (S : kS)  (A : Nat → Nat) (n : Nat) (cz : Nat → Nat) (T G Z : Nat) (h : kI e0 A n cz T G Z S)  (hb : T + 0 ≤ 900000 ∧ G + 0 ≤ 60000 ∧ Z + 0 ≤ 150000) : kM l e0 yX2_emptyOffices cX2_emptyOffices 2 none ({ frames := 3, cells := 0, slots := 0, locals := 64 } : Room) 0 0 [.ref (A 1)] S (kQv (fun S9 => kI e0 A n cz (T + 0) (G + 0) (Z + 0) S9 ∧ kKe A S S9)) := by
  refine kMetE (by decide +kernel) (Nat.le_of_ble_eq_true rfl) (fun C he hl X E hm => ?_)
  have X : kX C RX2 cX2_emptyOffices 2 ({ frames := 3, cells := 0, slots := 0, locals := 64 } : Room) := X
  subst he hl
  show kG C 2 S 0 0 0 [(0, .ref (A 1))] []
  have hn := h.n40
  refine k_iconst X (v := 0) dX2_emptyOffices_0 (by decide) ?_
  refine k_istore_n X [(1, .int 0), (0, .ref (A 1))] dX2_emptyOffices_1 rfl (by decide) rfl ?_
  have L_2 : ∀ (N : Nat) (i : Nat) (x : Int32) (Si : kS), 7 - i = N → x = nI i → (i ≤ 7 ∧ kI C.e0 A n cz T G Z Si ∧ kKe A S Si) → kG C 2 Si 0 0 2 [(1, .int x), (0, .ref (A 1))] [] := by
    intro N
    induction N using Nat.strongRecOn with
    | _ N ih =>
    intro i x Si hMs h2_0 h2_1
    subst h2_0
    obtain ⟨hBi, hIi, hKi⟩ := h2_1
    refine k_iload_n X (q := 0) dX2_emptyOffices_2 rfl rfl ?_
    refine k_aload_n X (q := 1) dX2_emptyOffices_3 rfl rfl ?_
    refine gX2_61s X (S := Si) (st_1 hIi.st).1 (st_1 hIi.st).2 (sr_1_13 hIi.st) dX2_emptyOffices_4 ?_
    refine k_gotI X (vX2_86 X (S := Si) ⟨(st_11 hIi.st).1, (st_11 hIi.st).2⟩ (c_Jx4a65c_size_8abf5 C.l C.e0 Si (A 11) (st_11 hIi.st)) (As := []) (rest := [.int (nI i)]) rfl rfl rfl rfl ⟨Nat.le_of_ble_eq_true rfl, Nat.le_of_ble_eq_true rfl⟩ (Nat.le_of_ble_eq_true rfl) ⟨Nat.le_of_ble_eq_true rfl, Nat.le_of_ble_eq_true rfl⟩ dX2_emptyOffices_7) (fun v_7_2 S_7_3 h_7_0 => ?_)
    obtain ⟨rfl, ev_7_2⟩ := h_7_0
    have hz_v_7_2 : nI 7 = v_7_2 := by rw [ev_7_2]; exact (hIi.hO).2.1.symm
    subst hz_v_7_2
    refine k_icmp_ge (tgt := 34) X dX2_emptyOffices_10 (by decide) (fun c_10 => ?_) (fun c_10 => ?_)
    · skip
      have hin : 7 = i := by have := ge_of_le (m := 7) c_10 (by omega); omega
      subst hin
      exact k_vret X E dX2_emptyOffices_34 (Nat.le_of_ble_eq_true rfl) (Nat.le_of_ble_eq_true rfl) (⟨hIi.mono (by omega) (by omega) (by omega), hKi⟩)
    · skip
      have hlti : i < 7 := lt_of_nle (m := 7) c_10 (by omega)
      refine k_aload_n X (q := 1) dX2_emptyOffices_13 rfl rfl ?_
      refine gX2_61s X (S := Si) (st_1 hIi.st).1 (st_1 hIi.st).2 (sr_1_13 hIi.st) dX2_emptyOffices_14 ?_
      refine k_iload_n X (q := 0) dX2_emptyOffices_17 rfl rfl ?_
      refine k_gotQ X (vX2_94 X (S := Si) ⟨(st_11 hIi.st).1, (st_11 hIi.st).2⟩ (c_Jx4a65c_get_915e3 C.l C.e0 Si (A 11) 8 7 i (kof A) (hIi.hO) hlti) (As := [.int (nI i)]) (rest := []) rfl rfl rfl rfl ⟨Nat.le_of_ble_eq_true rfl, Nat.le_of_ble_eq_true rfl⟩ (Nat.le_of_ble_eq_true rfl) ⟨Nat.le_of_ble_eq_true rfl, Nat.le_of_ble_eq_true rfl⟩ dX2_emptyOffices_18) (fun r_18_5 S_18_6 h_18_3 => ?_)
      obtain ⟨rfl, er_18_5⟩ := h_18_3
      subst er_18_5
      refine tX2_77 X (S := Si) ⟨(kLs.el (hIi.hO) hlti).1, (kLs.el (hIi.hO) hlti).2⟩ dX2_emptyOffices_21 ?_
      refine k_null X dX2_emptyOffices_24 ?_
      refine pX2_175 X (S := Si) (kLs.el (hIi.hO) hlti).1 (kLs.el (hIi.hO) hlti).2 (r := none) dX2_emptyOffices_25 ?_
      obtain ⟨hI_7, hx_7⟩ := hIi.ho0 hlti
      have hK_7 := (hKi).tr hx_7
      obtain ⟨v_28_8, ev_28_8⟩ : ∃ z : Int32, z = (nI i) + 1 := ⟨_, rfl⟩
      refine k_iinc X (q := 0) (v := v_28_8) [(1, .int v_28_8), (0, .ref (A 1))] dX2_emptyOffices_28 rfl (by rw [ev_28_8]; rfl) (by decide) rfl ?_
      refine k_goto (tgt := 2) X dX2_emptyOffices_31 (by decide) ?_
      refine k_lv [0, 1] _ rfl ?_
      exact ih (7 - (i + 1)) (by omega) (i + 1) _ _ rfl (by rw [ev_28_8, nI_1]) ⟨by omega, hI_7.mono (by omega) (by omega) (by omega), hK_7⟩
  refine k_lv [0, 1] _ rfl ?_
  exact L_2 _ 0 0 _ rfl nI_0.symm ⟨by omega, h.mono (by omega) (by omega) (by omega), kKe.rf⟩
set_option maxHeartbeats 1000000 in
set_option maxRecDepth 20000 in
theorem c_X2_askConfidence (l : Launch) (e0 : Nat × Nat) (S : kS)  (A : Nat → Nat) (n : Nat) (cz : Nat → Nat) (T G Z : Nat) (h : kI e0 A n cz T G Z S)  (hb : T + 7 ≤ 900000 ∧ G + 7 ≤ 60000 ∧ Z + 0 ≤ 150000) : kM l e0 yX2_askConfidence cX2_askConfidence 3 none ({ frames := 5, cells := 0, slots := 0, locals := 111 } : Room) 0 0 [.ref (A 1)] S (kQv (fun S9 => kI e0 A n cz (T + 7) (G + 7) (Z + 0) S9 ∧ kKe A S S9)) := by
  refine kMetE (by decide +kernel) (Nat.le_of_ble_eq_true rfl) (fun C he hl X E hm => ?_)
  have X : kX C RX2 cX2_askConfidence 3 ({ frames := 5, cells := 0, slots := 0, locals := 111 } : Room) := X
  subst he hl
  show kG C 3 S 0 0 0 [(0, .ref (A 1))] []
  have hn := h.n40
  refine k_iconst X (v := 0) dX2_askConfidence_0 (by decide) ?_
  refine k_istore_n X [(1, .int 0), (0, .ref (A 1))] dX2_askConfidence_1 rfl (by decide) rfl ?_
  have L_2 : ∀ (N : Nat) (i : Nat) (x : Int32) (Si : kS), 7 - i = N → x = nI i → (i ≤ 7 ∧ kI C.e0 A n cz (T + 1 * i) (G + 1 * i) Z Si ∧ kKe A S Si) → kG C 3 Si 0 0 2 [(1, .int x), (0, .ref (A 1))] [] := by
    intro N
    induction N using Nat.strongRecOn with
    | _ N ih =>
    intro i x Si hMs h2_0 h2_1
    subst h2_0
    obtain ⟨hBi, hIi, hKi⟩ := h2_1
    refine k_iload_n X (q := 0) dX2_askConfidence_2 rfl rfl ?_
    refine k_aload_n X (q := 1) dX2_askConfidence_3 rfl rfl ?_
    refine gX2_61s X (S := Si) (st_1 hIi.st).1 (st_1 hIi.st).2 (sr_1_13 hIi.st) dX2_askConfidence_4 ?_
    refine k_gotI X (vX2_86 X (S := Si) ⟨(st_11 hIi.st).1, (st_11 hIi.st).2⟩ (c_Jx4a65c_size_8abf5 C.l C.e0 Si (A 11) (st_11 hIi.st)) (As := []) (rest := [.int (nI i)]) rfl rfl rfl rfl ⟨Nat.le_of_ble_eq_true rfl, Nat.le_of_ble_eq_true rfl⟩ (Nat.le_of_ble_eq_true rfl) ⟨Nat.le_of_ble_eq_true rfl, Nat.le_of_ble_eq_true rfl⟩ dX2_askConfidence_7) (fun v_7_2 S_7_3 h_7_0 => ?_)
    obtain ⟨rfl, ev_7_2⟩ := h_7_0
    have hz_v_7_2 : nI 7 = v_7_2 := by rw [ev_7_2]; exact (hIi.hO).2.1.symm
    subst hz_v_7_2
    refine k_icmp_ge (tgt := 63) X dX2_askConfidence_10 (by decide) (fun c_10 => ?_) (fun c_10 => ?_)
    · skip
      have hin : 7 = i := by have := ge_of_le (m := 7) c_10 (by omega); omega
      subst hin
      exact k_vret X E dX2_askConfidence_63 (Nat.le_of_ble_eq_true rfl) (Nat.le_of_ble_eq_true rfl) (⟨hIi.mono (by omega) (by omega) (by omega), hKi⟩)
    · skip
      have hlti : i < 7 := lt_of_nle (m := 7) c_10 (by omega)
      refine k_aload_n X (q := 1) dX2_askConfidence_13 rfl rfl ?_
      refine gX2_61s X (S := Si) (st_1 hIi.st).1 (st_1 hIi.st).2 (sr_1_13 hIi.st) dX2_askConfidence_14 ?_
      refine k_iload_n X (q := 0) dX2_askConfidence_17 rfl rfl ?_
      refine k_gotQ X (vX2_94 X (S := Si) ⟨(st_11 hIi.st).1, (st_11 hIi.st).2⟩ (c_Jx4a65c_get_915e3 C.l C.e0 Si (A 11) 8 7 i (kof A) (hIi.hO) hlti) (As := [.int (nI i)]) (rest := []) rfl rfl rfl rfl ⟨Nat.le_of_ble_eq_true rfl, Nat.le_of_ble_eq_true rfl⟩ (Nat.le_of_ble_eq_true rfl) ⟨Nat.le_of_ble_eq_true rfl, Nat.le_of_ble_eq_true rfl⟩ dX2_askConfidence_18) (fun r_18_5 S_18_6 h_18_3 => ?_)
      obtain ⟨rfl, er_18_5⟩ := h_18_3
      subst er_18_5
      refine tX2_77 X (S := Si) ⟨(kLs.el (hIi.hO) hlti).1, (kLs.el (hIi.hO) hlti).2⟩ dX2_askConfidence_21 ?_
      refine k_astore_n X [(2, .ref (kof A i)), (1, .int (nI i)), (0, .ref (A 1))] dX2_askConfidence_24 rfl (by decide) rfl ?_
      refine k_aload_n X (q := 0) dX2_askConfidence_25 rfl rfl ?_
      refine gX2_175 X (S := Si) (kLs.el (hIi.hO) hlti).1 (kLs.el (hIi.hO) hlti).2 dX2_askConfidence_26 (fun r_26_7 er_26_7 => ?_)
      refine k_ifnull (tgt := 57) X dX2_askConfidence_29 (by decide) (fun c_29 => ?_) (fun a_29_8 c_29 => ?_)
      · skip
        subst c_29
        obtain ⟨v_57_9, ev_57_9⟩ : ∃ z : Int32, z = (nI i) + 1 := ⟨_, rfl⟩
        refine k_iinc X (q := 1) (v := v_57_9) [(1, .int v_57_9), (2, .ref (kof A i)), (0, .ref (A 1))] dX2_askConfidence_57 rfl (by rw [ev_57_9]; rfl) (by decide) rfl ?_
        refine k_goto (tgt := 2) X dX2_askConfidence_60 (by decide) ?_
        refine k_lv [0, 2] _ rfl ?_
        exact ih (7 - (i + 1)) (by omega) (i + 1) _ _ rfl (by rw [ev_57_9, nI_1]) ⟨by omega, hIi.mono (by omega) (by omega) (by omega), hKi⟩
      · skip
        subst c_29
        obtain ⟨j, hj, haj, hs, h9⟩ := hIi.ho.1 i hlti a_29_8 er_26_7.symm
        subst haj
        refine k_iconst X (v := 2) dX2_askConfidence_32 (by decide) ?_
        refine k_aload_n X (q := 2) dX2_askConfidence_33 rfl rfl ?_
        refine k_aload_n X (q := 0) dX2_askConfidence_34 rfl rfl ?_
        refine gX2_175s X (S := Si) (kLs.el (hIi.hO) hlti).1 (kLs.el (hIi.hO) hlti).2 er_26_7.symm dX2_askConfidence_35 ?_
        refine gX2_127 X (S := Si) (hIi.at hj).1 (hIi.at hj).2 dX2_askConfidence_38 (fun v_38_10 ev_38_10 => ?_)
        refine k_gotI X (vX2_194 X (S := Si) ⟨(st_1 hIi.st).1, (st_1 hIi.st).2⟩ (c_X2_fullAgreeing C.l C.e0 Si v_38_10 A n cz hIi.st hIi.hC hn ) (As := [.int v_38_10]) (rest := [.int 2]) rfl rfl rfl rfl ⟨Nat.le_of_ble_eq_true rfl, Nat.le_of_ble_eq_true rfl⟩ (Nat.le_of_ble_eq_true rfl) ⟨Nat.le_of_ble_eq_true rfl, Nat.le_of_ble_eq_true rfl⟩ dX2_askConfidence_41) (fun v_41_12 S_41_13 h_41_10 => ?_)
        obtain ⟨rfl, ev_41_12⟩ := h_41_10
        refine k_imul X dX2_askConfidence_44 (fun v_44_14 ev_44_14 => ?_)
        refine k_aload_n X (q := 2) dX2_askConfidence_45 rfl rfl ?_
        refine k_gotI X (vX2_197 X (S := Si) ⟨(st_1 hIi.st).1, (st_1 hIi.st).2⟩ (c_X2_full C.l C.e0 Si  A n cz hIi.st hIi.hC hn ) (As := []) (rest := [.int v_44_14]) rfl rfl rfl rfl ⟨Nat.le_of_ble_eq_true rfl, Nat.le_of_ble_eq_true rfl⟩ (Nat.le_of_ble_eq_true rfl) ⟨Nat.le_of_ble_eq_true rfl, Nat.le_of_ble_eq_true rfl⟩ dX2_askConfidence_46) (fun v_46_16 S_46_17 h_46_14 => ?_)
        obtain ⟨rfl, ev_46_16⟩ := h_46_14
        refine k_icmp_ge (tgt := 57) X dX2_askConfidence_49 (by decide) (fun c_49 => ?_) (fun c_49 => ?_)
        · skip
          obtain ⟨v_57_18, ev_57_18⟩ : ∃ z : Int32, z = (nI i) + 1 := ⟨_, rfl⟩
          refine k_iinc X (q := 1) (v := v_57_18) [(1, .int v_57_18), (2, .ref (kof A i)), (0, .ref (A 1))] dX2_askConfidence_57 rfl (by rw [ev_57_18]; rfl) (by decide) rfl ?_
          refine k_goto (tgt := 2) X dX2_askConfidence_60 (by decide) ?_
          refine k_lv [0, 2] _ rfl ?_
          exact ih (7 - (i + 1)) (by omega) (i + 1) _ _ rfl (by rw [ev_57_18, nI_1]) ⟨by omega, hIi.mono (by omega) (by omega) (by omega), hKi⟩
        · skip
          refine k_aload_n X (q := 0) dX2_askConfidence_52 rfl rfl ?_
          refine k_aload_n X (q := 2) dX2_askConfidence_53 rfl rfl ?_
          refine k_gotV X (vX2_190 X (S := Si) ⟨(kLs.el (hIi.hO) hlti).1, (kLs.el (hIi.hO) hlti).2⟩ (c_X8_dismiss C.l C.e0 Si  A n cz _ _ _ hIi i hlti (by omega)) (As := [.ref (A 1)]) (rest := []) rfl rfl rfl rfl ⟨Nat.le_of_ble_eq_true rfl, Nat.le_of_ble_eq_true rfl⟩ (Nat.le_of_ble_eq_true rfl) ⟨Nat.le_of_ble_eq_true rfl, Nat.le_of_ble_eq_true rfl⟩ dX2_askConfidence_54) (fun S_54_20 h_54_18 => ?_)
          obtain ⟨hI_21, hx_21⟩ := h_54_18
          have hK_21 := (hKi).tr hx_21
          obtain ⟨v_57_22, ev_57_22⟩ : ∃ z : Int32, z = (nI i) + 1 := ⟨_, rfl⟩
          refine k_iinc X (q := 1) (v := v_57_22) [(1, .int v_57_22), (2, .ref (kof A i)), (0, .ref (A 1))] dX2_askConfidence_57 rfl (by rw [ev_57_22]; rfl) (by decide) rfl ?_
          refine k_goto (tgt := 2) X dX2_askConfidence_60 (by decide) ?_
          refine k_lv [0, 2] _ rfl ?_
          exact ih (7 - (i + 1)) (by omega) (i + 1) _ _ rfl (by rw [ev_57_22, nI_1]) ⟨by omega, hI_21.mono (by omega) (by omega) (by omega), hK_21⟩
  refine k_lv [0, 1] _ rfl ?_
  exact L_2 _ 0 0 _ rfl nI_0.symm ⟨by omega, h.mono (by omega) (by omega) (by omega), kKe.rf⟩
set_option maxHeartbeats 1000000 in
set_option maxRecDepth 20000 in
theorem c_X2_payOffices (l : Launch) (e0 : Nat × Nat) (S : kS)  (A : Nat → Nat) (n : Nat) (cz : Nat → Nat) (T G Z : Nat) (h : kI e0 A n cz T G Z S)  (hb : T + 0 ≤ 900000 ∧ G + 0 ≤ 60000 ∧ Z + 0 ≤ 150000) : kM l e0 yX2_payOffices cX2_payOffices 2 none ({ frames := 3, cells := 0, slots := 0, locals := 64 } : Room) 0 0 [.ref (A 1)] S (kQv (fun S9 => kI e0 A n cz (T + 0) (G + 0) (Z + 0) S9 ∧ kKe A S S9)) := by
  refine kMetE (by decide +kernel) (Nat.le_of_ble_eq_true rfl) (fun C he hl X E hm => ?_)
  have X : kX C RX2 cX2_payOffices 2 ({ frames := 3, cells := 0, slots := 0, locals := 64 } : Room) := X
  subst he hl
  show kG C 2 S 0 0 0 [(0, .ref (A 1))] []
  have hn := h.n40
  refine k_iconst X (v := 0) dX2_payOffices_0 (by decide) ?_
  refine k_istore_n X [(1, .int 0), (0, .ref (A 1))] dX2_payOffices_1 rfl (by decide) rfl ?_
  have L_2 : ∀ (N : Nat) (i : Nat) (x : Int32) (Si : kS), 7 - i = N → x = nI i → (i ≤ 7 ∧ kI C.e0 A n cz T G Z Si ∧ kKe A S Si) → kG C 2 Si 0 0 2 [(1, .int x), (0, .ref (A 1))] [] := by
    intro N
    induction N using Nat.strongRecOn with
    | _ N ih =>
    intro i x Si hMs h2_0 h2_1
    subst h2_0
    obtain ⟨hBi, hIi, hKi⟩ := h2_1
    refine k_iload_n X (q := 0) dX2_payOffices_2 rfl rfl ?_
    refine k_aload_n X (q := 1) dX2_payOffices_3 rfl rfl ?_
    refine gX2_61s X (S := Si) (st_1 hIi.st).1 (st_1 hIi.st).2 (sr_1_13 hIi.st) dX2_payOffices_4 ?_
    refine k_gotI X (vX2_86 X (S := Si) ⟨(st_11 hIi.st).1, (st_11 hIi.st).2⟩ (c_Jx4a65c_size_8abf5 C.l C.e0 Si (A 11) (st_11 hIi.st)) (As := []) (rest := [.int (nI i)]) rfl rfl rfl rfl ⟨Nat.le_of_ble_eq_true rfl, Nat.le_of_ble_eq_true rfl⟩ (Nat.le_of_ble_eq_true rfl) ⟨Nat.le_of_ble_eq_true rfl, Nat.le_of_ble_eq_true rfl⟩ dX2_payOffices_7) (fun v_7_2 S_7_3 h_7_0 => ?_)
    obtain ⟨rfl, ev_7_2⟩ := h_7_0
    have hz_v_7_2 : nI 7 = v_7_2 := by rw [ev_7_2]; exact (hIi.hO).2.1.symm
    subst hz_v_7_2
    refine k_icmp_ge (tgt := 42) X dX2_payOffices_10 (by decide) (fun c_10 => ?_) (fun c_10 => ?_)
    · skip
      have hin : 7 = i := by have := ge_of_le (m := 7) c_10 (by omega); omega
      subst hin
      exact k_vret X E dX2_payOffices_42 (Nat.le_of_ble_eq_true rfl) (Nat.le_of_ble_eq_true rfl) (⟨hIi.mono (by omega) (by omega) (by omega), hKi⟩)
    · skip
      have hlti : i < 7 := lt_of_nle (m := 7) c_10 (by omega)
      refine k_aload_n X (q := 1) dX2_payOffices_13 rfl rfl ?_
      refine gX2_61s X (S := Si) (st_1 hIi.st).1 (st_1 hIi.st).2 (sr_1_13 hIi.st) dX2_payOffices_14 ?_
      refine k_iload_n X (q := 0) dX2_payOffices_17 rfl rfl ?_
      refine k_gotQ X (vX2_94 X (S := Si) ⟨(st_11 hIi.st).1, (st_11 hIi.st).2⟩ (c_Jx4a65c_get_915e3 C.l C.e0 Si (A 11) 8 7 i (kof A) (hIi.hO) hlti) (As := [.int (nI i)]) (rest := []) rfl rfl rfl rfl ⟨Nat.le_of_ble_eq_true rfl, Nat.le_of_ble_eq_true rfl⟩ (Nat.le_of_ble_eq_true rfl) ⟨Nat.le_of_ble_eq_true rfl, Nat.le_of_ble_eq_true rfl⟩ dX2_payOffices_18) (fun r_18_5 S_18_6 h_18_3 => ?_)
      obtain ⟨rfl, er_18_5⟩ := h_18_3
      subst er_18_5
      refine tX2_77 X (S := Si) ⟨(kLs.el (hIi.hO) hlti).1, (kLs.el (hIi.hO) hlti).2⟩ dX2_payOffices_21 ?_
      refine gX2_175 X (S := Si) (kLs.el (hIi.hO) hlti).1 (kLs.el (hIi.hO) hlti).2 dX2_payOffices_24 (fun r_24_7 er_24_7 => ?_)
      refine k_ifnull (tgt := 36) X dX2_payOffices_27 (by decide) (fun c_27 => ?_) (fun a_27_8 c_27 => ?_)
      · skip
        subst c_27
        obtain ⟨v_36_9, ev_36_9⟩ : ∃ z : Int32, z = (nI i) + 1 := ⟨_, rfl⟩
        refine k_iinc X (q := 0) (v := v_36_9) [(1, .int v_36_9), (0, .ref (A 1))] dX2_payOffices_36 rfl (by rw [ev_36_9]; rfl) (by decide) rfl ?_
        refine k_goto (tgt := 2) X dX2_payOffices_39 (by decide) ?_
        refine k_lv [0, 1] _ rfl ?_
        exact ih (7 - (i + 1)) (by omega) (i + 1) _ _ rfl (by rw [ev_36_9, nI_1]) ⟨by omega, hIi.mono (by omega) (by omega) (by omega), hKi⟩
      · skip
        subst c_27
        refine k_aload_n X (q := 1) dX2_payOffices_30 rfl rfl ?_
        refine k_iconst X (v := 2) dX2_payOffices_31 (by decide) ?_
        refine k_gotI X (vX2_200 X (S := Si) ⟨(st_1 hIi.st).1, (st_1 hIi.st).2⟩ (c_X2_payOut C.l C.e0 Si 2 A hIi.st ) (As := [.int 2]) (rest := []) rfl rfl rfl rfl ⟨Nat.le_of_ble_eq_true rfl, Nat.le_of_ble_eq_true rfl⟩ (Nat.le_of_ble_eq_true rfl) ⟨Nat.le_of_ble_eq_true rfl, Nat.le_of_ble_eq_true rfl⟩ dX2_payOffices_32) (fun v_32_11 S_32_12 h_32_9 => ?_)
        obtain ⟨rfl, ev_32_11⟩ := h_32_9
        obtain ⟨hI_13, hx_13⟩ := hIi.pay (x := 2) (by decide) (by omega)
        have hK_13 := (hKi).tr hx_13
        refine k_pop X dX2_payOffices_35 rfl ?_
        obtain ⟨v_36_14, ev_36_14⟩ : ∃ z : Int32, z = (nI i) + 1 := ⟨_, rfl⟩
        refine k_iinc X (q := 0) (v := v_36_14) [(1, .int v_36_14), (0, .ref (A 1))] dX2_payOffices_36 rfl (by rw [ev_36_14]; rfl) (by decide) rfl ?_
        refine k_goto (tgt := 2) X dX2_payOffices_39 (by decide) ?_
        refine k_lv [0, 1] _ rfl ?_
        exact ih (7 - (i + 1)) (by omega) (i + 1) _ _ rfl (by rw [ev_36_14, nI_1]) ⟨by omega, hI_13.mono (by omega) (by omega) (by omega), hK_13⟩
  refine k_lv [0, 1] _ rfl ?_
  exact L_2 _ 0 0 _ rfl nI_0.symm ⟨by omega, h.mono (by omega) (by omega) (by omega), kKe.rf⟩
set_option maxHeartbeats 1000000 in
set_option maxRecDepth 20000 in
theorem c_X2_growOlder (l : Launch) (e0 : Nat × Nat) (S : kS)  (A : Nat → Nat) (n : Nat) (cz : Nat → Nat) (T G Z : Nat) (h : kI e0 A n cz T G Z S)  (hb : T + 40 ≤ 900000 ∧ G + 0 ≤ 60000 ∧ Z + 0 ≤ 150000) : kM l e0 yX2_growOlder cX2_growOlder 3 none ({ frames := 4, cells := 0, slots := 0, locals := 90 } : Room) 0 0 [.ref (A 1)] S (kQv (fun S9 => kI e0 A n cz (T + 40) (G + 0) (Z + 0) S9 ∧ kKe A S S9)) := by
  refine kMetE (by decide +kernel) (Nat.le_of_ble_eq_true rfl) (fun C he hl X E hm => ?_)
  have X : kX C RX2 cX2_growOlder 3 ({ frames := 4, cells := 0, slots := 0, locals := 90 } : Room) := X
  subst he hl
  show kG C 3 S 0 0 0 [(0, .ref (A 1))] []
  have hn := h.n40
  refine k_iconst X (v := 0) dX2_growOlder_0 (by decide) ?_
  refine k_istore_n X [(1, .int 0), (0, .ref (A 1))] dX2_growOlder_1 rfl (by decide) rfl ?_
  have L_2 : ∀ (N : Nat) (i : Nat) (x : Int32) (Si : kS), n - i = N → x = nI i → (i ≤ n ∧ kI C.e0 A n cz (T + 1 * i) G Z Si ∧ kKe A S Si) → kG C 3 Si 0 0 2 [(1, .int x), (0, .ref (A 1))] [] := by
    intro N
    induction N using Nat.strongRecOn with
    | _ N ih =>
    intro i x Si hMs h2_0 h2_1
    subst h2_0
    obtain ⟨hBi, hIi, hKi⟩ := h2_1
    refine k_iload_n X (q := 0) dX2_growOlder_2 rfl rfl ?_
    refine k_aload_n X (q := 1) dX2_growOlder_3 rfl rfl ?_
    refine gX2_57s X (S := Si) (st_1 hIi.st).1 (st_1 hIi.st).2 (sr_1_12 hIi.st) dX2_growOlder_4 ?_
    refine k_gotI X (vX2_86 X (S := Si) ⟨(st_10 hIi.st).1, (st_10 hIi.st).2⟩ (c_Jx4a65c_size_8abf5 C.l C.e0 Si (A 10) (st_10 hIi.st)) (As := []) (rest := [.int (nI i)]) rfl rfl rfl rfl ⟨Nat.le_of_ble_eq_true rfl, Nat.le_of_ble_eq_true rfl⟩ (Nat.le_of_ble_eq_true rfl) ⟨Nat.le_of_ble_eq_true rfl, Nat.le_of_ble_eq_true rfl⟩ dX2_growOlder_7) (fun v_7_2 S_7_3 h_7_0 => ?_)
    obtain ⟨rfl, ev_7_2⟩ := h_7_0
    have hz_v_7_2 : nI n = v_7_2 := by rw [ev_7_2]; exact (hIi.hC).2.1.symm
    subst hz_v_7_2
    refine k_icmp_ge (tgt := 56) X dX2_growOlder_10 (by decide) (fun c_10 => ?_) (fun c_10 => ?_)
    · skip
      have hin : n = i := by have := ge_of_le c_10 (by omega); omega
      subst hin
      exact k_vret X E dX2_growOlder_56 (Nat.le_of_ble_eq_true rfl) (Nat.le_of_ble_eq_true rfl) (⟨hIi.mono (by omega) (by omega) (by omega), hKi⟩)
    · skip
      have hlti : i < n := lt_of_nle c_10 (by omega)
      refine k_aload_n X (q := 1) dX2_growOlder_13 rfl rfl ?_
      refine gX2_57s X (S := Si) (st_1 hIi.st).1 (st_1 hIi.st).2 (sr_1_12 hIi.st) dX2_growOlder_14 ?_
      refine k_iload_n X (q := 0) dX2_growOlder_17 rfl rfl ?_
      refine k_gotQ X (vX2_94 X (S := Si) ⟨(st_10 hIi.st).1, (st_10 hIi.st).2⟩ (c_Jx4a65c_get_915e3 C.l C.e0 Si (A 10) 1 n i cz (hIi.hC) hlti) (As := [.int (nI i)]) (rest := []) rfl rfl rfl rfl ⟨Nat.le_of_ble_eq_true rfl, Nat.le_of_ble_eq_true rfl⟩ (Nat.le_of_ble_eq_true rfl) ⟨Nat.le_of_ble_eq_true rfl, Nat.le_of_ble_eq_true rfl⟩ dX2_growOlder_18) (fun r_18_5 S_18_6 h_18_3 => ?_)
      obtain ⟨rfl, er_18_5⟩ := h_18_3
      subst er_18_5
      refine tX2_64 X (S := Si) ⟨(kLs.el (hIi.hC) hlti).1, (kLs.el (hIi.hC) hlti).2⟩ dX2_growOlder_21 ?_
      refine k_astore_n X [(2, .ref (cz i)), (1, .int (nI i)), (0, .ref (A 1))] dX2_growOlder_24 rfl (by decide) rfl ?_
      refine k_aload_n X (q := 0) dX2_growOlder_25 rfl rfl ?_
      refine k_dup X dX2_growOlder_26 rfl ?_
      refine gX2_143 X (S := Si) (hIi.at hlti).1 (hIi.at hlti).2 dX2_growOlder_27 (fun v_27_7 ev_27_7 => ?_)
      refine k_iconst X (v := 1) dX2_growOlder_30 (by decide) ?_
      refine k_iadd X dX2_growOlder_31 (fun v_31_8 ev_31_8 => ?_)
      refine pX2_143 X (S := Si) (hIi.at hlti).1 (hIi.at hlti).2 dX2_growOlder_32 ?_
      obtain ⟨hI_9, hx_9⟩ := hIi.older hlti (v := v_31_8) (by rw [ev_31_8, ev_27_7]) (by omega)
      have hK_9 := (hKi).tr hx_9
      refine k_aload_n X (q := 0) dX2_growOlder_35 rfl rfl ?_
      refine gX2_143 X (S := (Si.uI (cz i) 3 v_31_8)) (hI_9.at hlti).1 (hI_9.at hlti).2 dX2_growOlder_36 (fun v_36_10 ev_36_10 => ?_)
      refine k_bipush X (v := 75) dX2_growOlder_39 (by decide) ?_
      refine k_icmp_lt (tgt := 50) X dX2_growOlder_41 (by decide) (fun c_41 => ?_) (fun c_41 => ?_)
      · skip
        obtain ⟨v_50_11, ev_50_11⟩ : ∃ z : Int32, z = (nI i) + 1 := ⟨_, rfl⟩
        refine k_iinc X (q := 1) (v := v_50_11) [(1, .int v_50_11), (2, .ref (cz i)), (0, .ref (A 1))] dX2_growOlder_50 rfl (by rw [ev_50_11]; rfl) (by decide) rfl ?_
        refine k_goto (tgt := 2) X dX2_growOlder_53 (by decide) ?_
        refine k_lv [0, 2] _ rfl ?_
        exact ih (n - (i + 1)) (by omega) (i + 1) _ _ rfl (by rw [ev_50_11, nI_1]) ⟨by omega, hI_9.mono (by omega) (by omega) (by omega), hK_9⟩
      · skip
        refine k_aload_n X (q := 2) dX2_growOlder_44 rfl rfl ?_
        refine k_aload_n X (q := 0) dX2_growOlder_45 rfl rfl ?_
        refine k_iconst X (v := 4) dX2_growOlder_46 (by decide) ?_
        refine k_gotV X (vX2_123 X (S := (Si.uI (cz i) 3 v_31_8)) ⟨(st_1 hI_9.st).1, (st_1 hI_9.st).2⟩ (c_X2_sendAway C.l C.e0 (Si.uI (cz i) 3 v_31_8) 4 A n cz i _ _ _ hI_9 hlti) (As := [.ref (cz i), .int 4]) (rest := []) rfl rfl rfl rfl ⟨Nat.le_of_ble_eq_true rfl, Nat.le_of_ble_eq_true rfl⟩ (Nat.le_of_ble_eq_true rfl) ⟨Nat.le_of_ble_eq_true rfl, Nat.le_of_ble_eq_true rfl⟩ dX2_growOlder_47) (fun S_47_13 h_47_11 => ?_)
        have hsd_47 := h_47_11
        obtain ⟨hI_14, hx_14⟩ := hI_9.send hlti (s := 4) (by omega) hsd_47
        have hK_14 := (hK_9).tr hx_14
        obtain ⟨v_50_15, ev_50_15⟩ : ∃ z : Int32, z = (nI i) + 1 := ⟨_, rfl⟩
        refine k_iinc X (q := 1) (v := v_50_15) [(1, .int v_50_15), (2, .ref (cz i)), (0, .ref (A 1))] dX2_growOlder_50 rfl (by rw [ev_50_15]; rfl) (by decide) rfl ?_
        refine k_goto (tgt := 2) X dX2_growOlder_53 (by decide) ?_
        refine k_lv [0, 2] _ rfl ?_
        exact ih (n - (i + 1)) (by omega) (i + 1) _ _ rfl (by rw [ev_50_15, nI_1]) ⟨by omega, hI_14.mono (by omega) (by omega) (by omega), hK_14⟩
  refine k_lv [0, 1] _ rfl ?_
  exact L_2 _ 0 0 _ rfl nI_0.symm ⟨by omega, h.mono (by omega) (by omega) (by omega), kKe.rf⟩
set_option maxHeartbeats 1000000 in
set_option maxRecDepth 20000 in
theorem c_X2_collectRents (l : Launch) (e0 : Nat × Nat) (S : kS)  (A : Nat → Nat) (n : Nat) (cz : Nat → Nat) (T G Z : Nat) (h : kI e0 A n cz T G Z S)  (hb : T + 0 ≤ 900000 ∧ G + 3 ≤ 60000 ∧ Z + 0 ≤ 150000) : kM l e0 yX2_collectRents cX2_collectRents 3 none ({ frames := 3, cells := 0, slots := 0, locals := 69 } : Room) 0 0 [.ref (A 1)] S (kQv (fun S9 => kI e0 A n cz (T + 0) (G + 3) (Z + 0) S9 ∧ kKe A S S9)) := by
  refine kMetE (by decide +kernel) (Nat.le_of_ble_eq_true rfl) (fun C he hl X E hm => ?_)
  have X : kX C RX2 cX2_collectRents 3 ({ frames := 3, cells := 0, slots := 0, locals := 69 } : Room) := X
  subst he hl
  show kG C 3 S 0 0 0 [(0, .ref (A 1))] []
  have hn := h.n40
  refine k_iconst X (v := 0) dX2_collectRents_0 (by decide) ?_
  refine k_istore_n X [(1, .int 0), (0, .ref (A 1))] dX2_collectRents_1 rfl (by decide) rfl ?_
  have L_2 : ∀ (N : Nat) (i : Nat) (x : Int32) (Si : kS), 3 - i = N → x = nI i → (i ≤ 3 ∧ kI C.e0 A n cz T (G + 1 * i) Z Si ∧ kKe A S Si) → kG C 3 Si 0 0 2 [(1, .int x), (0, .ref (A 1))] [] := by
    intro N
    induction N using Nat.strongRecOn with
    | _ N ih =>
    intro i x Si hMs h2_0 h2_1
    subst h2_0
    obtain ⟨hBi, hIi, hKi⟩ := h2_1
    refine k_iload_n X (q := 0) dX2_collectRents_2 rfl rfl ?_
    refine k_iconst X (v := 3) dX2_collectRents_3 (by decide) ?_
    refine k_icmp_ge (tgt := 35) X dX2_collectRents_4 (by decide) (fun c_4 => ?_) (fun c_4 => ?_)
    · skip
      have hin : 3 = i := by have := ge_of_le (m := 3) c_4 (by omega); omega
      subst hin
      refine k_iconst X (v := 0) dX2_collectRents_35 (by decide) ?_
      refine k_istore_n X [(1, .int 0), (0, .ref (A 1))] dX2_collectRents_36 rfl (by decide) rfl ?_
      have L_37 : ∀ (N : Nat) (k : Nat) (y : Int32) (Sk : kS), 3 - k = N → y = nI k → (k ≤ 3 ∧ kI C.e0 A n cz T (G + 1 * 3) Z Sk ∧ kKe A S Sk) → kG C 3 Sk 0 0 37 [(1, .int y), (0, .ref (A 1))] [] := by
        intro N
        induction N using Nat.strongRecOn with
        | _ N ih37 =>
        intro k y Sk hMs h37_0 h37_1
        subst h37_0
        obtain ⟨hBk, hIk, hKk⟩ := h37_1
        refine k_iload_n X (q := 0) dX2_collectRents_37 rfl rfl ?_
        refine k_iconst X (v := 3) dX2_collectRents_38 (by decide) ?_
        refine k_icmp_ge (tgt := 53) X dX2_collectRents_39 (by decide) (fun c_39 => ?_) (fun c_39 => ?_)
        · skip
          have hin : 3 = k := by have := ge_of_le (m := 3) c_39 (by omega); omega
          subst hin
          exact k_vret X E dX2_collectRents_53 (Nat.le_of_ble_eq_true rfl) (Nat.le_of_ble_eq_true rfl) (⟨hIk.mono (by omega) (by omega) (by omega), hKk⟩)
        · skip
          have hltk : k < 3 := lt_of_nle (m := 3) c_39 (by omega)
          refine k_aload_n X (q := 1) dX2_collectRents_42 rfl rfl ?_
          refine k_iload_n X (q := 0) dX2_collectRents_43 rfl rfl ?_
          refine k_gotV X (vX2_178 X (S := Sk) ⟨(st_1 hIk.st).1, (st_1 hIk.st).2⟩ (c_X2_freeLease C.l C.e0 Sk  A hIk.st k (by omega)) (As := [.int (nI k)]) (rest := []) rfl rfl rfl rfl ⟨Nat.le_of_ble_eq_true rfl, Nat.le_of_ble_eq_true rfl⟩ (Nat.le_of_ble_eq_true rfl) ⟨Nat.le_of_ble_eq_true rfl, Nat.le_of_ble_eq_true rfl⟩ dX2_collectRents_44) (fun S_44_2 h_44_0 => ?_)
          subst h_44_0
          obtain ⟨hI_3, hx_3⟩ := hIk.let (k := k) (t := 0) (c := none) hltk (Or.inl rfl) (by omega)
          have hK_3 := (hKk).tr hx_3
          obtain ⟨v_47_4, ev_47_4⟩ : ∃ z : Int32, z = (nI k) + 1 := ⟨_, rfl⟩
          refine k_iinc X (q := 0) (v := v_47_4) [(1, .int v_47_4), (0, .ref (A 1))] dX2_collectRents_47 rfl (by rw [ev_47_4]; rfl) (by decide) rfl ?_
          refine k_goto (tgt := 37) X dX2_collectRents_50 (by decide) ?_
          refine k_lv [0, 1] _ rfl ?_
          exact ih37 (3 - (k + 1)) (by omega) (k + 1) _ _ rfl (by rw [ev_47_4, nI_1]) ⟨by omega, hI_3.mono (by omega) (by omega) (by omega), hK_3⟩
      refine k_lv [0, 1] _ rfl ?_
      exact L_37 _ 0 0 _ rfl nI_0.symm ⟨by omega, hIi.mono (by omega) (by omega) (by omega), hKi⟩
    · skip
      have hlti : i < 3 := lt_of_nle (m := 3) c_4 (by omega)
      refine k_aload_n X (q := 1) dX2_collectRents_7 rfl rfl ?_
      refine gX2_66s X (S := Si) (st_1 hIi.st).1 (st_1 hIi.st).2 (sr_1_14 hIi.st) dX2_collectRents_8 ?_
      refine k_iload_n X (q := 0) dX2_collectRents_11 rfl rfl ?_
      refine k_aald X (S := Si) (st_52 hIi.st).1 (by simp [(st_52 hIi.st).2]) (show vp_in (nI i) (Si.N (A 52)) from by rw [sn_52 hIi.st]; exact vp_in_nI (by omega) (by omega)) dX2_collectRents_12 (fun r_12_5 er_12_5 => ?_)
      refine k_astore_nQ X [(2, va_rf r_12_5), (1, .int (nI i)), (0, .ref (A 1))] dX2_collectRents_13 rfl (by decide) rfl ?_
      refine k_aload_nQ X (q := 0) dX2_collectRents_14 rfl rfl ?_
      refine k_ifnull (tgt := 29) X dX2_collectRents_15 (by decide) (fun c_15 => ?_) (fun a_15_6 c_15 => ?_)
      · skip
        subst c_15
        obtain ⟨v_29_7, ev_29_7⟩ : ∃ z : Int32, z = (nI i) + 1 := ⟨_, rfl⟩
        refine k_iinc X (q := 1) (v := v_29_7) [(1, .int v_29_7), (2, .null), (0, .ref (A 1))] dX2_collectRents_29 rfl (by rw [ev_29_7]; rfl) (by decide) rfl ?_
        refine k_goto (tgt := 2) X dX2_collectRents_32 (by decide) ?_
        refine k_lv [0, 2] _ rfl ?_
        exact ih (3 - (i + 1)) (by omega) (i + 1) _ _ rfl (by rw [ev_29_7, nI_1]) ⟨by omega, hIi.mono (by omega) (by omega) (by omega), hKi⟩
      · skip
        subst c_15
        rw [nI_clamp (by omega)] at er_12_5
        obtain ⟨j, hj, haj, hs⟩ := hIi.le.1 i hlti a_15_6 er_12_5.symm
        subst haj
        refine k_aload_n X (q := 2) dX2_collectRents_18 rfl rfl ?_
        refine k_aload_n X (q := 0) dX2_collectRents_19 rfl rfl ?_
        refine k_aload_n X (q := 2) dX2_collectRents_20 rfl rfl ?_
        refine gX2_70s X (S := Si) (st_1 hIi.st).1 (st_1 hIi.st).2 (sr_1_15 hIi.st) dX2_collectRents_21 ?_
        refine k_iload_n X (q := 1) dX2_collectRents_24 rfl rfl ?_
        refine k_iald X (S := Si) (st_40 hIi.st).1 (st_40 hIi.st).2 (show vp_in (nI i) (Si.N (A 40)) from by rw [sn_40 hIi.st]; exact vp_in_nI (by omega) (by omega)) dX2_collectRents_25 (fun v_25_8 ev_25_8 => ?_)
        obtain ⟨tr, htr, htr2⟩ := hIi.le.2 i hlti
        rw [nI_clamp (by omega), htr2] at ev_25_8
        have hfb : 0 ≤ (v_25_8).toInt ∧ (v_25_8).toInt ≤ 32000 := by rw [ev_25_8, nI_toInt (by omega)]; omega
        refine k_gotV X (vX2_207 X (S := Si) ⟨(st_1 hIi.st).1, (st_1 hIi.st).2⟩ (c_X2_fine C.l C.e0 Si (cz j) v_25_8 A hIi.st ⟨(hIi.at hj).1, (hIi.at hj).2⟩) (As := [.ref (cz j), .int v_25_8]) (rest := []) rfl rfl rfl rfl ⟨Nat.le_of_ble_eq_true rfl, Nat.le_of_ble_eq_true rfl⟩ (Nat.le_of_ble_eq_true rfl) ⟨Nat.le_of_ble_eq_true rfl, Nat.le_of_ble_eq_true rfl⟩ dX2_collectRents_26) (fun S_26_10 h_26_8 => ?_)
        subst h_26_8
        obtain ⟨hI_11, hx_11⟩ := hIi.fine (i := j) hj (x := v_25_8) (hfb) (hs) (by omega) (by omega)
        have hK_11 := (hKi).tr hx_11
        obtain ⟨v_29_12, ev_29_12⟩ : ∃ z : Int32, z = (nI i) + 1 := ⟨_, rfl⟩
        refine k_iinc X (q := 1) (v := v_29_12) [(1, .int v_29_12), (2, .ref (cz j)), (0, .ref (A 1))] dX2_collectRents_29 rfl (by rw [ev_29_12]; rfl) (by decide) rfl ?_
        refine k_goto (tgt := 2) X dX2_collectRents_32 (by decide) ?_
        refine k_lv [0, 2] _ rfl ?_
        exact ih (3 - (i + 1)) (by omega) (i + 1) _ _ rfl (by rw [ev_29_12, nI_1]) ⟨by omega, hI_11.mono (by omega) (by omega) (by omega), hK_11⟩
  refine k_lv [0, 1] _ rfl ?_
  exact L_2 _ 0 0 _ rfl nI_0.symm ⟨by omega, h.mono (by omega) (by omega) (by omega), kKe.rf⟩
