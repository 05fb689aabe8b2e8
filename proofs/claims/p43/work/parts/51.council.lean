section KCN
variable {e0 : Nat × Nat} {A : Nat → Nat} {n : Nat} {cz : Nat → Nat} {T G E : Nat} {S S' : kS} {W : Nat → Nat → Prop}
theorem kI.gKd (h : kI e0 A n cz T G E S) (hg : kGo S S' W) (hW : ∀ ρ j, W ρ j → ((ρ = 1 ∧ j = 0) ∨ (ρ = 7 ∧ j = 1) ∨ ρ = 202 ∨ (ρ = 201 ∧ j ≤ 4)) → False) : kKd A S S' := ⟨hg.kp (fun ρ j z y => hW _ _ z (by omega)), (h.a1 hg 0 (fun z => hW _ _ z (by omega))).1, by rw [(h.aF hg (r := 7) (κ := 6) (by decide) 1 (fun z => hW _ _ z (by omega))).1]; exact Int.le_refl _⟩
theorem kI.patd (h : kI e0 A n cz T G E S) {a ρ : Nat} {x v : Int32} (ha : S.O a = ρ) (hr : 41 ≤ ρ ∧ ρ < 52 ∧ ¬ ρ = 45) : kI e0 A n cz T G E (kpat S a x v) ∧ kKd A S (kpat S a x v) := by
  refine ⟨(h.pat ha hr).1, ?_⟩
  have hg : kGo S (kpat S a x v) (fun z j => z = ρ) := by
    unfold kpat
    by_cases h1 : x < 0
    · rw [if_pos h1]; exact kGo.rf
    · rw [if_neg h1]
      by_cases h2 : Int32.ofNat (S.N a) ≤ x
      · rw [if_pos h2]; exact kGo.rf
      · rw [if_neg h2]; exact kGo.rf.uI (fun _ => ha)
  exact h.gKd hg (fun ρ' j z y => by omega)
theorem kpat_R {a b j : Nat} {x v : Int32} : (kpat S a x v).R b j = S.R b j := by
  unfold kpat
  by_cases h1 : x < 0
  · rw [if_pos h1]
  · rw [if_neg h1]
    by_cases h2 : Int32.ofNat (S.N a) ≤ x
    · rw [if_pos h2]
    · rw [if_neg h2]; rfl
/-- the chair is of the tribe whose prytany it is -/
def kPr (A : Nat → Nat) (S : kS) : Prop := ∀ c, S.R (A 1) 10 = some c → S.I c 1 - S.I c 1 / 4 * 4 = kvat S (A 41) (krem (S.I (A 1) 0) 40 / 10)
theorem kPr.no (h : S.R (A 1) 10 = none) : kPr A S := fun c hc => by rw [h] at hc; cases hc
theorem kvat_eq {a : Nat} {x : Int32} (hN : S'.N a = S.N a) (hI : ∀ k, S'.I a k = S.I a k) : kvat S' a x = kvat S a x := by
  unfold kvat
  rw [hN, hI]
theorem kPr.ke (hp : kPr A S) (h : kI e0 A n cz T G E S) {T' G' E' : Nat} (h' : kI e0 A n cz T' G' E' S') (k : kKe A S S') : kPr A S' := fun c hc => by
  obtain ⟨-, k0, k41, k10, -⟩ := k
  rcases k10 with z | z
  · rw [z] at hc; cases hc
  · rw [z] at hc
    obtain ⟨i, hi, e, -⟩ := h.ch c hc
    have hp2 := hp c hc
    subst e
    rw [(h'.who.2.1 i hi).2.2, ← (h.who.2.1 i hi).2.2, k0, kvat_eq (by rw [sn_41 h'.st, sn_41 h.st]) k41]
    exact hp2
/-- one is drawn off a list -/
theorem kI.dfrom (h : kI e0 A n cz T G E S) {r m c : Nat} {xs : Nat → Nat} {Q : Nat → Prop} {v : Option Nat} (hr : clR r) (hl : kLc e0 S (A r) 1 m xs c) (hm : m ≤ 40) (ha : kall n cz Q m xs) (hT : T + 1 ≤ 1000000)
    (hq : (m = 0 ∧ v = none ∧ S' = S) ∨ (v = none ∧ S' = kdraw S A) ∨ ∃ t, t < m ∧ v = some (xs t) ∧ kFr (kdraw S A) S' (kRo S r) ∧ kLc e0 S' (A r) 1 (m - 1) (kxr xs t) c) (h23 : ¬ r = 23 := by omega) :
    (kI e0 A n cz (T + 1) G E S' ∧ kKe A S S') ∧ (v = none ∨ ∃ j, j < n ∧ v = some (cz j) ∧ Q j) ∧ kGo S S' (fun ρ _ => ρ = r ∨ ρ = 100 + r ∨ ρ = 7) := by
  have hgd : kGo S (kdraw S A) (fun ρ _ => ρ = r ∨ ρ = 100 + r ∨ ρ = 7) := (kdraw_fr h.st).go (fun b hb z j => Or.inr (Or.inr z))
  rcases hq with ⟨-, hv, e⟩ | ⟨hv, e⟩ | ⟨t, ht, hv, hf, hl2⟩
  · rw [e]
    exact ⟨⟨h.mono (by omega) (Nat.le_refl _) (Nat.le_refl _), kKe.rf⟩, Or.inl hv, kGo.rf⟩
  · rw [e]
    exact ⟨h.draw hT, Or.inl hv, hgd⟩
  · obtain ⟨hI, hK⟩ := h.draw hT
    obtain ⟨hI2, hK2⟩ := hI.frC hr (hf.mono (fun b hb z => z)) ⟨m - 1, _, hl2.s, by omega, kxr_in (Q := fun x => ∃ j, j < n ∧ x = cz j) (fun t ht => by
      obtain ⟨j, h1, h2, -⟩ := ha t ht
      exact ⟨j, h1, h2⟩) ht⟩ (by omega) h23
    obtain ⟨j, h1, h2, h3⟩ := ha t ht
    exact ⟨⟨hI2, hK.tr hK2⟩, Or.inr ⟨j, h1, by rw [hv, h2], h3⟩, hgd.tr (hf.go (fun b hb z j => by
      have z2 : S.O b = r ∨ S.O b = 100 + r := z
      show S.O b = r ∨ S.O b = 100 + r ∨ S.O b = 7
      omega))⟩
end KCN
set_option maxHeartbeats 1000000 in
set_option maxRecDepth 20000 in
theorem c_X3_drawChair (l : Launch) (e0 : Nat × Nat) (S : kS)  (A : Nat → Nat) (n : Nat) (cz : Nat → Nat) (T G Z : Nat) (h : kI e0 A n cz T G Z S)  (hb : T + 1 ≤ 900000 ∧ G + 0 ≤ 60000 ∧ Z + 0 ≤ 150000) : kM l e0 yX3_drawChair cX3_drawChair 4 none ({ frames := 7, cells := 6, slots := 202, locals := 191 } : Room) 6 202 [.ref (A 2)] S (kQv (fun S9 => kI e0 A n cz (T + 1) (G + 0) (Z + 0) S9 ∧ kKd A S S9 ∧ (∀ k, S9.I (A 41) k = S.I (A 41) k) ∧ kPr A S9)) := by
  refine kMetE (by decide +kernel) (Nat.le_of_ble_eq_true rfl) (fun C he hl X E hm => ?_)
  have X : kX C RX3 cX3_drawChair 4 ({ frames := 7, cells := 6, slots := 202, locals := 191 } : Room) := X
  subst he hl
  show kG C 4 S 0 0 0 [(0, .ref (A 2))] []
  have hn := h.n40
  refine k_aload_n X (q := 0) dX3_drawChair_0 rfl rfl ?_
  refine gX3_28s X (S := S) (st_2 h.st).1 (st_2 h.st).2 (sr_2_0 h.st) dX3_drawChair_1 ?_
  refine k_null X dX3_drawChair_4 ?_
  refine pX3_141 X (S := S) (st_1 h.st).1 (st_1 h.st).2 (r := none) dX3_drawChair_5 ?_
  obtain ⟨hI_1, hx_1⟩ := h.ch0
  have hK_1 := (kKe.rf).tr hx_1
  refine k_aload_n X (q := 0) dX3_drawChair_8 rfl rfl ?_
  refine gX3_28s X (S := (S.uR (A 1) 10 none)) (st_2 hI_1.st).1 (st_2 hI_1.st).2 (sr_2_0 hI_1.st) dX3_drawChair_9 ?_
  refine gX3_145 X (S := (S.uR (A 1) 10 none)) (st_1 hI_1.st).1 (st_1 hI_1.st).2 dX3_drawChair_12 (fun v_12_2 ev_12_2 => ?_)
  refine k_if_ne (tgt := 19) X dX3_drawChair_15 (by decide) (fun c_15 => ?_) (fun c_15 => ?_)
  · skip
    refine k_aload_n X (q := 0) dX3_drawChair_19 rfl rfl ?_
    refine gX3_28s X (S := (S.uR (A 1) 10 none)) (st_2 hI_1.st).1 (st_2 hI_1.st).2 (sr_2_0 hI_1.st) dX3_drawChair_20 ?_
    refine gX3_102 X (S := (S.uR (A 1) 10 none)) (st_1 hI_1.st).1 (st_1 hI_1.st).2 dX3_drawChair_23 (fun v_23_3 ev_23_3 => ?_)
    refine k_bipush X (v := 10) dX3_drawChair_26 (by decide) ?_
    refine k_idiv X dX3_drawChair_28 (by decide) (fun v_28_4 ev_28_4 => ?_)
    obtain ⟨p9, hp9⟩ : ∃ z, z = v_28_4 := ⟨_, rfl⟩
    rw [← hp9]
    refine k_istore_n X [(1, .int p9), (0, .ref (A 2))] dX3_drawChair_29 rfl (by decide) rfl ?_
    refine k_aload_n X (q := 1) dX3_drawChair_30 rfl rfl ?_
    refine gX3_21s X (S := (S.uR (A 1) 10 none)) (st_2 hI_1.st).1 (st_2 hI_1.st).2 (sr_2_3 hI_1.st) dX3_drawChair_31 ?_
    obtain ⟨m_5, xs_5, hL_5, -, -⟩ := hI_1.cl (r := 13) (by unfold clR; omega)
    refine k_gotV X (vX3_47 X (S := (S.uR (A 1) 10 none)) ⟨(st_13 hI_1.st).1, (st_13 hI_1.st).2⟩ (c_Jx4a65c_clear_da8c8 C.l C.e0 (S.uR (A 1) 10 none) (A 13) 1 m_5 xs_5 hL_5) (As := []) (rest := []) rfl rfl rfl rfl ⟨Nat.le_of_ble_eq_true rfl, Nat.le_of_ble_eq_true rfl⟩ (Nat.le_of_ble_eq_true rfl) ⟨(by show _ ≤ 6; first | omega | (have := lev_le c; omega)), (by show _ ≤ 202; first | omega | (have := lev_le c; omega))⟩ dX3_drawChair_34) (fun S_34_7 h_34_5 => ?_)
    obtain ⟨hfc_5, hls_5, -⟩ := h_34_5
    rw [so_13 hI_1.st] at hfc_5
    obtain ⟨cc_5, hlc_5⟩ := hls_5.c
    obtain ⟨hI_8, hx_8⟩ := hI_1.frC (r := 13) (by unfold clR; omega) hfc_5 ⟨0, _, hls_5, by omega, fun t ht => absurd ht (by omega)⟩ (by omega)
    have hK_8 := (hK_1).tr hx_8
    refine k_iconst X (v := 0) dX3_drawChair_37 (by decide) ?_
    refine k_istore_n X [(2, .int 0), (1, .int p9), (0, .ref (A 2))] dX3_drawChair_38 rfl (by decide) rfl ?_
    obtain ⟨Q, hQ⟩ : ∃ Q : Nat → Prop, Q = fun j => ¬ S_34_7.I (cz j) 9 = 0 ∧ S_34_7.I (cz j) 1 - S_34_7.I (cz j) 1 / 4 * 4 = kvat S_34_7 (A 41) (krem (S_34_7.I (A 1) 0) 40 / 10) := ⟨_, rfl⟩
    refine k_room (k' := 0 + lev cc_5) (n' := 0 + slv cc_5) (by omega) (by omega) ?_
    have L_39 : ∀ (N : Nat) (i : Nat) (x : Int32) (Si : kS) (m : Nat) (xs : Nat → Nat) (c : Nat), n - i = N → x = nI i → (i ≤ n ∧ m ≤ i ∧ kFr S_34_7 Si (kRo S_34_7 13) ∧ kLc C.e0 Si (A 13) 1 m xs c ∧ kall n cz Q m xs) → kG C 4 Si (0 + lev c) (0 + slv c) 39 [(2, .int x), (1, .int p9), (0, .ref (A 2))] [] := by
      intro N
      induction N using Nat.strongRecOn with
      | _ N ih =>
      intro i x Si m xs c hMs h39_0 h39_1
      subst h39_0
      obtain ⟨hBi, hmi, hfr, hlc, hal⟩ := h39_1
      have hstI := hI_8.st.frR hfr (by decide)
      have hCI := hI_8.hC.frR (so_10 hI_8.st) hfr (by decide) (by decide) (by decide)
      refine k_iload_n X (q := 0) dX3_drawChair_39 rfl rfl ?_
      refine k_aload_n X (q := 2) dX3_drawChair_40 rfl rfl ?_
      refine gX3_28s X (S := Si) (st_2 hstI).1 (st_2 hstI).2 (sr_2_0 hstI) dX3_drawChair_41 ?_
      refine gX3_84s X (S := Si) (st_1 hstI).1 (st_1 hstI).2 (sr_1_12 hstI) dX3_drawChair_44 ?_
      refine k_gotI X (vX3_64 X (S := Si) ⟨(st_10 hstI).1, (st_10 hstI).2⟩ (c_Jx4a65c_size_8abf5 C.l C.e0 Si (A 10) (st_10 hstI)) (As := []) (rest := [.int (nI i)]) rfl rfl rfl rfl ⟨Nat.le_of_ble_eq_true rfl, Nat.le_of_ble_eq_true rfl⟩ (Nat.le_of_ble_eq_true rfl) ⟨(by show _ ≤ 6; first | omega | (have := lev_le c; omega)), (by show _ ≤ 202; first | omega | (have := lev_le c; omega))⟩ dX3_drawChair_47) (fun v_47_10 S_47_11 h_47_8 => ?_)
      obtain ⟨rfl, ev_47_10⟩ := h_47_8
      have hz_v_47_10 : nI n = v_47_10 := by rw [ev_47_10]; exact (hCI).2.1.symm
      subst hz_v_47_10
      refine k_icmp_ge (tgt := 99) X dX3_drawChair_50 (by decide) (fun c_50 => ?_) (fun c_50 => ?_)
      · skip
        have hin : n = i := by have := ge_of_le c_50 (by omega); omega
        subst hin
        have h8 := lev_le c
        refine k_room (k' := 0 + 6) (n' := 0 + 202) (by omega) (by omega) ?_
        obtain ⟨hI_12, hx_12⟩ := hI_8.frC (r := 13) (by unfold clR; omega) hfr (kall.cl hlc (by omega) hal) (by omega)
        have hK_12 := (hK_8).tr hx_12
        refine k_aload_n X (q := 2) dX3_drawChair_99 rfl rfl ?_
        refine gX3_28s X (S := Si) (st_2 hI_12.st).1 (st_2 hI_12.st).2 (sr_2_0 hI_12.st) dX3_drawChair_100 ?_
        refine gX3_54s X (S := Si) (st_1 hI_12.st).1 (st_1 hI_12.st).2 (sr_1_11 hI_12.st) dX3_drawChair_103 ?_
        refine k_aload_n X (q := 2) dX3_drawChair_106 rfl rfl ?_
        refine gX3_21s X (S := Si) (st_2 hI_12.st).1 (st_2 hI_12.st).2 (sr_2_3 hI_12.st) dX3_drawChair_107 ?_
        refine k_gotQ X (vX3_151 X (S := Si) ⟨(st_7 hI_12.st).1, (st_7 hI_12.st).2⟩ (c_X6_drawFrom C.l C.e0 Si (A 13) A hI_12.st m c 13 xs hlc (by omega) (so_13 hI_12.st)) (As := [.ref (A 13)]) (rest := []) rfl rfl rfl rfl ⟨Nat.le_of_ble_eq_true rfl, Nat.le_of_ble_eq_true rfl⟩ (Nat.le_of_ble_eq_true rfl) ⟨(by show _ ≤ 6; first | omega | (have := lev_le c; omega)), (by show _ ≤ 202; first | omega | (have := lev_le c; omega))⟩ dX3_drawChair_110) (fun r_110_14 S_110_15 h_110_12 => ?_)
        obtain ⟨hdf_110, hvq_110, hfd_110⟩ := hI_12.dfrom (r := 13) (Q := Q) (by unfold clR; omega) hlc (by omega) hal (by omega) (by rcases h_110_12 with z | z | z; exact Or.inl z; exact Or.inr (Or.inl z); exact Or.inr (Or.inr z))
        obtain ⟨hI_16, hx_16⟩ := hdf_110
        have hK_16 := (hK_12).tr hx_16
        refine k_astore_nQ X [(2, va_rf r_110_14), (1, .int p9), (0, .ref (A 2))] dX3_drawChair_113 rfl (by decide) rfl ?_
        refine k_aload_nQ X (q := 0) dX3_drawChair_114 rfl rfl ?_
        refine k_ifnull (tgt := 131) X dX3_drawChair_115 (by decide) (fun c_115 => ?_) (fun a_115_17 c_115 => ?_)
        · skip
          subst c_115
          exact k_vret X E dX3_drawChair_131 (by show _ ≤ 6; first | omega | (have := lev_le c; omega)) (by show _ ≤ 202; first | omega | (have := lev_le c; omega)) (⟨hI_16.mono (by omega) (by omega) (by omega), hK_16.d, hK_16.2.2.1, kPr.no (by rw [(hI_12.a1 hfd_110 10 (by omega)).2, (hI_8.a1 (hfr.go (W := fun ρ _ => ρ = 13 ∨ ρ = 113) (fun b hb z j => z)) 10 (by omega)).2, (hI_1.a1 (hfc_5.go (W := fun ρ _ => ρ = 13 ∨ ρ = 113) (fun b hb z j => z)) 10 (by omega)).2, uR_R, if_pos ⟨rfl, rfl⟩])⟩)
        · skip
          subst c_115
          obtain ⟨j, hj, hjr, hqj⟩ : ∃ j, j < n ∧ a_115_17 = cz j ∧ Q j := by
            rcases hvq_110 with z | ⟨j, z1, z2, z3⟩
            · cases z
            · exact ⟨j, z1, Option.some.inj z2, z3⟩
          subst hjr
          rw [hQ] at hqj
          refine k_aload_n X (q := 0) dX3_drawChair_118 rfl rfl ?_
          refine k_iload_n X (q := 1) dX3_drawChair_119 rfl rfl ?_
          refine pX3_148 X (S := S_110_15) (hI_16.at hj).1 (hI_16.at hj).2 dX3_drawChair_120 ?_
          obtain ⟨hI_18, hx_18⟩ := (⟨hI_16.fI (i := 10) (v := p9) (hI_16.oc _ hj) (by unfold pSM; omega) (by unfold pVM pCi pHo pCh pLe pMy pMs pOf; omega) (by unfold pLu; omega), hI_16.fIk (i := 10) (v := p9) (hI_16.oc _ hj) (by unfold pKe; omega)⟩ : _ ∧ _)
          have hK_18 := (hK_16).tr hx_18
          refine k_aload_n X (q := 2) dX3_drawChair_123 rfl rfl ?_
          refine gX3_28s X (S := (S_110_15.uI (cz j) 10 p9)) (st_2 hI_18.st).1 (st_2 hI_18.st).2 (sr_2_0 hI_18.st) dX3_drawChair_124 ?_
          refine k_aload_n X (q := 0) dX3_drawChair_127 rfl rfl ?_
          refine pX3_141 X (S := (S_110_15.uI (cz j) 10 p9)) (st_1 hI_18.st).1 (st_1 hI_18.st).2 (r := (some (cz j))) dX3_drawChair_128 ?_
          have hgA : kGo S_34_7 (S_110_15.uI (cz j) 10 p9) (fun ρ j => ρ = 13 ∨ ρ = 113 ∨ ρ = 7 ∨ (ρ = 200 ∧ j = 10)) := ((hfr.go (fun b hb z j => by unfold kRo at z; omega)).tr (hfd_110.mono (fun ρ j z => by omega))).uI (fun _ => by rw [hI_8.oc j hj]; omega)
          have h9c : ((S_110_15.uI (cz j) 10 p9)).I (cz j) 9 = 1 := by
            rw [hI_8.cF hgA hj 9 (by omega)]
            obtain ⟨-, -, -, -, c6, -⟩ := hI_8.ci hj
            rcases c6 with z | ⟨z, -⟩
            · exact absurd z hqj.1
            · exact z
          have hpr9 : kPr A ((S_110_15.uI (cz j) 10 p9).uR (A 1) 10 (some (cz j))) := fun c0 hc0 => by
            rw [uR_R, if_pos ⟨rfl, rfl⟩] at hc0
            cases hc0
            have q41 : ∀ k, ((S_110_15.uI (cz j) 10 p9)).I (A 41) k = S_34_7.I (A 41) k := fun k => (hI_8.aF hgA (r := 41) (κ := 13) (by decide) k (by omega)).1
            have q1 := (hI_8.a1 hgA 0 (by omega)).1
            have qd := hI_8.cF hgA hj 1 (by omega)
            show ((S_110_15.uI (cz j) 10 p9)).I (cz j) 1 - ((S_110_15.uI (cz j) 10 p9)).I (cz j) 1 / 4 * 4 = kvat ((S_110_15.uI (cz j) 10 p9)) (A 41) (krem (((S_110_15.uI (cz j) 10 p9)).I (A 1) 0) 40 / 10)
            rw [qd, q1, kvat_eq (S := S_34_7) (by rw [sn_41 hI_8.st]; exact (sn_41 hI_18.st)) q41]
            exact hqj.2
          have hgC : kGo (S_110_15.uI (cz j) 10 p9) ((S_110_15.uI (cz j) 10 p9).uR (A 1) 10 (some (cz j))) (fun ρ j => ρ = 1 ∧ j = 10) := kGo.rf.uR (fun _ => ⟨so_1 hI_18.st, rfl⟩)
          obtain ⟨hI_19, hx_19⟩ := (⟨hI_18.ch1 hj h9c, hI_18.gKd hgC (fun ρ j z y => by omega)⟩ : _ ∧ _)
          have hK_19 := (hK_18).d.tr hx_19
          exact k_vret X E dX3_drawChair_131 (by show _ ≤ 6; first | omega | (have := lev_le c; omega)) (by show _ ≤ 202; first | omega | (have := lev_le c; omega)) (⟨hI_19.mono (by omega) (by omega) (by omega), hK_19, hK_18.2.2.1, hpr9⟩)
      · skip
        have hlti : i < n := lt_of_nle c_50 (by omega)
        have hI9 : ∀ f, Si.I (cz i) f = S_34_7.I (cz i) f := (hfr.2 _ (hI_8.at hlti).1 (fun z => by unfold kRo at z; rw [hI_8.oc i hlti] at z; omega)).1
        have hI1 : ∀ f, Si.I (A 1) f = S_34_7.I (A 1) f := (hfr.2 _ (st_1 hI_8.st).1 (fun z => by unfold kRo at z; rw [so_1 hI_8.st] at z; omega)).1
        refine k_aload_n X (q := 2) dX3_drawChair_53 rfl rfl ?_
        refine gX3_28s X (S := Si) (st_2 hstI).1 (st_2 hstI).2 (sr_2_0 hstI) dX3_drawChair_54 ?_
        refine gX3_84s X (S := Si) (st_1 hstI).1 (st_1 hstI).2 (sr_1_12 hstI) dX3_drawChair_57 ?_
        refine k_iload_n X (q := 0) dX3_drawChair_60 rfl rfl ?_
        refine k_gotQ X (vX3_67 X (S := Si) ⟨(st_10 hstI).1, (st_10 hstI).2⟩ (c_Jx4a65c_get_915e3 C.l C.e0 Si (A 10) 1 n i cz (hCI) hlti) (As := [.int (nI i)]) (rest := []) rfl rfl rfl rfl ⟨Nat.le_of_ble_eq_true rfl, Nat.le_of_ble_eq_true rfl⟩ (Nat.le_of_ble_eq_true rfl) ⟨(by show _ ≤ 6; first | omega | (have := lev_le c; omega)), (by show _ ≤ 202; first | omega | (have := lev_le c; omega))⟩ dX3_drawChair_61) (fun r_61_21 S_61_22 h_61_19 => ?_)
        obtain ⟨rfl, er_61_21⟩ := h_61_19
        subst er_61_21
        refine tX3_71 X (S := Si) ⟨(kLs.el (hCI) hlti).1, (kLs.el (hCI) hlti).2⟩ dX3_drawChair_64 ?_
        refine k_astore_n X [(3, .ref (cz i)), (2, .int (nI i)), (1, .int p9), (0, .ref (A 2))] dX3_drawChair_67 rfl (by decide) rfl ?_
        refine k_aload_n X (q := 3) dX3_drawChair_68 rfl rfl ?_
        refine k_aload_n X (q := 0) dX3_drawChair_69 rfl rfl ?_
        refine k_gotI X (vX3_134 X (S := Si) ⟨(st_2 hstI).1, (st_2 hstI).2⟩ (c_X3_isPrytanis C.l C.e0 Si (cz i) A hstI ⟨(kLs.el (hCI) hlti).1, (kLs.el (hCI) hlti).2⟩) (As := [.ref (cz i)]) (rest := []) rfl rfl rfl rfl ⟨Nat.le_of_ble_eq_true rfl, Nat.le_of_ble_eq_true rfl⟩ (Nat.le_of_ble_eq_true rfl) ⟨(by show _ ≤ 6; first | omega | (have := lev_le c; omega)), (by show _ ≤ 202; first | omega | (have := lev_le c; omega))⟩ dX3_drawChair_70) (fun v_70_24 S_70_25 h_70_22 => ?_)
        obtain ⟨rfl, ev_70_24⟩ := h_70_22
        refine k_if_eq (tgt := 93) X dX3_drawChair_73 (by decide) (fun c_73 => ?_) (fun c_73 => ?_)
        · skip
          rw [ev_70_24] at c_73
          obtain ⟨v_93_26, ev_93_26⟩ : ∃ z : Int32, z = (nI i) + 1 := ⟨_, rfl⟩
          refine k_iinc X (q := 1) (v := v_93_26) [(2, .int v_93_26), (3, .ref (cz i)), (1, .int p9), (0, .ref (A 2))] dX3_drawChair_93 rfl (by rw [ev_93_26]; rfl) (by decide) rfl ?_
          refine k_goto (tgt := 39) X dX3_drawChair_96 (by decide) ?_
          refine k_lv [0, 2, 3] _ rfl ?_
          exact ih (n - (i + 1)) (by omega) (i + 1) _ Si m xs c rfl (by rw [ev_93_26, nI_1]) ⟨by omega, by omega, hfr, hlc, hal⟩
        · skip
          rw [ev_70_24] at c_73
          refine k_aload_n X (q := 0) dX3_drawChair_76 rfl rfl ?_
          refine gX3_148 X (S := Si) (kLs.el (hCI) hlti).1 (kLs.el (hCI) hlti).2 dX3_drawChair_77 (fun v_77_27 ev_77_27 => ?_)
          refine k_iload_n X (q := 2) dX3_drawChair_80 rfl rfl ?_
          refine k_icmp_eq (tgt := 93) X dX3_drawChair_81 (by decide) (fun c_81 => ?_) (fun c_81 => ?_)
          · skip
            obtain ⟨v_93_28, ev_93_28⟩ : ∃ z : Int32, z = (nI i) + 1 := ⟨_, rfl⟩
            refine k_iinc X (q := 1) (v := v_93_28) [(2, .int v_93_28), (3, .ref (cz i)), (1, .int p9), (0, .ref (A 2))] dX3_drawChair_93 rfl (by rw [ev_93_28]; rfl) (by decide) rfl ?_
            refine k_goto (tgt := 39) X dX3_drawChair_96 (by decide) ?_
            refine k_lv [0, 2, 3] _ rfl ?_
            exact ih (n - (i + 1)) (by omega) (i + 1) _ Si m xs c rfl (by rw [ev_93_28, nI_1]) ⟨by omega, by omega, hfr, hlc, hal⟩
          · skip
            have hQ9 : Q i := by
              rw [hQ]
              have h41 : ∀ k, Si.I (A 41) k = S_34_7.I (A 41) k := (hfr.2 _ (st_41 hI_8.st).1 (fun z => by unfold kRo at z; rw [so_41 hI_8.st] at z; omega)).1
              have hv41 := fun x => kvat_eq (S := S_34_7) (S' := Si) (a := A 41) (x := x) (by rw [sn_41 hI_8.st, sn_41 hstI]) h41
              simp only [kb, hI9, hI1, hv41] at c_73
              by_cases g1 : S_34_7.I (cz i) 9 = 0
              · simp [g1] at c_73
              · refine ⟨g1, ?_⟩
                by_cases g2 : S_34_7.I (cz i) 1 - S_34_7.I (cz i) 1 / 4 * 4 = kvat S_34_7 (A 41) (krem (S_34_7.I (A 1) 0) 40 / 10)
                · exact g2
                · simp [g1, g2] at c_73
            refine k_aload_n X (q := 3) dX3_drawChair_84 rfl rfl ?_
            refine gX3_21s X (S := Si) (st_2 hstI).1 (st_2 hstI).2 (sr_2_3 hstI) dX3_drawChair_85 ?_
            refine k_aload_n X (q := 0) dX3_drawChair_88 rfl rfl ?_
            refine k_gotI X (vX3_94 X (S := Si) ⟨(st_13 hstI).1, (st_13 hstI).2⟩ (c_Jx4a65c_add_9ea2d C.l C.e0 Si (A 13) 1 m c (cz i) xs kEl_1 hlc (kLs.el hCI hlti) (by omega)) (As := [.ref (cz i)]) (rest := []) rfl rfl rfl rfl ⟨Nat.le_of_ble_eq_true rfl, Nat.le_of_ble_eq_true rfl⟩ (Nat.le_of_ble_eq_true rfl) ⟨(by show _ ≤ 6; have h9 := lev_add hlc.cap (by omega); have h8 := lev_le (knc c m); omega), (by show _ ≤ 202; have h9 := lev_add hlc.cap (by omega); have h8 := lev_le (knc c m); omega)⟩ dX3_drawChair_89) (fun v_89_30 S_89_31 h_89_28 => ?_)
            obtain ⟨-, hfa, hla⟩ := h_89_28
            rw [show Si.O (A 13) = 13 from ((hfr.1 _ (st_13 hI_8.st).1).2.2.1).trans (so_13 hI_8.st)] at hfa
            have hfr2 := hfr.trR hfa
            refine k_pop X dX3_drawChair_92 rfl ?_
            obtain ⟨v_93_32, ev_93_32⟩ : ∃ z : Int32, z = (nI i) + 1 := ⟨_, rfl⟩
            refine k_iinc X (q := 1) (v := v_93_32) [(2, .int v_93_32), (3, .ref (cz i)), (1, .int p9), (0, .ref (A 2))] dX3_drawChair_93 rfl (by rw [ev_93_32]; rfl) (by decide) rfl ?_
            refine k_goto (tgt := 39) X dX3_drawChair_96 (by decide) ?_
            refine k_lv [0, 2, 3] _ rfl ?_
            have h9 := lev_add hlc.cap (by omega)
            refine k_room (k' := 0 + lev (knc c m)) (n' := 0 + slv (knc c m)) (by omega) (by omega) ?_
            exact ih (n - (i + 1)) (by omega) (i + 1) _ _ (m + 1) _ _ rfl (by rw [ev_93_32, nI_1]) ⟨by omega, by omega, hfr2, hla, kall_t hal hlti hQ9⟩
    refine k_lv [0, 1, 2] _ rfl ?_
    exact L_39 _ 0 0 _ 0 _ _ rfl nI_0.symm ⟨Nat.zero_le _, Nat.le_refl _, kFr.rf _ _, hlc_5, kall_0⟩
  · skip
    exact k_vret X E dX3_drawChair_18 (by show _ ≤ 6; first | omega | (have := lev_le c; omega)) (by show _ ≤ 202; first | omega | (have := lev_le c; omega)) (⟨hI_1.mono (by omega) (by omega) (by omega), hK_1.d, hK_1.2.2.1, kPr.no (by rw [uR_R, if_pos ⟨rfl, rfl⟩])⟩)
