/-! WHAT IS TOLD OF EACH CITIZEN, IN ROWS -/
section KRS
variable {e0 : Nat × Nat} {A : Nat → Nat} {n : Nat} {cz : Nat → Nat} {T G E : Nat} {S S1 S2 Si Si' : kS} {q i j : Nat}
def kRs (e0 : Nat × Nat) (A : Nat → Nat) (n : Nat) (cz : Nat → Nat) (T G E : Nat) (S : kS) (q i j : Nat) (Si : kS) : Prop :=
  (kI e0 A n cz T G E Si ∧ kKe A S Si ∧ kFr S Si (kRo S 20)) ∧ (Si.at q 16 ∧ Si.O q = 300 ∧ Si.N q = n ∧ q ∉ S.L) ∧ (∀ t, t < n → Si.R q t = some (q + 1 + t) ∧ Si.at (q + 1 + t) 13 ∧ Si.O (q + 1 + t) = 301 ∧ Si.N (q + 1 + t) = 13 ∧ q + 1 + t ∉ S.L) ∧ ∀ t w, t < n → w < 13 → (t < i ∨ t = i ∧ w < j) → Si.I (q + 1 + t) w = kQcit S A (cz t) w
theorem kRs.mk0 (hI : kI e0 A n cz T G E S1) (hK : kKe A S S1) (hF : kFr S S1 (kRo S 20)) (hm : kMu S1 S2 q n 13 300 301) : kRs e0 A n cz T G E S q 0 0 S2 := by
  obtain ⟨m1, m2, ⟨m3, m4, m5, m6⟩, m7⟩ := hm
  obtain ⟨h1, h2⟩ := hI.goF (m1.go (fun b hb z => absurd z id))
  refine ⟨⟨h1, hK.tr h2, hF.trX m1 (fun z hz hz2 => absurd hz2 id)⟩, ⟨m3, m4, m5, fun z => m2 (hF.1 q z).1⟩, fun t ht => ?_, fun t w ht hw hz => by omega⟩
  obtain ⟨r1, r2, r3, r4⟩ := m7 t ht
  exact ⟨m6 t ht, r1, r2, r3, fun z => r4 (hF.1 _ z).1⟩
theorem kRs.put (h : kRs e0 A n cz T G E S q i j Si) (hi : i < n) (hj : j < 13) {v : Int32} (hv : v = kQcit S A (cz i) j) : kRs e0 A n cz T G E S q i (j + 1) (Si.uI (q + 1 + i) j v) := by
  obtain ⟨⟨h1, h2, h3⟩, ⟨q1, q2, q3, q4⟩, hr, hc⟩ := h
  obtain ⟨r1, r2, r3, r4, r5⟩ := hr i hi
  refine ⟨⟨h1.fI (i := j) (v := v) r3 (by unfold pSM; omega) (by unfold pVM pCi pHo pCh pLe pMy pMs pOf; omega) (by unfold pLu; omega), h2.tr (h1.fIk (i := j) (v := v) r3 (by unfold pKe; omega)), h3.uIf r5⟩, ⟨at_uI q1, q2, q3, q4⟩, fun t ht => ?_, fun t w ht hw hz => ?_⟩
  · obtain ⟨a1, a2, a3, a4, a5⟩ := hr t ht
    exact ⟨a1, at_uI a2, a3, a4, a5⟩
  · rw [uI_I]
    by_cases e : q + 1 + t = q + 1 + i ∧ w = j
    · rw [if_pos e, hv, show t = i by omega, e.2]
    · rw [if_neg e]
      exact hc t w ht hw (by omega)
theorem kRs.next (h : kRs e0 A n cz T G E S q i 13 Si) : kRs e0 A n cz T G E S q (i + 1) 0 Si := ⟨h.1, h.2.1, h.2.2.1, fun t w ht hw hz => h.2.2.2 t w ht hw (by omega)⟩
theorem kRs.rw (h : kRs e0 A n cz T G E S q n 0 Si) : kRw Si q n (fun t w => kQcit S A (cz t) w) := ⟨⟨h.2.1.1, h.2.1.2.2.1⟩, fun t ht => ⟨(h.2.2.1 t ht).1, (h.2.2.1 t ht).2.1, (h.2.2.1 t ht).2.2.2.1, fun w hw => h.2.2.2 t w ht hw (Or.inl ht)⟩⟩
/-- what else changes -/
theorem kRs.go (h : kRs e0 A n cz T G E S q i j Si) {P : Nat → Prop} (hI : kI e0 A n cz T G E Si') (hK : kKe A Si Si') (hf : kFr Si Si' P) (hF : kFr S Si' (kRo S 20)) (hp : ∀ b, b ∈ Si.L → (Si.O b = 300 ∨ Si.O b = 301) → ¬ P b) : kRs e0 A n cz T G E S q i j Si' := by
  obtain ⟨⟨h1, h2, h3⟩, ⟨q1, q2, q3, q4⟩, hr, hc⟩ := h
  refine ⟨⟨hI, h2.tr hK, hF⟩, ⟨hf.at q1, ((hf.1 q q1.1).2.2.1).trans q2, ((hf.1 q q1.1).2.2.2).trans q3, q4⟩, fun t ht => ?_, fun t w ht hw hz => ?_⟩
  · obtain ⟨a1, a2, a3, a4, a5⟩ := hr t ht
    exact ⟨((hf.2 q q1.1 (hp q q1.1 (Or.inl q2))).2 t).trans a1, hf.at a2, ((hf.1 _ a2.1).2.2.1).trans a3, ((hf.1 _ a2.1).2.2.2).trans a4, a5⟩
  · obtain ⟨a1, a2, a3, a4, a5⟩ := hr t ht
    exact ((hf.2 _ a2.1 (hp _ a2.1 (Or.inr a3))).1 w).trans (hc t w ht hw hz)
theorem kRs.fr20 (h : kRs e0 A n cz T G E S q i j Si) (hI : kI e0 A n cz T G E Si') (hK : kKe A Si Si') (hf : kFr Si Si' (kRo Si 20)) : kRs e0 A n cz T G E S q i j Si' := h.go hI hK hf (h.1.2.2.trR hf) (fun b hb ho z => by unfold kRo at z; omega)
theorem kRs.frF (h : kRs e0 A n cz T G E S q i j Si) (hf : kFr Si Si' (fun _ => False)) : kRs e0 A n cz T G E S q i j Si' := by
  obtain ⟨h1, h2⟩ := h.1.1.goF (hf.go (fun b hb z => absurd z id))
  exact h.go h1 h2 hf (h.1.2.2.trX hf (fun z hz hz2 => absurd hz2 id)) (fun b hb ho z => z)
theorem kRs.oth (h : kRs e0 A n cz T G E S q i j Si) {z k : Nat} {v : Int32} (hz : z ∉ S.L) (hO : Si.O z = 302) : kRs e0 A n cz T G E S q i j (Si.uI z k v) := h.go (P := fun b => b = z) (h.1.1.fI (i := k) (v := v) hO (by unfold pSM; omega) (by unfold pVM pCi pHo pCh pLe pMy pMs pOf; omega) (by unfold pLu; omega)) (h.1.1.fIk (i := k) (v := v) hO (by unfold pKe; omega)) ((kFr.rf Si _).uI rfl) (h.1.2.2.uIf hz) (fun b hb ho e => by rw [e, hO] at ho; omega)
end KRS
set_option maxHeartbeats 1000000 in
set_option maxRecDepth 20000 in
theorem c_L_rows (l : Launch) (e0 : Nat × Nat) (Zs : kXs9) (S : kS) (A : Nat → Nat) (n : Nat) (cz : Nat → Nat) (T G Z : Nat) (h : kI e0 A n cz T G Z S) (hb : T ≤ 900000 ∧ G ≤ 60000 ∧ Z ≤ 150000) : kML l e0 Zs (Cond.code yL_rows cL_rows 4 (Option.some (Jvm.ClassFile.FieldType.array (Jvm.ClassFile.FieldType.array Jvm.ClassFile.FieldType.int)))) yL_rows ({ frames := 10, cells := 47, slots := 762, locals := 254 } : Room) 47 762 [.ref (A 0)] S (kQq (fun v S9 => ∃ q, v = some q ∧ kRs e0 A n cz T G Z S q n 0 S9)) := by
  refine kMetL (by decide +kernel) (Nat.le_of_ble_eq_true rfl) (fun C he hl X E Y hm => ?_)
  have X : kX C RL cL_rows 4 ({ frames := 10, cells := 47, slots := 762, locals := 254 } : Room) := X
  subst he hl
  show kG C 4 S 0 0 0 [(0, .ref (A 0))] []
  have hn := h.n40
  obtain ⟨L, hQ⟩ := h.ql
  refine k_aload_n X (q := 0) dL_rows_0 rfl rfl ?_
  refine k_iconst X (v := 5) dL_rows_1 (by decide) ?_
  refine k_gotI X (vL_9 X (S := S) ⟨(st_0 h.st).1, (st_0 h.st).2⟩ (c_X11_city C.l C.e0 S  A n cz _ _ _ h L hQ 5 (by omega) (by omega)) (As := [.int (nI 5)]) (rest := []) rfl rfl rfl rfl ⟨Nat.le_of_ble_eq_true rfl, Nat.le_of_ble_eq_true rfl⟩ (Nat.le_of_ble_eq_true rfl) ⟨(by show _ ≤ 47; omega), (by show _ ≤ 762; omega)⟩ dL_rows_2) (fun v_2_2 S_2_3 h_2_0 => ?_)
  obtain ⟨hI_4, hx_4, hm_4⟩ := h_2_0
  have hK_4 := (kKe.rf).tr hx_4
  obtain ⟨hf_4, ev_2_2⟩ := hm_4
  have hQ_4 := hQ.fr h.st hf_4
  refine k_bipush X (v := 13) dL_rows_5 (by decide) ?_
  have hv9 : v_2_2 = nI n := ev_2_2
  subst hv9
  refine k_multi X Y (N := n) (M := 13) 300 301 (by omega) (by omega) (by show _ ≤ 47; omega) (by show _ ≤ 762; omega) dL_rows_7 (fun a_7_5 S_7_6 fa_7_5 => ?_)
  have hR0 := kRs.mk0 hI_4 hK_4 hf_4 fa_7_5
  refine k_room (k' := 47) (n' := 762) (by omega) (by omega) ?_
  refine k_astore_n X [(1, .ref a_7_5), (0, .ref (A 0))] dL_rows_11 rfl (by decide) rfl ?_
  refine k_iconst X (v := 0) dL_rows_12 (by decide) ?_
  refine k_istore_n X [(2, .int 0), (1, .ref a_7_5), (0, .ref (A 0))] dL_rows_13 rfl (by decide) rfl ?_
  have L_14 : ∀ (N : Nat) (i : Nat) (x : Int32) (Si : kS), n - i = N → x = nI i → (i ≤ n ∧ kRs C.e0 A n cz T G Z S a_7_5 i 0 Si) → kG C 4 Si 47 762 14 [(2, .int x), (1, .ref a_7_5), (0, .ref (A 0))] [] := by
    intro N
    induction N using Nat.strongRecOn with
    | _ N ih =>
    intro i x Si hMs h14_0 h14_1
    subst h14_0
    obtain ⟨hin, hRi⟩ := h14_1
    have hIi := hRi.1.1
    have hKi := hRi.1.2.1
    have hfi := hRi.1.2.2
    have hQi := hQ.fr h.st hfi
    refine k_iload_n X (q := 0) dL_rows_14 rfl rfl ?_
    refine k_aload_n X (q := 1) dL_rows_15 rfl rfl ?_
    refine k_alen X (S := Si) hRi.2.1.1.1 (by simp [hRi.2.1.1.2]) dL_rows_16 ?_
    rw [show Int32.ofNat (Si.N a_7_5) = nI n from by rw [hRi.2.1.2.2.1]; rfl]
    refine k_icmp_ge (tgt := 51) X dL_rows_17 (by decide) (fun c_17 => ?_) (fun c_17 => ?_)
    · skip
      have hin9 : n = i := by have := ge_of_le c_17 (by omega); omega
      subst hin9
      refine k_aload_n X (q := 1) dL_rows_51 rfl rfl ?_
      exact k_aret X E (r := (some a_7_5)) (Or.inr ⟨_, rfl⟩) dL_rows_52 (by show _ ≤ 47; omega) (by show _ ≤ 762; omega) (⟨_, rfl, hRi⟩)
    · skip
      have hlt : i < n := lt_of_nle c_17 (by omega)
      refine k_iconst X (v := 0) dL_rows_20 (by decide) ?_
      refine k_istore_n X [(3, .int 0), (2, .int (nI i)), (1, .ref a_7_5), (0, .ref (A 0))] dL_rows_21 rfl (by decide) rfl ?_
      have L_22 : ∀ (N : Nat) (j : Nat) (y : Int32) (Sj : kS), 13 - j = N → y = nI j → (j ≤ 13 ∧ kRs C.e0 A n cz T G Z S a_7_5 i j Sj) → kG C 4 Sj 47 762 22 [(3, .int y), (2, .int (nI i)), (1, .ref a_7_5), (0, .ref (A 0))] [] := by
        intro N
        induction N using Nat.strongRecOn with
        | _ N ih22 =>
        intro j y Sj hMs h22_0 h22_1
        subst h22_0
        obtain ⟨hjn, hRj⟩ := h22_1
        have hIj := hRj.1.1
        have hKj := hRj.1.2.1
        have hfj := hRj.1.2.2
        have hQj := hQ.fr h.st hfj
        refine k_iload_n X (q := 0) dL_rows_22 rfl rfl ?_
        refine k_bipush X (v := 13) dL_rows_23 (by decide) ?_
        refine k_icmp_ge (tgt := 45) X dL_rows_25 (by decide) (fun c_25 => ?_) (fun c_25 => ?_)
        · skip
          have hin9 : 13 = j := by have := ge_of_le (m := 13) c_25 (by omega); omega
          subst hin9
          obtain ⟨v_45_7, ev_45_7⟩ : ∃ z : Int32, z = (nI i) + 1 := ⟨_, rfl⟩
          refine k_iinc X (q := 1) (v := v_45_7) [(2, .int v_45_7), (3, .int (nI 13)), (1, .ref a_7_5), (0, .ref (A 0))] dL_rows_45 rfl (by rw [ev_45_7]; rfl) (by decide) rfl ?_
          refine k_goto (tgt := 14) X dL_rows_48 (by decide) ?_
          refine k_lv [0, 2, 3] _ rfl ?_
          exact ih (n - (i + 1)) (by omega) (i + 1) _ _ rfl (by rw [ev_45_7, nI_1]) ⟨by omega, hRj.next⟩
        · skip
          have hltj : j < 13 := lt_of_nle (m := 13) c_25 (by omega)
          refine k_aload_n X (q := 2) dL_rows_28 rfl rfl ?_
          refine k_iload_n X (q := 1) dL_rows_29 rfl rfl ?_
          refine k_aaldR X (S := Sj) ⟨hRj.2.1.1.1, hRj.2.1.1.2⟩ (by rw [hRj.2.1.2.2.1]; exact vp_in_nI hlt (by omega)) dL_rows_30 (fun r_30_8 er_30_8 => ?_)
          obtain ⟨g1, g2, g3, g4, g5⟩ := hRj.2.2.1 i hlt
          have hr9 : r_30_8 = some (a_7_5 + 1 + i) := by rw [er_30_8, nI_clamp (by omega)]; exact g1
          subst hr9
          refine k_iload_n X (q := 0) dL_rows_31 rfl rfl ?_
          refine k_aload_n X (q := 3) dL_rows_32 rfl rfl ?_
          refine k_iload_n X (q := 1) dL_rows_33 rfl rfl ?_
          refine k_iload_n X (q := 0) dL_rows_34 rfl rfl ?_
          refine k_gotI X (vL_17 X (S := Sj) ⟨(st_0 hIj.st).1, (st_0 hIj.st).2⟩ (c_X11_ofCitizen C.l C.e0 Sj   A n cz _ _ _ hIj L hQj i (by omega) j (by omega)) (As := [.int (nI i), .int (nI j)]) (rest := [.int (nI j), .ref (a_7_5 + 1 + i)]) rfl rfl rfl rfl ⟨Nat.le_of_ble_eq_true rfl, Nat.le_of_ble_eq_true rfl⟩ (Nat.le_of_ble_eq_true rfl) ⟨(by show _ ≤ 47; omega), (by show _ ≤ 762; omega)⟩ dL_rows_35) (fun v_35_10 S_35_11 h_35_8 => ?_)
          obtain ⟨rfl, ev_35_10⟩ := h_35_8
          replace ev_35_10 := ev_35_10.trans (kQcit_v h hfj (by omega) _)
          refine k_iast X (S := Sj) g2.1 g2.2 (by rw [g4]; exact vp_in_nI hltj (by omega)) dL_rows_38 ?_
          rw [nI_clamp (by omega)]
          have hR9 := hRj.put hlt hltj ev_35_10
          obtain ⟨v_39_12, ev_39_12⟩ : ∃ z : Int32, z = (nI j) + 1 := ⟨_, rfl⟩
          refine k_iinc X (q := 0) (v := v_39_12) [(3, .int v_39_12), (2, .int (nI i)), (1, .ref a_7_5), (0, .ref (A 0))] dL_rows_39 rfl (by rw [ev_39_12]; rfl) (by decide) rfl ?_
          refine k_goto (tgt := 22) X dL_rows_42 (by decide) ?_
          refine k_lv [0, 1, 2, 3] _ rfl ?_
          exact ih22 (13 - (j + 1)) (by omega) (j + 1) _ _ rfl (by rw [ev_39_12, nI_1]) ⟨by omega, hR9⟩
      refine k_lv [0, 1, 2, 3] _ rfl ?_
      exact L_22 _ 0 0 _ rfl nI_0.symm ⟨Nat.zero_le _, hRi⟩
  refine k_lv [0, 1, 2] _ rfl ?_
  exact L_14 _ 0 0 _ rfl nI_0.symm ⟨Nat.zero_le _, hR0⟩
