theorem kpig : ∀ (n m : Nat) (f : Nat → Nat), (∀ t, t < m → f t < n) → (∀ t t', t < m → t' < m → f t = f t' → t = t') → m ≤ n
  | 0, m, f, h, _ => by
    rcases Nat.eq_zero_or_pos m with g | g
    · omega
    · have := h 0 g
      omega
  | n + 1, 0, f, _, _ => Nat.zero_le _
  | n + 1, m + 1, f, h, hi => by
    refine Nat.succ_le_succ (kpig n m (fun t => if f t = n then f m else f t) (fun t ht => ?_) (fun t t' ht ht' e => ?_))
    · show (if f t = n then f m else f t) < n
      by_cases g : f t = n
      · rw [if_pos g]
        have h2 := h m (by omega)
        have h3 : ¬ f m = n := fun z => by
          have := hi t m (by omega) (by omega) (g.trans z.symm)
          omega
        omega
      · rw [if_neg g]
        have h2 := h t (by omega)
        omega
    · have e2 : (if f t = n then f m else f t) = (if f t' = n then f m else f t') := e
      by_cases g : f t = n
      · by_cases g' : f t' = n
        · exact hi t t' (by omega) (by omega) (g.trans g'.symm)
        · rw [if_pos g, if_neg g'] at e2
          have := hi m t' (by omega) (by omega) e2
          omega
      · by_cases g' : f t' = n
        · rw [if_neg g, if_pos g'] at e2
          have := hi t m (by omega) (by omega) e2
          omega
        · rw [if_neg g, if_neg g'] at e2
          exact hi t t' (by omega) (by omega) e2
theorem kfch {P : Nat → Nat → Prop} : ∀ m, (∀ t, t < m → ∃ j, P t j) → ∃ f : Nat → Nat, ∀ t, t < m → P t (f t)
  | 0, _ => ⟨fun _ => 0, fun t ht => absurd ht (by omega)⟩
  | m + 1, h => by
    obtain ⟨f, hf⟩ := kfch m (fun t ht => h t (by omega))
    obtain ⟨j, hj⟩ := h m (by omega)
    refine ⟨fun t => if t = m then j else f t, fun t ht => ?_⟩
    show P t (if t = m then j else f t)
    by_cases e : t = m
    · rw [if_pos e, e]; exact hj
    · rw [if_neg e]; exact hf t (by omega)
theorem kdis_le {n m : Nat} {cz xs : Nat → Nat} (hx : ∀ t, t < m → ∃ j, j < n ∧ xs t = cz j) (hd : ∀ t t', t < m → t' < m → xs t = xs t' → t = t') : m ≤ n := by
  obtain ⟨f, hf⟩ := kfch (P := fun t j => j < n ∧ xs t = cz j) m hx
  exact kpig n m f (fun t ht => (hf t ht).1) (fun t t' ht ht' e => hd t t' ht ht' (by rw [(hf t ht).2, (hf t' ht').2, e]))
theorem kdis_up {m v : Nat} {xs : Nat → Nat} (hd : ∀ t t', t < m → t' < m → xs t = xs t' → t = t') (hn : ∀ t, t < m → ¬ xs t = v) : ∀ t t', t < m + 1 → t' < m + 1 → va_up xs m v t = va_up xs m v t' → t = t' := fun t t' ht ht' e => by
  unfold va_up at e
  by_cases g : t = m
  · by_cases g' : t' = m
    · omega
    · rw [if_pos g, if_neg g'] at e
      exact absurd e.symm (hn t' (by omega))
  · by_cases g' : t' = m
    · rw [if_neg g, if_pos g'] at e
      exact absurd e (hn t (by omega))
    · rw [if_neg g, if_neg g'] at e
      exact hd t t' (by omega) (by omega) e
theorem kb_none {o : Option Nat} (h : kb o.isSome = 0) : o = none := by
  cases o
  · rfl
  · simp [kb] at h
theorem ktrb : ∀ q, q < 8 → nI q - nI q / 4 * 4 = nI (q % 4) := by decide +kernel
theorem kwar10 : ∀ w, w ≤ 300 → kmax 0 (nI w - 10) = nI (w - 10) := by decide +kernel
section KPW
variable {e0 : Nat × Nat} {A : Nat → Nat} {n : Nat} {cz : Nat → Nat} {T G E : Nat} {S S' : kS}
theorem kLs.emp {a κ m : Nat} {xs : Nat → Nat} (h : kLs e0 S a κ m xs) (hm : m ≤ 100) (h2 : ¬ kb (decide (S.I a 2 = 0)) = 0) : m = 0 := by
  by_cases g : S.I a 2 = 0
  · rw [h.2.1] at g
    exact nI_inj (by omega) (by omega) (g.trans nI_0.symm)
  · simp [kb, g] at h2
/-- those who rule change -/
theorem kI.frU (h : kI e0 A n cz T G E S) (hf : kFr S S' (kRo S 23)) (hl : kRu e0 A n cz S') : kI e0 A n cz T G E S' ∧ kKe A S S' := by
  have hg : kGo S S' (fun ρ _ => ρ = 23 ∨ ρ = 123) := hf.go (fun b hb z j => by unfold kRo at z; omega)
  have hV : kNo (fun ρ _ => ρ = 23 ∨ ρ = 123) pVM := fun ρ j z y => by unfold pVM pCi pHo pCh pLe pMy pMs pOf at y; omega
  have q7 := fun j => (h.aF hg (r := 7) (κ := 6) (by decide) j (by omega)).1
  obtain ⟨m, xs, g1, g2, g3⟩ := hl
  have hm : m ≤ 40 := Nat.le_trans (kdis_le g2 g3) h.n40
  exact ⟨⟨h.1.go (r := 23) hg (by omega) (fun ρ j z y => by omega) ⟨fun _ => ⟨m, xs, g1, hm, g2⟩, fun z => by omega, fun z => by omega⟩, h.gCi hg (fun ρ j z y => hV ρ j z (by unfold pVM; simp [y])), h.gHo hg (fun ρ j z y => hV ρ j z (by unfold pVM; simp [y])), h.gCh hg (fun ρ j z y => hV ρ j z (by unfold pVM; simp [y])), h.gLe hg (fun ρ j z y => hV ρ j z (by unfold pVM; simp [y])), h.gMy hg (fun ρ j z y => hV ρ j z (by unfold pVM; simp [y])), ⟨by unfold kLu; rw [q7, q7]; exact h.lu, ⟨m, xs, g1, g2, g3⟩⟩, h.gMs hg (fun ρ j z y => hV ρ j z (by unfold pVM; simp [y])), h.gOf hg (fun ρ j z y => hV ρ j z (by unfold pVM; simp [y]))⟩, h.gKe hg (fun ρ j z y => by unfold pKe at y; omega)⟩
end KPW
set_option maxHeartbeats 1000000 in
set_option maxRecDepth 20000 in
theorem c_X9_firstRuler (l : Launch) (e0 : Nat × Nat) (S : kS)  (A : Nat → Nat) (hst : kSt A S) (m : Nat) (xs : Nat → Nat) (hL : kLs e0 S (A 23) 1 m xs) (hm9 : m ≤ 100) : kM l e0 yX9_firstRuler cX9_firstRuler 1 (Option.some (Jvm.ClassFile.FieldType.object "Kleroterion$Citizen")) ({ frames := 3, cells := 0, slots := 0, locals := 64 } : Room) 0 0 [.ref (A 6)] S (kQq (fun v S9 => S = S9 ∧ v = (if m = 0 then none else some (xs 0)))) := by
  refine kMetE (by decide +kernel) (Nat.le_of_ble_eq_true rfl) (fun C he hl X E hm => ?_)
  have X : kX C RX9 cX9_firstRuler 1 ({ frames := 3, cells := 0, slots := 0, locals := 64 } : Room) := X
  subst he hl
  show kG C 1 S 0 0 0 [(0, .ref (A 6))] []
  refine k_aload_n X (q := 0) dX9_firstRuler_0 rfl rfl ?_
  refine gX9_12s X (S := S) (st_6 hst).1 (st_6 hst).2 (sr_6_3 hst) dX9_firstRuler_1 ?_
  refine k_gotI X (vX9_49 X (S := S) ⟨(st_23 hst).1, (st_23 hst).2⟩ (c_Jx4a65c_isEmpty_aae02 C.l C.e0 S (A 23) (st_23 hst)) (As := []) (rest := []) rfl rfl rfl rfl ⟨Nat.le_of_ble_eq_true rfl, Nat.le_of_ble_eq_true rfl⟩ (Nat.le_of_ble_eq_true rfl) ⟨Nat.le_of_ble_eq_true rfl, Nat.le_of_ble_eq_true rfl⟩ dX9_firstRuler_4) (fun v_4_2 S_4_3 h_4_0 => ?_)
  obtain ⟨rfl, ev_4_2⟩ := h_4_0
  refine k_if_eq (tgt := 14) X dX9_firstRuler_7 (by decide) (fun c_7 => ?_) (fun c_7 => ?_)
  · skip
    rw [ev_4_2] at c_7
    have hm0 := hL.pos c_7
    refine k_aload_n X (q := 0) dX9_firstRuler_14 rfl rfl ?_
    refine gX9_12s X (S := S) (st_6 hst).1 (st_6 hst).2 (sr_6_3 hst) dX9_firstRuler_15 ?_
    refine k_iconst X (v := 0) dX9_firstRuler_18 (by decide) ?_
    show kG C 1 S 0 0 19 [(0, .ref (A 6))] [.int (nI 0), .ref (A 23)]
    refine k_gotQ X (vX9_53 X (S := S) ⟨(st_23 hst).1, (st_23 hst).2⟩ (c_Jx4a65c_get_915e3 C.l C.e0 S (A 23) 1 m 0 xs (hL) hm0) (As := [.int (nI 0)]) (rest := []) rfl rfl rfl rfl ⟨Nat.le_of_ble_eq_true rfl, Nat.le_of_ble_eq_true rfl⟩ (Nat.le_of_ble_eq_true rfl) ⟨Nat.le_of_ble_eq_true rfl, Nat.le_of_ble_eq_true rfl⟩ dX9_firstRuler_19) (fun r_19_5 S_19_6 h_19_3 => ?_)
    obtain ⟨rfl, er_19_5⟩ := h_19_3
    subst er_19_5
    refine tX9_57 X (S := S) ⟨(kLs.el (hL) hm0).1, (kLs.el (hL) hm0).2⟩ dX9_firstRuler_22 ?_
    exact k_aret X E (r := (some (xs 0))) (Or.inl ⟨_, rfl⟩) dX9_firstRuler_25 (Nat.le_of_ble_eq_true rfl) (Nat.le_of_ble_eq_true rfl) (⟨rfl, by rw [if_neg (by omega)]⟩)
  · skip
    rw [ev_4_2] at c_7
    have hm0 := hL.emp hm9 c_7
    refine k_null X dX9_firstRuler_10 ?_
    refine k_goto (tgt := 25) X dX9_firstRuler_11 (by decide) ?_
    exact k_aret X E (r := none) (Or.inl ⟨_, rfl⟩) dX9_firstRuler_25 (Nat.le_of_ble_eq_true rfl) (Nat.le_of_ble_eq_true rfl) (⟨rfl, by rw [if_pos hm0]⟩)
set_option maxHeartbeats 1000000 in
set_option maxRecDepth 20000 in
theorem c_X9_richestBehind (l : Launch) (e0 : Nat × Nat) (S : kS)  (A : Nat → Nat) (n : Nat) (cz : Nat → Nat) (hst : kSt A S) (hC : kLs e0 S (A 10) 1 n cz) (hn : n ≤ 40) (m : Nat) (xs : Nat → Nat) (hL : kLs e0 S (A 23) 1 m xs) (hm9 : m ≤ 100) : kM l e0 yX9_richestBehind cX9_richestBehind 5 (Option.some (Jvm.ClassFile.FieldType.object "Kleroterion$Citizen")) ({ frames := 4, cells := 0, slots := 0, locals := 86 } : Room) 0 0 [.ref (A 6)] S (kQq (fun v S9 => S = S9 ∧ (v = none ∨ ∃ z, z < n ∧ v = some (cz z) ∧ ∀ t, t < m → ¬ xs t = cz z))) := by
  refine kMetE (by decide +kernel) (Nat.le_of_ble_eq_true rfl) (fun C he hl X E hm => ?_)
  have X : kX C RX9 cX9_richestBehind 5 ({ frames := 4, cells := 0, slots := 0, locals := 86 } : Room) := X
  subst he hl
  show kG C 5 S 0 0 0 [(0, .ref (A 6))] []
  refine k_null X dX9_richestBehind_0 ?_
  refine k_astore_nQ X (r := none) [(1, .null), (0, .ref (A 6))] dX9_richestBehind_1 rfl (by decide) rfl ?_
  refine k_iconst X (v := 0) dX9_richestBehind_2 (by decide) ?_
  refine k_istore_n X [(2, .int 0), (1, .null), (0, .ref (A 6))] dX9_richestBehind_3 rfl (by decide) rfl ?_
  have L_4 : ∀ (N : Nat) (i : Nat) (x : Int32) (o : Option Nat), n - i = N → x = nI i → (i ≤ n ∧ (o = none ∨ ∃ z, z < n ∧ o = some (cz z) ∧ ∀ t, t < m → ¬ xs t = cz z)) → kG C 5 S 0 0 4 [(2, .int x), (1, va_rf o), (0, .ref (A 6))] [] := by
    intro N
    induction N using Nat.strongRecOn with
    | _ N ih =>
    intro i x o hMs h4_0 h4_1
    subst h4_0
    obtain ⟨hBi, hor⟩ := h4_1
    refine k_iload_n X (q := 0) dX9_richestBehind_4 rfl rfl ?_
    refine k_aload_n X (q := 2) dX9_richestBehind_5 rfl rfl ?_
    refine gX9_32s X (S := S) (st_6 hst).1 (st_6 hst).2 (sr_6_0 hst) dX9_richestBehind_6 ?_
    refine gX9_94s X (S := S) (st_1 hst).1 (st_1 hst).2 (sr_1_12 hst) dX9_richestBehind_9 ?_
    refine k_gotI X (vX9_97 X (S := S) ⟨(st_10 hst).1, (st_10 hst).2⟩ (c_Jx4a65c_size_8abf5 C.l C.e0 S (A 10) (st_10 hst)) (As := []) (rest := [.int (nI i)]) rfl rfl rfl rfl ⟨Nat.le_of_ble_eq_true rfl, Nat.le_of_ble_eq_true rfl⟩ (Nat.le_of_ble_eq_true rfl) ⟨Nat.le_of_ble_eq_true rfl, Nat.le_of_ble_eq_true rfl⟩ dX9_richestBehind_12) (fun v_12_2 S_12_3 h_12_0 => ?_)
    obtain ⟨rfl, ev_12_2⟩ := h_12_0
    have hz_v_12_2 : nI n = v_12_2 := by rw [ev_12_2]; exact (hC).2.1.symm
    subst hz_v_12_2
    refine k_icmp_ge (tgt := 83) X dX9_richestBehind_15 (by decide) (fun c_15 => ?_) (fun c_15 => ?_)
    · skip
      refine k_aload_nQ X (q := 1) dX9_richestBehind_83 rfl rfl ?_
      exact k_aret X E (r := o) (Or.inl ⟨_, rfl⟩) dX9_richestBehind_84 (Nat.le_of_ble_eq_true rfl) (Nat.le_of_ble_eq_true rfl) (⟨rfl, hor⟩)
    · skip
      have hlti : i < n := lt_of_nle c_15 (by omega)
      refine k_aload_n X (q := 2) dX9_richestBehind_18 rfl rfl ?_
      refine gX9_32s X (S := S) (st_6 hst).1 (st_6 hst).2 (sr_6_0 hst) dX9_richestBehind_19 ?_
      refine gX9_94s X (S := S) (st_1 hst).1 (st_1 hst).2 (sr_1_12 hst) dX9_richestBehind_22 ?_
      refine k_iload_n X (q := 0) dX9_richestBehind_25 rfl rfl ?_
      refine k_gotQ X (vX9_53 X (S := S) ⟨(st_10 hst).1, (st_10 hst).2⟩ (c_Jx4a65c_get_915e3 C.l C.e0 S (A 10) 1 n i cz (hC) hlti) (As := [.int (nI i)]) (rest := []) rfl rfl rfl rfl ⟨Nat.le_of_ble_eq_true rfl, Nat.le_of_ble_eq_true rfl⟩ (Nat.le_of_ble_eq_true rfl) ⟨Nat.le_of_ble_eq_true rfl, Nat.le_of_ble_eq_true rfl⟩ dX9_richestBehind_26) (fun r_26_5 S_26_6 h_26_3 => ?_)
      obtain ⟨rfl, er_26_5⟩ := h_26_3
      subst er_26_5
      refine tX9_57 X (S := S) ⟨(kLs.el (hC) hlti).1, (kLs.el (hC) hlti).2⟩ dX9_richestBehind_29 ?_
      refine k_astore_n X [(3, .ref (cz i)), (2, .int (nI i)), (1, va_rf o), (0, .ref (A 6))] dX9_richestBehind_32 rfl (by decide) rfl ?_
      refine k_aload_nQ X (q := 2) dX9_richestBehind_33 rfl rfl ?_
      refine k_ifnull (tgt := 48) X dX9_richestBehind_34 (by decide) (fun c_34 => ?_) (fun a_34_7 c_34 => ?_)
      · skip
        subst c_34
        refine k_iconst X (v := 1) dX9_richestBehind_48 (by decide) ?_
        refine k_goto (tgt := 53) X dX9_richestBehind_49 (by decide) ?_
        refine k_istore X [(4, .int 1), (3, .ref (cz i)), (2, .int (nI i)), (1, .null), (0, .ref (A 6))] dX9_richestBehind_53 (by decide) rfl ?_
        refine k_aload_n X (q := 1) dX9_richestBehind_55 rfl rfl ?_
        refine k_gotI X (vX9_104 X (S := S) ⟨(kLs.el (hC) hlti).1, (kLs.el (hC) hlti).2⟩ (c_X1_isFull C.l C.e0 S (cz i) (kLs.el (hC) hlti)) (As := []) (rest := []) rfl rfl rfl rfl ⟨Nat.le_of_ble_eq_true rfl, Nat.le_of_ble_eq_true rfl⟩ (Nat.le_of_ble_eq_true rfl) ⟨Nat.le_of_ble_eq_true rfl, Nat.le_of_ble_eq_true rfl⟩ dX9_richestBehind_56) (fun v_56_9 S_56_10 h_56_7 => ?_)
        obtain ⟨rfl, ev_56_9⟩ := h_56_7
        refine k_if_eq (tgt := 77) X dX9_richestBehind_59 (by decide) (fun c_59 => ?_) (fun c_59 => ?_)
        · skip
          rw [ev_56_9] at c_59
          obtain ⟨v_77_11, ev_77_11⟩ : ∃ z : Int32, z = (nI i) + 1 := ⟨_, rfl⟩
          refine k_iinc X (q := 2) (v := v_77_11) [(2, .int v_77_11), (4, .int 1), (3, .ref (cz i)), (1, .null), (0, .ref (A 6))] dX9_richestBehind_77 rfl (by rw [ev_77_11]; rfl) (by decide) rfl ?_
          refine k_goto (tgt := 4) X dX9_richestBehind_80 (by decide) ?_
          refine k_lv [0, 3, 4] _ rfl ?_
          exact ih (n - (i + 1)) (by omega) (i + 1) _ none rfl (by rw [ev_77_11, nI_1]) ⟨by omega, Or.inl rfl⟩
        · skip
          rw [ev_56_9] at c_59
          refine k_aload_n X (q := 4) dX9_richestBehind_62 rfl rfl ?_
          refine k_aload_n X (q := 1) dX9_richestBehind_63 rfl rfl ?_
          refine k_gotI X (vX9_107 X (S := S) ⟨(st_6 hst).1, (st_6 hst).2⟩ (c_X9_isRuler C.l C.e0 S (cz i) A hst m xs (hL) (by omega)) (As := [.ref (cz i)]) (rest := []) rfl rfl rfl rfl ⟨Nat.le_of_ble_eq_true rfl, Nat.le_of_ble_eq_true rfl⟩ (Nat.le_of_ble_eq_true rfl) ⟨Nat.le_of_ble_eq_true rfl, Nat.le_of_ble_eq_true rfl⟩ dX9_richestBehind_64) (fun v_64_13 S_64_14 h_64_11 => ?_)
          obtain ⟨rfl, ev_64_13⟩ := h_64_11
          refine k_if_ne (tgt := 77) X dX9_richestBehind_67 (by decide) (fun c_67 => ?_) (fun c_67 => ?_)
          · skip
            rw [ev_64_13] at c_67
            obtain ⟨v_77_15, ev_77_15⟩ : ∃ z : Int32, z = (nI i) + 1 := ⟨_, rfl⟩
            refine k_iinc X (q := 2) (v := v_77_15) [(2, .int v_77_15), (4, .int 1), (3, .ref (cz i)), (1, .null), (0, .ref (A 6))] dX9_richestBehind_77 rfl (by rw [ev_77_15]; rfl) (by decide) rfl ?_
            refine k_goto (tgt := 4) X dX9_richestBehind_80 (by decide) ?_
            refine k_lv [0, 3, 4] _ rfl ?_
            exact ih (n - (i + 1)) (by omega) (i + 1) _ none rfl (by rw [ev_77_15, nI_1]) ⟨by omega, Or.inl rfl⟩
          · skip
            rw [ev_64_13] at c_67
            have hnr : ∀ t, t < m → ¬ xs t = cz i := fun t ht => by have h3 := kff_no m (kb_none c_67) t ht; simpa using h3
            refine k_iload X (q := 0) dX9_richestBehind_70 rfl ?_
            refine k_if_eq (tgt := 77) X dX9_richestBehind_72 (by decide) (fun c_72 => ?_) (fun c_72 => ?_)
            · skip
              obtain ⟨v_77_16, ev_77_16⟩ : ∃ z : Int32, z = (nI i) + 1 := ⟨_, rfl⟩
              refine k_iinc X (q := 2) (v := v_77_16) [(2, .int v_77_16), (4, .int 1), (3, .ref (cz i)), (1, .null), (0, .ref (A 6))] dX9_richestBehind_77 rfl (by rw [ev_77_16]; rfl) (by decide) rfl ?_
              refine k_goto (tgt := 4) X dX9_richestBehind_80 (by decide) ?_
              refine k_lv [0, 3, 4] _ rfl ?_
              exact ih (n - (i + 1)) (by omega) (i + 1) _ none rfl (by rw [ev_77_16, nI_1]) ⟨by omega, Or.inl rfl⟩
            · skip
              refine k_aload_n X (q := 1) dX9_richestBehind_75 rfl rfl ?_
              refine k_astore_n X [(1, .ref (cz i)), (4, .int 1), (3, .ref (cz i)), (2, .int (nI i)), (0, .ref (A 6))] dX9_richestBehind_76 rfl (by decide) rfl ?_
              obtain ⟨v_77_17, ev_77_17⟩ : ∃ z : Int32, z = (nI i) + 1 := ⟨_, rfl⟩
              refine k_iinc X (q := 3) (v := v_77_17) [(2, .int v_77_17), (1, .ref (cz i)), (4, .int 1), (3, .ref (cz i)), (0, .ref (A 6))] dX9_richestBehind_77 rfl (by rw [ev_77_17]; rfl) (by decide) rfl ?_
              refine k_goto (tgt := 4) X dX9_richestBehind_80 (by decide) ?_
              refine k_lv [0, 1, 4] _ rfl ?_
              exact ih (n - (i + 1)) (by omega) (i + 1) _ (some (cz i)) rfl (by rw [ev_77_17, nI_1]) ⟨by omega, Or.inr ⟨i, hlti, rfl, hnr⟩⟩
      · skip
        subst c_34
        obtain ⟨b, hb, hzb, hnb⟩ : ∃ z, z < n ∧ a_34_7 = cz z ∧ ∀ t, t < m → ¬ xs t = cz z := by
          rcases hor with z | ⟨z, z1, z2, z3⟩
          · cases z
          · exact ⟨z, z1, Option.some.inj z2, z3⟩
        subst hzb
        refine k_aload_n X (q := 0) dX9_richestBehind_37 rfl rfl ?_
        refine gX9_101 X (S := S) (kLs.el (hC) hlti).1 (kLs.el (hC) hlti).2 dX9_richestBehind_38 (fun v_38_18 ev_38_18 => ?_)
        refine k_aload_n X (q := 2) dX9_richestBehind_41 rfl rfl ?_
        refine gX9_101 X (S := S) (kLs.el hC hb).1 (kLs.el hC hb).2 dX9_richestBehind_42 (fun v_42_19 ev_42_19 => ?_)
        refine k_icmp_le (tgt := 52) X dX9_richestBehind_45 (by decide) (fun c_45 => ?_) (fun c_45 => ?_)
        · skip
          refine k_iconst X (v := 0) dX9_richestBehind_52 (by decide) ?_
          refine k_istore X [(4, .int 0), (3, .ref (cz i)), (2, .int (nI i)), (1, .ref (cz b)), (0, .ref (A 6))] dX9_richestBehind_53 (by decide) rfl ?_
          refine k_aload_n X (q := 1) dX9_richestBehind_55 rfl rfl ?_
          refine k_gotI X (vX9_104 X (S := S) ⟨(kLs.el (hC) hlti).1, (kLs.el (hC) hlti).2⟩ (c_X1_isFull C.l C.e0 S (cz i) (kLs.el (hC) hlti)) (As := []) (rest := []) rfl rfl rfl rfl ⟨Nat.le_of_ble_eq_true rfl, Nat.le_of_ble_eq_true rfl⟩ (Nat.le_of_ble_eq_true rfl) ⟨Nat.le_of_ble_eq_true rfl, Nat.le_of_ble_eq_true rfl⟩ dX9_richestBehind_56) (fun v_56_21 S_56_22 h_56_19 => ?_)
          obtain ⟨rfl, ev_56_21⟩ := h_56_19
          refine k_if_eq (tgt := 77) X dX9_richestBehind_59 (by decide) (fun c_59 => ?_) (fun c_59 => ?_)
          · skip
            rw [ev_56_21] at c_59
            obtain ⟨v_77_23, ev_77_23⟩ : ∃ z : Int32, z = (nI i) + 1 := ⟨_, rfl⟩
            refine k_iinc X (q := 2) (v := v_77_23) [(2, .int v_77_23), (4, .int 0), (3, .ref (cz i)), (1, .ref (cz b)), (0, .ref (A 6))] dX9_richestBehind_77 rfl (by rw [ev_77_23]; rfl) (by decide) rfl ?_
            refine k_goto (tgt := 4) X dX9_richestBehind_80 (by decide) ?_
            refine k_lv [0, 3, 4] _ rfl ?_
            exact ih (n - (i + 1)) (by omega) (i + 1) _ (some (cz b)) rfl (by rw [ev_77_23, nI_1]) ⟨by omega, Or.inr ⟨b, hb, rfl, hnb⟩⟩
          · skip
            rw [ev_56_21] at c_59
            refine k_aload_n X (q := 4) dX9_richestBehind_62 rfl rfl ?_
            refine k_aload_n X (q := 1) dX9_richestBehind_63 rfl rfl ?_
            refine k_gotI X (vX9_107 X (S := S) ⟨(st_6 hst).1, (st_6 hst).2⟩ (c_X9_isRuler C.l C.e0 S (cz i) A hst m xs (hL) (by omega)) (As := [.ref (cz i)]) (rest := []) rfl rfl rfl rfl ⟨Nat.le_of_ble_eq_true rfl, Nat.le_of_ble_eq_true rfl⟩ (Nat.le_of_ble_eq_true rfl) ⟨Nat.le_of_ble_eq_true rfl, Nat.le_of_ble_eq_true rfl⟩ dX9_richestBehind_64) (fun v_64_25 S_64_26 h_64_23 => ?_)
            obtain ⟨rfl, ev_64_25⟩ := h_64_23
            refine k_if_ne (tgt := 77) X dX9_richestBehind_67 (by decide) (fun c_67 => ?_) (fun c_67 => ?_)
            · skip
              rw [ev_64_25] at c_67
              obtain ⟨v_77_27, ev_77_27⟩ : ∃ z : Int32, z = (nI i) + 1 := ⟨_, rfl⟩
              refine k_iinc X (q := 2) (v := v_77_27) [(2, .int v_77_27), (4, .int 0), (3, .ref (cz i)), (1, .ref (cz b)), (0, .ref (A 6))] dX9_richestBehind_77 rfl (by rw [ev_77_27]; rfl) (by decide) rfl ?_
              refine k_goto (tgt := 4) X dX9_richestBehind_80 (by decide) ?_
              refine k_lv [0, 3, 4] _ rfl ?_
              exact ih (n - (i + 1)) (by omega) (i + 1) _ (some (cz b)) rfl (by rw [ev_77_27, nI_1]) ⟨by omega, Or.inr ⟨b, hb, rfl, hnb⟩⟩
            · skip
              rw [ev_64_25] at c_67
              have hnr : ∀ t, t < m → ¬ xs t = cz i := fun t ht => by have h3 := kff_no m (kb_none c_67) t ht; simpa using h3
              refine k_iload X (q := 0) dX9_richestBehind_70 rfl ?_
              refine k_if_eq (tgt := 77) X dX9_richestBehind_72 (by decide) (fun c_72 => ?_) (fun c_72 => ?_)
              · skip
                obtain ⟨v_77_28, ev_77_28⟩ : ∃ z : Int32, z = (nI i) + 1 := ⟨_, rfl⟩
                refine k_iinc X (q := 2) (v := v_77_28) [(2, .int v_77_28), (4, .int 0), (3, .ref (cz i)), (1, .ref (cz b)), (0, .ref (A 6))] dX9_richestBehind_77 rfl (by rw [ev_77_28]; rfl) (by decide) rfl ?_
                refine k_goto (tgt := 4) X dX9_richestBehind_80 (by decide) ?_
                refine k_lv [0, 3, 4] _ rfl ?_
                exact ih (n - (i + 1)) (by omega) (i + 1) _ (some (cz b)) rfl (by rw [ev_77_28, nI_1]) ⟨by omega, Or.inr ⟨b, hb, rfl, hnb⟩⟩
              · skip
                refine k_aload_n X (q := 1) dX9_richestBehind_75 rfl rfl ?_
                refine k_astore_n X [(1, .ref (cz i)), (4, .int 0), (3, .ref (cz i)), (2, .int (nI i)), (0, .ref (A 6))] dX9_richestBehind_76 rfl (by decide) rfl ?_
                obtain ⟨v_77_29, ev_77_29⟩ : ∃ z : Int32, z = (nI i) + 1 := ⟨_, rfl⟩
                refine k_iinc X (q := 3) (v := v_77_29) [(2, .int v_77_29), (1, .ref (cz i)), (4, .int 0), (3, .ref (cz i)), (0, .ref (A 6))] dX9_richestBehind_77 rfl (by rw [ev_77_29]; rfl) (by decide) rfl ?_
                refine k_goto (tgt := 4) X dX9_richestBehind_80 (by decide) ?_
                refine k_lv [0, 1, 4] _ rfl ?_
                exact ih (n - (i + 1)) (by omega) (i + 1) _ (some (cz i)) rfl (by rw [ev_77_29, nI_1]) ⟨by omega, Or.inr ⟨i, hlti, rfl, hnr⟩⟩
        · skip
          refine k_iconst X (v := 1) dX9_richestBehind_48 (by decide) ?_
          refine k_goto (tgt := 53) X dX9_richestBehind_49 (by decide) ?_
          refine k_istore X [(4, .int 1), (3, .ref (cz i)), (2, .int (nI i)), (1, .ref (cz b)), (0, .ref (A 6))] dX9_richestBehind_53 (by decide) rfl ?_
          refine k_aload_n X (q := 1) dX9_richestBehind_55 rfl rfl ?_
          refine k_gotI X (vX9_104 X (S := S) ⟨(kLs.el (hC) hlti).1, (kLs.el (hC) hlti).2⟩ (c_X1_isFull C.l C.e0 S (cz i) (kLs.el (hC) hlti)) (As := []) (rest := []) rfl rfl rfl rfl ⟨Nat.le_of_ble_eq_true rfl, Nat.le_of_ble_eq_true rfl⟩ (Nat.le_of_ble_eq_true rfl) ⟨Nat.le_of_ble_eq_true rfl, Nat.le_of_ble_eq_true rfl⟩ dX9_richestBehind_56) (fun v_56_31 S_56_32 h_56_29 => ?_)
          obtain ⟨rfl, ev_56_31⟩ := h_56_29
          refine k_if_eq (tgt := 77) X dX9_richestBehind_59 (by decide) (fun c_59 => ?_) (fun c_59 => ?_)
          · skip
            rw [ev_56_31] at c_59
            obtain ⟨v_77_33, ev_77_33⟩ : ∃ z : Int32, z = (nI i) + 1 := ⟨_, rfl⟩
            refine k_iinc X (q := 2) (v := v_77_33) [(2, .int v_77_33), (4, .int 1), (3, .ref (cz i)), (1, .ref (cz b)), (0, .ref (A 6))] dX9_richestBehind_77 rfl (by rw [ev_77_33]; rfl) (by decide) rfl ?_
            refine k_goto (tgt := 4) X dX9_richestBehind_80 (by decide) ?_
            refine k_lv [0, 3, 4] _ rfl ?_
            exact ih (n - (i + 1)) (by omega) (i + 1) _ (some (cz b)) rfl (by rw [ev_77_33, nI_1]) ⟨by omega, Or.inr ⟨b, hb, rfl, hnb⟩⟩
          · skip
            rw [ev_56_31] at c_59
            refine k_aload_n X (q := 4) dX9_richestBehind_62 rfl rfl ?_
            refine k_aload_n X (q := 1) dX9_richestBehind_63 rfl rfl ?_
            refine k_gotI X (vX9_107 X (S := S) ⟨(st_6 hst).1, (st_6 hst).2⟩ (c_X9_isRuler C.l C.e0 S (cz i) A hst m xs (hL) (by omega)) (As := [.ref (cz i)]) (rest := []) rfl rfl rfl rfl ⟨Nat.le_of_ble_eq_true rfl, Nat.le_of_ble_eq_true rfl⟩ (Nat.le_of_ble_eq_true rfl) ⟨Nat.le_of_ble_eq_true rfl, Nat.le_of_ble_eq_true rfl⟩ dX9_richestBehind_64) (fun v_64_35 S_64_36 h_64_33 => ?_)
            obtain ⟨rfl, ev_64_35⟩ := h_64_33
            refine k_if_ne (tgt := 77) X dX9_richestBehind_67 (by decide) (fun c_67 => ?_) (fun c_67 => ?_)
            · skip
              rw [ev_64_35] at c_67
              obtain ⟨v_77_37, ev_77_37⟩ : ∃ z : Int32, z = (nI i) + 1 := ⟨_, rfl⟩
              refine k_iinc X (q := 2) (v := v_77_37) [(2, .int v_77_37), (4, .int 1), (3, .ref (cz i)), (1, .ref (cz b)), (0, .ref (A 6))] dX9_richestBehind_77 rfl (by rw [ev_77_37]; rfl) (by decide) rfl ?_
              refine k_goto (tgt := 4) X dX9_richestBehind_80 (by decide) ?_
              refine k_lv [0, 3, 4] _ rfl ?_
              exact ih (n - (i + 1)) (by omega) (i + 1) _ (some (cz b)) rfl (by rw [ev_77_37, nI_1]) ⟨by omega, Or.inr ⟨b, hb, rfl, hnb⟩⟩
            · skip
              rw [ev_64_35] at c_67
              have hnr : ∀ t, t < m → ¬ xs t = cz i := fun t ht => by have h3 := kff_no m (kb_none c_67) t ht; simpa using h3
              refine k_iload X (q := 0) dX9_richestBehind_70 rfl ?_
              refine k_if_eq (tgt := 77) X dX9_richestBehind_72 (by decide) (fun c_72 => ?_) (fun c_72 => ?_)
              · skip
                obtain ⟨v_77_38, ev_77_38⟩ : ∃ z : Int32, z = (nI i) + 1 := ⟨_, rfl⟩
                refine k_iinc X (q := 2) (v := v_77_38) [(2, .int v_77_38), (4, .int 1), (3, .ref (cz i)), (1, .ref (cz b)), (0, .ref (A 6))] dX9_richestBehind_77 rfl (by rw [ev_77_38]; rfl) (by decide) rfl ?_
                refine k_goto (tgt := 4) X dX9_richestBehind_80 (by decide) ?_
                refine k_lv [0, 3, 4] _ rfl ?_
                exact ih (n - (i + 1)) (by omega) (i + 1) _ (some (cz b)) rfl (by rw [ev_77_38, nI_1]) ⟨by omega, Or.inr ⟨b, hb, rfl, hnb⟩⟩
              · skip
                refine k_aload_n X (q := 1) dX9_richestBehind_75 rfl rfl ?_
                refine k_astore_n X [(1, .ref (cz i)), (4, .int 1), (3, .ref (cz i)), (2, .int (nI i)), (0, .ref (A 6))] dX9_richestBehind_76 rfl (by decide) rfl ?_
                obtain ⟨v_77_39, ev_77_39⟩ : ∃ z : Int32, z = (nI i) + 1 := ⟨_, rfl⟩
                refine k_iinc X (q := 3) (v := v_77_39) [(2, .int v_77_39), (1, .ref (cz i)), (4, .int 1), (3, .ref (cz i)), (0, .ref (A 6))] dX9_richestBehind_77 rfl (by rw [ev_77_39]; rfl) (by decide) rfl ?_
                refine k_goto (tgt := 4) X dX9_richestBehind_80 (by decide) ?_
                refine k_lv [0, 1, 4] _ rfl ?_
                exact ih (n - (i + 1)) (by omega) (i + 1) _ (some (cz i)) rfl (by rw [ev_77_39, nI_1]) ⟨by omega, Or.inr ⟨i, hlti, rfl, hnr⟩⟩
  refine k_lv [0, 1, 2] _ rfl ?_
  exact L_4 _ 0 0 none rfl nI_0.symm ⟨by omega, Or.inl rfl⟩
set_option maxHeartbeats 1000000 in
set_option maxRecDepth 20000 in
theorem c_X9_exact (l : Launch) (e0 : Nat × Nat) (S : kS)  (A : Nat → Nat) (n : Nat) (cz : Nat → Nat) (T G Z : Nat) (h : kI e0 A n cz T G Z S)  (hb : T + 0 ≤ 900000 ∧ G + 0 ≤ 60000 ∧ Z + 0 ≤ 150000) : kM l e0 yX9_exact cX9_exact 4 none ({ frames := 4, cells := 0, slots := 0, locals := 86 } : Room) 0 0 [.ref (A 6)] S (kQv (fun S9 => kI e0 A n cz (T + 0) (G + 0) (Z + 0) S9 ∧ kKe A S S9)) := by
  refine kMetE (by decide +kernel) (Nat.le_of_ble_eq_true rfl) (fun C he hl X E hm => ?_)
  have X : kX C RX9 cX9_exact 4 ({ frames := 4, cells := 0, slots := 0, locals := 86 } : Room) := X
  subst he hl
  show kG C 4 S 0 0 0 [(0, .ref (A 6))] []
  have hn := h.n40
  obtain ⟨mr, xr, hL0, hmr, hxr⟩ := h.cl (r := 23) (by unfold clR; omega)
  refine k_iconst X (v := 0) dX9_exact_0 (by decide) ?_
  refine k_istore_n X [(1, .int 0), (0, .ref (A 6))] dX9_exact_1 rfl (by decide) rfl ?_
  refine k_iconst X (v := 0) dX9_exact_2 (by decide) ?_
  refine k_istore_n X [(2, .int 0), (1, .int 0), (0, .ref (A 6))] dX9_exact_3 rfl (by decide) rfl ?_
  have L_4 : ∀ (N : Nat) (i : Nat) (x : Int32) (Si : kS) (y9 : Int32), n - i = N → x = nI i → (i ≤ n ∧ kI C.e0 A n cz T G Z Si ∧ kKe A S Si ∧ (∃ t, y9 = nI t ∧ t ≤ 100) ∧ kLs C.e0 Si (A 23) 1 mr xr) → kG C 4 Si 0 0 4 [(2, .int x), (1, .int y9), (0, .ref (A 6))] [] := by
    intro N
    induction N using Nat.strongRecOn with
    | _ N ih =>
    intro i x Si y9 hMs h4_0 h4_1
    subst h4_0
    obtain ⟨hBi, hIi, hKi, ⟨t, htv, ht⟩, hlr⟩ := h4_1
    subst htv
    refine k_iload_n X (q := 0) dX9_exact_4 rfl rfl ?_
    refine k_aload_n X (q := 2) dX9_exact_5 rfl rfl ?_
    refine gX9_32s X (S := Si) (st_6 hIi.st).1 (st_6 hIi.st).2 (sr_6_0 hIi.st) dX9_exact_6 ?_
    refine gX9_94s X (S := Si) (st_1 hIi.st).1 (st_1 hIi.st).2 (sr_1_12 hIi.st) dX9_exact_9 ?_
    refine k_gotI X (vX9_97 X (S := Si) ⟨(st_10 hIi.st).1, (st_10 hIi.st).2⟩ (c_Jx4a65c_size_8abf5 C.l C.e0 Si (A 10) (st_10 hIi.st)) (As := []) (rest := [.int (nI i)]) rfl rfl rfl rfl ⟨Nat.le_of_ble_eq_true rfl, Nat.le_of_ble_eq_true rfl⟩ (Nat.le_of_ble_eq_true rfl) ⟨Nat.le_of_ble_eq_true rfl, Nat.le_of_ble_eq_true rfl⟩ dX9_exact_12) (fun v_12_2 S_12_3 h_12_0 => ?_)
    obtain ⟨rfl, ev_12_2⟩ := h_12_0
    have hz_v_12_2 : nI n = v_12_2 := by rw [ev_12_2]; exact (hIi.hC).2.1.symm
    subst hz_v_12_2
    refine k_icmp_ge (tgt := 117) X dX9_exact_15 (by decide) (fun c_15 => ?_) (fun c_15 => ?_)
    · skip
      have hin : n = i := by have := ge_of_le c_15 (by omega); omega
      subst hin
      exact k_vret X E dX9_exact_117 (Nat.le_of_ble_eq_true rfl) (Nat.le_of_ble_eq_true rfl) (⟨hIi.mono (by omega) (by omega) (by omega), hKi⟩)
    · skip
      have hlti : i < n := lt_of_nle c_15 (by omega)
      refine k_iload_n X (q := 1) dX9_exact_18 rfl rfl ?_
      refine k_aload_n X (q := 2) dX9_exact_19 rfl rfl ?_
      refine gX9_12s X (S := Si) (st_6 hIi.st).1 (st_6 hIi.st).2 (sr_6_3 hIi.st) dX9_exact_20 ?_
      refine k_gotI X (vX9_97 X (S := Si) ⟨(st_23 hIi.st).1, (st_23 hIi.st).2⟩ (c_Jx4a65c_size_8abf5 C.l C.e0 Si (A 23) (st_23 hIi.st)) (As := []) (rest := [.int (nI t)]) rfl rfl rfl rfl ⟨Nat.le_of_ble_eq_true rfl, Nat.le_of_ble_eq_true rfl⟩ (Nat.le_of_ble_eq_true rfl) ⟨Nat.le_of_ble_eq_true rfl, Nat.le_of_ble_eq_true rfl⟩ dX9_exact_23) (fun v_23_5 S_23_6 h_23_3 => ?_)
      obtain ⟨rfl, ev_23_5⟩ := h_23_3
      have hz_v_23_5 : nI mr = v_23_5 := by rw [ev_23_5]; exact (hlr).2.1.symm
      subst hz_v_23_5
      refine k_icmp_ge (tgt := 117) X dX9_exact_26 (by decide) (fun c_26 => ?_) (fun c_26 => ?_)
      · skip
        exact k_vret X E dX9_exact_117 (Nat.le_of_ble_eq_true rfl) (Nat.le_of_ble_eq_true rfl) (⟨hIi.mono (by omega) (by omega) (by omega), hKi⟩)
      · skip
        have htm : t < mr := lt_of_nle c_26 (by omega)
        refine k_aload_n X (q := 2) dX9_exact_29 rfl rfl ?_
        refine gX9_32s X (S := Si) (st_6 hIi.st).1 (st_6 hIi.st).2 (sr_6_0 hIi.st) dX9_exact_30 ?_
        refine gX9_94s X (S := Si) (st_1 hIi.st).1 (st_1 hIi.st).2 (sr_1_12 hIi.st) dX9_exact_33 ?_
        refine k_iload_n X (q := 0) dX9_exact_36 rfl rfl ?_
        refine k_gotQ X (vX9_53 X (S := Si) ⟨(st_10 hIi.st).1, (st_10 hIi.st).2⟩ (c_Jx4a65c_get_915e3 C.l C.e0 Si (A 10) 1 n i cz (hIi.hC) hlti) (As := [.int (nI i)]) (rest := []) rfl rfl rfl rfl ⟨Nat.le_of_ble_eq_true rfl, Nat.le_of_ble_eq_true rfl⟩ (Nat.le_of_ble_eq_true rfl) ⟨Nat.le_of_ble_eq_true rfl, Nat.le_of_ble_eq_true rfl⟩ dX9_exact_37) (fun r_37_8 S_37_9 h_37_6 => ?_)
        obtain ⟨rfl, er_37_8⟩ := h_37_6
        subst er_37_8
        refine tX9_57 X (S := Si) ⟨(kLs.el (hIi.hC) hlti).1, (kLs.el (hIi.hC) hlti).2⟩ dX9_exact_40 ?_
        refine k_astore_n X [(3, .ref (cz i)), (2, .int (nI i)), (1, .int (nI t)), (0, .ref (A 6))] dX9_exact_43 rfl (by decide) rfl ?_
        refine k_aload_n X (q := 0) dX9_exact_44 rfl rfl ?_
        refine k_gotI X (vX9_111 X (S := Si) ⟨(kLs.el (hIi.hC) hlti).1, (kLs.el (hIi.hC) hlti).2⟩ (c_X1_isFullOrOut C.l C.e0 Si (cz i) (kLs.el (hIi.hC) hlti)) (As := []) (rest := []) rfl rfl rfl rfl ⟨Nat.le_of_ble_eq_true rfl, Nat.le_of_ble_eq_true rfl⟩ (Nat.le_of_ble_eq_true rfl) ⟨Nat.le_of_ble_eq_true rfl, Nat.le_of_ble_eq_true rfl⟩ dX9_exact_45) (fun v_45_11 S_45_12 h_45_9 => ?_)
        obtain ⟨rfl, ev_45_11⟩ := h_45_9
        refine k_if_eq (tgt := 111) X dX9_exact_48 (by decide) (fun c_48 => ?_) (fun c_48 => ?_)
        · skip
          rw [ev_45_11] at c_48
          obtain ⟨v_111_13, ev_111_13⟩ : ∃ z : Int32, z = (nI i) + 1 := ⟨_, rfl⟩
          refine k_iinc X (q := 1) (v := v_111_13) [(2, .int v_111_13), (3, .ref (cz i)), (1, .int (nI t)), (0, .ref (A 6))] dX9_exact_111 rfl (by rw [ev_111_13]; rfl) (by decide) rfl ?_
          refine k_goto (tgt := 4) X dX9_exact_114 (by decide) ?_
          refine k_lv [0, 2, 3] _ rfl ?_
          exact ih (n - (i + 1)) (by omega) (i + 1) _ _ _ rfl (by rw [ev_111_13, nI_1]) ⟨by omega, hIi.mono (by omega) (by omega) (by omega), hKi, ⟨t, rfl, ht⟩, hlr⟩
        · skip
          rw [ev_45_11] at c_48
          refine k_aload_n X (q := 0) dX9_exact_51 rfl rfl ?_
          refine k_gotI X (vX9_114 X (S := Si) ⟨(kLs.el (hIi.hC) hlti).1, (kLs.el (hIi.hC) hlti).2⟩ (c_X1_isRich C.l C.e0 Si (cz i) (kLs.el (hIi.hC) hlti)) (As := []) (rest := []) rfl rfl rfl rfl ⟨Nat.le_of_ble_eq_true rfl, Nat.le_of_ble_eq_true rfl⟩ (Nat.le_of_ble_eq_true rfl) ⟨Nat.le_of_ble_eq_true rfl, Nat.le_of_ble_eq_true rfl⟩ dX9_exact_52) (fun v_52_15 S_52_16 h_52_13 => ?_)
          obtain ⟨rfl, ev_52_15⟩ := h_52_13
          refine k_if_eq (tgt := 111) X dX9_exact_55 (by decide) (fun c_55 => ?_) (fun c_55 => ?_)
          · skip
            rw [ev_52_15] at c_55
            obtain ⟨v_111_17, ev_111_17⟩ : ∃ z : Int32, z = (nI i) + 1 := ⟨_, rfl⟩
            refine k_iinc X (q := 1) (v := v_111_17) [(2, .int v_111_17), (3, .ref (cz i)), (1, .int (nI t)), (0, .ref (A 6))] dX9_exact_111 rfl (by rw [ev_111_17]; rfl) (by decide) rfl ?_
            refine k_goto (tgt := 4) X dX9_exact_114 (by decide) ?_
            refine k_lv [0, 2, 3] _ rfl ?_
            exact ih (n - (i + 1)) (by omega) (i + 1) _ _ _ rfl (by rw [ev_111_17, nI_1]) ⟨by omega, hIi.mono (by omega) (by omega) (by omega), hKi, ⟨t, rfl, ht⟩, hlr⟩
          · skip
            rw [ev_52_15] at c_55
            refine k_aload_n X (q := 3) dX9_exact_58 rfl rfl ?_
            refine k_aload_n X (q := 0) dX9_exact_59 rfl rfl ?_
            refine k_gotI X (vX9_107 X (S := Si) ⟨(st_6 hIi.st).1, (st_6 hIi.st).2⟩ (c_X9_isRuler C.l C.e0 Si (cz i) A hIi.st mr xr (hlr) (by omega)) (As := [.ref (cz i)]) (rest := []) rfl rfl rfl rfl ⟨Nat.le_of_ble_eq_true rfl, Nat.le_of_ble_eq_true rfl⟩ (Nat.le_of_ble_eq_true rfl) ⟨Nat.le_of_ble_eq_true rfl, Nat.le_of_ble_eq_true rfl⟩ dX9_exact_60) (fun v_60_19 S_60_20 h_60_17 => ?_)
            obtain ⟨rfl, ev_60_19⟩ := h_60_17
            refine k_if_ne (tgt := 111) X dX9_exact_63 (by decide) (fun c_63 => ?_) (fun c_63 => ?_)
            · skip
              rw [ev_60_19] at c_63
              obtain ⟨v_111_21, ev_111_21⟩ : ∃ z : Int32, z = (nI i) + 1 := ⟨_, rfl⟩
              refine k_iinc X (q := 1) (v := v_111_21) [(2, .int v_111_21), (3, .ref (cz i)), (1, .int (nI t)), (0, .ref (A 6))] dX9_exact_111 rfl (by rw [ev_111_21]; rfl) (by decide) rfl ?_
              refine k_goto (tgt := 4) X dX9_exact_114 (by decide) ?_
              refine k_lv [0, 2, 3] _ rfl ?_
              exact ih (n - (i + 1)) (by omega) (i + 1) _ _ _ rfl (by rw [ev_111_21, nI_1]) ⟨by omega, hIi.mono (by omega) (by omega) (by omega), hKi, ⟨t, rfl, ht⟩, hlr⟩
            · skip
              rw [ev_60_19] at c_63
              have hnr : ∀ t, t < mr → ¬ xr t = cz i := fun t ht => by have h3 := kff_no mr (kb_none c_63) t ht; simpa using h3
              refine k_aload_n X (q := 3) dX9_exact_66 rfl rfl ?_
              refine gX9_12s X (S := Si) (st_6 hIi.st).1 (st_6 hIi.st).2 (sr_6_3 hIi.st) dX9_exact_67 ?_
              refine k_iload_n X (q := 2) dX9_exact_70 rfl rfl ?_
              refine k_gotQ X (vX9_53 X (S := Si) ⟨(st_23 hIi.st).1, (st_23 hIi.st).2⟩ (c_Jx4a65c_get_915e3 C.l C.e0 Si (A 23) 1 mr t xr (hlr) htm) (As := [.int (nI t)]) (rest := []) rfl rfl rfl rfl ⟨Nat.le_of_ble_eq_true rfl, Nat.le_of_ble_eq_true rfl⟩ (Nat.le_of_ble_eq_true rfl) ⟨Nat.le_of_ble_eq_true rfl, Nat.le_of_ble_eq_true rfl⟩ dX9_exact_71) (fun r_71_23 S_71_24 h_71_21 => ?_)
              obtain ⟨rfl, er_71_23⟩ := h_71_21
              subst er_71_23
              refine tX9_57 X (S := Si) ⟨(kLs.el (hlr) htm).1, (kLs.el (hlr) htm).2⟩ dX9_exact_74 ?_
              obtain ⟨j, hj, hxj⟩ := hxr t htm
              rw [hxj]
              have hij : ¬ i = j := fun e => hnr t htm (by rw [hxj, e])
              refine k_dup X dX9_exact_77 rfl ?_
              refine gX9_101 X (S := Si) (hIi.at hj).1 (hIi.at hj).2 dX9_exact_78 (fun v_78_25 ev_78_25 => ?_)
              refine k_aload_n X (q := 0) dX9_exact_81 rfl rfl ?_
              refine k_iconst X (v := 5) dX9_exact_82 (by decide) ?_
              refine k_gotI X (vX9_117 X (S := Si) ⟨(kLs.el (hIi.hC) hlti).1, (kLs.el (hIi.hC) hlti).2⟩ (c_X1_give C.l C.e0 Si (cz i) 5  ⟨(kLs.el (hIi.hC) hlti).1, (kLs.el (hIi.hC) hlti).2⟩) (As := [.int 5]) (rest := [.int v_78_25, .ref (cz j)]) rfl rfl rfl rfl ⟨Nat.le_of_ble_eq_true rfl, Nat.le_of_ble_eq_true rfl⟩ (Nat.le_of_ble_eq_true rfl) ⟨Nat.le_of_ble_eq_true rfl, Nat.le_of_ble_eq_true rfl⟩ dX9_exact_83) (fun v_83_27 S_83_28 h_83_25 => ?_)
              obtain ⟨rfl, ev_83_27⟩ := h_83_25
              refine k_iadd X dX9_exact_86 (fun v_86_29 ev_86_29 => ?_)
              refine pX9_101 X (S := (kgive Si (cz i) 5)) (hIi.at hj).1 (hIi.at hj).2 dX9_exact_87 ?_
              obtain ⟨w1, w2, w3⟩ := hIi.w0 hj
              obtain ⟨x1, x2, x3⟩ := hIi.w0 hlti
              have x4 := kWe_ge n (fun i hi => (hIi.ci hi).2.1)
              obtain ⟨-, -, m3, -, m5⟩ := hIi.my
              have q5 : (5 : Int32).toInt = 5 := rfl
              have hp : 0 ≤ (kmin (Si.I (cz i) 4) 5).toInt := by
                rcases (kmin_i (Si.I (cz i) 4) 5).2.2 with e | e
                · rw [e]; exact x1
                · rw [e, q5]; omega
              have hp2 := (kmin_i (Si.I (cz i) 4) 5).1
              have hp3 := (kmin_i (Si.I (cz i) 4) 5).2.1
              have hq1 : (Si.I (cz i) 4 - kmin (Si.I (cz i) 4) 5).toInt = (Si.I (cz i) 4).toInt - (kmin (Si.I (cz i) 4) 5).toInt := i_sub (by omega) (by omega)
              have hq2 : (v_86_29).toInt = (Si.I (cz j) 4).toInt + (kmin (Si.I (cz i) 4) 5).toInt := by rw [ev_86_29, ev_78_25, ev_83_27]; exact i_add (by omega) (by omega)
              have hlr2 : kLs C.e0 ((kgive Si (cz i) 5).uI (cz j) 4 v_86_29) (A 23) 1 mr xr := by unfold kgive; exact (hlr.uI (κb := 1) (hIi.at hlti) (by decide)).uI (κb := 1) (hIi.at hj) (by decide)
              obtain ⟨hI_30, hx_30⟩ := hIi.two hlti hj hij (v := Si.I (cz i) 4 - kmin (Si.I (cz i) 4) 5) (w := v_86_29) (by omega) (by omega) (by omega)
              have hK_30 := (hKi).tr hx_30
              refine k_iload_n X (q := 2) dX9_exact_90 rfl rfl ?_
              refine k_iconst X (v := 1) dX9_exact_91 (by decide) ?_
              refine k_iadd X dX9_exact_92 (fun v_92_31 ev_92_31 => ?_)
              refine k_aload_n X (q := 3) dX9_exact_93 rfl rfl ?_
              refine gX9_12s X (S := ((kgive Si (cz i) 5).uI (cz j) 4 v_86_29)) (st_6 hI_30.st).1 (st_6 hI_30.st).2 (sr_6_3 hI_30.st) dX9_exact_94 ?_
              refine k_gotI X (vX9_97 X (S := ((kgive Si (cz i) 5).uI (cz j) 4 v_86_29)) ⟨(st_23 hI_30.st).1, (st_23 hI_30.st).2⟩ (c_Jx4a65c_size_8abf5 C.l C.e0 ((kgive Si (cz i) 5).uI (cz j) 4 v_86_29) (A 23) (st_23 hI_30.st)) (As := []) (rest := [.int v_92_31]) rfl rfl rfl rfl ⟨Nat.le_of_ble_eq_true rfl, Nat.le_of_ble_eq_true rfl⟩ (Nat.le_of_ble_eq_true rfl) ⟨Nat.le_of_ble_eq_true rfl, Nat.le_of_ble_eq_true rfl⟩ dX9_exact_97) (fun v_97_33 S_97_34 h_97_31 => ?_)
              obtain ⟨rfl, ev_97_33⟩ := h_97_31
              have hz_v_97_33 : nI mr = v_97_33 := by rw [ev_97_33]; exact (hlr2).2.1.symm
              subst hz_v_97_33
              refine k_icmp_ge (tgt := 109) X dX9_exact_100 (by decide) (fun c_100 => ?_) (fun c_100 => ?_)
              · skip
                refine k_iconst X (v := 0) dX9_exact_109 (by decide) ?_
                refine k_istore_n X [(1, .int 0), (3, .ref (cz i)), (2, .int (nI i)), (0, .ref (A 6))] dX9_exact_110 rfl (by decide) rfl ?_
                obtain ⟨v_111_35, ev_111_35⟩ : ∃ z : Int32, z = (nI i) + 1 := ⟨_, rfl⟩
                refine k_iinc X (q := 2) (v := v_111_35) [(2, .int v_111_35), (1, .int 0), (3, .ref (cz i)), (0, .ref (A 6))] dX9_exact_111 rfl (by rw [ev_111_35]; rfl) (by decide) rfl ?_
                refine k_goto (tgt := 4) X dX9_exact_114 (by decide) ?_
                refine k_lv [0, 1, 3] _ rfl ?_
                exact ih (n - (i + 1)) (by omega) (i + 1) _ _ _ rfl (by rw [ev_111_35, nI_1]) ⟨by omega, hI_30.mono (by omega) (by omega) (by omega), hK_30, ⟨0, nI_0.symm, by omega⟩, hlr2⟩
              · skip
                refine k_iload_n X (q := 2) dX9_exact_103 rfl rfl ?_
                refine k_iconst X (v := 1) dX9_exact_104 (by decide) ?_
                refine k_iadd X dX9_exact_105 (fun v_105_36 ev_105_36 => ?_)
                refine k_goto (tgt := 110) X dX9_exact_106 (by decide) ?_
                refine k_istore_n X [(1, .int v_105_36), (3, .ref (cz i)), (2, .int (nI i)), (0, .ref (A 6))] dX9_exact_110 rfl (by decide) rfl ?_
                obtain ⟨v_111_37, ev_111_37⟩ : ∃ z : Int32, z = (nI i) + 1 := ⟨_, rfl⟩
                refine k_iinc X (q := 2) (v := v_111_37) [(2, .int v_111_37), (1, .int v_105_36), (3, .ref (cz i)), (0, .ref (A 6))] dX9_exact_111 rfl (by rw [ev_111_37]; rfl) (by decide) rfl ?_
                refine k_goto (tgt := 4) X dX9_exact_114 (by decide) ?_
                refine k_lv [0, 1, 3] _ rfl ?_
                exact ih (n - (i + 1)) (by omega) (i + 1) _ _ _ rfl (by rw [ev_111_37, nI_1]) ⟨by omega, hI_30.mono (by omega) (by omega) (by omega), hK_30, ⟨t + 1, by rw [ev_105_36, nI_1], by omega⟩, hlr2⟩
  refine k_lv [0, 1, 2] _ rfl ?_
  exact L_4 _ 0 0 _ _ rfl nI_0.symm ⟨by omega, h.mono (by omega) (by omega) (by omega), kKe.rf, ⟨0, nI_0.symm, by omega⟩, hL0⟩
set_option maxHeartbeats 1000000 in
set_option maxRecDepth 20000 in
theorem c_X9_overthrow (l : Launch) (e0 : Nat × Nat) (S : kS)  (A : Nat → Nat) (n : Nat) (cz : Nat → Nat) (T G Z : Nat) (h : kI e0 A n cz T G Z S)  (hb : T + 7 ≤ 900000 ∧ G + 7 ≤ 60000 ∧ Z + 0 ≤ 150000) : kM l e0 yX9_overthrow cX9_overthrow 3 none ({ frames := 7, cells := 3, slots := 219, locals := 191 } : Room) 3 219 [.ref (A 6)] S (kQv (fun S9 => kI e0 A n cz (T + 7) (G + 7) (Z + 0) S9 ∧ kKe A S S9)) := by
  refine kMetE (by decide +kernel) (Nat.le_of_ble_eq_true rfl) (fun C he hl X E hm => ?_)
  have X : kX C RX9 cX9_overthrow 3 ({ frames := 7, cells := 3, slots := 219, locals := 191 } : Room) := X
  subst he hl
  show kG C 3 S 0 0 0 [(0, .ref (A 6))] []
  have hn := h.n40
  refine k_aload_n X (q := 0) dX9_overthrow_0 rfl rfl ?_
  refine gX9_32s X (S := S) (st_6 h.st).1 (st_6 h.st).2 (sr_6_0 h.st) dX9_overthrow_1 ?_
  refine k_iconst X (v := 0) dX9_overthrow_4 (by decide) ?_
  refine pX9_59 X (S := S) (st_1 h.st).1 (st_1 h.st).2 (Or.inl rfl) dX9_overthrow_5 ?_
  obtain ⟨hI_1, hx_1⟩ := h.fre (v := 0) (Or.inl rfl)
  have hK_1 := (kKe.rf).tr hx_1
  refine k_aload_n X (q := 0) dX9_overthrow_8 rfl rfl ?_
  refine gX9_32s X (S := (S.uI (A 1) 1 0)) (st_6 hI_1.st).1 (st_6 hI_1.st).2 (sr_6_0 hI_1.st) dX9_overthrow_9 ?_
  refine k_gotV X (vX9_72 X (S := (S.uI (A 1) 1 0)) ⟨(st_1 hI_1.st).1, (st_1 hI_1.st).2⟩ (c_X2_dissolveCouncil C.l C.e0 (S.uI (A 1) 1 0)  A n cz _ _ _ hI_1  (by omega)) (As := []) (rest := []) rfl rfl rfl rfl ⟨Nat.le_of_ble_eq_true rfl, Nat.le_of_ble_eq_true rfl⟩ (Nat.le_of_ble_eq_true rfl) ⟨(by show _ ≤ 3; omega), (by show _ ≤ 219; omega)⟩ dX9_overthrow_12) (fun S_12_3 h_12_1 => ?_)
  obtain ⟨hI_4, hx_4, hm_4⟩ := h_12_1
  have hK_4 := (hK_1).tr hx_4
  refine k_aload_n X (q := 0) dX9_overthrow_15 rfl rfl ?_
  refine gX9_32s X (S := S_12_3) (st_6 hI_4.st).1 (st_6 hI_4.st).2 (sr_6_0 hI_4.st) dX9_overthrow_16 ?_
  refine k_gotV X (vX9_75 X (S := S_12_3) ⟨(st_1 hI_4.st).1, (st_1 hI_4.st).2⟩ (c_X2_emptyOffices C.l C.e0 S_12_3  A n cz _ _ _ hI_4  (by omega)) (As := []) (rest := []) rfl rfl rfl rfl ⟨Nat.le_of_ble_eq_true rfl, Nat.le_of_ble_eq_true rfl⟩ (Nat.le_of_ble_eq_true rfl) ⟨(by show _ ≤ 3; omega), (by show _ ≤ 219; omega)⟩ dX9_overthrow_19) (fun S_19_6 h_19_4 => ?_)
  obtain ⟨hI_7, hx_7⟩ := h_19_4
  have hK_7 := (hK_4).tr hx_7
  refine k_aload_n X (q := 0) dX9_overthrow_22 rfl rfl ?_
  refine gX9_36s X (S := S_19_6) (st_6 hI_7.st).1 (st_6 hI_7.st).2 (sr_6_1 hI_7.st) dX9_overthrow_23 ?_
  refine gX9_78s X (S := S_19_6) (st_4 hI_7.st).1 (st_4 hI_7.st).2 (sr_4_2 hI_7.st) dX9_overthrow_26 ?_
  obtain ⟨m18, xs18, hL18, -, -⟩ := hI_7.ml.1
  refine k_gotV X (vX9_83 X (S := S_19_6) ⟨(st_18 hI_7.st).1, (st_18 hI_7.st).2⟩ (c_Jx4a65c_clear_da8c8 C.l C.e0 S_19_6 (A 18) 7 m18 xs18 hL18) (As := []) (rest := []) rfl rfl rfl rfl ⟨Nat.le_of_ble_eq_true rfl, Nat.le_of_ble_eq_true rfl⟩ (Nat.le_of_ble_eq_true rfl) ⟨(by show _ ≤ 3; omega), (by show _ ≤ 219; omega)⟩ dX9_overthrow_29) (fun S_29_9 h_29_7 => ?_)
  obtain ⟨hf18, hl18, -⟩ := h_29_7
  rw [so_18 hI_7.st] at hf18
  obtain ⟨hI_10, hx_10⟩ := hI_7.frM (r := 18) (by omega) (hf18.go (fun b hb z j => by unfold kRo at z; omega)) ⟨0, _, hl18, by omega, fun t ht => absurd ht (by omega)⟩
  have hK_10 := (hK_7).tr hx_10
  refine k_iconst X (v := 0) dX9_overthrow_32 (by decide) ?_
  refine k_istore_n X [(1, .int 0), (0, .ref (A 6))] dX9_overthrow_33 rfl (by decide) rfl ?_
  refine k_room (k' := 0 + 1 * 0) (n' := 0 + 73 * 0) (by omega) (by omega) ?_
  have L_34 : ∀ (N : Nat) (i : Nat) (x : Int32) (Si : kS), 3 - i = N → x = nI i → (i ≤ 3 ∧ kI C.e0 A n cz T G Z Si ∧ kKe A S Si) → kG C 3 Si (0 + 1 * i) (0 + 73 * i) 34 [(1, .int x), (0, .ref (A 6))] [] := by
    intro N
    induction N using Nat.strongRecOn with
    | _ N ih =>
    intro i x Si hMs h34_0 h34_1
    subst h34_0
    obtain ⟨hBi, hIi, hKi⟩ := h34_1
    obtain ⟨mr, xr, hLr, hxr, hdr⟩ := hIi.ru
    obtain ⟨cr, hlr⟩ := hLr.c
    have hmr := kdis_le hxr hdr
    refine k_iload_n X (q := 0) dX9_overthrow_34 rfl rfl ?_
    refine k_iconst X (v := 3) dX9_overthrow_35 (by decide) ?_
    refine k_icmp_ge (tgt := 63) X dX9_overthrow_36 (by decide) (fun c_36 => ?_) (fun c_36 => ?_)
    · skip
      have hin : 3 = i := by have := ge_of_le (m := 3) c_36 (by omega); omega
      subst hin
      exact k_vret X E dX9_overthrow_63 (by show _ ≤ 3; omega) (by show _ ≤ 219; omega) (⟨hIi.mono (by omega) (by omega) (by omega), hKi⟩)
    · skip
      have hlti : i < 3 := lt_of_nle (m := 3) c_36 (by omega)
      refine k_aload_n X (q := 1) dX9_overthrow_39 rfl rfl ?_
      refine k_gotQ X (vX9_86 X (S := Si) ⟨(st_6 hIi.st).1, (st_6 hIi.st).2⟩ (c_X9_richestBehind C.l C.e0 Si  A n cz hIi.st hIi.hC hn mr xr (hLr) (by omega)) (As := []) (rest := []) rfl rfl rfl rfl ⟨Nat.le_of_ble_eq_true rfl, Nat.le_of_ble_eq_true rfl⟩ (Nat.le_of_ble_eq_true rfl) ⟨(by show _ ≤ 3; omega), (by show _ ≤ 219; omega)⟩ dX9_overthrow_40) (fun r_40_12 S_40_13 h_40_10 => ?_)
      obtain ⟨rfl, hrb40⟩ := h_40_10
      refine k_astore_nQ X [(2, va_rf r_40_12), (1, .int (nI i)), (0, .ref (A 6))] dX9_overthrow_43 rfl (by decide) rfl ?_
      refine k_aload_nQ X (q := 0) dX9_overthrow_44 rfl rfl ?_
      refine k_ifnull (tgt := 57) X dX9_overthrow_45 (by decide) (fun c_45 => ?_) (fun a_45_14 c_45 => ?_)
      · skip
        subst c_45
        obtain ⟨v_57_15, ev_57_15⟩ : ∃ z : Int32, z = (nI i) + 1 := ⟨_, rfl⟩
        refine k_iinc X (q := 1) (v := v_57_15) [(1, .int v_57_15), (2, .null), (0, .ref (A 6))] dX9_overthrow_57 rfl (by rw [ev_57_15]; rfl) (by decide) rfl ?_
        refine k_goto (tgt := 34) X dX9_overthrow_60 (by decide) ?_
        refine k_lv [0, 2] _ rfl ?_
        refine k_room (k' := 0 + 1 * (i + 1)) (n' := 0 + 73 * (i + 1)) (by omega) (by omega) ?_
        exact ih (3 - (i + 1)) (by omega) (i + 1) _ _ rfl (by rw [ev_57_15, nI_1]) ⟨by omega, hIi.mono (by omega) (by omega) (by omega), hKi⟩
      · skip
        subst c_45
        obtain ⟨z, hz, hzz, hnz⟩ : ∃ z, z < n ∧ a_45_14 = cz z ∧ ∀ t, t < mr → ¬ xr t = cz z := by
          rcases hrb40 with z | ⟨z, z1, z2, z3⟩
          · cases z
          · exact ⟨z, z1, Option.some.inj z2, z3⟩
        subst hzz
        refine k_aload_n X (q := 2) dX9_overthrow_48 rfl rfl ?_
        refine gX9_12s X (S := Si) (st_6 hIi.st).1 (st_6 hIi.st).2 (sr_6_3 hIi.st) dX9_overthrow_49 ?_
        refine k_aload_n X (q := 0) dX9_overthrow_52 rfl rfl ?_
        have hkm9 := kmc_le cr mr
        have hks9 := kms_le hlr.cap (by omega)
        refine k_gotI X (vX9_90 X (S := Si) ⟨(st_23 hIi.st).1, (st_23 hIi.st).2⟩ (c_Jx4a65c_add_9ea2d C.l C.e0 Si (A 23) 1 mr cr (cz z) xr kEl_1 hlr (hIi.at hz) (by omega)) (As := [.ref (cz z)]) (rest := []) rfl rfl rfl rfl ⟨Nat.le_of_ble_eq_true rfl, Nat.le_of_ble_eq_true rfl⟩ (Nat.le_of_ble_eq_true rfl) ⟨(by show _ ≤ 3; omega), (by show _ ≤ 219; omega)⟩ dX9_overthrow_53) (fun v_53_17 S_53_18 h_53_15 => ?_)
        obtain ⟨-, hfa, hla⟩ := h_53_15
        rw [so_23 hIi.st] at hfa
        obtain ⟨hI_19, hx_19⟩ := hIi.frU hfa ⟨mr + 1, _, hla.s, va_up_in (Q := fun x => ∃ j, j < n ∧ x = cz j) hxr ⟨z, hz, rfl⟩, kdis_up hdr hnz⟩
        have hK_19 := (hKi).tr hx_19
        refine k_pop X dX9_overthrow_56 rfl ?_
        obtain ⟨v_57_20, ev_57_20⟩ : ∃ z : Int32, z = (nI i) + 1 := ⟨_, rfl⟩
        refine k_iinc X (q := 1) (v := v_57_20) [(1, .int v_57_20), (2, .ref (cz z)), (0, .ref (A 6))] dX9_overthrow_57 rfl (by rw [ev_57_20]; rfl) (by decide) rfl ?_
        refine k_goto (tgt := 34) X dX9_overthrow_60 (by decide) ?_
        refine k_lv [0, 2] _ rfl ?_
        refine k_room (k' := 0 + 1 * (i + 1)) (n' := 0 + 73 * (i + 1)) (by omega) (by omega) ?_
        exact ih (3 - (i + 1)) (by omega) (i + 1) _ _ rfl (by rw [ev_57_20, nI_1]) ⟨by omega, hI_19.mono (by omega) (by omega) (by omega), hK_19⟩
  refine k_lv [0, 1] _ rfl ?_
  exact L_34 _ 0 0 _ rfl nI_0.symm ⟨by omega, hI_10.mono (by omega) (by omega) (by omega), hK_10⟩
set_option maxHeartbeats 1000000 in
set_option maxRecDepth 20000 in
theorem c_X9_exileOneOf (l : Launch) (e0 : Nat × Nat) (S : kS) (x1 : Int32) (A : Nat → Nat) (n : Nat) (cz : Nat → Nat) (T G Z : Nat) (h : kI e0 A n cz T G Z S)  (hb : T + 1 ≤ 900000 ∧ G + 0 ≤ 60000 ∧ Z + 0 ≤ 150000) : kM l e0 yX9_exileOneOf cX9_exileOneOf 4 none ({ frames := 7, cells := 6, slots := 202, locals := 191 } : Room) 6 202 [.ref (A 6), .int x1] S (kQv (fun S9 => kI e0 A n cz (T + 1) (G + 0) (Z + 0) S9 ∧ kKe A S S9)) := by
  refine kMetE (by decide +kernel) (Nat.le_of_ble_eq_true rfl) (fun C he hl X E hm => ?_)
  have X : kX C RX9 cX9_exileOneOf 4 ({ frames := 7, cells := 6, slots := 202, locals := 191 } : Room) := X
  subst he hl
  show kG C 4 S 0 0 0 [(0, .ref (A 6)), (1, .int x1)] []
  have hn := h.n40
  refine k_aload_n X (q := 0) dX9_exileOneOf_0 rfl rfl ?_
  refine gX9_18s X (S := S) (st_6 h.st).1 (st_6 h.st).2 (sr_6_4 h.st) dX9_exileOneOf_1 ?_
  obtain ⟨m_1, xs_1, hL_1, -, -⟩ := h.cl (r := 24) (by unfold clR; omega)
  refine k_gotV X (vX9_83 X (S := S) ⟨(st_24 h.st).1, (st_24 h.st).2⟩ (c_Jx4a65c_clear_da8c8 C.l C.e0 S (A 24) 1 m_1 xs_1 hL_1) (As := []) (rest := []) rfl rfl rfl rfl ⟨Nat.le_of_ble_eq_true rfl, Nat.le_of_ble_eq_true rfl⟩ (Nat.le_of_ble_eq_true rfl) ⟨(by show _ ≤ 6; first | omega | (have := lev_le c; omega)), (by show _ ≤ 202; first | omega | (have := lev_le c; omega))⟩ dX9_exileOneOf_4) (fun S_4_3 h_4_1 => ?_)
  obtain ⟨hfc_1, hls_1, -⟩ := h_4_1
  rw [so_24 h.st] at hfc_1
  obtain ⟨cc_1, hlc_1⟩ := hls_1.c
  obtain ⟨hI_4, hx_4⟩ := h.frC (r := 24) (by unfold clR; omega) hfc_1 ⟨0, _, hls_1, by omega, fun t ht => absurd ht (by omega)⟩ (by omega)
  have hK_4 := (kKe.rf).tr hx_4
  refine k_iconst X (v := 0) dX9_exileOneOf_7 (by decide) ?_
  refine k_istore_n X [(2, .int 0), (0, .ref (A 6)), (1, .int x1)] dX9_exileOneOf_8 rfl (by decide) rfl ?_
  obtain ⟨Q, hQ⟩ : ∃ Q : Nat → Prop, Q = fun j => True := ⟨_, rfl⟩
  refine k_room (k' := 0 + lev cc_1) (n' := 0 + slv cc_1) (by omega) (by omega) ?_
  have L_9 : ∀ (N : Nat) (i : Nat) (x : Int32) (Si : kS) (m : Nat) (xs : Nat → Nat) (c : Nat), n - i = N → x = nI i → (i ≤ n ∧ m ≤ i ∧ kFr S_4_3 Si (kRo S_4_3 24) ∧ kLc C.e0 Si (A 24) 1 m xs c ∧ kall n cz Q m xs) → kG C 4 Si (0 + lev c) (0 + slv c) 9 [(2, .int x), (1, .int x1), (0, .ref (A 6))] [] := by
    intro N
    induction N using Nat.strongRecOn with
    | _ N ih =>
    intro i x Si m xs c hMs h9_0 h9_1
    subst h9_0
    obtain ⟨hBi, hmi, hfr, hlc, hal⟩ := h9_1
    have hstI := hI_4.st.frR hfr (by decide)
    have hCI := hI_4.hC.frR (so_10 hI_4.st) hfr (by decide) (by decide) (by decide)
    refine k_iload_n X (q := 0) dX9_exileOneOf_9 rfl rfl ?_
    refine k_aload_n X (q := 2) dX9_exileOneOf_10 rfl rfl ?_
    refine gX9_32s X (S := Si) (st_6 hstI).1 (st_6 hstI).2 (sr_6_0 hstI) dX9_exileOneOf_11 ?_
    refine gX9_94s X (S := Si) (st_1 hstI).1 (st_1 hstI).2 (sr_1_12 hstI) dX9_exileOneOf_14 ?_
    refine k_gotI X (vX9_97 X (S := Si) ⟨(st_10 hstI).1, (st_10 hstI).2⟩ (c_Jx4a65c_size_8abf5 C.l C.e0 Si (A 10) (st_10 hstI)) (As := []) (rest := [.int (nI i)]) rfl rfl rfl rfl ⟨Nat.le_of_ble_eq_true rfl, Nat.le_of_ble_eq_true rfl⟩ (Nat.le_of_ble_eq_true rfl) ⟨(by show _ ≤ 6; first | omega | (have := lev_le c; omega)), (by show _ ≤ 202; first | omega | (have := lev_le c; omega))⟩ dX9_exileOneOf_17) (fun v_17_6 S_17_7 h_17_4 => ?_)
    obtain ⟨rfl, ev_17_6⟩ := h_17_4
    have hz_v_17_6 : nI n = v_17_6 := by rw [ev_17_6]; exact (hCI).2.1.symm
    subst hz_v_17_6
    refine k_icmp_ge (tgt := 68) X dX9_exileOneOf_20 (by decide) (fun c_20 => ?_) (fun c_20 => ?_)
    · skip
      have hin : n = i := by have := ge_of_le c_20 (by omega); omega
      subst hin
      have h8 := lev_le c
      refine k_room (k' := 0 + 6) (n' := 0 + 202) (by omega) (by omega) ?_
      obtain ⟨hI_8, hx_8⟩ := hI_4.frC (r := 24) (by unfold clR; omega) hfr (kall.cl hlc (by omega) hal) (by omega)
      have hK_8 := (hK_4).tr hx_8
      refine k_aload_n X (q := 2) dX9_exileOneOf_68 rfl rfl ?_
      refine gX9_32s X (S := Si) (st_6 hI_8.st).1 (st_6 hI_8.st).2 (sr_6_0 hI_8.st) dX9_exileOneOf_69 ?_
      refine gX9_144s X (S := Si) (st_1 hI_8.st).1 (st_1 hI_8.st).2 (sr_1_11 hI_8.st) dX9_exileOneOf_72 ?_
      refine k_aload_n X (q := 2) dX9_exileOneOf_75 rfl rfl ?_
      refine gX9_18s X (S := Si) (st_6 hI_8.st).1 (st_6 hI_8.st).2 (sr_6_4 hI_8.st) dX9_exileOneOf_76 ?_
      refine k_gotQ X (vX9_148 X (S := Si) ⟨(st_7 hI_8.st).1, (st_7 hI_8.st).2⟩ (c_X6_drawFrom C.l C.e0 Si (A 24) A hI_8.st m c 24 xs hlc (by omega) (so_24 hI_8.st)) (As := [.ref (A 24)]) (rest := []) rfl rfl rfl rfl ⟨Nat.le_of_ble_eq_true rfl, Nat.le_of_ble_eq_true rfl⟩ (Nat.le_of_ble_eq_true rfl) ⟨(by show _ ≤ 6; first | omega | (have := lev_le c; omega)), (by show _ ≤ 202; first | omega | (have := lev_le c; omega))⟩ dX9_exileOneOf_79) (fun r_79_10 S_79_11 h_79_8 => ?_)
      obtain ⟨hdf_79, hvq_79, hfd_79⟩ := hI_8.dfrom (r := 24) (Q := Q) (by unfold clR; omega) hlc (by omega) hal (by omega) (by rcases h_79_8 with z | z | z; exact Or.inl z; exact Or.inr (Or.inl z); exact Or.inr (Or.inr z))
      obtain ⟨hI_12, hx_12⟩ := hdf_79
      have hK_12 := (hK_8).tr hx_12
      refine k_astore_nQ X [(2, va_rf r_79_10), (1, .int x1), (0, .ref (A 6))] dX9_exileOneOf_82 rfl (by decide) rfl ?_
      refine k_aload_nQ X (q := 0) dX9_exileOneOf_83 rfl rfl ?_
      refine k_ifnull (tgt := 96) X dX9_exileOneOf_84 (by decide) (fun c_84 => ?_) (fun a_84_13 c_84 => ?_)
      · skip
        subst c_84
        exact k_vret X E dX9_exileOneOf_96 (by show _ ≤ 6; first | omega | (have := lev_le c; omega)) (by show _ ≤ 202; first | omega | (have := lev_le c; omega)) (⟨hI_12.mono (by omega) (by omega) (by omega), hK_12⟩)
      · skip
        subst c_84
        obtain ⟨j, hj, hjr, hqj⟩ : ∃ j, j < n ∧ a_84_13 = cz j ∧ Q j := by
          rcases hvq_79 with z | ⟨j, z1, z2, z3⟩
          · cases z
          · exact ⟨j, z1, Option.some.inj z2, z3⟩
        subst hjr
        refine k_aload_n X (q := 2) dX9_exileOneOf_87 rfl rfl ?_
        refine gX9_32s X (S := S_79_11) (st_6 hI_12.st).1 (st_6 hI_12.st).2 (sr_6_0 hI_12.st) dX9_exileOneOf_88 ?_
        refine k_aload_n X (q := 0) dX9_exileOneOf_91 rfl rfl ?_
        refine k_iconst X (v := 3) dX9_exileOneOf_92 (by decide) ?_
        refine k_gotV X (vX9_154 X (S := S_79_11) ⟨(st_1 hI_12.st).1, (st_1 hI_12.st).2⟩ (c_X2_sendAway C.l C.e0 S_79_11 3 A n cz j _ _ _ hI_12 hj) (As := [.ref (cz j), .int 3]) (rest := []) rfl rfl rfl rfl ⟨Nat.le_of_ble_eq_true rfl, Nat.le_of_ble_eq_true rfl⟩ (Nat.le_of_ble_eq_true rfl) ⟨(by show _ ≤ 6; first | omega | (have := lev_le c; omega)), (by show _ ≤ 202; first | omega | (have := lev_le c; omega))⟩ dX9_exileOneOf_93) (fun S_93_15 h_93_13 => ?_)
        have hsd_93 := h_93_13
        obtain ⟨hI_16, hx_16⟩ := hI_12.send hj (s := 3) (by omega) hsd_93
        have hK_16 := (hK_12).tr hx_16
        exact k_vret X E dX9_exileOneOf_96 (by show _ ≤ 6; first | omega | (have := lev_le c; omega)) (by show _ ≤ 202; first | omega | (have := lev_le c; omega)) (⟨hI_16.mono (by omega) (by omega) (by omega), hK_16⟩)
    · skip
      have hlti : i < n := lt_of_nle c_20 (by omega)
      have hI9 : ∀ f, Si.I (cz i) f = S_4_3.I (cz i) f := (hfr.2 _ (hI_4.at hlti).1 (fun z => by unfold kRo at z; rw [hI_4.oc i hlti] at z; omega)).1
      have hI1 : ∀ f, Si.I (A 1) f = S_4_3.I (A 1) f := (hfr.2 _ (st_1 hI_4.st).1 (fun z => by unfold kRo at z; rw [so_1 hI_4.st] at z; omega)).1
      refine k_aload_n X (q := 2) dX9_exileOneOf_23 rfl rfl ?_
      refine gX9_32s X (S := Si) (st_6 hstI).1 (st_6 hstI).2 (sr_6_0 hstI) dX9_exileOneOf_24 ?_
      refine gX9_94s X (S := Si) (st_1 hstI).1 (st_1 hstI).2 (sr_1_12 hstI) dX9_exileOneOf_27 ?_
      refine k_iload_n X (q := 0) dX9_exileOneOf_30 rfl rfl ?_
      refine k_gotQ X (vX9_53 X (S := Si) ⟨(st_10 hstI).1, (st_10 hstI).2⟩ (c_Jx4a65c_get_915e3 C.l C.e0 Si (A 10) 1 n i cz (hCI) hlti) (As := [.int (nI i)]) (rest := []) rfl rfl rfl rfl ⟨Nat.le_of_ble_eq_true rfl, Nat.le_of_ble_eq_true rfl⟩ (Nat.le_of_ble_eq_true rfl) ⟨(by show _ ≤ 6; first | omega | (have := lev_le c; omega)), (by show _ ≤ 202; first | omega | (have := lev_le c; omega))⟩ dX9_exileOneOf_31) (fun r_31_18 S_31_19 h_31_16 => ?_)
      obtain ⟨rfl, er_31_18⟩ := h_31_16
      subst er_31_18
      refine tX9_57 X (S := Si) ⟨(kLs.el (hCI) hlti).1, (kLs.el (hCI) hlti).2⟩ dX9_exileOneOf_34 ?_
      refine k_astore_n X [(3, .ref (cz i)), (2, .int (nI i)), (1, .int x1), (0, .ref (A 6))] dX9_exileOneOf_37 rfl (by decide) rfl ?_
      refine k_aload_n X (q := 0) dX9_exileOneOf_38 rfl rfl ?_
      refine k_gotI X (vX9_104 X (S := Si) ⟨(kLs.el (hCI) hlti).1, (kLs.el (hCI) hlti).2⟩ (c_X1_isFull C.l C.e0 Si (cz i) (kLs.el (hCI) hlti)) (As := []) (rest := []) rfl rfl rfl rfl ⟨Nat.le_of_ble_eq_true rfl, Nat.le_of_ble_eq_true rfl⟩ (Nat.le_of_ble_eq_true rfl) ⟨(by show _ ≤ 6; first | omega | (have := lev_le c; omega)), (by show _ ≤ 202; first | omega | (have := lev_le c; omega))⟩ dX9_exileOneOf_39) (fun v_39_21 S_39_22 h_39_19 => ?_)
      obtain ⟨rfl, ev_39_21⟩ := h_39_19
      refine k_if_eq (tgt := 62) X dX9_exileOneOf_42 (by decide) (fun c_42 => ?_) (fun c_42 => ?_)
      · skip
        rw [ev_39_21] at c_42
        obtain ⟨v_62_23, ev_62_23⟩ : ∃ z : Int32, z = (nI i) + 1 := ⟨_, rfl⟩
        refine k_iinc X (q := 1) (v := v_62_23) [(2, .int v_62_23), (3, .ref (cz i)), (1, .int x1), (0, .ref (A 6))] dX9_exileOneOf_62 rfl (by rw [ev_62_23]; rfl) (by decide) rfl ?_
        refine k_goto (tgt := 9) X dX9_exileOneOf_65 (by decide) ?_
        refine k_lv [0, 2, 3] _ rfl ?_
        exact ih (n - (i + 1)) (by omega) (i + 1) _ Si m xs c rfl (by rw [ev_62_23, nI_1]) ⟨by omega, by omega, hfr, hlc, hal⟩
      · skip
        rw [ev_39_21] at c_42
        refine k_aload_n X (q := 0) dX9_exileOneOf_45 rfl rfl ?_
        refine k_iload_n X (q := 2) dX9_exileOneOf_46 rfl rfl ?_
        refine k_gotI X (vX9_140 X (S := Si) ⟨(kLs.el (hCI) hlti).1, (kLs.el (hCI) hlti).2⟩ (c_X1_agrees C.l C.e0 Si (cz i) x1 (kLs.el (hCI) hlti)) (As := [.int x1]) (rest := []) rfl rfl rfl rfl ⟨Nat.le_of_ble_eq_true rfl, Nat.le_of_ble_eq_true rfl⟩ (Nat.le_of_ble_eq_true rfl) ⟨(by show _ ≤ 6; first | omega | (have := lev_le c; omega)), (by show _ ≤ 202; first | omega | (have := lev_le c; omega))⟩ dX9_exileOneOf_47) (fun v_47_25 S_47_26 h_47_23 => ?_)
        obtain ⟨rfl, ev_47_25⟩ := h_47_23
        refine k_if_eq (tgt := 62) X dX9_exileOneOf_50 (by decide) (fun c_50 => ?_) (fun c_50 => ?_)
        · skip
          rw [ev_47_25] at c_50
          obtain ⟨v_62_27, ev_62_27⟩ : ∃ z : Int32, z = (nI i) + 1 := ⟨_, rfl⟩
          refine k_iinc X (q := 1) (v := v_62_27) [(2, .int v_62_27), (3, .ref (cz i)), (1, .int x1), (0, .ref (A 6))] dX9_exileOneOf_62 rfl (by rw [ev_62_27]; rfl) (by decide) rfl ?_
          refine k_goto (tgt := 9) X dX9_exileOneOf_65 (by decide) ?_
          refine k_lv [0, 2, 3] _ rfl ?_
          exact ih (n - (i + 1)) (by omega) (i + 1) _ Si m xs c rfl (by rw [ev_62_27, nI_1]) ⟨by omega, by omega, hfr, hlc, hal⟩
        · skip
          rw [ev_47_25] at c_50
          have hQ9 : Q i := by rw [hQ]; trivial
          refine k_aload_n X (q := 3) dX9_exileOneOf_53 rfl rfl ?_
          refine gX9_18s X (S := Si) (st_6 hstI).1 (st_6 hstI).2 (sr_6_4 hstI) dX9_exileOneOf_54 ?_
          refine k_aload_n X (q := 0) dX9_exileOneOf_57 rfl rfl ?_
          refine k_gotI X (vX9_90 X (S := Si) ⟨(st_24 hstI).1, (st_24 hstI).2⟩ (c_Jx4a65c_add_9ea2d C.l C.e0 Si (A 24) 1 m c (cz i) xs kEl_1 hlc (kLs.el hCI hlti) (by omega)) (As := [.ref (cz i)]) (rest := []) rfl rfl rfl rfl ⟨Nat.le_of_ble_eq_true rfl, Nat.le_of_ble_eq_true rfl⟩ (Nat.le_of_ble_eq_true rfl) ⟨(by show _ ≤ 6; have h9 := lev_add hlc.cap (by omega); have h8 := lev_le (knc c m); omega), (by show _ ≤ 202; have h9 := lev_add hlc.cap (by omega); have h8 := lev_le (knc c m); omega)⟩ dX9_exileOneOf_58) (fun v_58_29 S_58_30 h_58_27 => ?_)
          obtain ⟨-, hfa, hla⟩ := h_58_27
          rw [show Si.O (A 24) = 24 from ((hfr.1 _ (st_24 hI_4.st).1).2.2.1).trans (so_24 hI_4.st)] at hfa
          have hfr2 := hfr.trR hfa
          refine k_pop X dX9_exileOneOf_61 rfl ?_
          obtain ⟨v_62_31, ev_62_31⟩ : ∃ z : Int32, z = (nI i) + 1 := ⟨_, rfl⟩
          refine k_iinc X (q := 1) (v := v_62_31) [(2, .int v_62_31), (3, .ref (cz i)), (1, .int x1), (0, .ref (A 6))] dX9_exileOneOf_62 rfl (by rw [ev_62_31]; rfl) (by decide) rfl ?_
          refine k_goto (tgt := 9) X dX9_exileOneOf_65 (by decide) ?_
          refine k_lv [0, 2, 3] _ rfl ?_
          have h9 := lev_add hlc.cap (by omega)
          refine k_room (k' := 0 + lev (knc c m)) (n' := 0 + slv (knc c m)) (by omega) (by omega) ?_
          exact ih (n - (i + 1)) (by omega) (i + 1) _ _ (m + 1) _ _ rfl (by rw [ev_62_31, nI_1]) ⟨by omega, by omega, hfr2, hla, kall_t hal hlti hQ9⟩
  refine k_lv [0, 2, 1] _ rfl ?_
  exact L_9 _ 0 0 _ 0 _ _ rfl nI_0.symm ⟨Nat.zero_le _, Nat.le_refl _, kFr.rf _ _, hlc_1, kall_0⟩
set_option maxHeartbeats 1000000 in
set_option maxRecDepth 20000 in
theorem c_X9_swear (l : Launch) (e0 : Nat × Nat) (S : kS)  (A : Nat → Nat) (n : Nat) (cz : Nat → Nat) (T G Z : Nat) (h : kI e0 A n cz T G Z S)  (hb : T + 0 ≤ 900000 ∧ G + 0 ≤ 60000 ∧ Z + 0 ≤ 150000) : kM l e0 yX9_swear cX9_swear 2 none ({ frames := 4, cells := 0, slots := 0, locals := 127 } : Room) 0 0 [.ref (A 6)] S (kQv (fun S9 => kI e0 A n cz (T + 0) (G + 0) (Z + 0) S9 ∧ kKe A S S9)) := by
  refine kMetE (by decide +kernel) (Nat.le_of_ble_eq_true rfl) (fun C he hl X E hm => ?_)
  have X : kX C RX9 cX9_swear 2 ({ frames := 4, cells := 0, slots := 0, locals := 127 } : Room) := X
  subst he hl
  show kG C 2 S 0 0 0 [(0, .ref (A 6))] []
  have hn := h.n40
  refine k_aload_n X (q := 0) dX9_swear_0 rfl rfl ?_
  refine k_aload_n X (q := 0) dX9_swear_1 rfl rfl ?_
  refine gX9_32s X (S := S) (st_6 h.st).1 (st_6 h.st).2 (sr_6_0 h.st) dX9_swear_2 ?_
  refine gX9_44 X (S := S) (st_1 h.st).1 (st_1 h.st).2 dX9_swear_5 (fun v_5_1 ev_5_1 => ?_)
  refine pX9_29 X (S := S) (st_6 h.st).1 (st_6 h.st).2 dX9_swear_8 ?_
  obtain ⟨hI_2, hx_2⟩ := (⟨h.fI (i := 7) (v := v_5_1) (so_6 h.st) (by unfold pSM; omega) (by unfold pVM pCi pHo pCh pLe pMy pMs pOf; omega) (by unfold pLu; omega), h.fIk (i := 7) (v := v_5_1) (so_6 h.st) (by unfold pKe; omega)⟩ : _ ∧ _)
  have hK_2 := (kKe.rf).tr hx_2
  refine k_aload_n X (q := 0) dX9_swear_11 rfl rfl ?_
  refine gX9_40s X (S := (S.uI (A 6) 7 v_5_1)) (st_6 hI_2.st).1 (st_6 hI_2.st).2 (sr_6_2 hI_2.st) dX9_swear_12 ?_
  refine k_gotV X (vX9_158 X (S := (S.uI (A 6) 7 v_5_1)) ⟨(st_3 hI_2.st).1, (st_3 hI_2.st).2⟩ (c_X4_dropPublicSuits C.l C.e0 (S.uI (A 6) 7 v_5_1)  A n cz _ _ _ hI_2  (by omega)) (As := []) (rest := []) rfl rfl rfl rfl ⟨Nat.le_of_ble_eq_true rfl, Nat.le_of_ble_eq_true rfl⟩ (Nat.le_of_ble_eq_true rfl) ⟨Nat.le_of_ble_eq_true rfl, Nat.le_of_ble_eq_true rfl⟩ dX9_swear_15) (fun S_15_4 h_15_2 => ?_)
  obtain ⟨hI_5, hx_5⟩ := h_15_2
  have hK_5 := (hK_2).tr hx_5
  refine k_iconst X (v := 0) dX9_swear_18 (by decide) ?_
  refine k_istore_n X [(1, .int 0), (0, .ref (A 6))] dX9_swear_19 rfl (by decide) rfl ?_
  have L_20 : ∀ (N : Nat) (i : Nat) (x : Int32) (Si : kS), n - i = N → x = nI i → (i ≤ n ∧ kI C.e0 A n cz T G Z Si ∧ kKe A S Si) → kG C 2 Si 0 0 20 [(1, .int x), (0, .ref (A 6))] [] := by
    intro N
    induction N using Nat.strongRecOn with
    | _ N ih =>
    intro i x Si hMs h20_0 h20_1
    subst h20_0
    obtain ⟨hBi, hIi, hKi⟩ := h20_1
    refine k_iload_n X (q := 0) dX9_swear_20 rfl rfl ?_
    refine k_aload_n X (q := 1) dX9_swear_21 rfl rfl ?_
    refine gX9_32s X (S := Si) (st_6 hIi.st).1 (st_6 hIi.st).2 (sr_6_0 hIi.st) dX9_swear_22 ?_
    refine gX9_94s X (S := Si) (st_1 hIi.st).1 (st_1 hIi.st).2 (sr_1_12 hIi.st) dX9_swear_25 ?_
    refine k_gotI X (vX9_97 X (S := Si) ⟨(st_10 hIi.st).1, (st_10 hIi.st).2⟩ (c_Jx4a65c_size_8abf5 C.l C.e0 Si (A 10) (st_10 hIi.st)) (As := []) (rest := [.int (nI i)]) rfl rfl rfl rfl ⟨Nat.le_of_ble_eq_true rfl, Nat.le_of_ble_eq_true rfl⟩ (Nat.le_of_ble_eq_true rfl) ⟨Nat.le_of_ble_eq_true rfl, Nat.le_of_ble_eq_true rfl⟩ dX9_swear_28) (fun v_28_7 S_28_8 h_28_5 => ?_)
    obtain ⟨rfl, ev_28_7⟩ := h_28_5
    have hz_v_28_7 : nI n = v_28_7 := by rw [ev_28_7]; exact (hIi.hC).2.1.symm
    subst hz_v_28_7
    refine k_icmp_ge (tgt := 58) X dX9_swear_31 (by decide) (fun c_31 => ?_) (fun c_31 => ?_)
    · skip
      have hin : n = i := by have := ge_of_le c_31 (by omega); omega
      subst hin
      exact k_vret X E dX9_swear_58 (Nat.le_of_ble_eq_true rfl) (Nat.le_of_ble_eq_true rfl) (⟨hIi.mono (by omega) (by omega) (by omega), hKi⟩)
    · skip
      have hlti : i < n := lt_of_nle c_31 (by omega)
      refine k_aload_n X (q := 1) dX9_swear_34 rfl rfl ?_
      refine gX9_32s X (S := Si) (st_6 hIi.st).1 (st_6 hIi.st).2 (sr_6_0 hIi.st) dX9_swear_35 ?_
      refine gX9_94s X (S := Si) (st_1 hIi.st).1 (st_1 hIi.st).2 (sr_1_12 hIi.st) dX9_swear_38 ?_
      refine k_iload_n X (q := 0) dX9_swear_41 rfl rfl ?_
      refine k_gotQ X (vX9_53 X (S := Si) ⟨(st_10 hIi.st).1, (st_10 hIi.st).2⟩ (c_Jx4a65c_get_915e3 C.l C.e0 Si (A 10) 1 n i cz (hIi.hC) hlti) (As := [.int (nI i)]) (rest := []) rfl rfl rfl rfl ⟨Nat.le_of_ble_eq_true rfl, Nat.le_of_ble_eq_true rfl⟩ (Nat.le_of_ble_eq_true rfl) ⟨Nat.le_of_ble_eq_true rfl, Nat.le_of_ble_eq_true rfl⟩ dX9_swear_42) (fun r_42_10 S_42_11 h_42_8 => ?_)
      obtain ⟨rfl, er_42_10⟩ := h_42_8
      subst er_42_10
      refine tX9_57 X (S := Si) ⟨(kLs.el (hIi.hC) hlti).1, (kLs.el (hIi.hC) hlti).2⟩ dX9_swear_45 ?_
      refine k_iconst X (v := (-1)) dX9_swear_48 (by decide) ?_
      refine pX9_163 X (S := Si) (hIi.at hlti).1 (hIi.at hlti).2 dX9_swear_49 ?_
      obtain ⟨hI_12, hx_12⟩ := (⟨hIi.fI (i := 11) (v := (-1 : Int32)) (hIi.oc _ hlti) (by unfold pSM; omega) (by unfold pVM pCi pHo pCh pLe pMy pMs pOf; omega) (by unfold pLu; omega), hIi.fIk (i := 11) (v := (-1 : Int32)) (hIi.oc _ hlti) (by unfold pKe; omega)⟩ : _ ∧ _)
      have hK_12 := (hKi).tr hx_12
      obtain ⟨v_52_13, ev_52_13⟩ : ∃ z : Int32, z = (nI i) + 1 := ⟨_, rfl⟩
      refine k_iinc X (q := 0) (v := v_52_13) [(1, .int v_52_13), (0, .ref (A 6))] dX9_swear_52 rfl (by rw [ev_52_13]; rfl) (by decide) rfl ?_
      refine k_goto (tgt := 20) X dX9_swear_55 (by decide) ?_
      refine k_lv [0, 1] _ rfl ?_
      exact ih (n - (i + 1)) (by omega) (i + 1) _ _ rfl (by rw [ev_52_13, nI_1]) ⟨by omega, hI_12.mono (by omega) (by omega) (by omega), hK_12⟩
  refine k_lv [0, 1] _ rfl ?_
  exact L_20 _ 0 0 _ rfl nI_0.symm ⟨by omega, hI_5.mono (by omega) (by omega) (by omega), hK_5⟩
set_option maxHeartbeats 1000000 in
set_option maxRecDepth 20000 in
theorem c_X9_exileRulers (l : Launch) (e0 : Nat × Nat) (S : kS)  (A : Nat → Nat) (n : Nat) (cz : Nat → Nat) (T G Z : Nat) (h : kI e0 A n cz T G Z S)  (hb : T + 0 ≤ 900000 ∧ G + 0 ≤ 60000 ∧ Z + 0 ≤ 150000) : kM l e0 yX9_exileRulers cX9_exileRulers 2 none ({ frames := 4, cells := 0, slots := 0, locals := 90 } : Room) 0 0 [.ref (A 6)] S (kQv (fun S9 => kI e0 A n cz (T + 0) (G + 0) (Z + 0) S9 ∧ kKe A S S9)) := by
  refine kMetE (by decide +kernel) (Nat.le_of_ble_eq_true rfl) (fun C he hl X E hm => ?_)
  have X : kX C RX9 cX9_exileRulers 2 ({ frames := 4, cells := 0, slots := 0, locals := 90 } : Room) := X
  subst he hl
  show kG C 2 S 0 0 0 [(0, .ref (A 6))] []
  have hn := h.n40
  refine k_iconst X (v := 0) dX9_exileRulers_0 (by decide) ?_
  refine k_istore_n X [(1, .int 0), (0, .ref (A 6))] dX9_exileRulers_1 rfl (by decide) rfl ?_
  have L_2 : ∀ (N : Nat) (i : Nat) (x : Int32) (Si : kS), 40 - i = N → x = nI i → (i ≤ 40 ∧ kI C.e0 A n cz T G Z Si ∧ kKe A S Si) → kG C 2 Si 0 0 2 [(1, .int x), (0, .ref (A 6))] [] := by
    intro N
    induction N using Nat.strongRecOn with
    | _ N ih =>
    intro i x Si hMs h2_0 h2_1
    subst h2_0
    obtain ⟨hBi, hIi, hKi⟩ := h2_1
    obtain ⟨mr, xr, hLr, hmr, hxr⟩ := hIi.cl (r := 23) (by unfold clR; omega)
    refine k_iload_n X (q := 0) dX9_exileRulers_2 rfl rfl ?_
    refine k_aload_n X (q := 1) dX9_exileRulers_3 rfl rfl ?_
    refine gX9_12s X (S := Si) (st_6 hIi.st).1 (st_6 hIi.st).2 (sr_6_3 hIi.st) dX9_exileRulers_4 ?_
    refine k_gotI X (vX9_97 X (S := Si) ⟨(st_23 hIi.st).1, (st_23 hIi.st).2⟩ (c_Jx4a65c_size_8abf5 C.l C.e0 Si (A 23) (st_23 hIi.st)) (As := []) (rest := [.int (nI i)]) rfl rfl rfl rfl ⟨Nat.le_of_ble_eq_true rfl, Nat.le_of_ble_eq_true rfl⟩ (Nat.le_of_ble_eq_true rfl) ⟨Nat.le_of_ble_eq_true rfl, Nat.le_of_ble_eq_true rfl⟩ dX9_exileRulers_7) (fun v_7_2 S_7_3 h_7_0 => ?_)
    obtain ⟨rfl, ev_7_2⟩ := h_7_0
    have hz_v_7_2 : nI mr = v_7_2 := by rw [ev_7_2]; exact (hLr).2.1.symm
    subst hz_v_7_2
    refine k_icmp_ge (tgt := 55) X dX9_exileRulers_10 (by decide) (fun c_10 => ?_) (fun c_10 => ?_)
    · skip
      exact k_vret X E dX9_exileRulers_55 (Nat.le_of_ble_eq_true rfl) (Nat.le_of_ble_eq_true rfl) (⟨hIi.mono (by omega) (by omega) (by omega), hKi⟩)
    · skip
      have hltm : i < mr := lt_of_nle c_10 (by omega)
      have hlti : i < 40 := by omega
      refine k_aload_n X (q := 1) dX9_exileRulers_13 rfl rfl ?_
      refine gX9_12s X (S := Si) (st_6 hIi.st).1 (st_6 hIi.st).2 (sr_6_3 hIi.st) dX9_exileRulers_14 ?_
      refine k_iload_n X (q := 0) dX9_exileRulers_17 rfl rfl ?_
      refine k_gotQ X (vX9_53 X (S := Si) ⟨(st_23 hIi.st).1, (st_23 hIi.st).2⟩ (c_Jx4a65c_get_915e3 C.l C.e0 Si (A 23) 1 mr i xr (hLr) hltm) (As := [.int (nI i)]) (rest := []) rfl rfl rfl rfl ⟨Nat.le_of_ble_eq_true rfl, Nat.le_of_ble_eq_true rfl⟩ (Nat.le_of_ble_eq_true rfl) ⟨Nat.le_of_ble_eq_true rfl, Nat.le_of_ble_eq_true rfl⟩ dX9_exileRulers_18) (fun r_18_5 S_18_6 h_18_3 => ?_)
      obtain ⟨rfl, er_18_5⟩ := h_18_3
      subst er_18_5
      refine tX9_57 X (S := Si) ⟨(kLs.el (hLr) hltm).1, (kLs.el (hLr) hltm).2⟩ dX9_exileRulers_21 ?_
      obtain ⟨j, hj, hxj⟩ := hxr i hltm
      rw [hxj]
      refine k_gotI X (vX9_111 X (S := Si) ⟨(hIi.at hj).1, (hIi.at hj).2⟩ (c_X1_isFullOrOut C.l C.e0 Si (cz j) (hIi.at hj)) (As := []) (rest := []) rfl rfl rfl rfl ⟨Nat.le_of_ble_eq_true rfl, Nat.le_of_ble_eq_true rfl⟩ (Nat.le_of_ble_eq_true rfl) ⟨Nat.le_of_ble_eq_true rfl, Nat.le_of_ble_eq_true rfl⟩ dX9_exileRulers_24) (fun v_24_8 S_24_9 h_24_6 => ?_)
      obtain ⟨rfl, ev_24_8⟩ := h_24_6
      refine k_if_eq (tgt := 49) X dX9_exileRulers_27 (by decide) (fun c_27 => ?_) (fun c_27 => ?_)
      · skip
        rw [ev_24_8] at c_27
        obtain ⟨v_49_10, ev_49_10⟩ : ∃ z : Int32, z = (nI i) + 1 := ⟨_, rfl⟩
        refine k_iinc X (q := 0) (v := v_49_10) [(1, .int v_49_10), (0, .ref (A 6))] dX9_exileRulers_49 rfl (by rw [ev_49_10]; rfl) (by decide) rfl ?_
        refine k_goto (tgt := 2) X dX9_exileRulers_52 (by decide) ?_
        refine k_lv [0, 1] _ rfl ?_
        exact ih (40 - (i + 1)) (by omega) (i + 1) _ _ rfl (by rw [ev_49_10, nI_1]) ⟨by omega, hIi.mono (by omega) (by omega) (by omega), hKi⟩
      · skip
        rw [ev_24_8] at c_27
        refine k_aload_n X (q := 1) dX9_exileRulers_30 rfl rfl ?_
        refine gX9_32s X (S := Si) (st_6 hIi.st).1 (st_6 hIi.st).2 (sr_6_0 hIi.st) dX9_exileRulers_31 ?_
        refine k_aload_n X (q := 1) dX9_exileRulers_34 rfl rfl ?_
        refine gX9_12s X (S := Si) (st_6 hIi.st).1 (st_6 hIi.st).2 (sr_6_3 hIi.st) dX9_exileRulers_35 ?_
        refine k_iload_n X (q := 0) dX9_exileRulers_38 rfl rfl ?_
        refine k_gotQ X (vX9_53 X (S := Si) ⟨(st_23 hIi.st).1, (st_23 hIi.st).2⟩ (c_Jx4a65c_get_915e3 C.l C.e0 Si (A 23) 1 mr i xr (hLr) hltm) (As := [.int (nI i)]) (rest := [.ref (A 1)]) rfl rfl rfl rfl ⟨Nat.le_of_ble_eq_true rfl, Nat.le_of_ble_eq_true rfl⟩ (Nat.le_of_ble_eq_true rfl) ⟨Nat.le_of_ble_eq_true rfl, Nat.le_of_ble_eq_true rfl⟩ dX9_exileRulers_39) (fun r_39_12 S_39_13 h_39_10 => ?_)
        obtain ⟨rfl, er_39_12⟩ := h_39_10
        subst er_39_12
        refine tX9_57 X (S := Si) ⟨(kLs.el (hLr) hltm).1, (kLs.el (hLr) hltm).2⟩ dX9_exileRulers_42 ?_
        obtain ⟨k, hk, hxk⟩ := hxr i hltm
        rw [hxk]
        refine k_iconst X (v := 3) dX9_exileRulers_45 (by decide) ?_
        refine k_gotV X (vX9_154 X (S := Si) ⟨(st_1 hIi.st).1, (st_1 hIi.st).2⟩ (c_X2_sendAway C.l C.e0 Si 3 A n cz k _ _ _ hIi hk) (As := [.ref (cz k), .int 3]) (rest := []) rfl rfl rfl rfl ⟨Nat.le_of_ble_eq_true rfl, Nat.le_of_ble_eq_true rfl⟩ (Nat.le_of_ble_eq_true rfl) ⟨Nat.le_of_ble_eq_true rfl, Nat.le_of_ble_eq_true rfl⟩ dX9_exileRulers_46) (fun S_46_15 h_46_13 => ?_)
        have hsd_46 := h_46_13
        obtain ⟨hI_16, hx_16⟩ := hIi.send hk (s := 3) (by omega) hsd_46
        have hK_16 := (hKi).tr hx_16
        obtain ⟨v_49_17, ev_49_17⟩ : ∃ z : Int32, z = (nI i) + 1 := ⟨_, rfl⟩
        refine k_iinc X (q := 0) (v := v_49_17) [(1, .int v_49_17), (0, .ref (A 6))] dX9_exileRulers_49 rfl (by rw [ev_49_17]; rfl) (by decide) rfl ?_
        refine k_goto (tgt := 2) X dX9_exileRulers_52 (by decide) ?_
        refine k_lv [0, 1] _ rfl ?_
        exact ih (40 - (i + 1)) (by omega) (i + 1) _ _ rfl (by rw [ev_49_17, nI_1]) ⟨by omega, hI_16.mono (by omega) (by omega) (by omega), hK_16⟩
  refine k_lv [0, 1] _ rfl ?_
  exact L_2 _ 0 0 _ rfl nI_0.symm ⟨by omega, h.mono (by omega) (by omega) (by omega), kKe.rf⟩
set_option maxHeartbeats 1000000 in
set_option maxRecDepth 20000 in
theorem c_X9_revolt (l : Launch) (e0 : Nat × Nat) (S : kS) (x1 : Int32) (x2 : Int32) (A : Nat → Nat) (n : Nat) (cz : Nat → Nat) (T G Z : Nat) (h : kI e0 A n cz T G Z S)  (hb : T + 1 ≤ 900000 ∧ G + 0 ≤ 60000 ∧ Z + 0 ≤ 150000) : kM l e0 yX9_revolt cX9_revolt 3 (Option.some Jvm.ClassFile.FieldType.boolean) ({ frames := 8, cells := 6, slots := 202, locals := 214 } : Room) 6 202 [.ref (A 6), .int x1, .int x2] S (kQi (fun v S9 => kI e0 A n cz (T + 1) (G + 0) (Z + 0) S9 ∧ kKe A S S9 ∧ (v = 0 ∨ v = 1))) := by
  refine kMetE (by decide +kernel) (Nat.le_of_ble_eq_true rfl) (fun C he hl X E hm => ?_)
  have X : kX C RX9 cX9_revolt 3 ({ frames := 8, cells := 6, slots := 202, locals := 214 } : Room) := X
  subst he hl
  show kG C 3 S 0 0 0 [(0, .ref (A 6)), (1, .int x1), (2, .int x2)] []
  have hn := h.n40
  refine k_iconst X (v := 2) dX9_revolt_0 (by decide) ?_
  refine k_aload_n X (q := 0) dX9_revolt_1 rfl rfl ?_
  refine gX9_32s X (S := S) (st_6 h.st).1 (st_6 h.st).2 (sr_6_0 h.st) dX9_revolt_2 ?_
  refine k_iload_n X (q := 1) dX9_revolt_5 rfl rfl ?_
  refine k_gotI X (vX9_121 X (S := S) ⟨(st_1 h.st).1, (st_1 h.st).2⟩ (c_X2_fullAgreeing C.l C.e0 S x1 A n cz h.st h.hC hn ) (As := [.int x1]) (rest := [.int 2]) rfl rfl rfl rfl ⟨Nat.le_of_ble_eq_true rfl, Nat.le_of_ble_eq_true rfl⟩ (Nat.le_of_ble_eq_true rfl) ⟨Nat.le_of_ble_eq_true rfl, Nat.le_of_ble_eq_true rfl⟩ dX9_revolt_6) (fun v_6_2 S_6_3 h_6_0 => ?_)
  obtain ⟨rfl, ev_6_2⟩ := h_6_0
  refine k_imul X dX9_revolt_9 (fun v_9_4 ev_9_4 => ?_)
  refine k_aload_n X (q := 0) dX9_revolt_10 rfl rfl ?_
  refine gX9_32s X (S := S) (st_6 h.st).1 (st_6 h.st).2 (sr_6_0 h.st) dX9_revolt_11 ?_
  refine k_gotI X (vX9_124 X (S := S) ⟨(st_1 h.st).1, (st_1 h.st).2⟩ (c_X2_full C.l C.e0 S  A n cz h.st h.hC hn ) (As := []) (rest := [.int v_9_4]) rfl rfl rfl rfl ⟨Nat.le_of_ble_eq_true rfl, Nat.le_of_ble_eq_true rfl⟩ (Nat.le_of_ble_eq_true rfl) ⟨Nat.le_of_ble_eq_true rfl, Nat.le_of_ble_eq_true rfl⟩ dX9_revolt_14) (fun v_14_6 S_14_7 h_14_4 => ?_)
  obtain ⟨rfl, ev_14_6⟩ := h_14_4
  refine k_icmp_gt (tgt := 27) X dX9_revolt_17 (by decide) (fun c_17 => ?_) (fun c_17 => ?_)
  · skip
    refine k_aload_n X (q := 0) dX9_revolt_27 rfl rfl ?_
    refine gX9_32s X (S := S) (st_6 h.st).1 (st_6 h.st).2 (sr_6_0 h.st) dX9_revolt_28 ?_
    refine k_iconst X (v := 1) dX9_revolt_31 (by decide) ?_
    refine pX9_59 X (S := S) (st_1 h.st).1 (st_1 h.st).2 (Or.inr rfl) dX9_revolt_32 ?_
    obtain ⟨hI_8, hx_8⟩ := h.fre (v := 1) (Or.inr rfl)
    have hK_8 := (kKe.rf).tr hx_8
    refine k_aload_n X (q := 0) dX9_revolt_35 rfl rfl ?_
    refine gX9_32s X (S := (S.uI (A 1) 1 1)) (st_6 hI_8.st).1 (st_6 hI_8.st).2 (sr_6_0 hI_8.st) dX9_revolt_36 ?_
    refine k_iconst X (v := 0) dX9_revolt_39 (by decide) ?_
    refine pX9_66 X (S := (S.uI (A 1) 1 1)) (st_1 hI_8.st).1 (st_1 hI_8.st).2 dX9_revolt_40 ?_
    obtain ⟨hI_9, hx_9⟩ := hI_8.un (v := 0) ⟨Int.le_refl _, by rw [t_0]; omega⟩
    have hK_9 := (hK_8).tr hx_9
    refine k_aload_n X (q := 0) dX9_revolt_43 rfl rfl ?_
    refine gX9_36s X (S := ((S.uI (A 1) 1 1).uI (A 1) 2 0)) (st_6 hI_9.st).1 (st_6 hI_9.st).2 (sr_6_1 hI_9.st) dX9_revolt_44 ?_
    refine k_iload_n X (q := 1) dX9_revolt_47 rfl rfl ?_
    refine k_gotV X (vX9_131 X (S := ((S.uI (A 1) 1 1).uI (A 1) 2 0)) ⟨(st_4 hI_9.st).1, (st_4 hI_9.st).2⟩ (c_X0_dropLawsFarFrom C.l C.e0 ((S.uI (A 1) 1 1).uI (A 1) 2 0) x1 A n cz _ _ _ hI_9  (by omega)) (As := [.int x1]) (rest := []) rfl rfl rfl rfl ⟨Nat.le_of_ble_eq_true rfl, Nat.le_of_ble_eq_true rfl⟩ (Nat.le_of_ble_eq_true rfl) ⟨Nat.le_of_ble_eq_true rfl, Nat.le_of_ble_eq_true rfl⟩ dX9_revolt_48) (fun S_48_11 h_48_9 => ?_)
    obtain ⟨hI_12, hx_12⟩ := h_48_9
    have hK_12 := (hK_9).tr hx_12
    refine k_iload_n X (q := 2) dX9_revolt_51 rfl rfl ?_
    refine k_if_eq (tgt := 62) X dX9_revolt_52 (by decide) (fun c_52 => ?_) (fun c_52 => ?_)
    · skip
      refine k_aload_n X (q := 0) dX9_revolt_62 rfl rfl ?_
      refine k_gotV X (vX9_137 X (S := S_48_11) ⟨(st_6 hI_12.st).1, (st_6 hI_12.st).2⟩ (c_X9_exileRulers C.l C.e0 S_48_11  A n cz _ _ _ hI_12  (by omega)) (As := []) (rest := []) rfl rfl rfl rfl ⟨Nat.le_of_ble_eq_true rfl, Nat.le_of_ble_eq_true rfl⟩ (Nat.le_of_ble_eq_true rfl) ⟨Nat.le_of_ble_eq_true rfl, Nat.le_of_ble_eq_true rfl⟩ dX9_revolt_63) (fun S_63_14 h_63_12 => ?_)
      obtain ⟨hI_15, hx_15⟩ := h_63_12
      have hK_15 := (hK_12).tr hx_15
      refine k_aload_n X (q := 0) dX9_revolt_66 rfl rfl ?_
      refine gX9_12s X (S := S_63_14) (st_6 hI_15.st).1 (st_6 hI_15.st).2 (sr_6_3 hI_15.st) dX9_revolt_67 ?_
      obtain ⟨m23, xs23, hL23, -, -⟩ := hI_15.cl (r := 23) (by unfold clR; omega)
      refine k_gotV X (vX9_83 X (S := S_63_14) ⟨(st_23 hI_15.st).1, (st_23 hI_15.st).2⟩ (c_Jx4a65c_clear_da8c8 C.l C.e0 S_63_14 (A 23) 1 m23 xs23 hL23) (As := []) (rest := []) rfl rfl rfl rfl ⟨Nat.le_of_ble_eq_true rfl, Nat.le_of_ble_eq_true rfl⟩ (Nat.le_of_ble_eq_true rfl) ⟨Nat.le_of_ble_eq_true rfl, Nat.le_of_ble_eq_true rfl⟩ dX9_revolt_70) (fun S_70_17 h_70_15 => ?_)
      obtain ⟨hf23, hl23, -⟩ := h_70_15
      rw [so_23 hI_15.st] at hf23
      obtain ⟨hI_18, hx_18⟩ := hI_15.frU hf23 ⟨0, _, hl23, fun t ht => absurd ht (by omega), fun t t2 ht => absurd ht (by omega)⟩
      have hK_18 := (hK_15).tr hx_18
      refine k_iconst X (v := 1) dX9_revolt_73 (by decide) ?_
      exact k_zret X E (Or.inr rfl) dX9_revolt_74 (Nat.le_of_ble_eq_true rfl) (Nat.le_of_ble_eq_true rfl) (⟨hI_18.mono (by omega) (by omega) (by omega), hK_18, Or.inr rfl⟩)
    · skip
      refine k_aload_n X (q := 0) dX9_revolt_55 rfl rfl ?_
      refine k_gotV X (vX9_134 X (S := S_48_11) ⟨(st_6 hI_12.st).1, (st_6 hI_12.st).2⟩ (c_X9_swear C.l C.e0 S_48_11  A n cz _ _ _ hI_12  (by omega)) (As := []) (rest := []) rfl rfl rfl rfl ⟨Nat.le_of_ble_eq_true rfl, Nat.le_of_ble_eq_true rfl⟩ (Nat.le_of_ble_eq_true rfl) ⟨Nat.le_of_ble_eq_true rfl, Nat.le_of_ble_eq_true rfl⟩ dX9_revolt_56) (fun S_56_20 h_56_18 => ?_)
      obtain ⟨hI_21, hx_21⟩ := h_56_18
      have hK_21 := (hK_12).tr hx_21
      refine k_goto (tgt := 66) X dX9_revolt_59 (by decide) ?_
      refine k_aload_n X (q := 0) dX9_revolt_66 rfl rfl ?_
      refine gX9_12s X (S := S_56_20) (st_6 hI_21.st).1 (st_6 hI_21.st).2 (sr_6_3 hI_21.st) dX9_revolt_67 ?_
      obtain ⟨m23, xs23, hL23, -, -⟩ := hI_21.cl (r := 23) (by unfold clR; omega)
      refine k_gotV X (vX9_83 X (S := S_56_20) ⟨(st_23 hI_21.st).1, (st_23 hI_21.st).2⟩ (c_Jx4a65c_clear_da8c8 C.l C.e0 S_56_20 (A 23) 1 m23 xs23 hL23) (As := []) (rest := []) rfl rfl rfl rfl ⟨Nat.le_of_ble_eq_true rfl, Nat.le_of_ble_eq_true rfl⟩ (Nat.le_of_ble_eq_true rfl) ⟨Nat.le_of_ble_eq_true rfl, Nat.le_of_ble_eq_true rfl⟩ dX9_revolt_70) (fun S_70_23 h_70_21 => ?_)
      obtain ⟨hf23, hl23, -⟩ := h_70_21
      rw [so_23 hI_21.st] at hf23
      obtain ⟨hI_24, hx_24⟩ := hI_21.frU hf23 ⟨0, _, hl23, fun t ht => absurd ht (by omega), fun t t2 ht => absurd ht (by omega)⟩
      have hK_24 := (hK_21).tr hx_24
      refine k_iconst X (v := 1) dX9_revolt_73 (by decide) ?_
      exact k_zret X E (Or.inr rfl) dX9_revolt_74 (Nat.le_of_ble_eq_true rfl) (Nat.le_of_ble_eq_true rfl) (⟨hI_24.mono (by omega) (by omega) (by omega), hK_24, Or.inr rfl⟩)
  · skip
    refine k_aload_n X (q := 0) dX9_revolt_20 rfl rfl ?_
    refine k_iload_n X (q := 1) dX9_revolt_21 rfl rfl ?_
    refine k_gotV X (vX9_127 X (S := S) ⟨(st_6 h.st).1, (st_6 h.st).2⟩ (c_X9_exileOneOf C.l C.e0 S x1 A n cz _ _ _ h  (by omega)) (As := [.int x1]) (rest := []) rfl rfl rfl rfl ⟨Nat.le_of_ble_eq_true rfl, Nat.le_of_ble_eq_true rfl⟩ (Nat.le_of_ble_eq_true rfl) ⟨Nat.le_of_ble_eq_true rfl, Nat.le_of_ble_eq_true rfl⟩ dX9_revolt_22) (fun S_22_26 h_22_24 => ?_)
    obtain ⟨hI_27, hx_27⟩ := h_22_24
    have hK_27 := (kKe.rf).tr hx_27
    refine k_iconst X (v := 0) dX9_revolt_25 (by decide) ?_
    exact k_zret X E (Or.inl rfl) dX9_revolt_26 (Nat.le_of_ble_eq_true rfl) (Nat.le_of_ble_eq_true rfl) (⟨hI_27.mono (by omega) (by omega) (by omega), hK_27, Or.inl rfl⟩)
set_option maxHeartbeats 1000000 in
set_option maxRecDepth 20000 in
theorem c_X9_hasGeneral (l : Launch) (e0 : Nat × Nat) (S : kS)  (A : Nat → Nat) (hst : kSt A S) (t : Nat) (ht : t < 4) (hO : kLs e0 S (A 11) 8 7 (kof A)) : kM l e0 yX9_hasGeneral cX9_hasGeneral 3 (Option.some Jvm.ClassFile.FieldType.boolean) ({ frames := 3, cells := 0, slots := 0, locals := 64 } : Room) 0 0 [.ref (A 6), .int (nI t)] S (kQi (fun v S9 => S = S9)) := by
  refine kMetE (by decide +kernel) (Nat.le_of_ble_eq_true rfl) (fun C he hl X E hm => ?_)
  have X : kX C RX9 cX9_hasGeneral 3 ({ frames := 3, cells := 0, slots := 0, locals := 64 } : Room) := X
  subst he hl
  show kG C 3 S 0 0 0 [(0, .ref (A 6)), (1, .int (nI t))] []
  refine k_iload_n X (q := 1) dX9_hasGeneral_0 rfl rfl ?_
  refine k_gotI X (vX9_222 X (S := S) (c_X8_generalOf C.l C.e0 S (nI t)  ) (As := [.int (nI t)]) (rest := []) rfl rfl rfl rfl ⟨Nat.le_of_ble_eq_true rfl, Nat.le_of_ble_eq_true rfl⟩ (Nat.le_of_ble_eq_true rfl) ⟨Nat.le_of_ble_eq_true rfl, Nat.le_of_ble_eq_true rfl⟩ dX9_hasGeneral_1) (fun v_1_2 S_1_3 h_1_0 => ?_)
  obtain ⟨rfl, ev_1_2⟩ := h_1_0
  refine k_istore_n X [(2, .int v_1_2), (0, .ref (A 6)), (1, .int (nI t))] dX9_hasGeneral_4 rfl (by decide) rfl ?_
  have hv9 : nI (3 + t) = v_1_2 := by rw [ev_1_2, show (3 : Int32) = nI 3 from rfl, nI_add]
  subst hv9
  refine k_iload_n X (q := 0) dX9_hasGeneral_5 rfl rfl ?_
  refine k_iconst X (v := 0) dX9_hasGeneral_6 (by decide) ?_
  refine k_aload_n X (q := 1) dX9_hasGeneral_7 rfl rfl ?_
  refine gX9_32s X (S := S) (st_6 hst).1 (st_6 hst).2 (sr_6_0 hst) dX9_hasGeneral_8 ?_
  refine gX9_227s X (S := S) (st_1 hst).1 (st_1 hst).2 (sr_1_13 hst) dX9_hasGeneral_11 ?_
  refine k_gotI X (vX9_97 X (S := S) ⟨(st_11 hst).1, (st_11 hst).2⟩ (c_Jx4a65c_size_8abf5 C.l C.e0 S (A 11) (st_11 hst)) (As := []) (rest := [.int 0, .int (nI (3 + t))]) rfl rfl rfl rfl ⟨Nat.le_of_ble_eq_true rfl, Nat.le_of_ble_eq_true rfl⟩ (Nat.le_of_ble_eq_true rfl) ⟨Nat.le_of_ble_eq_true rfl, Nat.le_of_ble_eq_true rfl⟩ dX9_hasGeneral_14) (fun v_14_5 S_14_6 h_14_3 => ?_)
  obtain ⟨rfl, ev_14_5⟩ := h_14_3
  have hz_v_14_5 : nI 7 = v_14_5 := by rw [ev_14_5]; exact (hO).2.1.symm
  subst hz_v_14_5
  refine k_iconst X (v := 1) dX9_hasGeneral_17 (by decide) ?_
  refine k_isub X dX9_hasGeneral_18 (fun v_18_7 ev_18_7 => ?_)
  refine k_gotI X (vX9_215 X (S := S) (c_X11_isFrom C.l C.e0 S (nI (3 + t)) 0 v_18_7 ) (As := [.int (nI (3 + t)), .int 0, .int v_18_7]) (rest := []) rfl rfl rfl rfl ⟨Nat.le_of_ble_eq_true rfl, Nat.le_of_ble_eq_true rfl⟩ (Nat.le_of_ble_eq_true rfl) ⟨Nat.le_of_ble_eq_true rfl, Nat.le_of_ble_eq_true rfl⟩ dX9_hasGeneral_19) (fun v_19_9 S_19_10 h_19_7 => ?_)
  obtain ⟨rfl, ev_19_9⟩ := h_19_7
  refine k_if_eq (tgt := 49) X dX9_hasGeneral_22 (by decide) (fun c_22 => ?_) (fun c_22 => ?_)
  · skip
    rw [ev_19_9] at c_22
    refine k_iconst X (v := 0) dX9_hasGeneral_49 (by decide) ?_
    exact k_zret X E (Or.inl rfl) dX9_hasGeneral_50 (Nat.le_of_ble_eq_true rfl) (Nat.le_of_ble_eq_true rfl) rfl
  · skip
    rw [ev_19_9] at c_22
    refine k_aload_n X (q := 1) dX9_hasGeneral_25 rfl rfl ?_
    refine gX9_32s X (S := S) (st_6 hst).1 (st_6 hst).2 (sr_6_0 hst) dX9_hasGeneral_26 ?_
    refine gX9_227s X (S := S) (st_1 hst).1 (st_1 hst).2 (sr_1_13 hst) dX9_hasGeneral_29 ?_
    refine k_iload_n X (q := 0) dX9_hasGeneral_32 rfl rfl ?_
    refine k_gotQ X (vX9_53 X (S := S) ⟨(st_11 hst).1, (st_11 hst).2⟩ (c_Jx4a65c_get_915e3 C.l C.e0 S (A 11) 8 7 (3 + t) (kof A) (hO) (by omega)) (As := [.int (nI (3 + t))]) (rest := []) rfl rfl rfl rfl ⟨Nat.le_of_ble_eq_true rfl, Nat.le_of_ble_eq_true rfl⟩ (Nat.le_of_ble_eq_true rfl) ⟨Nat.le_of_ble_eq_true rfl, Nat.le_of_ble_eq_true rfl⟩ dX9_hasGeneral_33) (fun r_33_12 S_33_13 h_33_10 => ?_)
    obtain ⟨rfl, er_33_12⟩ := h_33_10
    subst er_33_12
    refine tX9_223 X (S := S) ⟨(kLs.el (hO) (by omega)).1, (kLs.el (hO) (by omega)).2⟩ dX9_hasGeneral_36 ?_
    refine gX9_230 X (S := S) (kLs.el (hO) (by omega)).1 (kLs.el (hO) (by omega)).2 dX9_hasGeneral_39 (fun r_39_14 er_39_14 => ?_)
    refine k_ifnull (tgt := 49) X dX9_hasGeneral_42 (by decide) (fun c_42 => ?_) (fun a_42_15 c_42 => ?_)
    · skip
      subst c_42
      refine k_iconst X (v := 0) dX9_hasGeneral_49 (by decide) ?_
      exact k_zret X E (Or.inl rfl) dX9_hasGeneral_50 (Nat.le_of_ble_eq_true rfl) (Nat.le_of_ble_eq_true rfl) rfl
    · skip
      subst c_42
      refine k_iconst X (v := 1) dX9_hasGeneral_45 (by decide) ?_
      refine k_goto (tgt := 50) X dX9_hasGeneral_46 (by decide) ?_
      exact k_zret X E (Or.inr rfl) dX9_hasGeneral_50 (Nat.le_of_ble_eq_true rfl) (Nat.le_of_ble_eq_true rfl) rfl
set_option maxHeartbeats 1000000 in
set_option maxRecDepth 20000 in
theorem c_X9_callUp (l : Launch) (e0 : Nat × Nat) (S : kS)  (A : Nat → Nat) (n : Nat) (cz : Nat → Nat) (T G Z : Nat) (h : kI e0 A n cz T G Z S) (t : Nat) (ht : t < 4) (m0 c0 : Nat) (xs0 : Nat → Nat) (hlc0 : kLc e0 S (A 24) 1 m0 xs0 c0) (hm0 : m0 ≤ 30) (hx0 : ∀ t, t < m0 → ∃ j, j < n ∧ xs0 t = cz j) (hb : T + 0 ≤ 900000 ∧ G + 0 ≤ 60000 ∧ Z + 0 ≤ 150000) : kM l e0 yX9_callUp cX9_callUp 5 (Option.some Jvm.ClassFile.FieldType.int) ({ frames := 7, cells := 10, slots := 730, locals := 191 } : Room) 10 730 [.ref (A 6), .int (nI t)] S (kQi (fun v S9 => kI e0 A n cz (T + 0) (G + 0) (Z + 0) S9 ∧ kKe A S S9 ∧ (∃ m xs c, kLc e0 S9 (A 24) 1 m xs c ∧ m ≤ m0 + 10 ∧ ∀ t, t < m → ∃ j, j < n ∧ xs t = cz j) ∧ ∀ j, S9.I (A 1) j = S.I (A 1) j)) := by
  refine kMetE (by decide +kernel) (Nat.le_of_ble_eq_true rfl) (fun C he hl X E hm => ?_)
  have X : kX C RX9 cX9_callUp 5 ({ frames := 7, cells := 10, slots := 730, locals := 191 } : Room) := X
  subst he hl
  show kG C 5 S 0 0 0 [(0, .ref (A 6)), (1, .int (nI t))] []
  have hn := h.n40
  refine k_iconst X (v := 0) dX9_callUp_0 (by decide) ?_
  refine k_istore_n X [(2, .int 0), (0, .ref (A 6)), (1, .int (nI t))] dX9_callUp_1 rfl (by decide) rfl ?_
  refine k_iconst X (v := 0) dX9_callUp_2 (by decide) ?_
  refine k_istore_n X [(3, .int 0), (2, .int 0), (0, .ref (A 6)), (1, .int (nI t))] dX9_callUp_3 rfl (by decide) rfl ?_
  refine k_room (k' := m0 - m0) (n' := 73 * (m0 - m0)) (by omega) (by omega) ?_
  have L_4 : ∀ (N : Nat) (i : Nat) (x y : Int32) (Si : kS) (m : Nat) (xs : Nat → Nat) (c : Nat), n - i = N → x = nI i → (i ≤ n ∧ m0 ≤ m ∧ m ≤ m0 + (i + 3 - t) / 4 ∧ kFr S Si (kRo S 24) ∧ kLc C.e0 Si (A 24) 1 m xs c ∧ ∀ t, t < m → ∃ j, j < n ∧ xs t = cz j) → kG C 5 Si (m - m0) (73 * (m - m0)) 4 [(3, .int x), (2, .int y), (1, .int (nI t)), (0, .ref (A 6))] [] := by
    intro N
    induction N using Nat.strongRecOn with
    | _ N ih =>
    intro i x y Si m xs c hMs h4_0 h4_1
    subst h4_0
    obtain ⟨hBi, hmm, hmi, hfr, hlc, hxs⟩ := h4_1
    have hstI := h.st.frR hfr (by decide)
    have hCI := h.hC.frR (so_10 h.st) hfr (by decide) (by decide) (by decide)
    refine k_iload_n X (q := 0) dX9_callUp_4 rfl rfl ?_
    refine k_aload_n X (q := 3) dX9_callUp_5 rfl rfl ?_
    refine gX9_32s X (S := Si) (st_6 hstI).1 (st_6 hstI).2 (sr_6_0 hstI) dX9_callUp_6 ?_
    refine gX9_94s X (S := Si) (st_1 hstI).1 (st_1 hstI).2 (sr_1_12 hstI) dX9_callUp_9 ?_
    refine k_gotI X (vX9_97 X (S := Si) ⟨(st_10 hstI).1, (st_10 hstI).2⟩ (c_Jx4a65c_size_8abf5 C.l C.e0 Si (A 10) (st_10 hstI)) (As := []) (rest := [.int (nI i)]) rfl rfl rfl rfl ⟨Nat.le_of_ble_eq_true rfl, Nat.le_of_ble_eq_true rfl⟩ (Nat.le_of_ble_eq_true rfl) ⟨(by show _ ≤ 10; omega), (by show _ ≤ 730; omega)⟩ dX9_callUp_12) (fun v_12_2 S_12_3 h_12_0 => ?_)
    obtain ⟨rfl, ev_12_2⟩ := h_12_0
    have hz_v_12_2 : nI n = v_12_2 := by rw [ev_12_2]; exact (hCI).2.1.symm
    subst hz_v_12_2
    refine k_icmp_ge (tgt := 96) X dX9_callUp_15 (by decide) (fun c_15 => ?_) (fun c_15 => ?_)
    · skip
      have hin : n = i := by have := ge_of_le c_15 (by omega); omega
      subst hin
      refine k_room (k' := 10) (n' := 730) (by omega) (by omega) ?_
      obtain ⟨hI_4, hx_4⟩ := h.frC (r := 24) (by unfold clR; omega) hfr ⟨m, xs, hlc.s, by omega, hxs⟩ (by omega)
      have hK_4 := (kKe.rf).tr hx_4
      refine k_iload_n X (q := 1) dX9_callUp_96 rfl rfl ?_
      exact k_iret X E dX9_callUp_97 (by show _ ≤ 10; omega) (by show _ ≤ 730; omega) (⟨hI_4.mono (by omega) (by omega) (by omega), hK_4, ⟨m, xs, c, hlc, by omega, hxs⟩, (hfr.2 _ (st_1 h.st).1 (fun z => by unfold kRo at z; rw [so_1 h.st] at z; omega)).1⟩)
    · skip
      have hlti : i < n := lt_of_nle c_15 (by omega)
      refine k_aload_n X (q := 3) dX9_callUp_18 rfl rfl ?_
      refine gX9_32s X (S := Si) (st_6 hstI).1 (st_6 hstI).2 (sr_6_0 hstI) dX9_callUp_19 ?_
      refine gX9_94s X (S := Si) (st_1 hstI).1 (st_1 hstI).2 (sr_1_12 hstI) dX9_callUp_22 ?_
      refine k_iload_n X (q := 0) dX9_callUp_25 rfl rfl ?_
      refine k_gotQ X (vX9_53 X (S := Si) ⟨(st_10 hstI).1, (st_10 hstI).2⟩ (c_Jx4a65c_get_915e3 C.l C.e0 Si (A 10) 1 n i cz (hCI) hlti) (As := [.int (nI i)]) (rest := []) rfl rfl rfl rfl ⟨Nat.le_of_ble_eq_true rfl, Nat.le_of_ble_eq_true rfl⟩ (Nat.le_of_ble_eq_true rfl) ⟨(by show _ ≤ 10; omega), (by show _ ≤ 730; omega)⟩ dX9_callUp_26) (fun r_26_6 S_26_7 h_26_4 => ?_)
      obtain ⟨rfl, er_26_6⟩ := h_26_4
      subst er_26_6
      refine tX9_57 X (S := Si) ⟨(kLs.el (hCI) hlti).1, (kLs.el (hCI) hlti).2⟩ dX9_callUp_29 ?_
      refine k_astore X [(4, .ref (cz i)), (3, .int (nI i)), (2, .int y), (1, .int (nI t)), (0, .ref (A 6))] dX9_callUp_32 (by decide) rfl ?_
      refine k_aload X (q := 0) dX9_callUp_34 rfl ?_
      refine k_gotI X (vX9_104 X (S := Si) ⟨(kLs.el (hCI) hlti).1, (kLs.el (hCI) hlti).2⟩ (c_X1_isFull C.l C.e0 Si (cz i) (kLs.el (hCI) hlti)) (As := []) (rest := []) rfl rfl rfl rfl ⟨Nat.le_of_ble_eq_true rfl, Nat.le_of_ble_eq_true rfl⟩ (Nat.le_of_ble_eq_true rfl) ⟨(by show _ ≤ 10; omega), (by show _ ≤ 730; omega)⟩ dX9_callUp_36) (fun v_36_9 S_36_10 h_36_7 => ?_)
      obtain ⟨rfl, ev_36_9⟩ := h_36_7
      refine k_if_eq (tgt := 90) X dX9_callUp_39 (by decide) (fun c_39 => ?_) (fun c_39 => ?_)
      · skip
        rw [ev_36_9] at c_39
        obtain ⟨v_90_11, ev_90_11⟩ : ∃ z : Int32, z = (nI i) + 1 := ⟨_, rfl⟩
        refine k_iinc X (q := 1) (v := v_90_11) [(3, .int v_90_11), (4, .ref (cz i)), (2, .int y), (1, .int (nI t)), (0, .ref (A 6))] dX9_callUp_90 rfl (by rw [ev_90_11]; rfl) (by decide) rfl ?_
        refine k_goto (tgt := 4) X dX9_callUp_93 (by decide) ?_
        refine k_lv [0, 2, 3, 4] _ rfl ?_
        exact ih (n - (i + 1)) (by omega) (i + 1) _ _ Si m xs c rfl (by rw [ev_90_11, nI_1]) ⟨by omega, hmm, by omega, hfr, hlc, hxs⟩
      · skip
        rw [ev_36_9] at c_39
        refine k_aload X (q := 0) dX9_callUp_42 rfl ?_
        refine k_gotI X (vX9_209 X (S := Si) ⟨(kLs.el (hCI) hlti).1, (kLs.el (hCI) hlti).2⟩ (c_X1_tribe C.l C.e0 Si (cz i) (kLs.el (hCI) hlti)) (As := []) (rest := []) rfl rfl rfl rfl ⟨Nat.le_of_ble_eq_true rfl, Nat.le_of_ble_eq_true rfl⟩ (Nat.le_of_ble_eq_true rfl) ⟨(by show _ ≤ 10; omega), (by show _ ≤ 730; omega)⟩ dX9_callUp_44) (fun v_44_13 S_44_14 h_44_11 => ?_)
        obtain ⟨rfl, ev_44_13⟩ := h_44_11
        refine k_iload_n X (q := 3) dX9_callUp_47 rfl rfl ?_
        refine k_icmp_ne (tgt := 90) X dX9_callUp_48 (by decide) (fun c_48 => ?_) (fun c_48 => ?_)
        · skip
          obtain ⟨v_90_15, ev_90_15⟩ : ∃ z : Int32, z = (nI i) + 1 := ⟨_, rfl⟩
          refine k_iinc X (q := 1) (v := v_90_15) [(3, .int v_90_15), (4, .ref (cz i)), (2, .int y), (1, .int (nI t)), (0, .ref (A 6))] dX9_callUp_90 rfl (by rw [ev_90_15]; rfl) (by decide) rfl ?_
          refine k_goto (tgt := 4) X dX9_callUp_93 (by decide) ?_
          refine k_lv [0, 2, 3, 4] _ rfl ?_
          exact ih (n - (i + 1)) (by omega) (i + 1) _ _ Si m xs c rfl (by rw [ev_90_15, nI_1]) ⟨by omega, hmm, by omega, hfr, hlc, hxs⟩
        · skip
          have hI9 : Si.I (cz i) 1 = nI (i % 8) := by rw [(hfr.2 _ (h.at hlti).1 (fun z => by unfold kRo at z; rw [h.oc i hlti] at z; omega)).1 1]; exact (h.who.2.1 i hlti).2.2
          have hit : i % 8 % 4 = t := nI_inj (by omega) (by omega) (by rw [← ktrb (i % 8) (by omega), ← hI9, ← ev_44_13]; exact c_48)
          refine k_aload X (q := 0) dX9_callUp_51 rfl ?_
          refine gX9_212 X (S := Si) (kLs.el (hCI) hlti).1 (kLs.el (hCI) hlti).2 dX9_callUp_53 (fun v_53_16 ev_53_16 => ?_)
          refine k_bipush X (v := 18) dX9_callUp_56 (by decide) ?_
          refine k_bipush X (v := 59) dX9_callUp_58 (by decide) ?_
          refine k_gotI X (vX9_215 X (S := Si) (c_X11_isFrom C.l C.e0 Si v_53_16 18 59 ) (As := [.int v_53_16, .int 18, .int 59]) (rest := []) rfl rfl rfl rfl ⟨Nat.le_of_ble_eq_true rfl, Nat.le_of_ble_eq_true rfl⟩ (Nat.le_of_ble_eq_true rfl) ⟨(by show _ ≤ 10; omega), (by show _ ≤ 730; omega)⟩ dX9_callUp_60) (fun v_60_18 S_60_19 h_60_16 => ?_)
          obtain ⟨rfl, ev_60_18⟩ := h_60_16
          refine k_if_eq (tgt := 90) X dX9_callUp_63 (by decide) (fun c_63 => ?_) (fun c_63 => ?_)
          · skip
            rw [ev_60_18] at c_63
            obtain ⟨v_90_20, ev_90_20⟩ : ∃ z : Int32, z = (nI i) + 1 := ⟨_, rfl⟩
            refine k_iinc X (q := 1) (v := v_90_20) [(3, .int v_90_20), (4, .ref (cz i)), (2, .int y), (1, .int (nI t)), (0, .ref (A 6))] dX9_callUp_90 rfl (by rw [ev_90_20]; rfl) (by decide) rfl ?_
            refine k_goto (tgt := 4) X dX9_callUp_93 (by decide) ?_
            refine k_lv [0, 2, 3, 4] _ rfl ?_
            exact ih (n - (i + 1)) (by omega) (i + 1) _ _ Si m xs c rfl (by rw [ev_90_20, nI_1]) ⟨by omega, hmm, by omega, hfr, hlc, hxs⟩
          · skip
            rw [ev_60_18] at c_63
            refine k_aload X (q := 0) dX9_callUp_66 rfl ?_
            refine k_gotI X (vX9_219 X (S := Si) ⟨(kLs.el (hCI) hlti).1, (kLs.el (hCI) hlti).2⟩ (c_X1_wealthClass C.l C.e0 Si (cz i) (kLs.el (hCI) hlti)) (As := []) (rest := []) rfl rfl rfl rfl ⟨Nat.le_of_ble_eq_true rfl, Nat.le_of_ble_eq_true rfl⟩ (Nat.le_of_ble_eq_true rfl) ⟨(by show _ ≤ 10; omega), (by show _ ≤ 730; omega)⟩ dX9_callUp_68) (fun v_68_22 S_68_23 h_68_20 => ?_)
            obtain ⟨rfl, ev_68_22⟩ := h_68_20
            refine k_if_ne (tgt := 80) X dX9_callUp_71 (by decide) (fun c_71 => ?_) (fun c_71 => ?_)
            · skip
              refine k_aload_n X (q := 4) dX9_callUp_80 rfl rfl ?_
              refine gX9_18s X (S := Si) (st_6 hstI).1 (st_6 hstI).2 (sr_6_4 hstI) dX9_callUp_81 ?_
              refine k_aload X (q := 0) dX9_callUp_84 rfl ?_
              have hkm9 := kmc_le c m
              have hks9 := kms_le hlc.cap (by omega)
              refine k_gotI X (vX9_90 X (S := Si) ⟨(st_24 hstI).1, (st_24 hstI).2⟩ (c_Jx4a65c_add_9ea2d C.l C.e0 Si (A 24) 1 m c (cz i) xs kEl_1 hlc (kLs.el hCI hlti) (by omega)) (As := [.ref (cz i)]) (rest := []) rfl rfl rfl rfl ⟨Nat.le_of_ble_eq_true rfl, Nat.le_of_ble_eq_true rfl⟩ (Nat.le_of_ble_eq_true rfl) ⟨(by show _ ≤ 10; omega), (by show _ ≤ 730; omega)⟩ dX9_callUp_86) (fun v_86_25 S_86_26 h_86_23 => ?_)
              obtain ⟨-, hfa, hla⟩ := h_86_23
              rw [show Si.O (A 24) = 24 from ((hfr.1 _ (st_24 h.st).1).2.2.1).trans (so_24 h.st)] at hfa
              have hfr2 := hfr.trR hfa
              refine k_pop X dX9_callUp_89 rfl ?_
              obtain ⟨v_90_27, ev_90_27⟩ : ∃ z : Int32, z = (nI i) + 1 := ⟨_, rfl⟩
              refine k_iinc X (q := 1) (v := v_90_27) [(3, .int v_90_27), (4, .ref (cz i)), (2, .int y), (1, .int (nI t)), (0, .ref (A 6))] dX9_callUp_90 rfl (by rw [ev_90_27]; rfl) (by decide) rfl ?_
              refine k_goto (tgt := 4) X dX9_callUp_93 (by decide) ?_
              refine k_lv [0, 2, 3, 4] _ rfl ?_
              refine k_room (k' := m + 1 - m0) (n' := 73 * (m + 1 - m0)) (by omega) (by omega) ?_
              exact ih (n - (i + 1)) (by omega) (i + 1) _ _ _ (m + 1) _ _ rfl (by rw [ev_90_27, nI_1]) ⟨by omega, by omega, by omega, hfr2, hla, va_up_in (Q := fun x => ∃ j, j < n ∧ x = cz j) hxs ⟨i, hlti, rfl⟩⟩
            · skip
              obtain ⟨v_74_28, ev_74_28⟩ : ∃ z : Int32, z = y + 1 := ⟨_, rfl⟩
              refine k_iinc X (q := 2) (v := v_74_28) [(2, .int v_74_28), (4, .ref (cz i)), (3, .int (nI i)), (1, .int (nI t)), (0, .ref (A 6))] dX9_callUp_74 rfl (by rw [ev_74_28]; rfl) (by decide) rfl ?_
              refine k_goto (tgt := 90) X dX9_callUp_77 (by decide) ?_
              obtain ⟨v_90_29, ev_90_29⟩ : ∃ z : Int32, z = (nI i) + 1 := ⟨_, rfl⟩
              refine k_iinc X (q := 2) (v := v_90_29) [(3, .int v_90_29), (2, .int v_74_28), (4, .ref (cz i)), (1, .int (nI t)), (0, .ref (A 6))] dX9_callUp_90 rfl (by rw [ev_90_29]; rfl) (by decide) rfl ?_
              refine k_goto (tgt := 4) X dX9_callUp_93 (by decide) ?_
              refine k_lv [0, 1, 3, 4] _ rfl ?_
              exact ih (n - (i + 1)) (by omega) (i + 1) _ _ Si m xs c rfl (by rw [ev_90_29, nI_1]) ⟨by omega, hmm, by omega, hfr, hlc, hxs⟩
  refine k_lv [0, 1, 3, 2] _ rfl ?_
  exact L_4 _ 0 0 0 _ m0 _ _ rfl nI_0.symm ⟨Nat.zero_le _, Nat.le_refl _, by omega, kFr.rf _ _, hlc0, hx0⟩
set_option maxHeartbeats 1000000 in
set_option maxRecDepth 20000 in
theorem c_X9_mightOf (l : Launch) (e0 : Nat × Nat) (S : kS) (x1 : Int32) (A : Nat → Nat) (n : Nat) (cz : Nat → Nat) (T G Z : Nat) (h : kI e0 A n cz T G Z S)  (hb : T + 0 ≤ 900000 ∧ G + 0 ≤ 60000 ∧ Z + 0 ≤ 150000) : kM l e0 yX9_mightOf cX9_mightOf 5 (Option.some Jvm.ClassFile.FieldType.int) ({ frames := 8, cells := 40, slots := 2920, locals := 215 } : Room) 40 2920 [.ref (A 6), .int x1] S (kQi (fun v S9 => kI e0 A n cz (T + 0) (G + 0) (Z + 0) S9 ∧ kKe A S S9 ∧ ∀ j, S9.I (A 1) j = S.I (A 1) j)) := by
  refine kMetE (by decide +kernel) (Nat.le_of_ble_eq_true rfl) (fun C he hl X E hm => ?_)
  have X : kX C RX9 cX9_mightOf 5 ({ frames := 8, cells := 40, slots := 2920, locals := 215 } : Room) := X
  subst he hl
  show kG C 5 S 0 0 0 [(0, .ref (A 6)), (1, .int x1)] []
  have hn := h.n40
  refine k_aload_n X (q := 0) dX9_mightOf_0 rfl rfl ?_
  refine gX9_18s X (S := S) (st_6 h.st).1 (st_6 h.st).2 (sr_6_4 h.st) dX9_mightOf_1 ?_
  obtain ⟨m_1, xs_1, hL_1, -, -⟩ := h.cl (r := 24) (by unfold clR; omega)
  refine k_gotV X (vX9_83 X (S := S) ⟨(st_24 h.st).1, (st_24 h.st).2⟩ (c_Jx4a65c_clear_da8c8 C.l C.e0 S (A 24) 1 m_1 xs_1 hL_1) (As := []) (rest := []) rfl rfl rfl rfl ⟨Nat.le_of_ble_eq_true rfl, Nat.le_of_ble_eq_true rfl⟩ (Nat.le_of_ble_eq_true rfl) ⟨(by show _ ≤ 40; omega), (by show _ ≤ 2920; omega)⟩ dX9_mightOf_4) (fun S_4_3 h_4_1 => ?_)
  obtain ⟨hfc_1, hls_1, -⟩ := h_4_1
  rw [so_24 h.st] at hfc_1
  obtain ⟨cc_1, hlc_1⟩ := hls_1.c
  obtain ⟨hI_4, hx_4⟩ := h.frC (r := 24) (by unfold clR; omega) hfc_1 ⟨0, _, hls_1, by omega, fun t ht => absurd ht (by omega)⟩ (by omega)
  have hK_4 := (kKe.rf).tr hx_4
  refine k_iconst X (v := 0) dX9_mightOf_7 (by decide) ?_
  refine k_istore_n X [(2, .int 0), (0, .ref (A 6)), (1, .int x1)] dX9_mightOf_8 rfl (by decide) rfl ?_
  refine k_iconst X (v := 0) dX9_mightOf_9 (by decide) ?_
  refine k_istore_n X [(3, .int 0), (2, .int 0), (0, .ref (A 6)), (1, .int x1)] dX9_mightOf_10 rfl (by decide) rfl ?_
  refine k_iconst X (v := 0) dX9_mightOf_11 (by decide) ?_
  refine k_istore X [(4, .int 0), (3, .int 0), (2, .int 0), (0, .ref (A 6)), (1, .int x1)] dX9_mightOf_12 (by decide) rfl ?_
  refine k_room (k' := 0 + 10 * 0) (n' := 0 + 730 * 0) (by omega) (by omega) ?_
  have L_14 : ∀ (N : Nat) (i : Nat) (x : Int32) (Si : kS) (y2 y3 : Int32), 4 - i = N → x = nI i → (i ≤ 4 ∧ kI C.e0 A n cz T G Z Si ∧ kKe A S Si ∧ (∀ j, Si.I (A 1) j = S.I (A 1) j) ∧ ∃ m xs c, kLc C.e0 Si (A 24) 1 m xs c ∧ m ≤ 10 * i ∧ ∀ t, t < m → ∃ j, j < n ∧ xs t = cz j) → kG C 5 Si (0 + 10 * i) (0 + 730 * i) 14 [(4, .int x), (3, .int y3), (2, .int y2), (1, .int x1), (0, .ref (A 6))] [] := by
    intro N
    induction N using Nat.strongRecOn with
    | _ N ih =>
    intro i x Si y2 y3 hMs h14_0 h14_1
    subst h14_0
    obtain ⟨hBi, hIi, hKi, hA1, m, xs, c, hlc, hmi, hxs⟩ := h14_1
    refine k_iload X (q := 0) dX9_mightOf_14 rfl ?_
    refine k_iconst X (v := 4) dX9_mightOf_16 (by decide) ?_
    refine k_icmp_ge (tgt := 57) X dX9_mightOf_17 (by decide) (fun c_17 => ?_) (fun c_17 => ?_)
    · skip
      have hin : 4 = i := by have := ge_of_le (m := 4) c_17 (by omega); omega
      subst hin
      refine k_iload_n X (q := 2) dX9_mightOf_57 rfl rfl ?_
      refine k_iconst X (v := 4) dX9_mightOf_58 (by decide) ?_
      refine k_idiv X dX9_mightOf_59 (by decide) (fun v_59_5 ev_59_5 => ?_)
      refine k_aload_n X (q := 4) dX9_mightOf_60 rfl rfl ?_
      refine gX9_32s X (S := Si) (st_6 hIi.st).1 (st_6 hIi.st).2 (sr_6_0 hIi.st) dX9_mightOf_61 ?_
      refine gX9_203 X (S := Si) (st_1 hIi.st).1 (st_1 hIi.st).2 dX9_mightOf_64 (fun v_64_6 ev_64_6 => ?_)
      refine k_min X qmX9_206 (Nat.le_of_ble_eq_true rfl) (Nat.le_of_ble_eq_true rfl) ⟨(by show _ ≤ 40; omega), (by show _ ≤ 2920; omega)⟩ dX9_mightOf_67 (fun v_67_7 ev_67_7 => ?_)
      refine k_istore X [(4, .int v_67_7), (3, .int y3), (2, .int y2), (1, .int x1), (0, .ref (A 6))] dX9_mightOf_70 (by decide) rfl ?_
      refine k_iconst X (v := 3) dX9_mightOf_72 (by decide) ?_
      refine k_aload_n X (q := 4) dX9_mightOf_73 rfl rfl ?_
      refine gX9_18s X (S := Si) (st_6 hIi.st).1 (st_6 hIi.st).2 (sr_6_4 hIi.st) dX9_mightOf_74 ?_
      refine k_gotI X (vX9_97 X (S := Si) ⟨(st_24 hIi.st).1, (st_24 hIi.st).2⟩ (c_Jx4a65c_size_8abf5 C.l C.e0 Si (A 24) (st_24 hIi.st)) (As := []) (rest := [.int 3]) rfl rfl rfl rfl ⟨Nat.le_of_ble_eq_true rfl, Nat.le_of_ble_eq_true rfl⟩ (Nat.le_of_ble_eq_true rfl) ⟨(by show _ ≤ 40; omega), (by show _ ≤ 2920; omega)⟩ dX9_mightOf_77) (fun v_77_9 S_77_10 h_77_7 => ?_)
      obtain ⟨rfl, ev_77_9⟩ := h_77_7
      have hz_v_77_9 : nI m = v_77_9 := by rw [ev_77_9]; exact (hlc.s).2.1.symm
      subst hz_v_77_9
      refine k_imul X dX9_mightOf_80 (fun v_80_11 ev_80_11 => ?_)
      refine k_iconst X (v := 5) dX9_mightOf_81 (by decide) ?_
      refine k_iload_n X (q := 1) dX9_mightOf_82 rfl rfl ?_
      refine k_imul X dX9_mightOf_83 (fun v_83_12 ev_83_12 => ?_)
      refine k_iadd X dX9_mightOf_84 (fun v_84_13 ev_84_13 => ?_)
      refine k_bipush X (v := 10) dX9_mightOf_85 (by decide) ?_
      refine k_iload X (q := 0) dX9_mightOf_87 rfl ?_
      refine k_imul X dX9_mightOf_89 (fun v_89_14 ev_89_14 => ?_)
      refine k_iadd X dX9_mightOf_90 (fun v_90_15 ev_90_15 => ?_)
      refine k_aload_n X (q := 4) dX9_mightOf_91 rfl rfl ?_
      refine gX9_32s X (S := Si) (st_6 hIi.st).1 (st_6 hIi.st).2 (sr_6_0 hIi.st) dX9_mightOf_92 ?_
      refine gX9_169 X (S := Si) (st_1 hIi.st).1 (st_1 hIi.st).2 dX9_mightOf_95 (fun v_95_16 ev_95_16 => ?_)
      refine k_bipush X (v := 10) dX9_mightOf_98 (by decide) ?_
      refine k_idiv X dX9_mightOf_100 (by decide) (fun v_100_17 ev_100_17 => ?_)
      refine k_iadd X dX9_mightOf_101 (fun v_101_18 ev_101_18 => ?_)
      exact k_iret X E dX9_mightOf_102 (by show _ ≤ 40; omega) (by show _ ≤ 2920; omega) (⟨hIi.mono (by omega) (by omega) (by omega), hKi, hA1⟩)
    · skip
      have hlti : i < 4 := lt_of_nle (m := 4) c_17 (by omega)
      refine k_iload_n X (q := 3) dX9_mightOf_20 rfl rfl ?_
      refine k_iload X (q := 0) dX9_mightOf_21 rfl ?_
      refine k_ishr X dX9_mightOf_23 (fun v_23_19 ev_23_19 => ?_)
      refine k_iconst X (v := 1) dX9_mightOf_24 (by decide) ?_
      refine k_iand X dX9_mightOf_25 (fun v_25_20 ev_25_20 => ?_)
      refine k_iconst X (v := 1) dX9_mightOf_26 (by decide) ?_
      refine k_icmp_ne (tgt := 51) X dX9_mightOf_27 (by decide) (fun c_27 => ?_) (fun c_27 => ?_)
      · skip
        obtain ⟨v_51_21, ev_51_21⟩ : ∃ z : Int32, z = (nI i) + 1 := ⟨_, rfl⟩
        refine k_iinc X (q := 0) (v := v_51_21) [(4, .int v_51_21), (3, .int y3), (2, .int y2), (1, .int x1), (0, .ref (A 6))] dX9_mightOf_51 rfl (by rw [ev_51_21]; rfl) (by decide) rfl ?_
        refine k_goto (tgt := 14) X dX9_mightOf_54 (by decide) ?_
        refine k_lv [0, 1, 2, 3, 4] _ rfl ?_
        refine k_room (k' := 0 + 10 * (i + 1)) (n' := 0 + 730 * (i + 1)) (by omega) (by omega) ?_
        exact ih (4 - (i + 1)) (by omega) (i + 1) _ _ _ _ rfl (by rw [ev_51_21, nI_1]) ⟨by omega, hIi.mono (by omega) (by omega) (by omega), hKi, hA1, m, xs, c, hlc, by omega, hxs⟩
      · skip
        refine k_iload_n X (q := 2) dX9_mightOf_30 rfl rfl ?_
        refine k_aload_n X (q := 4) dX9_mightOf_31 rfl rfl ?_
        refine k_iload X (q := 0) dX9_mightOf_32 rfl ?_
        refine k_gotI X (vX9_193 X (S := Si) ⟨(st_6 hIi.st).1, (st_6 hIi.st).2⟩ (c_X9_callUp C.l C.e0 Si  A n cz _ _ _ hIi i hlti m c xs hlc (by omega) hxs (by omega)) (As := [.int (nI i)]) (rest := [.int y2]) rfl rfl rfl rfl ⟨Nat.le_of_ble_eq_true rfl, Nat.le_of_ble_eq_true rfl⟩ (Nat.le_of_ble_eq_true rfl) ⟨(by show _ ≤ 40; omega), (by show _ ≤ 2920; omega)⟩ dX9_mightOf_34) (fun v_34_23 S_34_24 h_34_21 => ?_)
        obtain ⟨hI_25, hx_25, hm_25⟩ := h_34_21
        have hK_25 := (hKi).tr hx_25
        obtain ⟨⟨m2, xs2, c2, hlc2, hm2, hxs2⟩, hA2⟩ := hm_25
        refine k_iadd X dX9_mightOf_37 (fun v_37_26 ev_37_26 => ?_)
        refine k_istore_n X [(2, .int v_37_26), (4, .int (nI i)), (3, .int y3), (1, .int x1), (0, .ref (A 6))] dX9_mightOf_38 rfl (by decide) rfl ?_
        refine k_iload_n X (q := 2) dX9_mightOf_39 rfl rfl ?_
        refine k_aload_n X (q := 4) dX9_mightOf_40 rfl rfl ?_
        refine k_iload X (q := 1) dX9_mightOf_41 rfl ?_
        refine k_gotI X (vX9_196 X (S := S_34_24) ⟨(st_6 hI_25.st).1, (st_6 hI_25.st).2⟩ (c_X9_hasGeneral C.l C.e0 S_34_24  A hI_25.st i hlti hI_25.hO) (As := [.int (nI i)]) (rest := [.int y3]) rfl rfl rfl rfl ⟨Nat.le_of_ble_eq_true rfl, Nat.le_of_ble_eq_true rfl⟩ (Nat.le_of_ble_eq_true rfl) ⟨(by show _ ≤ 40; omega), (by show _ ≤ 2920; omega)⟩ dX9_mightOf_43) (fun v_43_28 S_43_29 h_43_26 => ?_)
        subst h_43_26
        refine k_gotI X (vX9_199 X (S := S_34_24) (c_X11_asNumber C.l C.e0 S_34_24 v_43_28 ) (As := [.int v_43_28]) (rest := [.int y3]) rfl rfl rfl rfl ⟨Nat.le_of_ble_eq_true rfl, Nat.le_of_ble_eq_true rfl⟩ (Nat.le_of_ble_eq_true rfl) ⟨(by show _ ≤ 40; omega), (by show _ ≤ 2920; omega)⟩ dX9_mightOf_46) (fun v_46_31 S_46_32 h_46_29 => ?_)
        obtain ⟨rfl, ev_46_31⟩ := h_46_29
        refine k_iadd X dX9_mightOf_49 (fun v_49_33 ev_49_33 => ?_)
        refine k_istore_n X [(3, .int v_49_33), (2, .int v_37_26), (4, .int (nI i)), (1, .int x1), (0, .ref (A 6))] dX9_mightOf_50 rfl (by decide) rfl ?_
        obtain ⟨v_51_34, ev_51_34⟩ : ∃ z : Int32, z = (nI i) + 1 := ⟨_, rfl⟩
        refine k_iinc X (q := 2) (v := v_51_34) [(4, .int v_51_34), (3, .int v_49_33), (2, .int v_37_26), (1, .int x1), (0, .ref (A 6))] dX9_mightOf_51 rfl (by rw [ev_51_34]; rfl) (by decide) rfl ?_
        refine k_goto (tgt := 14) X dX9_mightOf_54 (by decide) ?_
        refine k_lv [0, 1, 2, 3, 4] _ rfl ?_
        refine k_room (k' := 0 + 10 * (i + 1)) (n' := 0 + 730 * (i + 1)) (by omega) (by omega) ?_
        exact ih (4 - (i + 1)) (by omega) (i + 1) _ _ _ _ rfl (by rw [ev_51_34, nI_1]) ⟨by omega, hI_25.mono (by omega) (by omega) (by omega), hK_25, (fun j => (hA2 j).trans (hA1 j)), m2, xs2, c2, hlc2, by omega, hxs2⟩
  refine k_lv [0, 1, 2, 4, 3] _ rfl ?_
  exact L_14 _ 0 0 _ _ _ rfl nI_0.symm ⟨by omega, hI_4.mono (by omega) (by omega) (by omega), hK_4, (hfc_1.2 _ (st_1 h.st).1 (fun z => by unfold kRo at z; rw [so_1 h.st] at z; omega)).1, 0, _, cc_1, hlc_1, by omega, fun t ht => absurd ht (by omega)⟩
set_option maxHeartbeats 1000000 in
set_option maxRecDepth 20000 in
theorem c_X9_buryFallen (l : Launch) (e0 : Nat × Nat) (S : kS) (x1 : Int32) (A : Nat → Nat) (n : Nat) (cz : Nat → Nat) (T G Z : Nat) (h : kI e0 A n cz T G Z S)  (hb : T + 40 ≤ 900000 ∧ G + 0 ≤ 60000 ∧ Z + 0 ≤ 150000) : kM l e0 yX9_buryFallen cX9_buryFallen 4 none ({ frames := 4, cells := 0, slots := 0, locals := 90 } : Room) 0 0 [.ref (A 6), .int x1] S (kQv (fun S9 => kI e0 A n cz (T + 40) (G + 0) (Z + 0) S9 ∧ kKe A S S9)) := by
  refine kMetE (by decide +kernel) (Nat.le_of_ble_eq_true rfl) (fun C he hl X E hm => ?_)
  have X : kX C RX9 cX9_buryFallen 4 ({ frames := 4, cells := 0, slots := 0, locals := 90 } : Room) := X
  subst he hl
  show kG C 4 S 0 0 0 [(0, .ref (A 6)), (1, .int x1)] []
  have hn := h.n40
  refine k_iconst X (v := 0) dX9_buryFallen_0 (by decide) ?_
  refine k_istore_n X [(2, .int 0), (0, .ref (A 6)), (1, .int x1)] dX9_buryFallen_1 rfl (by decide) rfl ?_
  have L_2 : ∀ (N : Nat) (i : Nat) (x : Int32) (Si : kS), 40 - i = N → x = nI i → (i ≤ 40 ∧ kI C.e0 A n cz (T + 1 * i) G Z Si ∧ kKe A S Si) → kG C 4 Si 0 0 2 [(2, .int x), (1, .int x1), (0, .ref (A 6))] [] := by
    intro N
    induction N using Nat.strongRecOn with
    | _ N ih =>
    intro i x Si hMs h2_0 h2_1
    subst h2_0
    obtain ⟨hBi, hIi, hKi⟩ := h2_1
    obtain ⟨mr, xr, hLr, hmr, hxr⟩ := hIi.cl (r := 24) (by unfold clR; omega)
    refine k_iload_n X (q := 0) dX9_buryFallen_2 rfl rfl ?_
    refine k_aload_n X (q := 2) dX9_buryFallen_3 rfl rfl ?_
    refine gX9_18s X (S := Si) (st_6 hIi.st).1 (st_6 hIi.st).2 (sr_6_4 hIi.st) dX9_buryFallen_4 ?_
    refine k_gotI X (vX9_97 X (S := Si) ⟨(st_24 hIi.st).1, (st_24 hIi.st).2⟩ (c_Jx4a65c_size_8abf5 C.l C.e0 Si (A 24) (st_24 hIi.st)) (As := []) (rest := [.int (nI i)]) rfl rfl rfl rfl ⟨Nat.le_of_ble_eq_true rfl, Nat.le_of_ble_eq_true rfl⟩ (Nat.le_of_ble_eq_true rfl) ⟨Nat.le_of_ble_eq_true rfl, Nat.le_of_ble_eq_true rfl⟩ dX9_buryFallen_7) (fun v_7_2 S_7_3 h_7_0 => ?_)
    obtain ⟨rfl, ev_7_2⟩ := h_7_0
    have hz_v_7_2 : nI mr = v_7_2 := by rw [ev_7_2]; exact (hLr).2.1.symm
    subst hz_v_7_2
    refine k_icmp_ge (tgt := 66) X dX9_buryFallen_10 (by decide) (fun c_10 => ?_) (fun c_10 => ?_)
    · skip
      exact k_vret X E dX9_buryFallen_66 (Nat.le_of_ble_eq_true rfl) (Nat.le_of_ble_eq_true rfl) (⟨hIi.mono (by omega) (by omega) (by omega), hKi⟩)
    · skip
      have hltm : i < mr := lt_of_nle c_10 (by omega)
      have hlti : i < 40 := by omega
      refine k_aload_n X (q := 2) dX9_buryFallen_13 rfl rfl ?_
      refine gX9_18s X (S := Si) (st_6 hIi.st).1 (st_6 hIi.st).2 (sr_6_4 hIi.st) dX9_buryFallen_14 ?_
      refine k_iload_n X (q := 0) dX9_buryFallen_17 rfl rfl ?_
      refine k_gotQ X (vX9_53 X (S := Si) ⟨(st_24 hIi.st).1, (st_24 hIi.st).2⟩ (c_Jx4a65c_get_915e3 C.l C.e0 Si (A 24) 1 mr i xr (hLr) hltm) (As := [.int (nI i)]) (rest := []) rfl rfl rfl rfl ⟨Nat.le_of_ble_eq_true rfl, Nat.le_of_ble_eq_true rfl⟩ (Nat.le_of_ble_eq_true rfl) ⟨Nat.le_of_ble_eq_true rfl, Nat.le_of_ble_eq_true rfl⟩ dX9_buryFallen_18) (fun r_18_5 S_18_6 h_18_3 => ?_)
      obtain ⟨rfl, er_18_5⟩ := h_18_3
      subst er_18_5
      refine tX9_57 X (S := Si) ⟨(kLs.el (hLr) hltm).1, (kLs.el (hLr) hltm).2⟩ dX9_buryFallen_21 ?_
      obtain ⟨j, hj, hxj⟩ := hxr i hltm
      rw [hxj]
      refine k_astore_n X [(3, .ref (cz j)), (2, .int (nI i)), (1, .int x1), (0, .ref (A 6))] dX9_buryFallen_24 rfl (by decide) rfl ?_
      refine k_aload_n X (q := 3) dX9_buryFallen_25 rfl rfl ?_
      refine gX9_32s X (S := Si) (st_6 hIi.st).1 (st_6 hIi.st).2 (sr_6_0 hIi.st) dX9_buryFallen_26 ?_
      refine gX9_144s X (S := Si) (st_1 hIi.st).1 (st_1 hIi.st).2 (sr_1_11 hIi.st) dX9_buryFallen_29 ?_
      refine k_iload_n X (q := 2) dX9_buryFallen_32 rfl rfl ?_
      refine k_gotI X (vX9_175 X (S := Si) ⟨(st_7 hIi.st).1, (st_7 hIi.st).2⟩ (c_X6_drawOneOf C.l C.e0 Si x1 A hIi.st ) (As := [.int x1]) (rest := []) rfl rfl rfl rfl ⟨Nat.le_of_ble_eq_true rfl, Nat.le_of_ble_eq_true rfl⟩ (Nat.le_of_ble_eq_true rfl) ⟨Nat.le_of_ble_eq_true rfl, Nat.le_of_ble_eq_true rfl⟩ dX9_buryFallen_33) (fun v_33_8 S_33_9 h_33_6 => ?_)
      obtain ⟨rfl, ev_33_8⟩ := h_33_6
      obtain ⟨hI_10, hx_10⟩ := hIi.draw (by omega)
      have hK_10 := (hKi).tr hx_10
      refine k_if_ne (tgt := 60) X dX9_buryFallen_36 (by decide) (fun c_36 => ?_) (fun c_36 => ?_)
      · skip
        obtain ⟨v_60_11, ev_60_11⟩ : ∃ z : Int32, z = (nI i) + 1 := ⟨_, rfl⟩
        refine k_iinc X (q := 1) (v := v_60_11) [(2, .int v_60_11), (3, .ref (cz j)), (1, .int x1), (0, .ref (A 6))] dX9_buryFallen_60 rfl (by rw [ev_60_11]; rfl) (by decide) rfl ?_
        refine k_goto (tgt := 2) X dX9_buryFallen_63 (by decide) ?_
        refine k_lv [0, 2, 3] _ rfl ?_
        exact ih (40 - (i + 1)) (by omega) (i + 1) _ _ rfl (by rw [ev_60_11, nI_1]) ⟨by omega, hI_10.mono (by omega) (by omega) (by omega), hK_10⟩
      · skip
        refine k_aload_n X (q := 3) dX9_buryFallen_39 rfl rfl ?_
        refine gX9_32s X (S := (kdraw Si A)) (st_6 hI_10.st).1 (st_6 hI_10.st).2 (sr_6_0 hI_10.st) dX9_buryFallen_40 ?_
        refine k_aload_n X (q := 0) dX9_buryFallen_43 rfl rfl ?_
        refine k_iconst X (v := 4) dX9_buryFallen_44 (by decide) ?_
        refine k_gotV X (vX9_154 X (S := (kdraw Si A)) ⟨(st_1 hI_10.st).1, (st_1 hI_10.st).2⟩ (c_X2_sendAway C.l C.e0 (kdraw Si A) 4 A n cz j _ _ _ hI_10 hj) (As := [.ref (cz j), .int 4]) (rest := []) rfl rfl rfl rfl ⟨Nat.le_of_ble_eq_true rfl, Nat.le_of_ble_eq_true rfl⟩ (Nat.le_of_ble_eq_true rfl) ⟨Nat.le_of_ble_eq_true rfl, Nat.le_of_ble_eq_true rfl⟩ dX9_buryFallen_45) (fun S_45_13 h_45_11 => ?_)
        have hsd_45 := h_45_11
        obtain ⟨hI_14, hx_14⟩ := hI_10.send hj (s := 4) (by omega) hsd_45
        have hK_14 := (hK_10).tr hx_14
        refine k_aload_n X (q := 3) dX9_buryFallen_48 rfl rfl ?_
        refine gX9_21s X (S := S_45_13) (st_6 hI_14.st).1 (st_6 hI_14.st).2 (sr_6_5 hI_14.st) dX9_buryFallen_49 ?_
        refine k_aload_n X (q := 0) dX9_buryFallen_52 rfl rfl ?_
        refine k_gotI X (vX9_209 X (S := S_45_13) ⟨(hI_14.at hj).1, (hI_14.at hj).2⟩ (c_X1_tribe C.l C.e0 S_45_13 (cz j) (hI_14.at hj)) (As := []) (rest := [.ref (A 51)]) rfl rfl rfl rfl ⟨Nat.le_of_ble_eq_true rfl, Nat.le_of_ble_eq_true rfl⟩ (Nat.le_of_ble_eq_true rfl) ⟨Nat.le_of_ble_eq_true rfl, Nat.le_of_ble_eq_true rfl⟩ dX9_buryFallen_53) (fun v_53_16 S_53_17 h_53_14 => ?_)
        obtain ⟨rfl, ev_53_16⟩ := h_53_14
        refine k_iconst X (v := 1) dX9_buryFallen_56 (by decide) ?_
        refine k_gotV X (vX9_234 X (S := S_45_13) (c_X11_addAt C.l C.e0 S_45_13 (A 51) v_53_16 1 ⟨(st_51 hI_14.st).1, (st_51 hI_14.st).2⟩ (sm_51 hI_14.st)) (As := [.ref (A 51), .int v_53_16, .int 1]) (rest := []) rfl rfl rfl rfl ⟨Nat.le_of_ble_eq_true rfl, Nat.le_of_ble_eq_true rfl⟩ (Nat.le_of_ble_eq_true rfl) ⟨Nat.le_of_ble_eq_true rfl, Nat.le_of_ble_eq_true rfl⟩ dX9_buryFallen_57) (fun S_57_19 h_57_17 => ?_)
        subst h_57_17
        obtain ⟨hI_20, hx_20⟩ := (⟨(hI_14.aat (x := v_53_16) (v := 1) (so_51 hI_14.st) (by omega)).1, (hI_14.aat (x := v_53_16) (v := 1) (so_51 hI_14.st) (by omega)).2 (by omega)⟩ : _ ∧ _)
        have hK_20 := (hK_14).tr hx_20
        obtain ⟨v_60_21, ev_60_21⟩ : ∃ z : Int32, z = (nI i) + 1 := ⟨_, rfl⟩
        refine k_iinc X (q := 1) (v := v_60_21) [(2, .int v_60_21), (3, .ref (cz j)), (1, .int x1), (0, .ref (A 6))] dX9_buryFallen_60 rfl (by rw [ev_60_21]; rfl) (by decide) rfl ?_
        refine k_goto (tgt := 2) X dX9_buryFallen_63 (by decide) ?_
        refine k_lv [0, 2, 3] _ rfl ?_
        exact ih (40 - (i + 1)) (by omega) (i + 1) _ _ rfl (by rw [ev_60_21, nI_1]) ⟨by omega, hI_20.mono (by omega) (by omega) (by omega), hK_20⟩
  refine k_lv [0, 2, 1] _ rfl ?_
  exact L_2 _ 0 0 _ rfl nI_0.symm ⟨by omega, h.mono (by omega) (by omega) (by omega), kKe.rf⟩
set_option maxHeartbeats 1000000 in
set_option maxRecDepth 20000 in
theorem c_X9_fight (l : Launch) (e0 : Nat × Nat) (S : kS) (x1 : Int32) (A : Nat → Nat) (n : Nat) (cz : Nat → Nat) (T G Z : Nat) (h : kI e0 A n cz T G Z S) (w0 : Nat) (hw0 : w0 ≤ 300) (hwar : S.I (A 1) 9 = nI w0) (hb : T + 42 ≤ 900000 ∧ G + 0 ≤ 60000 ∧ Z + 300 ≤ 150000) : kM l e0 yX9_fight cX9_fight 5 (Option.some Jvm.ClassFile.FieldType.int) ({ frames := 9, cells := 40, slots := 2920, locals := 239 } : Room) 40 2920 [.ref (A 6), .int x1] S (kQi (fun v S9 => kI e0 A n cz (T + 42) (G + 0) (Z + 300) S9 ∧ kKe A S S9)) := by
  refine kMetE (by decide +kernel) (Nat.le_of_ble_eq_true rfl) (fun C he hl X E hm => ?_)
  have X : kX C RX9 cX9_fight 5 ({ frames := 9, cells := 40, slots := 2920, locals := 239 } : Room) := X
  subst he hl
  show kG C 5 S 0 0 0 [(0, .ref (A 6)), (1, .int x1)] []
  have hn := h.n40
  have n16 : ¬ A 1 = A 6 := h.st.ne (r := 1) (r' := 6) (κ := 2) (κ' := 9) (by decide) (by decide) (by decide)
  refine k_aload_n X (q := 0) dX9_fight_0 rfl rfl ?_
  refine k_aload_n X (q := 0) dX9_fight_1 rfl rfl ?_
  refine gX9_32s X (S := S) (st_6 h.st).1 (st_6 h.st).2 (sr_6_0 h.st) dX9_fight_2 ?_
  refine gX9_44 X (S := S) (st_1 h.st).1 (st_1 h.st).2 dX9_fight_5 (fun v_5_1 ev_5_1 => ?_)
  refine pX9_25 X (S := S) (st_6 h.st).1 (st_6 h.st).2 dX9_fight_8 ?_
  obtain ⟨hI_2, hx_2⟩ := (⟨h.fI (i := 6) (v := v_5_1) (so_6 h.st) (by unfold pSM; omega) (by unfold pVM pCi pHo pCh pLe pMy pMs pOf; omega) (by unfold pLu; omega), h.fIk (i := 6) (v := v_5_1) (so_6 h.st) (by unfold pKe; omega)⟩ : _ ∧ _)
  have hK_2 := (kKe.rf).tr hx_2
  refine k_aload_n X (q := 0) dX9_fight_11 rfl rfl ?_
  refine k_iload_n X (q := 1) dX9_fight_12 rfl rfl ?_
  refine k_gotI X (vX9_166 X (S := (S.uI (A 6) 6 v_5_1)) ⟨(st_6 hI_2.st).1, (st_6 hI_2.st).2⟩ (c_X9_mightOf C.l C.e0 (S.uI (A 6) 6 v_5_1) x1 A n cz _ _ _ hI_2  (by omega)) (As := [.int x1]) (rest := []) rfl rfl rfl rfl ⟨Nat.le_of_ble_eq_true rfl, Nat.le_of_ble_eq_true rfl⟩ (Nat.le_of_ble_eq_true rfl) ⟨Nat.le_of_ble_eq_true rfl, Nat.le_of_ble_eq_true rfl⟩ dX9_fight_13) (fun v_13_4 S_13_5 h_13_2 => ?_)
  obtain ⟨hI_6, hx_6, hm_6⟩ := h_13_2
  have hK_6 := (hK_2).tr hx_6
  have hw2 : S_13_5.I (A 1) 9 = nI w0 := by rw [hm_6 9, uI_I, if_neg (by omega)]; exact hwar
  refine k_istore_n X [(2, .int v_13_4), (0, .ref (A 6)), (1, .int x1)] dX9_fight_16 rfl (by decide) rfl ?_
  refine k_aload_n X (q := 1) dX9_fight_17 rfl rfl ?_
  refine gX9_32s X (S := S_13_5) (st_6 hI_6.st).1 (st_6 hI_6.st).2 (sr_6_0 hI_6.st) dX9_fight_18 ?_
  refine k_dup X dX9_fight_21 rfl ?_
  refine gX9_169 X (S := S_13_5) (st_1 hI_6.st).1 (st_1 hI_6.st).2 dX9_fight_22 (fun v_22_7 ev_22_7 => ?_)
  refine k_aload_n X (q := 1) dX9_fight_25 rfl rfl ?_
  refine gX9_32s X (S := S_13_5) (st_6 hI_6.st).1 (st_6 hI_6.st).2 (sr_6_0 hI_6.st) dX9_fight_26 ?_
  refine gX9_169 X (S := S_13_5) (st_1 hI_6.st).1 (st_1 hI_6.st).2 dX9_fight_29 (fun v_29_8 ev_29_8 => ?_)
  refine k_iconst X (v := 2) dX9_fight_32 (by decide) ?_
  refine k_idiv X dX9_fight_33 (by decide) (fun v_33_9 ev_33_9 => ?_)
  refine k_isub X dX9_fight_34 (fun v_34_10 ev_34_10 => ?_)
  refine pX9_169 X (S := S_13_5) (st_1 hI_6.st).1 (st_1 hI_6.st).2 dX9_fight_35 ?_
  obtain ⟨hI_11, hx_11⟩ := (⟨hI_6.fI (i := 7) (v := v_34_10) (so_1 hI_6.st) (by unfold pSM; omega) (by unfold pVM pCi pHo pCh pLe pMy pMs pOf; omega) (by unfold pLu; omega), hI_6.fIk (i := 7) (v := v_34_10) (so_1 hI_6.st) (by unfold pKe; omega)⟩ : _ ∧ _)
  have hK_11 := (hK_6).tr hx_11
  refine k_aload_n X (q := 1) dX9_fight_38 rfl rfl ?_
  refine gX9_32s X (S := (S_13_5.uI (A 1) 7 v_34_10)) (st_6 hI_11.st).1 (st_6 hI_11.st).2 (sr_6_0 hI_11.st) dX9_fight_39 ?_
  refine gX9_172 X (S := (S_13_5.uI (A 1) 7 v_34_10)) (st_1 hI_11.st).1 (st_1 hI_11.st).2 dX9_fight_42 (fun v_42_12 ev_42_12 => ?_)
  refine k_aload_n X (q := 1) dX9_fight_45 rfl rfl ?_
  refine gX9_32s X (S := (S_13_5.uI (A 1) 7 v_34_10)) (st_6 hI_11.st).1 (st_6 hI_11.st).2 (sr_6_0 hI_11.st) dX9_fight_46 ?_
  refine gX9_144s X (S := (S_13_5.uI (A 1) 7 v_34_10)) (st_1 hI_11.st).1 (st_1 hI_11.st).2 (sr_1_11 hI_11.st) dX9_fight_49 ?_
  refine k_bipush X (v := 40) dX9_fight_52 (by decide) ?_
  refine k_gotI X (vX9_175 X (S := (S_13_5.uI (A 1) 7 v_34_10)) ⟨(st_7 hI_11.st).1, (st_7 hI_11.st).2⟩ (c_X6_drawOneOf C.l C.e0 (S_13_5.uI (A 1) 7 v_34_10) 40 A hI_11.st ) (As := [.int 40]) (rest := [.int v_42_12]) rfl rfl rfl rfl ⟨Nat.le_of_ble_eq_true rfl, Nat.le_of_ble_eq_true rfl⟩ (Nat.le_of_ble_eq_true rfl) ⟨Nat.le_of_ble_eq_true rfl, Nat.le_of_ble_eq_true rfl⟩ dX9_fight_54) (fun v_54_14 S_54_15 h_54_12 => ?_)
  obtain ⟨rfl, ev_54_14⟩ := h_54_12
  obtain ⟨hI_16, hx_16⟩ := hI_11.draw (by omega)
  have hK_16 := (hK_11).tr hx_16
  refine k_iadd X dX9_fight_57 (fun v_57_17 ev_57_17 => ?_)
  refine k_istore_n X [(3, .int v_57_17), (2, .int v_13_4), (0, .ref (A 6)), (1, .int x1)] dX9_fight_58 rfl (by decide) rfl ?_
  refine k_iload_n X (q := 1) dX9_fight_59 rfl rfl ?_
  refine k_iload_n X (q := 0) dX9_fight_60 rfl rfl ?_
  refine k_icmp_le (tgt := 68) X dX9_fight_61 (by decide) (fun c_61 => ?_) (fun c_61 => ?_)
  · skip
    refine k_iconst X (v := 0) dX9_fight_68 (by decide) ?_
    refine k_istore X [(4, .int 0), (3, .int v_57_17), (2, .int v_13_4), (0, .ref (A 6)), (1, .int x1)] dX9_fight_69 (by decide) rfl ?_
    refine k_iload X (q := 0) dX9_fight_71 rfl ?_
    refine k_if_eq (tgt := 109) X dX9_fight_73 (by decide) (fun c_73 => ?_) (fun c_73 => ?_)
    · skip
      refine k_aload_n X (q := 3) dX9_fight_109 rfl rfl ?_
      refine gX9_32s X (S := (kdraw (S_13_5.uI (A 1) 7 v_34_10) A)) (st_6 hI_16.st).1 (st_6 hI_16.st).2 (sr_6_0 hI_16.st) dX9_fight_110 ?_
      refine k_iconst X (v := 0) dX9_fight_113 (by decide) ?_
      refine k_aload_n X (q := 3) dX9_fight_114 rfl rfl ?_
      refine gX9_32s X (S := (kdraw (S_13_5.uI (A 1) 7 v_34_10) A)) (st_6 hI_16.st).1 (st_6 hI_16.st).2 (sr_6_0 hI_16.st) dX9_fight_115 ?_
      refine gX9_172 X (S := (kdraw (S_13_5.uI (A 1) 7 v_34_10) A)) (st_1 hI_16.st).1 (st_1 hI_16.st).2 dX9_fight_118 (fun v_118_18 ev_118_18 => ?_)
      have n17 : ¬ A 1 = A 7 := h.st.ne (r := 1) (r' := 7) (κ := 2) (κ' := 6) (by decide) (by decide) (by decide)
      have hv9 : nI w0 = v_118_18 := by
        rw [ev_118_18]
        unfold kdraw
        rw [uI_I, if_neg (by omega), uI_I, if_neg (by omega), uI_I, if_neg (by omega)]
        exact hw2.symm
      subst hv9
      refine k_bipush X (v := 10) dX9_fight_121 (by decide) ?_
      refine k_isub X dX9_fight_123 (fun v_123_19 ev_123_19 => ?_)
      refine k_max X qmX9_184 (Nat.le_of_ble_eq_true rfl) (Nat.le_of_ble_eq_true rfl) ⟨Nat.le_of_ble_eq_true rfl, Nat.le_of_ble_eq_true rfl⟩ dX9_fight_124 (fun v_124_20 ev_124_20 => ?_)
      refine pX9_172 X (S := (kdraw (S_13_5.uI (A 1) 7 v_34_10) A)) (st_1 hI_16.st).1 (st_1 hI_16.st).2 dX9_fight_127 ?_
      obtain ⟨hI_21, hx_21⟩ := hI_16.war (v := v_124_20) (Or.inr ⟨w0 - 10, by omega, by rw [ev_124_20, ev_123_19]; exact kwar10 w0 hw0⟩)
      have hK_21 := (hK_16).tr hx_21
      refine k_aload_n X (q := 3) dX9_fight_130 rfl rfl ?_
      refine gX9_32s X (S := ((kdraw (S_13_5.uI (A 1) 7 v_34_10) A).uI (A 1) 9 v_124_20)) (st_6 hI_21.st).1 (st_6 hI_21.st).2 (sr_6_0 hI_21.st) dX9_fight_131 ?_
      refine k_dup X dX9_fight_134 rfl ?_
      refine gX9_66 X (S := ((kdraw (S_13_5.uI (A 1) 7 v_34_10) A).uI (A 1) 9 v_124_20)) (st_1 hI_21.st).1 (st_1 hI_21.st).2 dX9_fight_135 (fun v_135_22 ev_135_22 => ?_)
      refine k_iconst X (v := 3) dX9_fight_138 (by decide) ?_
      refine k_iadd X dX9_fight_139 (fun v_139_23 ev_139_23 => ?_)
      refine pX9_66 X (S := ((kdraw (S_13_5.uI (A 1) 7 v_34_10) A).uI (A 1) 9 v_124_20)) (st_1 hI_21.st).1 (st_1 hI_21.st).2 dX9_fight_140 ?_
      have hun_24 : 0 ≤ (v_139_23).toInt ∧ (v_139_23).toInt ≤ 3 * (((T + 1) + 1 : Nat) : Int) := by
        obtain ⟨-, ⟨u1, u2⟩, -⟩ := hI_21.ms
        have q9 : (3 : Int32).toInt = 3 := rfl
        rw [ev_139_23, i_add (by rw [ev_135_22, q9]; omega) (by rw [ev_135_22, q9]; omega), ev_135_22, q9]
        omega
      obtain ⟨hI_25, hx_25⟩ := (hI_21.mono (T' := (T + 1) + 1) (by omega) (Nat.le_refl _) (Nat.le_refl _)).un hun_24
      have hK_25 := (hK_21).tr hx_25
      refine k_aload_n X (q := 3) dX9_fight_143 rfl rfl ?_
      refine k_iload X (q := 0) dX9_fight_144 rfl ?_
      refine k_if_eq (tgt := 154) X dX9_fight_146 (by decide) (fun c_146 => ?_) (fun c_146 => ?_)
      · skip
        refine k_bipush X (v := 8) dX9_fight_154 (by decide) ?_
        refine k_gotV X (vX9_190 X (S := (((kdraw (S_13_5.uI (A 1) 7 v_34_10) A).uI (A 1) 9 v_124_20).uI (A 1) 2 v_139_23)) ⟨(st_6 hI_25.st).1, (st_6 hI_25.st).2⟩ (c_X9_buryFallen C.l C.e0 (((kdraw (S_13_5.uI (A 1) 7 v_34_10) A).uI (A 1) 9 v_124_20).uI (A 1) 2 v_139_23) 8 A n cz _ _ _ hI_25  (by omega)) (As := [.int 8]) (rest := []) rfl rfl rfl rfl ⟨Nat.le_of_ble_eq_true rfl, Nat.le_of_ble_eq_true rfl⟩ (Nat.le_of_ble_eq_true rfl) ⟨Nat.le_of_ble_eq_true rfl, Nat.le_of_ble_eq_true rfl⟩ dX9_fight_156) (fun S_156_27 h_156_25 => ?_)
        obtain ⟨hI_28, hx_28⟩ := h_156_25
        have hK_28 := (hK_25).tr hx_28
        refine k_iload_n X (q := 2) dX9_fight_159 rfl rfl ?_
        refine k_iload_n X (q := 1) dX9_fight_160 rfl rfl ?_
        refine k_isub X dX9_fight_161 (fun v_161_29 ev_161_29 => ?_)
        exact k_iret X E dX9_fight_162 (Nat.le_of_ble_eq_true rfl) (Nat.le_of_ble_eq_true rfl) (⟨hI_28.mono (by omega) (by omega) (by omega), hK_28⟩)
      · skip
        refine k_bipush X (v := 16) dX9_fight_149 (by decide) ?_
        refine k_goto (tgt := 156) X dX9_fight_151 (by decide) ?_
        refine k_gotV X (vX9_190 X (S := (((kdraw (S_13_5.uI (A 1) 7 v_34_10) A).uI (A 1) 9 v_124_20).uI (A 1) 2 v_139_23)) ⟨(st_6 hI_25.st).1, (st_6 hI_25.st).2⟩ (c_X9_buryFallen C.l C.e0 (((kdraw (S_13_5.uI (A 1) 7 v_34_10) A).uI (A 1) 9 v_124_20).uI (A 1) 2 v_139_23) 16 A n cz _ _ _ hI_25  (by omega)) (As := [.int 16]) (rest := []) rfl rfl rfl rfl ⟨Nat.le_of_ble_eq_true rfl, Nat.le_of_ble_eq_true rfl⟩ (Nat.le_of_ble_eq_true rfl) ⟨Nat.le_of_ble_eq_true rfl, Nat.le_of_ble_eq_true rfl⟩ dX9_fight_156) (fun S_156_31 h_156_29 => ?_)
        obtain ⟨hI_32, hx_32⟩ := h_156_29
        have hK_32 := (hK_25).tr hx_32
        refine k_iload_n X (q := 2) dX9_fight_159 rfl rfl ?_
        refine k_iload_n X (q := 1) dX9_fight_160 rfl rfl ?_
        refine k_isub X dX9_fight_161 (fun v_161_33 ev_161_33 => ?_)
        exact k_iret X E dX9_fight_162 (Nat.le_of_ble_eq_true rfl) (Nat.le_of_ble_eq_true rfl) (⟨hI_32.mono (by omega) (by omega) (by omega), hK_32⟩)
    · skip
      refine k_aload_n X (q := 3) dX9_fight_76 rfl rfl ?_
      refine gX9_32s X (S := (kdraw (S_13_5.uI (A 1) 7 v_34_10) A)) (st_6 hI_16.st).1 (st_6 hI_16.st).2 (sr_6_0 hI_16.st) dX9_fight_77 ?_
      refine k_aload_n X (q := 3) dX9_fight_80 rfl rfl ?_
      refine gX9_32s X (S := (kdraw (S_13_5.uI (A 1) 7 v_34_10) A)) (st_6 hI_16.st).1 (st_6 hI_16.st).2 (sr_6_0 hI_16.st) dX9_fight_81 ?_
      refine gX9_172 X (S := (kdraw (S_13_5.uI (A 1) 7 v_34_10) A)) (st_1 hI_16.st).1 (st_1 hI_16.st).2 dX9_fight_84 (fun v_84_34 ev_84_34 => ?_)
      have n17 : ¬ A 1 = A 7 := h.st.ne (r := 1) (r' := 7) (κ := 2) (κ' := 6) (by decide) (by decide) (by decide)
      have hv9 : nI w0 = v_84_34 := by
        rw [ev_84_34]
        unfold kdraw
        rw [uI_I, if_neg (by omega), uI_I, if_neg (by omega), uI_I, if_neg (by omega)]
        exact hw2.symm
      subst hv9
      refine k_gotV X (vX9_178 X (S := (kdraw (S_13_5.uI (A 1) 7 v_34_10) A)) ⟨(st_1 hI_16.st).1, (st_1 hI_16.st).2⟩ (c_X2_takeIn C.l C.e0 (kdraw (S_13_5.uI (A 1) 7 v_34_10) A) (nI w0) A hI_16.st ) (As := [.int (nI w0)]) (rest := []) rfl rfl rfl rfl ⟨Nat.le_of_ble_eq_true rfl, Nat.le_of_ble_eq_true rfl⟩ (Nat.le_of_ble_eq_true rfl) ⟨Nat.le_of_ble_eq_true rfl, Nat.le_of_ble_eq_true rfl⟩ dX9_fight_87) (fun S_87_36 h_87_34 => ?_)
      subst h_87_34
      obtain ⟨hI_37, hx_37⟩ := hI_16.take (x := (nI w0)) (e := 300) (by rw [nI_toInt (by omega)]; omega) (by omega)
      have hK_37 := (hK_16).tr hx_37
      refine k_aload_n X (q := 3) dX9_fight_90 rfl rfl ?_
      refine gX9_32s X (S := (ktake (kdraw (S_13_5.uI (A 1) 7 v_34_10) A) A (nI w0))) (st_6 hI_37.st).1 (st_6 hI_37.st).2 (sr_6_0 hI_37.st) dX9_fight_91 ?_
      refine k_iconst X (v := 2) dX9_fight_94 (by decide) ?_
      refine k_gotV X (vX9_181 X (S := (ktake (kdraw (S_13_5.uI (A 1) 7 v_34_10) A) A (nI w0))) ⟨(st_1 hI_37.st).1, (st_1 hI_37.st).2⟩ (c_X2_calm C.l C.e0 (ktake (kdraw (S_13_5.uI (A 1) 7 v_34_10) A) A (nI w0)) 2 A hI_37.st ) (As := [.int 2]) (rest := []) rfl rfl rfl rfl ⟨Nat.le_of_ble_eq_true rfl, Nat.le_of_ble_eq_true rfl⟩ (Nat.le_of_ble_eq_true rfl) ⟨Nat.le_of_ble_eq_true rfl, Nat.le_of_ble_eq_true rfl⟩ dX9_fight_95) (fun S_95_39 h_95_37 => ?_)
      subst h_95_37
      obtain ⟨hI_40, hx_40⟩ := hI_37.calm (x := 2) (by decide) (by omega)
      have hK_40 := (hK_37).tr hx_40
      refine k_aload_n X (q := 3) dX9_fight_98 rfl rfl ?_
      refine gX9_32s X (S := (kcalm (ktake (kdraw (S_13_5.uI (A 1) 7 v_34_10) A) A (nI w0)) A 2)) (st_6 hI_40.st).1 (st_6 hI_40.st).2 (sr_6_0 hI_40.st) dX9_fight_99 ?_
      refine k_iconst X (v := (-1)) dX9_fight_102 (by decide) ?_
      refine pX9_172 X (S := (kcalm (ktake (kdraw (S_13_5.uI (A 1) 7 v_34_10) A) A (nI w0)) A 2)) (st_1 hI_40.st).1 (st_1 hI_40.st).2 dX9_fight_103 ?_
      obtain ⟨hI_41, hx_41⟩ := hI_40.war (v := -1) (Or.inl rfl)
      have hK_41 := (hK_40).tr hx_41
      refine k_goto (tgt := 143) X dX9_fight_106 (by decide) ?_
      refine k_aload_n X (q := 3) dX9_fight_143 rfl rfl ?_
      refine k_iload X (q := 0) dX9_fight_144 rfl ?_
      refine k_if_eq (tgt := 154) X dX9_fight_146 (by decide) (fun c_146 => ?_) (fun c_146 => ?_)
      · skip
        refine k_bipush X (v := 8) dX9_fight_154 (by decide) ?_
        refine k_gotV X (vX9_190 X (S := ((kcalm (ktake (kdraw (S_13_5.uI (A 1) 7 v_34_10) A) A (nI w0)) A 2).uI (A 1) 9 (-1 : Int32))) ⟨(st_6 hI_41.st).1, (st_6 hI_41.st).2⟩ (c_X9_buryFallen C.l C.e0 ((kcalm (ktake (kdraw (S_13_5.uI (A 1) 7 v_34_10) A) A (nI w0)) A 2).uI (A 1) 9 (-1 : Int32)) 8 A n cz _ _ _ hI_41  (by omega)) (As := [.int 8]) (rest := []) rfl rfl rfl rfl ⟨Nat.le_of_ble_eq_true rfl, Nat.le_of_ble_eq_true rfl⟩ (Nat.le_of_ble_eq_true rfl) ⟨Nat.le_of_ble_eq_true rfl, Nat.le_of_ble_eq_true rfl⟩ dX9_fight_156) (fun S_156_43 h_156_41 => ?_)
        obtain ⟨hI_44, hx_44⟩ := h_156_41
        have hK_44 := (hK_41).tr hx_44
        refine k_iload_n X (q := 2) dX9_fight_159 rfl rfl ?_
        refine k_iload_n X (q := 1) dX9_fight_160 rfl rfl ?_
        refine k_isub X dX9_fight_161 (fun v_161_45 ev_161_45 => ?_)
        exact k_iret X E dX9_fight_162 (Nat.le_of_ble_eq_true rfl) (Nat.le_of_ble_eq_true rfl) (⟨hI_44.mono (by omega) (by omega) (by omega), hK_44⟩)
      · skip
        refine k_bipush X (v := 16) dX9_fight_149 (by decide) ?_
        refine k_goto (tgt := 156) X dX9_fight_151 (by decide) ?_
        refine k_gotV X (vX9_190 X (S := ((kcalm (ktake (kdraw (S_13_5.uI (A 1) 7 v_34_10) A) A (nI w0)) A 2).uI (A 1) 9 (-1 : Int32))) ⟨(st_6 hI_41.st).1, (st_6 hI_41.st).2⟩ (c_X9_buryFallen C.l C.e0 ((kcalm (ktake (kdraw (S_13_5.uI (A 1) 7 v_34_10) A) A (nI w0)) A 2).uI (A 1) 9 (-1 : Int32)) 16 A n cz _ _ _ hI_41  (by omega)) (As := [.int 16]) (rest := []) rfl rfl rfl rfl ⟨Nat.le_of_ble_eq_true rfl, Nat.le_of_ble_eq_true rfl⟩ (Nat.le_of_ble_eq_true rfl) ⟨Nat.le_of_ble_eq_true rfl, Nat.le_of_ble_eq_true rfl⟩ dX9_fight_156) (fun S_156_47 h_156_45 => ?_)
        obtain ⟨hI_48, hx_48⟩ := h_156_45
        have hK_48 := (hK_41).tr hx_48
        refine k_iload_n X (q := 2) dX9_fight_159 rfl rfl ?_
        refine k_iload_n X (q := 1) dX9_fight_160 rfl rfl ?_
        refine k_isub X dX9_fight_161 (fun v_161_49 ev_161_49 => ?_)
        exact k_iret X E dX9_fight_162 (Nat.le_of_ble_eq_true rfl) (Nat.le_of_ble_eq_true rfl) (⟨hI_48.mono (by omega) (by omega) (by omega), hK_48⟩)
  · skip
    refine k_iconst X (v := 1) dX9_fight_64 (by decide) ?_
    refine k_goto (tgt := 69) X dX9_fight_65 (by decide) ?_
    refine k_istore X [(4, .int 1), (3, .int v_57_17), (2, .int v_13_4), (0, .ref (A 6)), (1, .int x1)] dX9_fight_69 (by decide) rfl ?_
    refine k_iload X (q := 0) dX9_fight_71 rfl ?_
    refine k_if_eq (tgt := 109) X dX9_fight_73 (by decide) (fun c_73 => ?_) (fun c_73 => ?_)
    · skip
      refine k_aload_n X (q := 3) dX9_fight_109 rfl rfl ?_
      refine gX9_32s X (S := (kdraw (S_13_5.uI (A 1) 7 v_34_10) A)) (st_6 hI_16.st).1 (st_6 hI_16.st).2 (sr_6_0 hI_16.st) dX9_fight_110 ?_
      refine k_iconst X (v := 0) dX9_fight_113 (by decide) ?_
      refine k_aload_n X (q := 3) dX9_fight_114 rfl rfl ?_
      refine gX9_32s X (S := (kdraw (S_13_5.uI (A 1) 7 v_34_10) A)) (st_6 hI_16.st).1 (st_6 hI_16.st).2 (sr_6_0 hI_16.st) dX9_fight_115 ?_
      refine gX9_172 X (S := (kdraw (S_13_5.uI (A 1) 7 v_34_10) A)) (st_1 hI_16.st).1 (st_1 hI_16.st).2 dX9_fight_118 (fun v_118_50 ev_118_50 => ?_)
      have n17 : ¬ A 1 = A 7 := h.st.ne (r := 1) (r' := 7) (κ := 2) (κ' := 6) (by decide) (by decide) (by decide)
      have hv9 : nI w0 = v_118_50 := by
        rw [ev_118_50]
        unfold kdraw
        rw [uI_I, if_neg (by omega), uI_I, if_neg (by omega), uI_I, if_neg (by omega)]
        exact hw2.symm
      subst hv9
      refine k_bipush X (v := 10) dX9_fight_121 (by decide) ?_
      refine k_isub X dX9_fight_123 (fun v_123_51 ev_123_51 => ?_)
      refine k_max X qmX9_184 (Nat.le_of_ble_eq_true rfl) (Nat.le_of_ble_eq_true rfl) ⟨Nat.le_of_ble_eq_true rfl, Nat.le_of_ble_eq_true rfl⟩ dX9_fight_124 (fun v_124_52 ev_124_52 => ?_)
      refine pX9_172 X (S := (kdraw (S_13_5.uI (A 1) 7 v_34_10) A)) (st_1 hI_16.st).1 (st_1 hI_16.st).2 dX9_fight_127 ?_
      obtain ⟨hI_53, hx_53⟩ := hI_16.war (v := v_124_52) (Or.inr ⟨w0 - 10, by omega, by rw [ev_124_52, ev_123_51]; exact kwar10 w0 hw0⟩)
      have hK_53 := (hK_16).tr hx_53
      refine k_aload_n X (q := 3) dX9_fight_130 rfl rfl ?_
      refine gX9_32s X (S := ((kdraw (S_13_5.uI (A 1) 7 v_34_10) A).uI (A 1) 9 v_124_52)) (st_6 hI_53.st).1 (st_6 hI_53.st).2 (sr_6_0 hI_53.st) dX9_fight_131 ?_
      refine k_dup X dX9_fight_134 rfl ?_
      refine gX9_66 X (S := ((kdraw (S_13_5.uI (A 1) 7 v_34_10) A).uI (A 1) 9 v_124_52)) (st_1 hI_53.st).1 (st_1 hI_53.st).2 dX9_fight_135 (fun v_135_54 ev_135_54 => ?_)
      refine k_iconst X (v := 3) dX9_fight_138 (by decide) ?_
      refine k_iadd X dX9_fight_139 (fun v_139_55 ev_139_55 => ?_)
      refine pX9_66 X (S := ((kdraw (S_13_5.uI (A 1) 7 v_34_10) A).uI (A 1) 9 v_124_52)) (st_1 hI_53.st).1 (st_1 hI_53.st).2 dX9_fight_140 ?_
      have hun_56 : 0 ≤ (v_139_55).toInt ∧ (v_139_55).toInt ≤ 3 * (((T + 1) + 1 : Nat) : Int) := by
        obtain ⟨-, ⟨u1, u2⟩, -⟩ := hI_53.ms
        have q9 : (3 : Int32).toInt = 3 := rfl
        rw [ev_139_55, i_add (by rw [ev_135_54, q9]; omega) (by rw [ev_135_54, q9]; omega), ev_135_54, q9]
        omega
      obtain ⟨hI_57, hx_57⟩ := (hI_53.mono (T' := (T + 1) + 1) (by omega) (Nat.le_refl _) (Nat.le_refl _)).un hun_56
      have hK_57 := (hK_53).tr hx_57
      refine k_aload_n X (q := 3) dX9_fight_143 rfl rfl ?_
      refine k_iload X (q := 0) dX9_fight_144 rfl ?_
      refine k_if_eq (tgt := 154) X dX9_fight_146 (by decide) (fun c_146 => ?_) (fun c_146 => ?_)
      · skip
        refine k_bipush X (v := 8) dX9_fight_154 (by decide) ?_
        refine k_gotV X (vX9_190 X (S := (((kdraw (S_13_5.uI (A 1) 7 v_34_10) A).uI (A 1) 9 v_124_52).uI (A 1) 2 v_139_55)) ⟨(st_6 hI_57.st).1, (st_6 hI_57.st).2⟩ (c_X9_buryFallen C.l C.e0 (((kdraw (S_13_5.uI (A 1) 7 v_34_10) A).uI (A 1) 9 v_124_52).uI (A 1) 2 v_139_55) 8 A n cz _ _ _ hI_57  (by omega)) (As := [.int 8]) (rest := []) rfl rfl rfl rfl ⟨Nat.le_of_ble_eq_true rfl, Nat.le_of_ble_eq_true rfl⟩ (Nat.le_of_ble_eq_true rfl) ⟨Nat.le_of_ble_eq_true rfl, Nat.le_of_ble_eq_true rfl⟩ dX9_fight_156) (fun S_156_59 h_156_57 => ?_)
        obtain ⟨hI_60, hx_60⟩ := h_156_57
        have hK_60 := (hK_57).tr hx_60
        refine k_iload_n X (q := 2) dX9_fight_159 rfl rfl ?_
        refine k_iload_n X (q := 1) dX9_fight_160 rfl rfl ?_
        refine k_isub X dX9_fight_161 (fun v_161_61 ev_161_61 => ?_)
        exact k_iret X E dX9_fight_162 (Nat.le_of_ble_eq_true rfl) (Nat.le_of_ble_eq_true rfl) (⟨hI_60.mono (by omega) (by omega) (by omega), hK_60⟩)
      · skip
        refine k_bipush X (v := 16) dX9_fight_149 (by decide) ?_
        refine k_goto (tgt := 156) X dX9_fight_151 (by decide) ?_
        refine k_gotV X (vX9_190 X (S := (((kdraw (S_13_5.uI (A 1) 7 v_34_10) A).uI (A 1) 9 v_124_52).uI (A 1) 2 v_139_55)) ⟨(st_6 hI_57.st).1, (st_6 hI_57.st).2⟩ (c_X9_buryFallen C.l C.e0 (((kdraw (S_13_5.uI (A 1) 7 v_34_10) A).uI (A 1) 9 v_124_52).uI (A 1) 2 v_139_55) 16 A n cz _ _ _ hI_57  (by omega)) (As := [.int 16]) (rest := []) rfl rfl rfl rfl ⟨Nat.le_of_ble_eq_true rfl, Nat.le_of_ble_eq_true rfl⟩ (Nat.le_of_ble_eq_true rfl) ⟨Nat.le_of_ble_eq_true rfl, Nat.le_of_ble_eq_true rfl⟩ dX9_fight_156) (fun S_156_63 h_156_61 => ?_)
        obtain ⟨hI_64, hx_64⟩ := h_156_61
        have hK_64 := (hK_57).tr hx_64
        refine k_iload_n X (q := 2) dX9_fight_159 rfl rfl ?_
        refine k_iload_n X (q := 1) dX9_fight_160 rfl rfl ?_
        refine k_isub X dX9_fight_161 (fun v_161_65 ev_161_65 => ?_)
        exact k_iret X E dX9_fight_162 (Nat.le_of_ble_eq_true rfl) (Nat.le_of_ble_eq_true rfl) (⟨hI_64.mono (by omega) (by omega) (by omega), hK_64⟩)
    · skip
      refine k_aload_n X (q := 3) dX9_fight_76 rfl rfl ?_
      refine gX9_32s X (S := (kdraw (S_13_5.uI (A 1) 7 v_34_10) A)) (st_6 hI_16.st).1 (st_6 hI_16.st).2 (sr_6_0 hI_16.st) dX9_fight_77 ?_
      refine k_aload_n X (q := 3) dX9_fight_80 rfl rfl ?_
      refine gX9_32s X (S := (kdraw (S_13_5.uI (A 1) 7 v_34_10) A)) (st_6 hI_16.st).1 (st_6 hI_16.st).2 (sr_6_0 hI_16.st) dX9_fight_81 ?_
      refine gX9_172 X (S := (kdraw (S_13_5.uI (A 1) 7 v_34_10) A)) (st_1 hI_16.st).1 (st_1 hI_16.st).2 dX9_fight_84 (fun v_84_66 ev_84_66 => ?_)
      have n17 : ¬ A 1 = A 7 := h.st.ne (r := 1) (r' := 7) (κ := 2) (κ' := 6) (by decide) (by decide) (by decide)
      have hv9 : nI w0 = v_84_66 := by
        rw [ev_84_66]
        unfold kdraw
        rw [uI_I, if_neg (by omega), uI_I, if_neg (by omega), uI_I, if_neg (by omega)]
        exact hw2.symm
      subst hv9
      refine k_gotV X (vX9_178 X (S := (kdraw (S_13_5.uI (A 1) 7 v_34_10) A)) ⟨(st_1 hI_16.st).1, (st_1 hI_16.st).2⟩ (c_X2_takeIn C.l C.e0 (kdraw (S_13_5.uI (A 1) 7 v_34_10) A) (nI w0) A hI_16.st ) (As := [.int (nI w0)]) (rest := []) rfl rfl rfl rfl ⟨Nat.le_of_ble_eq_true rfl, Nat.le_of_ble_eq_true rfl⟩ (Nat.le_of_ble_eq_true rfl) ⟨Nat.le_of_ble_eq_true rfl, Nat.le_of_ble_eq_true rfl⟩ dX9_fight_87) (fun S_87_68 h_87_66 => ?_)
      subst h_87_66
      obtain ⟨hI_69, hx_69⟩ := hI_16.take (x := (nI w0)) (e := 300) (by rw [nI_toInt (by omega)]; omega) (by omega)
      have hK_69 := (hK_16).tr hx_69
      refine k_aload_n X (q := 3) dX9_fight_90 rfl rfl ?_
      refine gX9_32s X (S := (ktake (kdraw (S_13_5.uI (A 1) 7 v_34_10) A) A (nI w0))) (st_6 hI_69.st).1 (st_6 hI_69.st).2 (sr_6_0 hI_69.st) dX9_fight_91 ?_
      refine k_iconst X (v := 2) dX9_fight_94 (by decide) ?_
      refine k_gotV X (vX9_181 X (S := (ktake (kdraw (S_13_5.uI (A 1) 7 v_34_10) A) A (nI w0))) ⟨(st_1 hI_69.st).1, (st_1 hI_69.st).2⟩ (c_X2_calm C.l C.e0 (ktake (kdraw (S_13_5.uI (A 1) 7 v_34_10) A) A (nI w0)) 2 A hI_69.st ) (As := [.int 2]) (rest := []) rfl rfl rfl rfl ⟨Nat.le_of_ble_eq_true rfl, Nat.le_of_ble_eq_true rfl⟩ (Nat.le_of_ble_eq_true rfl) ⟨Nat.le_of_ble_eq_true rfl, Nat.le_of_ble_eq_true rfl⟩ dX9_fight_95) (fun S_95_71 h_95_69 => ?_)
      subst h_95_69
      obtain ⟨hI_72, hx_72⟩ := hI_69.calm (x := 2) (by decide) (by omega)
      have hK_72 := (hK_69).tr hx_72
      refine k_aload_n X (q := 3) dX9_fight_98 rfl rfl ?_
      refine gX9_32s X (S := (kcalm (ktake (kdraw (S_13_5.uI (A 1) 7 v_34_10) A) A (nI w0)) A 2)) (st_6 hI_72.st).1 (st_6 hI_72.st).2 (sr_6_0 hI_72.st) dX9_fight_99 ?_
      refine k_iconst X (v := (-1)) dX9_fight_102 (by decide) ?_
      refine pX9_172 X (S := (kcalm (ktake (kdraw (S_13_5.uI (A 1) 7 v_34_10) A) A (nI w0)) A 2)) (st_1 hI_72.st).1 (st_1 hI_72.st).2 dX9_fight_103 ?_
      obtain ⟨hI_73, hx_73⟩ := hI_72.war (v := -1) (Or.inl rfl)
      have hK_73 := (hK_72).tr hx_73
      refine k_goto (tgt := 143) X dX9_fight_106 (by decide) ?_
      refine k_aload_n X (q := 3) dX9_fight_143 rfl rfl ?_
      refine k_iload X (q := 0) dX9_fight_144 rfl ?_
      refine k_if_eq (tgt := 154) X dX9_fight_146 (by decide) (fun c_146 => ?_) (fun c_146 => ?_)
      · skip
        refine k_bipush X (v := 8) dX9_fight_154 (by decide) ?_
        refine k_gotV X (vX9_190 X (S := ((kcalm (ktake (kdraw (S_13_5.uI (A 1) 7 v_34_10) A) A (nI w0)) A 2).uI (A 1) 9 (-1 : Int32))) ⟨(st_6 hI_73.st).1, (st_6 hI_73.st).2⟩ (c_X9_buryFallen C.l C.e0 ((kcalm (ktake (kdraw (S_13_5.uI (A 1) 7 v_34_10) A) A (nI w0)) A 2).uI (A 1) 9 (-1 : Int32)) 8 A n cz _ _ _ hI_73  (by omega)) (As := [.int 8]) (rest := []) rfl rfl rfl rfl ⟨Nat.le_of_ble_eq_true rfl, Nat.le_of_ble_eq_true rfl⟩ (Nat.le_of_ble_eq_true rfl) ⟨Nat.le_of_ble_eq_true rfl, Nat.le_of_ble_eq_true rfl⟩ dX9_fight_156) (fun S_156_75 h_156_73 => ?_)
        obtain ⟨hI_76, hx_76⟩ := h_156_73
        have hK_76 := (hK_73).tr hx_76
        refine k_iload_n X (q := 2) dX9_fight_159 rfl rfl ?_
        refine k_iload_n X (q := 1) dX9_fight_160 rfl rfl ?_
        refine k_isub X dX9_fight_161 (fun v_161_77 ev_161_77 => ?_)
        exact k_iret X E dX9_fight_162 (Nat.le_of_ble_eq_true rfl) (Nat.le_of_ble_eq_true rfl) (⟨hI_76.mono (by omega) (by omega) (by omega), hK_76⟩)
      · skip
        refine k_bipush X (v := 16) dX9_fight_149 (by decide) ?_
        refine k_goto (tgt := 156) X dX9_fight_151 (by decide) ?_
        refine k_gotV X (vX9_190 X (S := ((kcalm (ktake (kdraw (S_13_5.uI (A 1) 7 v_34_10) A) A (nI w0)) A 2).uI (A 1) 9 (-1 : Int32))) ⟨(st_6 hI_73.st).1, (st_6 hI_73.st).2⟩ (c_X9_buryFallen C.l C.e0 ((kcalm (ktake (kdraw (S_13_5.uI (A 1) 7 v_34_10) A) A (nI w0)) A 2).uI (A 1) 9 (-1 : Int32)) 16 A n cz _ _ _ hI_73  (by omega)) (As := [.int 16]) (rest := []) rfl rfl rfl rfl ⟨Nat.le_of_ble_eq_true rfl, Nat.le_of_ble_eq_true rfl⟩ (Nat.le_of_ble_eq_true rfl) ⟨Nat.le_of_ble_eq_true rfl, Nat.le_of_ble_eq_true rfl⟩ dX9_fight_156) (fun S_156_79 h_156_77 => ?_)
        obtain ⟨hI_80, hx_80⟩ := h_156_77
        have hK_80 := (hK_73).tr hx_80
        refine k_iload_n X (q := 2) dX9_fight_159 rfl rfl ?_
        refine k_iload_n X (q := 1) dX9_fight_160 rfl rfl ?_
        refine k_isub X dX9_fight_161 (fun v_161_81 ev_161_81 => ?_)
        exact k_iret X E dX9_fight_162 (Nat.le_of_ble_eq_true rfl) (Nat.le_of_ble_eq_true rfl) (⟨hI_80.mono (by omega) (by omega) (by omega), hK_80⟩)
set_option maxHeartbeats 1000000 in
set_option maxRecDepth 20000 in
theorem c_X9_beginPrytany (l : Launch) (e0 : Nat × Nat) (S : kS)  (A : Nat → Nat) (n : Nat) (cz : Nat → Nat) (T G Z : Nat) (h : kI e0 A n cz T G Z S)  (hb : T + 7 ≤ 900000 ∧ G + 7 ≤ 60000 ∧ Z + 0 ≤ 150000) : kM l e0 yX9_beginPrytany cX9_beginPrytany 1 none ({ frames := 8, cells := 3, slots := 219, locals := 213 } : Room) 3 219 [.ref (A 6)] S (kQv (fun S9 => kI e0 A n cz (T + 7) (G + 7) (Z + 0) S9 ∧ kKe A S S9)) := by
  refine kMetE (by decide +kernel) (Nat.le_of_ble_eq_true rfl) (fun C he hl X E hm => ?_)
  have X : kX C RX9 cX9_beginPrytany 1 ({ frames := 8, cells := 3, slots := 219, locals := 213 } : Room) := X
  subst he hl
  show kG C 1 S 0 0 0 [(0, .ref (A 6))] []
  have hn := h.n40
  refine k_aload_n X (q := 0) dX9_beginPrytany_0 rfl rfl ?_
  refine gX9_32s X (S := S) (st_6 h.st).1 (st_6 h.st).2 (sr_6_0 h.st) dX9_beginPrytany_1 ?_
  refine gX9_59 X (S := S) (st_1 h.st).1 (st_1 h.st).2 dX9_beginPrytany_4 (fun v_4_1 ev_4_1 => ?_)
  refine k_if_ne (tgt := 17) X dX9_beginPrytany_7 (by decide) (fun c_7 => ?_) (fun c_7 => ?_)
  · skip
    refine k_aload_n X (q := 0) dX9_beginPrytany_17 rfl rfl ?_
    refine gX9_32s X (S := S) (st_6 h.st).1 (st_6 h.st).2 (sr_6_0 h.st) dX9_beginPrytany_18 ?_
    refine gX9_66 X (S := S) (st_1 h.st).1 (st_1 h.st).2 dX9_beginPrytany_21 (fun v_21_2 ev_21_2 => ?_)
    refine k_bipush X (v := 20) dX9_beginPrytany_24 (by decide) ?_
    refine k_icmp_lt (tgt := 33) X dX9_beginPrytany_26 (by decide) (fun c_26 => ?_) (fun c_26 => ?_)
    · skip
      exact k_vret X E dX9_beginPrytany_33 (Nat.le_of_ble_eq_true rfl) (Nat.le_of_ble_eq_true rfl) (⟨h.mono (by omega) (by omega) (by omega), kKe.rf⟩)
    · skip
      refine k_aload_n X (q := 0) dX9_beginPrytany_29 rfl rfl ?_
      refine k_gotV X (vX9_69 X (S := S) ⟨(st_6 h.st).1, (st_6 h.st).2⟩ (c_X9_overthrow C.l C.e0 S  A n cz _ _ _ h  (by omega)) (As := []) (rest := []) rfl rfl rfl rfl ⟨Nat.le_of_ble_eq_true rfl, Nat.le_of_ble_eq_true rfl⟩ (Nat.le_of_ble_eq_true rfl) ⟨Nat.le_of_ble_eq_true rfl, Nat.le_of_ble_eq_true rfl⟩ dX9_beginPrytany_30) (fun S_30_4 h_30_2 => ?_)
      obtain ⟨hI_5, hx_5⟩ := h_30_2
      have hK_5 := (kKe.rf).tr hx_5
      exact k_vret X E dX9_beginPrytany_33 (Nat.le_of_ble_eq_true rfl) (Nat.le_of_ble_eq_true rfl) (⟨hI_5.mono (by omega) (by omega) (by omega), hK_5⟩)
  · skip
    refine k_aload_n X (q := 0) dX9_beginPrytany_10 rfl rfl ?_
    refine k_gotV X (vX9_63 X (S := S) ⟨(st_6 h.st).1, (st_6 h.st).2⟩ (c_X9_exact C.l C.e0 S  A n cz _ _ _ h  (by omega)) (As := []) (rest := []) rfl rfl rfl rfl ⟨Nat.le_of_ble_eq_true rfl, Nat.le_of_ble_eq_true rfl⟩ (Nat.le_of_ble_eq_true rfl) ⟨Nat.le_of_ble_eq_true rfl, Nat.le_of_ble_eq_true rfl⟩ dX9_beginPrytany_11) (fun S_11_7 h_11_5 => ?_)
    obtain ⟨hI_8, hx_8⟩ := h_11_5
    have hK_8 := (kKe.rf).tr hx_8
    refine k_goto (tgt := 33) X dX9_beginPrytany_14 (by decide) ?_
    exact k_vret X E dX9_beginPrytany_33 (Nat.le_of_ble_eq_true rfl) (Nat.le_of_ble_eq_true rfl) (⟨hI_8.mono (by omega) (by omega) (by omega), hK_8⟩)
