/-! THE LAW's LEAVES -/
theorem kFr.uIf {S S' : kS} {P : Nat → Prop} (h : kFr S S' P) {a i : Nat} {v : Int32} (hp : a ∉ S.L) : kFr S (S'.uI a i v) P := ⟨h.1, fun b hb hn => ⟨fun j => by rw [uI_I, if_neg (fun q => hp (by rw [← q.1]; exact hb))]; exact (h.2 b hb hn).1 j, (h.2 b hb hn).2⟩⟩
/-- n rows of 13 whole numbers at q: what stands in them -/
def kRw (S : kS) (q n : Nat) (F : Nat → Nat → Int32) : Prop := (S.at q 16 ∧ S.N q = n) ∧ ∀ i, i < n → S.R q i = some (q + 1 + i) ∧ S.at (q + 1 + i) 13 ∧ S.N (q + 1 + i) = 13 ∧ ∀ w, w < 13 → S.I (q + 1 + i) w = F i w
theorem kRw.fr {S S' : kS} {q n : Nat} {F : Nat → Nat → Int32} (h : kRw S q n F) (hf : kFr S S' (fun _ => False)) : kRw S' q n F := by
  obtain ⟨⟨h1, h2⟩, h3⟩ := h
  refine ⟨⟨hf.at h1, ((hf.1 q h1.1).2.2.2).trans h2⟩, fun i hi => ?_⟩
  obtain ⟨a1, a2, a3, a4⟩ := h3 i hi
  exact ⟨((hf.2 q h1.1 id).2 i).trans a1, hf.at a2, ((hf.1 _ a2.1).2.2.2).trans a3, fun w hw => ((hf.2 _ a2.1 id).1 w).trans (a4 w hw)⟩
/-- truth values at z -/
def kBo (S : kS) (z n : Nat) (p : Nat → Bool) (m : Nat) : Prop := (S.at z 17 ∧ S.N z = n) ∧ ∀ i, i < m → S.I z i = kb (p i)
theorem kBo.put {S : kS} {z n m : Nat} {p : Nat → Bool} (h : kBo S z n p m) {v : Int32} (hv : v = kb (p m)) : kBo (S.uI z m v) z n p (m + 1) := ⟨h.1, fun i hi => by
  rw [uI_I]
  by_cases e : i = m
  · subst e; rw [if_pos ⟨rfl, rfl⟩]; exact hv
  · rw [if_neg (fun q => e q.2)]; exact h.2 i (by omega)⟩
theorem kb_1 {p : Bool} (h : ¬ kb p = 0) : p = true := by
  cases p
  · exact absurd rfl h
  · rfl
theorem kb_0 {p : Bool} (h : kb p = 0) : p = false := by
  cases p
  · rfl
  · exact absurd h (by decide)
set_option maxHeartbeats 1000000 in
set_option maxRecDepth 20000 in
theorem c_L_below (l : Launch) (e0 : Nat × Nat) (S : kS) (x : Int32) (m : Nat) (hm : 1 ≤ m ∧ m ≤ 1000) : kM l e0 yL_below cL_below 2 (Option.some Jvm.ClassFile.FieldType.int) ({ frames := 0, cells := 0, slots := 0, locals := 0 } : Room) 0 0 [.int x, .int (nI m)] S (kQi (fun v S9 => S = S9 ∧ ∃ k, k < m ∧ v = nI k)) := by
  refine kMetE (by decide +kernel) (Nat.le_of_ble_eq_true rfl) (fun C he hl X E hm => ?_)
  have X : kX C RL cL_below 2 ({ frames := 0, cells := 0, slots := 0, locals := 0 } : Room) := X
  subst he hl
  show kG C 2 S 0 0 0 [(0, .int x), (1, .int (nI m))] []
  refine k_iload_n X (q := 0) dL_below_0 rfl rfl ?_
  refine k_ldc X qkL_7 dL_below_1 ?_
  refine k_iand X dL_below_3 (fun v_3_1 ev_3_1 => ?_)
  refine k_iload_n X (q := 1) dL_below_4 rfl rfl ?_
  refine k_irem X dL_below_5 (nI_ne0 (by omega) (by omega)) (fun v_5_2 ev_5_2 => ?_)
  exact k_iret X E dL_below_6 (Nat.le_of_ble_eq_true rfl) (Nat.le_of_ble_eq_true rfl) (⟨rfl, by obtain ⟨j, hj, e9⟩ := pk_andE x (m := 2147483647) 31 (by decide); rw [ev_5_2, ev_3_1, e9]; exact ⟨j % m, Nat.mod_lt _ (by omega), pk_rem (by omega) (by omega) (by omega)⟩⟩)
set_option maxHeartbeats 1000000 in
set_option maxRecDepth 20000 in
theorem c_L_cell (l : Launch) (e0 : Nat × Nat) (Zs : kXs9) (S : kS) (k : Nat) (hk : k ≤ 300) (hL : Zs.2.1 ≤ 260) : kML l e0 Zs (Cond.code yL_cell cL_cell 2 (Option.some Jvm.ClassFile.FieldType.int)) yL_cell ({ frames := 0, cells := 0, slots := 0, locals := 0 } : Room) 0 0 [.ref Zs.1, .int (nI k)] S (kQi (fun v S9 => S = S9)) := by
  refine kMetL (by decide +kernel) (Nat.le_of_ble_eq_true rfl) (fun C he hl X E Y hm => ?_)
  have X : kX C RL cL_cell 2 ({ frames := 0, cells := 0, slots := 0, locals := 0 } : Room) := X
  subst he hl
  show kG C 2 S 0 0 0 [(0, .ref Zs.1), (1, .int (nI k))] []
  refine k_iload_n X (q := 1) dL_cell_0 rfl rfl ?_
  refine k_aload_n X (q := 0) dL_cell_1 rfl rfl ?_
  refine k_slen X Y dL_cell_2 ?_
  refine k_icmp_ge (tgt := 12) X dL_cell_3 (by decide) (fun c_3 => ?_) (fun c_3 => ?_)
  · skip
    refine k_ldc X qkL_8 dL_cell_12 ?_
    refine k_iload_n X (q := 1) dL_cell_14 rfl rfl ?_
    refine k_iconst X (v := 3) dL_cell_15 (by decide) ?_
    refine k_iadd X dL_cell_16 (fun v_16_1 ev_16_1 => ?_)
    refine k_imul X dL_cell_17 (fun v_17_2 ev_17_2 => ?_)
    exact k_iret X E dL_cell_18 (Nat.le_of_ble_eq_true rfl) (Nat.le_of_ble_eq_true rfl) rfl
  · skip
    have c9 : ¬ nI Zs.2.1 ≤ nI k := c_3
    have hlt : k < Zs.2.1 := lt_of_nle c9 (by omega)
    refine k_aload_n X (q := 0) dL_cell_6 rfl rfl ?_
    refine k_iload_n X (q := 1) dL_cell_7 rfl rfl ?_
    refine k_sld X Y (vp_in_nI hlt (by omega)) dL_cell_8 (fun v_8_3 => ?_)
    refine k_goto (tgt := 18) X dL_cell_9 (by decide) ?_
    exact k_iret X E dL_cell_18 (Nat.le_of_ble_eq_true rfl) (Nat.le_of_ble_eq_true rfl) rfl
set_option maxHeartbeats 1000000 in
set_option maxRecDepth 20000 in
theorem c_L_size (l : Launch) (e0 : Nat × Nat) (S : kS) (a m : Nat) (p : Nat → Bool) (ha : kBo S a m p m) (hm : m ≤ 1000) : kM l e0 yL_size cL_size 6 (Option.some Jvm.ClassFile.FieldType.int) ({ frames := 0, cells := 0, slots := 0, locals := 0 } : Room) 0 0 [.ref a] S (kQi (fun v S9 => S = S9 ∧ v = nI (kcnt p m))) := by
  refine kMetE (by decide +kernel) (Nat.le_of_ble_eq_true rfl) (fun C he hl X E hm => ?_)
  have X : kX C RL cL_size 6 ({ frames := 0, cells := 0, slots := 0, locals := 0 } : Room) := X
  subst he hl
  show kG C 6 S 0 0 0 [(0, .ref a)] []
  refine k_iconst X (v := 0) dL_size_0 (by decide) ?_
  refine k_istore_n X [(1, .int 0), (0, .ref a)] dL_size_1 rfl (by decide) rfl ?_
  refine k_aload_n X (q := 1) dL_size_2 rfl rfl ?_
  refine k_astore_n X [(2, .ref a), (1, .int 0), (0, .ref a)] dL_size_3 rfl (by decide) rfl ?_
  refine k_aload_n X (q := 0) dL_size_4 rfl rfl ?_
  refine k_alen X (S := S) ha.1.1.1 (by simp [ha.1.1.2]) dL_size_5 ?_
  rw [show Int32.ofNat (S.N a) = nI m from by rw [ha.1.2]; rfl]
  refine k_istore_n X [(3, .int (nI m)), (2, .ref a), (1, .int 0), (0, .ref a)] dL_size_6 rfl (by decide) rfl ?_
  refine k_iconst X (v := 0) dL_size_7 (by decide) ?_
  refine k_istore X [(4, .int 0), (3, .int (nI m)), (2, .ref a), (1, .int 0), (0, .ref a)] dL_size_8 (by decide) rfl ?_
  have L_10 : ∀ (N : Nat) (i : Nat) (x y : Int32), m - i = N → x = nI i → y = nI (kcnt p i) → i ≤ m → kG C 6 S 0 0 10 [(4, .int x), (1, .int y), (2, .ref a), (3, .int (nI m))] [] := by
    intro N
    induction N using Nat.strongRecOn with
    | _ N ih =>
    intro i x y hMs h10_0 h10_1 h10_2
    subst h10_0 h10_1
    refine k_iload X (q := 0) dL_size_10 rfl ?_
    refine k_iload_n X (q := 3) dL_size_12 rfl rfl ?_
    refine k_icmp_ge (tgt := 41) X dL_size_13 (by decide) (fun c_13 => ?_) (fun c_13 => ?_)
    · skip
      refine k_iload_n X (q := 1) dL_size_41 rfl rfl ?_
      exact k_iret X E dL_size_42 (Nat.le_of_ble_eq_true rfl) (Nat.le_of_ble_eq_true rfl) (⟨rfl, by rw [show m = i by have := ge_of_le c_13 (by omega); omega]⟩)
    · skip
      have hlt : i < m := lt_of_nle c_13 (by omega)
      refine k_aload_n X (q := 2) dL_size_16 rfl rfl ?_
      refine k_iload X (q := 0) dL_size_17 rfl ?_
      refine k_zald X (S := S) ⟨ha.1.1.1, ha.1.1.2⟩ (by rw [ha.1.2]; exact vp_in_nI hlt (by omega)) dL_size_19 (fun v_19_1 ev_19_1 => ?_)
      refine k_istore X [(5, .int v_19_1), (4, .int (nI i)), (1, .int (nI (kcnt p i))), (2, .ref a), (3, .int (nI m))] dL_size_20 (by decide) rfl ?_
      refine k_iload_n X (q := 2) dL_size_22 rfl rfl ?_
      refine k_iload X (q := 0) dL_size_23 rfl ?_
      refine k_if_eq (tgt := 32) X dL_size_25 (by decide) (fun c_25 => ?_) (fun c_25 => ?_)
      · skip
        have hpi : ¬ p i = true := by
          rw [ev_19_1, nI_clamp (by omega), ha.2 i hlt] at c_25
          rw [kb_0 c_25]; decide
        have hcn : nI (kcnt p i) + 0 = nI (kcnt p (i + 1)) := by rw [kcnt_f hpi]; exact Int32.add_zero _
        refine k_iconst X (v := 0) dL_size_32 (by decide) ?_
        refine k_iadd X dL_size_33 (fun v_33_2 ev_33_2 => ?_)
        refine k_istore_n X [(1, .int v_33_2), (5, .int v_19_1), (4, .int (nI i)), (2, .ref a), (3, .int (nI m))] dL_size_34 rfl (by decide) rfl ?_
        obtain ⟨v_35_3, ev_35_3⟩ : ∃ z : Int32, z = (nI i) + 1 := ⟨_, rfl⟩
        refine k_iinc X (q := 2) (v := v_35_3) [(4, .int v_35_3), (1, .int v_33_2), (5, .int v_19_1), (2, .ref a), (3, .int (nI m))] dL_size_35 rfl (by rw [ev_35_3]; rfl) (by decide) rfl ?_
        refine k_goto (tgt := 10) X dL_size_38 (by decide) ?_
        refine k_lv [0, 1, 3, 4] _ rfl ?_
        exact ih (m - (i + 1)) (by omega) (i + 1) _ _ rfl (by rw [ev_35_3, nI_1]) (by rw [ev_33_2]; exact hcn) (by omega)
      · skip
        have hpi : p i = true := by
          rw [ev_19_1, nI_clamp (by omega), ha.2 i hlt] at c_25
          exact kb_1 c_25
        have hcn : nI (kcnt p i) + 1 = nI (kcnt p (i + 1)) := by rw [kcnt_t hpi]; exact nI_1 _
        refine k_iconst X (v := 1) dL_size_28 (by decide) ?_
        refine k_goto (tgt := 33) X dL_size_29 (by decide) ?_
        refine k_iadd X dL_size_33 (fun v_33_4 ev_33_4 => ?_)
        refine k_istore_n X [(1, .int v_33_4), (5, .int v_19_1), (4, .int (nI i)), (2, .ref a), (3, .int (nI m))] dL_size_34 rfl (by decide) rfl ?_
        obtain ⟨v_35_5, ev_35_5⟩ : ∃ z : Int32, z = (nI i) + 1 := ⟨_, rfl⟩
        refine k_iinc X (q := 2) (v := v_35_5) [(4, .int v_35_5), (1, .int v_33_4), (5, .int v_19_1), (2, .ref a), (3, .int (nI m))] dL_size_35 rfl (by rw [ev_35_5]; rfl) (by decide) rfl ?_
        refine k_goto (tgt := 10) X dL_size_38 (by decide) ?_
        refine k_lv [0, 1, 3, 4] _ rfl ?_
        exact ih (m - (i + 1)) (by omega) (i + 1) _ _ rfl (by rw [ev_35_5, nI_1]) (by rw [ev_33_4]; exact hcn) (by omega)
  refine k_lv [0, 3, 2, 1] _ rfl ?_
  exact L_10 _ 0 0 0 rfl nI_0.symm nI_0.symm (Nat.zero_le _)
set_option maxHeartbeats 1000000 in
set_option maxRecDepth 20000 in
theorem c_L_full (l : Launch) (e0 : Nat × Nat) (S : kS) (q n : Nat) (F : Nat → Nat → Int32) (hR : kRw S q n F) (hn : n ≤ 40) : kM l e0 yL_full cL_full 3 (Option.some (Jvm.ClassFile.FieldType.array Jvm.ClassFile.FieldType.boolean)) ({ frames := 0, cells := 1, slots := 40, locals := 0 } : Room) 1 40 [.ref q] S (kQq (fun v S9 => ∃ z, v = some z ∧ z ∉ S.L ∧ kFr S S9 (fun _ => False) ∧ kBo S9 z n (fun i => decide (F i 6 = 1)) n ∧ S9.O z = 302)) := by
  refine kMetE (by decide +kernel) (Nat.le_of_ble_eq_true rfl) (fun C he hl X E hm => ?_)
  have X : kX C RL cL_full 3 ({ frames := 0, cells := 1, slots := 40, locals := 0 } : Room) := X
  subst he hl
  show kG C 3 S 0 0 0 [(0, .ref q)] []
  refine k_aload_n X (q := 0) dL_full_0 rfl rfl ?_
  refine k_alen X (S := S) hR.1.1.1 (by simp [hR.1.1.2]) dL_full_1 ?_
  rw [show Int32.ofNat (S.N q) = nI n from by rw [hR.1.2]; rfl]
  refine k_newZ X (N' := n) 302 (nI_pos (by omega)) (nI_clamp (by omega)) (by omega) (by show _ ≤ 1; omega) (by show _ ≤ 40; omega) dL_full_2 (fun a_2_1 fa_2_1 => ?_)
  have hF0 : kFr S (S.nw a_2_1 17 302 n) (fun _ => False) := (kFr.rf S _).nw fa_2_1
  have hB0 : kBo (S.nw a_2_1 17 302 n) a_2_1 n (fun i => decide (F i 6 = 1)) 0 := ⟨⟨nw_self (S := S) (κ := 17) (ρ := 302) (n := n), nw_Nq (S := S) (κ := 17) (ρ := 302) (n := n)⟩, fun i hi => absurd hi (by omega)⟩
  have hO0 : (S.nw a_2_1 17 302 n).O a_2_1 = 302 := nw_Oq (S := S) (κ := 17) (ρ := 302) (n := n)
  refine k_astore_n X [(1, .ref a_2_1), (0, .ref q)] dL_full_4 rfl (by decide) rfl ?_
  refine k_iconst X (v := 0) dL_full_5 (by decide) ?_
  refine k_istore_n X [(2, .int 0), (1, .ref a_2_1), (0, .ref q)] dL_full_6 rfl (by decide) rfl ?_
  have L_7 : ∀ (N : Nat) (i : Nat) (x : Int32) (Si : kS), n - i = N → x = nI i → (i ≤ n ∧ kFr S Si (fun _ => False) ∧ kBo Si a_2_1 n (fun i => decide (F i 6 = 1)) i ∧ Si.O a_2_1 = 302) → kG C 3 Si (0 + 1) (0 + n) 7 [(2, .int x), (1, .ref a_2_1), (0, .ref q)] [] := by
    intro N
    induction N using Nat.strongRecOn with
    | _ N ih =>
    intro i x Si hMs h7_0 h7_1
    subst h7_0
    obtain ⟨hin, hFi, hBi, hOi⟩ := h7_1
    have hRi := hR.fr hFi
    refine k_iload_n X (q := 0) dL_full_7 rfl rfl ?_
    refine k_aload_n X (q := 2) dL_full_8 rfl rfl ?_
    refine k_alen X (S := Si) hRi.1.1.1 (by simp [hRi.1.1.2]) dL_full_9 ?_
    rw [show Int32.ofNat (Si.N q) = nI n from by rw [hRi.1.2]; rfl]
    refine k_icmp_ge (tgt := 37) X dL_full_10 (by decide) (fun c_10 => ?_) (fun c_10 => ?_)
    · skip
      refine k_aload_n X (q := 1) dL_full_37 rfl rfl ?_
      exact k_aret X E (r := (some a_2_1)) (Or.inr ⟨_, rfl⟩) dL_full_38 (by show _ ≤ 1; omega) (by show _ ≤ 40; omega) (⟨_, rfl, fa_2_1, hFi, by rw [show n = i by have := ge_of_le c_10 (by omega); omega] at hBi ⊢; exact hBi, hOi⟩)
    · skip
      have hlt : i < n := lt_of_nle c_10 (by omega)
      refine k_aload_n X (q := 1) dL_full_13 rfl rfl ?_
      refine k_iload_n X (q := 0) dL_full_14 rfl rfl ?_
      refine k_aload_n X (q := 2) dL_full_15 rfl rfl ?_
      refine k_iload_n X (q := 0) dL_full_16 rfl rfl ?_
      refine k_aaldR X (S := Si) ⟨hRi.1.1.1, hRi.1.1.2⟩ (by rw [hRi.1.2]; exact vp_in_nI hlt (by omega)) dL_full_17 (fun r_17_2 er_17_2 => ?_)
      obtain ⟨g1, g2, g3, g4⟩ := hRi.2 i hlt
      have hr9 : r_17_2 = some (q + 1 + i) := by rw [er_17_2, nI_clamp (by omega)]; exact g1
      subst hr9
      refine k_bipush X (v := 6) dL_full_18 (by decide) ?_
      refine k_iald X (S := Si) g2.1 g2.2 (by rw [g3]; exact vp_in_iff.mpr (by decide)) dL_full_20 (fun v_20_3 ev_20_3 => ?_)
      refine k_iconst X (v := 1) dL_full_21 (by decide) ?_
      refine k_icmp_ne (tgt := 29) X dL_full_22 (by decide) (fun c_22 => ?_) (fun c_22 => ?_)
      · skip
        have hv9 : (0 : Int32) = kb (decide (F i 6 = 1)) := by
          have h5 : v_20_3 = F i 6 := by rw [ev_20_3]; exact g4 6 (by omega)
          rw [h5] at c_22
          rw [decide_eq_false c_22]; rfl
        refine k_iconst X (v := 0) dL_full_29 (by decide) ?_
        refine k_zast X (S := Si) ⟨hBi.1.1.1, hBi.1.1.2⟩ (by rw [hBi.1.2]; exact vp_in_nI hlt (by omega)) (Or.inl rfl) dL_full_30 ?_
        rw [nI_clamp (by omega)]
        obtain ⟨v_31_4, ev_31_4⟩ : ∃ z : Int32, z = (nI i) + 1 := ⟨_, rfl⟩
        refine k_iinc X (q := 0) (v := v_31_4) [(2, .int v_31_4), (1, .ref a_2_1), (0, .ref q)] dL_full_31 rfl (by rw [ev_31_4]; rfl) (by decide) rfl ?_
        refine k_goto (tgt := 7) X dL_full_34 (by decide) ?_
        refine k_lv [0, 1, 2] _ rfl ?_
        exact ih (n - (i + 1)) (by omega) (i + 1) _ _ rfl (by rw [ev_31_4, nI_1]) ⟨by omega, hFi.uIf fa_2_1, hBi.put hv9, hOi⟩
      · skip
        have hv9 : (1 : Int32) = kb (decide (F i 6 = 1)) := by
          have h5 : v_20_3 = F i 6 := by rw [ev_20_3]; exact g4 6 (by omega)
          rw [h5] at c_22
          rw [decide_eq_true c_22]; rfl
        refine k_iconst X (v := 1) dL_full_25 (by decide) ?_
        refine k_goto (tgt := 30) X dL_full_26 (by decide) ?_
        refine k_zast X (S := Si) ⟨hBi.1.1.1, hBi.1.1.2⟩ (by rw [hBi.1.2]; exact vp_in_nI hlt (by omega)) (Or.inr rfl) dL_full_30 ?_
        rw [nI_clamp (by omega)]
        obtain ⟨v_31_5, ev_31_5⟩ : ∃ z : Int32, z = (nI i) + 1 := ⟨_, rfl⟩
        refine k_iinc X (q := 0) (v := v_31_5) [(2, .int v_31_5), (1, .ref a_2_1), (0, .ref q)] dL_full_31 rfl (by rw [ev_31_5]; rfl) (by decide) rfl ?_
        refine k_goto (tgt := 7) X dL_full_34 (by decide) ?_
        refine k_lv [0, 1, 2] _ rfl ?_
        exact ih (n - (i + 1)) (by omega) (i + 1) _ _ rfl (by rw [ev_31_5, nI_1]) ⟨by omega, hFi.uIf fa_2_1, hBi.put hv9, hOi⟩
  refine k_lv [0, 1, 2] _ rfl ?_
  exact L_7 _ 0 0 _ rfl nI_0.symm ⟨Nat.zero_le _, hF0, hB0, hO0⟩
set_option maxHeartbeats 1000000 in
set_option maxRecDepth 20000 in
theorem c_L_present (l : Launch) (e0 : Nat × Nat) (S : kS) (q n dd : Nat) (F : Nat → Nat → Int32) (hR : kRw S q n F) (hn : n ≤ 40) (hdd : dd ≤ 1000) : kM l e0 yL_present cL_present 4 (Option.some (Jvm.ClassFile.FieldType.array Jvm.ClassFile.FieldType.boolean)) ({ frames := 1, cells := 1, slots := 40, locals := 22 } : Room) 1 40 [.ref q, .int (nI dd)] S (kQq (fun v S9 => ∃ z, v = some z ∧ z ∉ S.L ∧ kFr S S9 (fun _ => False) ∧ kBo S9 z n (fun i => decide (F i 6 = 1) && !decide ((i + dd) % 4 = 0)) n ∧ S9.O z = 302)) := by
  refine kMetE (by decide +kernel) (Nat.le_of_ble_eq_true rfl) (fun C he hl X E hm => ?_)
  have X : kX C RL cL_present 4 ({ frames := 1, cells := 1, slots := 40, locals := 22 } : Room) := X
  subst he hl
  show kG C 4 S 0 0 0 [(0, .ref q), (1, .int (nI dd))] []
  refine k_aload_n X (q := 0) dL_present_0 rfl rfl ?_
  refine k_gotQ X (vL_40 X (S := S) (c_L_full C.l C.e0 S q n F hR (by omega)) (As := [.ref q]) (rest := []) rfl rfl rfl rfl ⟨Nat.le_of_ble_eq_true rfl, Nat.le_of_ble_eq_true rfl⟩ (Nat.le_of_ble_eq_true rfl) ⟨Nat.le_of_ble_eq_true rfl, Nat.le_of_ble_eq_true rfl⟩ dL_present_1) (fun r_1_3 S_1_4 h_1_1 => ?_)
  obtain ⟨z_1_1, rfl, fz_1_1, hFz_1_1, hBz_1_1, hOz_1_1⟩ := h_1_1
  refine k_astore_n X [(2, .ref z_1_1), (0, .ref q), (1, .int (nI dd))] dL_present_4 rfl (by decide) rfl ?_
  refine k_iconst X (v := 0) dL_present_5 (by decide) ?_
  refine k_istore_n X [(3, .int 0), (2, .ref z_1_1), (0, .ref q), (1, .int (nI dd))] dL_present_6 rfl (by decide) rfl ?_
  have L_7 : ∀ (N : Nat) (i : Nat) (x : Int32) (Si : kS), n - i = N → x = nI i → (i ≤ n ∧ kFr S Si (fun _ => False) ∧ kBo Si z_1_1 n (fun i => decide (F i 6 = 1) && !decide ((i + dd) % 4 = 0)) i ∧ (∀ j, i ≤ j → j < n → Si.I z_1_1 j = kb (decide (F j 6 = 1))) ∧ Si.O z_1_1 = 302) → kG C 4 Si (0 + 1) (0 + 40) 7 [(3, .int x), (2, .ref z_1_1), (0, .ref q), (1, .int (nI dd))] [] := by
    intro N
    induction N using Nat.strongRecOn with
    | _ N ih =>
    intro i x Si hMs h7_0 h7_1
    subst h7_0
    obtain ⟨hin, hFi, hBi, hBj, hOi⟩ := h7_1
    have hRi := hR.fr hFi
    refine k_iload_n X (q := 0) dL_present_7 rfl rfl ?_
    refine k_aload_n X (q := 2) dL_present_8 rfl rfl ?_
    refine k_alen X (S := Si) hRi.1.1.1 (by simp [hRi.1.1.2]) dL_present_9 ?_
    rw [show Int32.ofNat (Si.N q) = nI n from by rw [hRi.1.2]; rfl]
    refine k_icmp_ge (tgt := 38) X dL_present_10 (by decide) (fun c_10 => ?_) (fun c_10 => ?_)
    · skip
      refine k_aload_n X (q := 1) dL_present_38 rfl rfl ?_
      exact k_aret X E (r := (some z_1_1)) (Or.inr ⟨_, rfl⟩) dL_present_39 (by show _ ≤ 1; omega) (by show _ ≤ 40; omega) (⟨_, rfl, fz_1_1, hFi, by rw [show n = i by have := ge_of_le c_10 (by omega); omega] at hBi ⊢; exact hBi, hOi⟩)
    · skip
      have hlt : i < n := lt_of_nle c_10 (by omega)
      refine k_aload_n X (q := 1) dL_present_13 rfl rfl ?_
      refine k_iload_n X (q := 0) dL_present_14 rfl rfl ?_
      refine k_dup2 X dL_present_15 rfl rfl ?_
      refine k_zald X (S := Si) ⟨hBi.1.1.1, hBi.1.1.2⟩ (by rw [hBi.1.2]; exact vp_in_nI hlt (by omega)) dL_present_16 (fun v_16_5 ev_16_5 => ?_)
      refine k_iload_n X (q := 0) dL_present_17 rfl rfl ?_
      refine k_iload_n X (q := 3) dL_present_18 rfl rfl ?_
      refine k_iadd X dL_present_19 (fun v_19_6 ev_19_6 => ?_)
      refine k_iconst X (v := 4) dL_present_20 (by decide) ?_
      refine k_irem X dL_present_21 (by decide) (fun v_21_7 ev_21_7 => ?_)
      refine k_if_le (tgt := 29) X dL_present_22 (by decide) (fun c_22 => ?_) (fun c_22 => ?_)
      · skip
        have hrm : v_21_7 = nI ((i + dd) % 4) := by rw [ev_21_7, ev_19_6, nI_add]; exact pk_rem (d := 4) (by omega) (by omega) (by omega)
        have hz9 : (i + dd) % 4 = 0 := by
          rw [hrm] at c_22
          by_cases g : (i + dd) % 4 = 0
          · exact g
          · exact absurd c_22 (nI_nle (by omega) (by omega))
        refine k_iconst X (v := 0) dL_present_29 (by decide) ?_
        refine k_iand X dL_present_30 (fun v_30_8 ev_30_8 => ?_)
        have hb9 : v_16_5 = kb (decide (F i 6 = 1)) := by rw [ev_16_5, nI_clamp (by omega)]; exact hBj i (Nat.le_refl _) hlt
        have hv9 : v_30_8 = kb (decide (F i 6 = 1) && !decide ((i + dd) % 4 = 0)) := by
          rw [ev_30_8, hb9]
          by_cases g : F i 6 = 1 <;> simp [g, hz9, kb]
        refine k_zast X (S := Si) ⟨hBi.1.1.1, hBi.1.1.2⟩ (by rw [hBi.1.2]; exact vp_in_nI hlt (by omega)) (by rw [hv9]; exact kb_01 _) dL_present_31 ?_
        rw [nI_clamp (by omega)]
        obtain ⟨v_32_9, ev_32_9⟩ : ∃ z : Int32, z = (nI i) + 1 := ⟨_, rfl⟩
        refine k_iinc X (q := 0) (v := v_32_9) [(3, .int v_32_9), (2, .ref z_1_1), (0, .ref q), (1, .int (nI dd))] dL_present_32 rfl (by rw [ev_32_9]; rfl) (by decide) rfl ?_
        refine k_goto (tgt := 7) X dL_present_35 (by decide) ?_
        refine k_lv [0, 1, 2, 3] _ rfl ?_
        exact ih (n - (i + 1)) (by omega) (i + 1) _ _ rfl (by rw [ev_32_9, nI_1]) ⟨by omega, hFi.uIf fz_1_1, hBi.put hv9, fun j h1 h2 => by rw [uI_I, if_neg (fun e => by omega)]; exact hBj j (by omega) h2, hOi⟩
      · skip
        have hrm : v_21_7 = nI ((i + dd) % 4) := by rw [ev_21_7, ev_19_6, nI_add]; exact pk_rem (d := 4) (by omega) (by omega) (by omega)
        have hz9 : ¬ (i + dd) % 4 = 0 := by
          rw [hrm] at c_22
          intro g
          rw [g] at c_22
          exact c_22 (by decide)
        refine k_iconst X (v := 1) dL_present_25 (by decide) ?_
        refine k_goto (tgt := 30) X dL_present_26 (by decide) ?_
        refine k_iand X dL_present_30 (fun v_30_10 ev_30_10 => ?_)
        have hb9 : v_16_5 = kb (decide (F i 6 = 1)) := by rw [ev_16_5, nI_clamp (by omega)]; exact hBj i (Nat.le_refl _) hlt
        have hv9 : v_30_10 = kb (decide (F i 6 = 1) && !decide ((i + dd) % 4 = 0)) := by
          rw [ev_30_10, hb9]
          by_cases g : F i 6 = 1 <;> simp [g, hz9, kb]
        refine k_zast X (S := Si) ⟨hBi.1.1.1, hBi.1.1.2⟩ (by rw [hBi.1.2]; exact vp_in_nI hlt (by omega)) (by rw [hv9]; exact kb_01 _) dL_present_31 ?_
        rw [nI_clamp (by omega)]
        obtain ⟨v_32_11, ev_32_11⟩ : ∃ z : Int32, z = (nI i) + 1 := ⟨_, rfl⟩
        refine k_iinc X (q := 0) (v := v_32_11) [(3, .int v_32_11), (2, .ref z_1_1), (0, .ref q), (1, .int (nI dd))] dL_present_32 rfl (by rw [ev_32_11]; rfl) (by decide) rfl ?_
        refine k_goto (tgt := 7) X dL_present_35 (by decide) ?_
        refine k_lv [0, 1, 2, 3] _ rfl ?_
        exact ih (n - (i + 1)) (by omega) (i + 1) _ _ rfl (by rw [ev_32_11, nI_1]) ⟨by omega, hFi.uIf fz_1_1, hBi.put hv9, fun j h1 h2 => by rw [uI_I, if_neg (fun e => by omega)]; exact hBj j (by omega) h2, hOi⟩
  refine k_lv [0, 1, 2, 3] _ rfl ?_
  exact L_7 _ 0 0 _ rfl nI_0.symm ⟨Nat.zero_le _, hFz_1_1, ⟨hBz_1_1.1, fun i hi => absurd hi (by omega)⟩, fun j _ h2 => hBz_1_1.2 j h2, hOz_1_1⟩
