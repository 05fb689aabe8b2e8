theorem cl0 : (0 : Int32).toNatClampNeg = 0 := by decide
theorem nw_at {S : kS} {q κ ρ n b κ' : Nat} (hq : q ∉ S.L) (hb : S.at b κ') : (S.nw q κ ρ n).at b κ' := ⟨List.mem_append_left _ hb.1, (if_neg (fun e => hq (by rw [← e]; exact hb.1))).trans hb.2⟩
theorem nw_self {S : kS} {q κ ρ n : Nat} : (S.nw q κ ρ n).at q κ := ⟨List.mem_append_right _ (List.mem_singleton.mpr rfl), if_pos rfl⟩
theorem nw_ne {S : kS} {q b κ : Nat} (hq : q ∉ S.L) (hb : S.at b κ) : ¬ b = q := fun e => hq (by rw [← e]; exact hb.1)
theorem nw_Nb {S : kS} {q κ ρ n b κ' : Nat} (hq : q ∉ S.L) (hb : S.at b κ') : (S.nw q κ ρ n).N b = S.N b := if_neg (nw_ne hq hb)
theorem nw_Rb {S : kS} {q κ ρ n b κ' : Nat} (hq : q ∉ S.L) (hb : S.at b κ') : (S.nw q κ ρ n).R b = S.R b := if_neg (nw_ne hq hb)
theorem nw_Ib {S : kS} {q κ ρ n b κ' : Nat} (hq : q ∉ S.L) (hb : S.at b κ') : (S.nw q κ ρ n).I b = S.I b := if_neg (nw_ne hq hb)
theorem nw_Ob {S : kS} {q κ ρ n b κ' : Nat} (hq : q ∉ S.L) (hb : S.at b κ') : (S.nw q κ ρ n).O b = S.O b := if_neg (nw_ne hq hb)
theorem nw_Kb {S : kS} {q κ ρ n b κ' : Nat} (hq : q ∉ S.L) (hb : S.at b κ') : (S.nw q κ ρ n).K b = S.K b := if_neg (nw_ne hq hb)
theorem nw_Nq {S : kS} {q κ ρ n : Nat} : (S.nw q κ ρ n).N q = n := if_pos rfl
theorem nw_Oq {S : kS} {q κ ρ n : Nat} : (S.nw q κ ρ n).O q = ρ := if_pos rfl
set_option maxHeartbeats 1000000 in
set_option maxRecDepth 20000 in
theorem c_J8_newLength_cabcc (l : Launch) (e0 : Nat × Nat) (S : kS) (x y z : Int32) (h1 : 0 < x + kmax y z) (h2 : x + kmax y z ≤ 2147483639) : kM l e0 yJ8_newLength_cabcc cJ8_newLength_cabcc 4 (Option.some Jvm.ClassFile.FieldType.int) ({ frames := 1, cells := 0, slots := 0, locals := 24 } : Room) 0 0 [.int x, .int y, .int z] S (kQi (fun v S9 => S = S9 ∧ v = x + kmax y z)) := by
  refine kMetE (by decide +kernel) (Nat.le_of_ble_eq_true rfl) (fun C he hl X E hm => ?_)
  have X : kX C RJ8 cJ8_newLength_cabcc 4 ({ frames := 1, cells := 0, slots := 0, locals := 24 } : Room) := X
  subst he hl
  show kG C 4 S 0 0 0 [(0, .int x), (1, .int y), (2, .int z)] []
  refine k_iload_n X (q := 0) dJ8_newLength_cabcc_0 rfl rfl ?_
  refine k_iload_n X (q := 1) dJ8_newLength_cabcc_1 rfl rfl ?_
  refine k_iload_n X (q := 2) dJ8_newLength_cabcc_2 rfl rfl ?_
  refine k_max X qmJ8_194 (Nat.le_of_ble_eq_true rfl) (Nat.le_of_ble_eq_true rfl) ⟨Nat.le_of_ble_eq_true rfl, Nat.le_of_ble_eq_true rfl⟩ dJ8_newLength_cabcc_3 (fun v_3_1 ev_3_1 => ?_)
  refine k_iadd X dJ8_newLength_cabcc_6 (fun v_6_2 ev_6_2 => ?_)
  refine k_istore_n X [(3, .int v_6_2), (0, .int x), (1, .int y), (2, .int z)] dJ8_newLength_cabcc_7 rfl (by decide) rfl ?_
  refine k_iconst X (v := 0) dJ8_newLength_cabcc_8 (by decide) ?_
  refine k_iload_n X (q := 0) dJ8_newLength_cabcc_9 rfl rfl ?_
  refine k_icmp_ge (tgt := 21) X dJ8_newLength_cabcc_10 (by decide) (fun c_10 => ?_) (fun c_10 => ?_)
  · skip
    exact absurd c_10 (by subst_vars; exact Int32.not_le.mpr h1)
  · skip
    refine k_iload_n X (q := 0) dJ8_newLength_cabcc_13 rfl rfl ?_
    refine k_ldc X qkJ8_200 dJ8_newLength_cabcc_14 ?_
    refine k_icmp_gt (tgt := 21) X dJ8_newLength_cabcc_16 (by decide) (fun c_16 => ?_) (fun c_16 => ?_)
    · skip
      exact absurd c_16 (by subst_vars; exact Int32.not_lt.mpr h2)
    · skip
      refine k_iload_n X (q := 0) dJ8_newLength_cabcc_19 rfl rfl ?_
      exact k_iret X E dJ8_newLength_cabcc_20 (Nat.le_of_ble_eq_true rfl) (Nat.le_of_ble_eq_true rfl) (⟨rfl, by subst_vars; rfl⟩)
set_option maxHeartbeats 1000000 in
set_option maxRecDepth 20000 in
theorem c_J7_copyOf_6403c (l : Launch) (e0 : Nat × Nat) (S : kS) (b κ ρ N' : Nat) (hκ : kEl κ) (hB : S.at b 15) (hle : S.N b ≤ N') (hN' : N' ≤ 1000) (hel : ∀ i, i < S.N b → ∀ y, S.R b i = some y → S.at y κ) : kM l e0 yJ7_copyOf_6403c cJ7_copyOf_6403c 4 (Option.some (Jvm.ClassFile.FieldType.array (Jvm.ClassFile.FieldType.object "java/lang/Object"))) ({ frames := 1, cells := 1, slots := N', locals := 60 } : Room) 1 N' [.ref b, .int (nI N'), .ref e0.2] S (kQq (fun v S9 => ∃ q, v = some q ∧ q ∉ S.L ∧ S9 = (S.nw q 15 ρ N').cp b q 0 0 (S.N b))) := by
  refine kMetE (by decide +kernel) (Nat.le_of_ble_eq_true rfl) (fun C he hl X E hm => ?_)
  have X : kX C RJ7 cJ7_copyOf_6403c 4 ({ frames := 1, cells := 1, slots := N', locals := 60 } : Room) := X
  subst he hl
  show kG C 4 S 0 0 0 [(0, .ref b), (1, .int (nI N')), (2, .ref C.e0.2)] []
  obtain ⟨Cn, Ty, NN, hcl, hsh, hca⟩ := hκ
  refine k_aload_n X (q := 2) dJ7_copyOf_6403c_0 rfl rfl ?_
  refine k_ldcM X qlJ7_110 dJ7_copyOf_6403c_1 ?_
  refine k_acmp_ne (rx := some C.e0.2) (ry := some C.e0.2) (tgt := 13) X dJ7_copyOf_6403c_3 (by decide) (fun c_3 => ?_) (fun c_3 => ?_)
  · skip
    exact absurd rfl c_3
  · skip
    refine k_iload_n X (q := 1) dJ7_copyOf_6403c_6 rfl rfl ?_
    refine k_newO X (N' := N') ρ qlJ7_2 (nI_pos (by omega)) (nI_clamp (by omega)) hN' (Nat.le_of_eq (Nat.zero_add 1)) (Nat.le_of_eq (Nat.zero_add _)) dJ7_copyOf_6403c_7 (fun a_7_1 fa_7_1 => ?_)
    have hq15 := nw_self (S := S) (q := a_7_1) (κ := 15) (ρ := ρ) (n := N')
    have hB1 := nw_at (κ := 15) (ρ := ρ) (n := N') fa_7_1 hB
    have hNb := nw_Nb (κ := 15) (ρ := ρ) (n := N') fa_7_1 hB
    have hRb := nw_Rb (κ := 15) (ρ := ρ) (n := N') fa_7_1 hB
    refine k_goto (tgt := 24) X dJ7_copyOf_6403c_10 (by decide) ?_
    refine k_astore_n X [(3, .ref a_7_1), (0, .ref b), (1, .int (nI N')), (2, .ref C.e0.2)] dJ7_copyOf_6403c_24 rfl (by decide) rfl ?_
    refine k_aload_n X (q := 1) dJ7_copyOf_6403c_25 rfl rfl ?_
    refine k_iconst X (v := 0) dJ7_copyOf_6403c_26 (by decide) ?_
    refine k_aload_n X (q := 0) dJ7_copyOf_6403c_27 rfl rfl ?_
    refine k_iconst X (v := 0) dJ7_copyOf_6403c_28 (by decide) ?_
    refine k_aload_n X (q := 1) dJ7_copyOf_6403c_29 rfl rfl ?_
    refine k_alen X (S := (S.nw a_7_1 15 ρ N')) hB1.1 (by simp [hB1.2]) dJ7_copyOf_6403c_30 ?_
    rw [hNb]
    refine k_iload_n X (q := 2) dJ7_copyOf_6403c_31 rfl rfl ?_
    refine k_min X qmJ7_304 (Nat.le_of_ble_eq_true rfl) (Nat.le_of_ble_eq_true rfl) ⟨Nat.le_of_ble_eq_true rfl, Nat.le_of_eq (Nat.zero_add _)⟩ dJ7_copyOf_6403c_32 (fun v_32_2 ev_32_2 => ?_)
    have hv9 : nI (S.N b) = v_32_2 := by rw [ev_32_2]; exact (if_neg (nI_nlt (by omega) (by omega))).symm
    subst hv9
    refine k_copy X (S := (S.nw a_7_1 15 ρ N')) hcl hsh hca qmJ7_150 hB1 hq15 (by decide) (by decide) (nI_pos (by omega)) (by rw [cl0, hNb, nI_clamp (by omega)]; omega) (by rw [cl0, nw_Nq, nI_clamp (by omega)]; omega) (fun i hi y hy => by rw [nI_clamp (by omega)] at hi; rw [cl0, Nat.zero_add, hRb] at hy; exact nw_at fa_7_1 (hel i hi y hy)) (Nat.le_of_ble_eq_true rfl) (Nat.le_of_ble_eq_true rfl) dJ7_copyOf_6403c_35 ?_
    refine k_aload_n X (q := 0) dJ7_copyOf_6403c_38 rfl rfl ?_
    exact k_aret X E (r := (some a_7_1)) (Or.inr ⟨_, rfl⟩) dJ7_copyOf_6403c_39 (Nat.le_of_eq (Nat.zero_add 1)) (Nat.le_of_eq (Nat.zero_add _)) (⟨_, rfl, fa_7_1, by rw [cl0, nI_clamp (by omega)]⟩)
set_option maxHeartbeats 1000000 in
set_option maxRecDepth 20000 in
theorem c_J7_copyOf_1904c (l : Launch) (e0 : Nat × Nat) (S : kS) (b κ ρ N' : Nat) (hκ : kEl κ) (hB : S.at b 15) (hle : S.N b ≤ N') (hN' : N' ≤ 1000) (hel : ∀ i, i < S.N b → ∀ y, S.R b i = some y → S.at y κ) : kM l e0 yJ7_copyOf_1904c cJ7_copyOf_1904c 2 (Option.some (Jvm.ClassFile.FieldType.array (Jvm.ClassFile.FieldType.object "java/lang/Object"))) ({ frames := 2, cells := 1, slots := N', locals := 83 } : Room) 1 N' [.ref b, .int (nI N')] S (kQq (fun v S9 => ∃ q, v = some q ∧ q ∉ S.L ∧ S9 = (S.nw q 15 ρ N').cp b q 0 0 (S.N b))) := by
  refine kMetE (by decide +kernel) (Nat.le_of_ble_eq_true rfl) (fun C he hl X E hm => ?_)
  have X : kX C RJ7 cJ7_copyOf_1904c 2 ({ frames := 2, cells := 1, slots := N', locals := 83 } : Room) := X
  subst he hl
  show kG C 2 S 0 0 0 [(0, .ref b), (1, .int (nI N'))] []
  refine k_aload_n X (q := 0) dJ7_copyOf_1904c_0 rfl rfl ?_
  refine k_iload_n X (q := 1) dJ7_copyOf_1904c_1 rfl rfl ?_
  refine k_aload_n X (q := 0) dJ7_copyOf_1904c_2 rfl rfl ?_
  refine k_getC X hB (Nat.le_of_ble_eq_true rfl) (Nat.le_of_ble_eq_true rfl) dJ7_copyOf_1904c_3 ?_
  refine k_gotQ X (vJ7_300 X (S := S) (c_J7_copyOf_6403c C.l C.e0 S b κ ρ N' hκ hB hle hN' hel) (As := [.ref b, .int (nI N'), .ref C.e0.2]) (rest := []) rfl rfl rfl rfl ⟨Nat.le_of_ble_eq_true rfl, Nat.le_of_ble_eq_true rfl⟩ (Nat.le_of_ble_eq_true rfl) ⟨Nat.le_of_eq (Nat.zero_add 1), Nat.le_of_eq (Nat.zero_add _)⟩ dJ7_copyOf_1904c_6) (fun r_6_2 S_6_3 h_6_0 => ?_)
  obtain ⟨q, hvq, hqf, hS9⟩ := h_6_0
  subst hvq
  subst hS9
  exact k_aret X E (r := (some q)) (Or.inr ⟨_, rfl⟩) dJ7_copyOf_1904c_9 (Nat.le_of_eq (Nat.zero_add 1)) (Nat.le_of_eq (Nat.zero_add _)) (⟨q, rfl, hqf, rfl⟩)
