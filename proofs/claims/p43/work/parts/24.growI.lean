/-- the length that a full list's row gets -/
def kng (m : Nat) : Nat := if m = 0 then 10 else m + m / 2
theorem kng_p {m : Nat} (h : 0 < m) : kng m = m + m / 2 := if_neg (by omega)
theorem kng_ok {m : Nat} (h : m = 0 ∨ kcapOk m) (h2 : m ≤ 64) : kcapOk (kng m) ∧ m + 1 ≤ kng m ∧ kng m ≤ 73 := by
  unfold kcapOk at h
  rcases h with rfl | rfl | rfl | rfl | rfl | rfl | rfl <;> first | (simp [kng, kcapOk]; done) | omega
theorem cpy0 {α : Type} (f g : Nat → α) {n i : Nat} (h : i < n) : va_cpy f g 0 0 n i = f i := by simp [va_cpy, h]
/-- what a bigger row is: the old things, the list points to it -/
def kGr (e0 : Nat × Nat) (S S9 : kS) (a m : Nat) (xs : Nat → Nat) (q : Nat) : Prop := q ∉ S.L ∧ kFr S S9 (kRo S (S.O a)) ∧ S9.at q 15 ∧ S9.O q = 100 + S.O a ∧ S9.N q = kng m ∧ S9.R a 1 = some q ∧ (∀ j, S9.I a j = S.I a j) ∧ (∀ i, i < m → S9.R q i = some (xs i))
theorem kFr.rf2 {S S' : kS} {P : Nat → Prop} (h : kFr S S' P) {a0 a x y z : Nat} (hp : a ∉ S.L) : kFr S (S'.cp a0 a x y z) P := ⟨h.1, fun b hb hn => ⟨(h.2 b hb hn).1, fun j => by rw [cp_R, if_neg (fun q => hp (by rw [← q]; exact hb))]; exact (h.2 b hb hn).2 j⟩⟩
set_option maxHeartbeats 1000000 in
set_option maxRecDepth 20000 in
theorem c_Jx4a65c_grow_92f84 (l : Launch) (e0 : Nat × Nat) (S : kS) (a κ m : Nat) (xs : Nat → Nat) (hκ : kEl κ) (h : kLs e0 S a κ m xs) (hfull : ∀ b, S.at b 15 → S.R a 1 = some b → S.N b = m) (hm64 : m ≤ 64) : kM l e0 yJx4a65c_grow_92f84 cJx4a65c_grow_92f84 4 (Option.some (Jvm.ClassFile.FieldType.array (Jvm.ClassFile.FieldType.object "java/lang/Object"))) ({ frames := 3, cells := 1, slots := (kng m), locals := 104 } : Room) 1 (kng m) [.ref a, .int (nI (m + 1))] S (kQq (fun v S9 => ∃ q, v = some q ∧ kGr e0 S S9 a m xs q)) := by
  refine kMetE (by decide +kernel) (Nat.le_of_ble_eq_true rfl) (fun C he hl X E hm => ?_)
  have X : kX C RJx4a65c cJx4a65c_grow_92f84 4 ({ frames := 3, cells := 1, slots := (kng m), locals := 104 } : Room) := X
  subst he hl
  show kG C 4 S 0 0 0 [(0, .ref a), (1, .int (nI (m + 1)))] []
  obtain ⟨Cn, Ty, NN, hcl, hsh, hca⟩ := id hκ
  obtain ⟨ha, hsz, b, hb, hh⟩ := id h
  obtain ⟨ρ, hρ⟩ : ∃ z, z = 100 + S.O a := ⟨_, rfl⟩
  obtain ⟨N', hN2⟩ : ∃ z, z = kng m := ⟨_, rfl⟩
  rcases hh with ⟨hbe, hm0⟩ | ⟨hB, hO, hmN, hcap, hxs⟩
  · subst hbe
    have h10 : kng m = 10 := by rw [hm0]; rfl
    refine k_aload_n X (q := 0) dJx4a65c_grow_92f84_0 rfl rfl ?_
    refine gJx4a65c_9s X (S := S) ha.1 ha.2 hb dJx4a65c_grow_92f84_1 ?_
    refine k_alen0 X dJx4a65c_grow_92f84_4 ?_
    refine k_istore_n X [(2, .int 0), (0, .ref a), (1, .int (nI (m + 1)))] dJx4a65c_grow_92f84_5 rfl (by decide) rfl ?_
    refine k_iload_n X (q := 0) dJx4a65c_grow_92f84_6 rfl rfl ?_
    refine k_if_gt (tgt := 20) X dJx4a65c_grow_92f84_7 (by decide) (fun c_7 => ?_) (fun c_7 => ?_)
    · skip
      exact absurd c_7 (by decide)
    · skip
      refine k_aload_n X (q := 1) dJx4a65c_grow_92f84_10 rfl rfl ?_
      refine gJx4a65c_9s X (S := S) ha.1 ha.2 hb dJx4a65c_grow_92f84_11 ?_
      refine k_gets39 X dJx4a65c_grow_92f84_14 ?_
      refine k_acmp_eq (rx := some C.e0.1) (ry := some C.e0.1) (tgt := 45) X dJx4a65c_grow_92f84_17 (by decide) (fun c_17 => ?_) (fun c_17 => ?_)
      · skip
        refine k_aload_n X (q := 1) dJx4a65c_grow_92f84_45 rfl rfl ?_
        refine k_bipush X (v := 10) dJx4a65c_grow_92f84_46 (by decide) ?_
        refine k_iload_n X (q := 2) dJx4a65c_grow_92f84_48 rfl rfl ?_
        refine k_max X qmJx4a65c_79 (Nat.le_of_ble_eq_true rfl) (Nat.le_of_ble_eq_true rfl) ⟨Nat.le_of_ble_eq_true rfl, Nat.zero_le _⟩ dJx4a65c_grow_92f84_49 (fun v_49_1 ev_49_1 => ?_)
        have hv9 : (10 : Int32) = v_49_1 := by rw [ev_49_1, hm0]; decide
        subst hv9
        refine k_newO X (N' := 10) ρ qlJx4a65c_7 (by decide) (by decide) (by omega) (Nat.le_of_eq (Nat.zero_add 1)) (by show 0 + 10 ≤ kng m; omega) dJx4a65c_grow_92f84_52 (fun a_52_2 fa_52_2 => ?_)
        have ha1 := nw_at (κ := 15) (ρ := ρ) (n := 10) fa_52_2 ha
        have hq15 := nw_self (S := S) (q := a_52_2) (κ := 15) (ρ := ρ) (n := 10)
        refine k_dup_x1 X dJx4a65c_grow_92f84_55 rfl rfl ?_
        refine pJx4a65c_9 X (S := (S.nw a_52_2 15 ρ 10)) ha1.1 ha1.2 (r := (some a_52_2)) dJx4a65c_grow_92f84_56 ?_
        exact k_aret X E (r := (some a_52_2)) (Or.inr ⟨_, rfl⟩) dJx4a65c_grow_92f84_59 (by show _ ≤ 1; omega) (by show _ ≤ kng m; omega) (⟨a_52_2, rfl, fa_52_2, kFr.uR (P := kRo S (S.O a)) (a := a) (kFr.nw (kFr.rf S _) fa_52_2) (Or.inl rfl), hq15, (nw_Oq (S := S) (κ := 15) (ρ := ρ) (n := 10)).trans hρ, by rw [uR_N, nw_Nq, hm0]; rfl, by rw [uR_R, if_pos ⟨rfl, rfl⟩], fun j => by rw [uR_I, nw_Ib (κ := 15) fa_52_2 ha], fun i hi => absurd hi (by omega)⟩)
      · skip
        exact absurd rfl c_17
  · have hNm : S.N b = m := hfull b hB hb
    have hg := kng_ok (Or.inr (hNm ▸ hcap)) hm64
    have hm10 : 10 ≤ m := by rw [← hNm]; unfold kcapOk at hcap; omega
    have hkn := kng_p (m := m) (by omega)
    refine k_aload_n X (q := 0) dJx4a65c_grow_92f84_0 rfl rfl ?_
    refine gJx4a65c_9s X (S := S) ha.1 ha.2 hb dJx4a65c_grow_92f84_1 ?_
    refine k_alen X (S := S) hB.1 (by simp [hB.2]) dJx4a65c_grow_92f84_4 ?_
    rw [hNm]
    refine k_istore_n X [(2, .int (nI m)), (0, .ref a), (1, .int (nI (m + 1)))] dJx4a65c_grow_92f84_5 rfl (by decide) rfl ?_
    refine k_iload_n X (q := 0) dJx4a65c_grow_92f84_6 rfl rfl ?_
    refine k_if_gt (tgt := 20) X dJx4a65c_grow_92f84_7 (by decide) (fun c_7 => ?_) (fun c_7 => ?_)
    · skip
      refine k_iload_n X (q := 0) dJx4a65c_grow_92f84_20 rfl rfl ?_
      refine k_iload_n X (q := 2) dJx4a65c_grow_92f84_21 rfl rfl ?_
      refine k_iload_n X (q := 0) dJx4a65c_grow_92f84_22 rfl rfl ?_
      refine k_isub X dJx4a65c_grow_92f84_23 (fun v_23_3 ev_23_3 => ?_)
      refine k_iload_n X (q := 0) dJx4a65c_grow_92f84_24 rfl rfl ?_
      refine k_iconst X (v := 1) dJx4a65c_grow_92f84_25 (by decide) ?_
      refine k_ishr X dJx4a65c_grow_92f84_26 (fun v_26_4 ev_26_4 => ?_)
      have hw1 : nI 1 = v_23_3 := by rw [ev_23_3, pk_sub (a := m + 1) (b := m) (by omega), Nat.add_sub_cancel_left]
      subst hw1
      have hw2 : nI (m / 2) = v_26_4 := by
        have k := pk_shrN (n := m) (by omega) ((1 : Int32) &&& 31) 1 (by decide)
        rw [Nat.pow_one] at k
        rw [ev_26_4]
        exact k.symm
      subst hw2
      have hw3 : nI m + kmax (nI 1) (nI (m / 2)) = nI N' := by rw [show kmax (nI 1) (nI (m / 2)) = nI (m / 2) from if_pos (nI_lt (by omega) (by omega)), nI_add, hN2, kng_p (by omega)]
      refine k_gotI X (vJx4a65c_73 X (S := S) (c_J8_newLength_cabcc C.l C.e0 S (nI m) (nI 1) (nI (m / 2)) (by rw [hw3, ← nI_0]; exact nI_lt (by omega) (by omega)) (by rw [hw3]; exact nI_le (b := 2147483639) (by omega) (by omega))) (As := [.int (nI m), .int (nI 1), .int (nI (m / 2))]) (rest := []) rfl rfl rfl rfl ⟨Nat.le_of_ble_eq_true rfl, Nat.le_of_ble_eq_true rfl⟩ (Nat.le_of_ble_eq_true rfl) ⟨Nat.le_of_ble_eq_true rfl, Nat.zero_le _⟩ dJx4a65c_grow_92f84_27) (fun v_27_6 S_27_7 h_27_4 => ?_)
      obtain ⟨rfl, ev_27_6⟩ := h_27_4
      rw [hw3] at ev_27_6
      subst ev_27_6
      refine k_istore_n X [(3, .int (nI N')), (2, .int (nI m)), (0, .ref a), (1, .int (nI (m + 1)))] dJx4a65c_grow_92f84_30 rfl (by decide) rfl ?_
      refine k_aload_n X (q := 2) dJx4a65c_grow_92f84_31 rfl rfl ?_
      refine k_aload_n X (q := 2) dJx4a65c_grow_92f84_32 rfl rfl ?_
      refine gJx4a65c_9s X (S := S) ha.1 ha.2 hb dJx4a65c_grow_92f84_33 ?_
      refine k_iload_n X (q := 0) dJx4a65c_grow_92f84_36 rfl rfl ?_
      refine k_gotQ X (vJx4a65c_66 X (S := S) (c_J7_copyOf_1904c C.l C.e0 S b κ ρ N' hκ hB (by omega) (by omega) (fun i hi y hy => by rw [(hxs i (by omega)).1] at hy; cases hy; exact (hxs i (by omega)).2)) (As := [.ref b, .int (nI N')]) (rest := [.ref a]) rfl rfl rfl rfl ⟨Nat.le_of_ble_eq_true rfl, Nat.le_of_ble_eq_true rfl⟩ (Nat.le_of_ble_eq_true rfl) ⟨Nat.le_of_eq (Nat.zero_add 1), (by show 0 + N' ≤ kng m; omega)⟩ dJx4a65c_grow_92f84_37) (fun r_37_9 S_37_10 h_37_7 => ?_)
      obtain ⟨q, hvq, hqf, hS9⟩ := h_37_7
      subst hvq
      subst hS9
      have ha1 : ((S.nw q 15 ρ N').cp b q 0 0 (S.N b)).at a 12 := nw_at (κ := 15) (ρ := ρ) (n := N') hqf ha
      refine k_dup_x1 X dJx4a65c_grow_92f84_40 rfl rfl ?_
      refine pJx4a65c_9 X (S := ((S.nw q 15 ρ N').cp b q 0 0 (S.N b))) ha1.1 ha1.2 (r := (some q)) dJx4a65c_grow_92f84_41 ?_
      exact k_aret X E (r := (some q)) (Or.inr ⟨_, rfl⟩) dJx4a65c_grow_92f84_44 (by show _ ≤ 1; omega) (by show _ ≤ kng m; omega) (⟨q, rfl, hqf, kFr.uR (P := kRo S (S.O a)) (a := a) (kFr.rf2 (kFr.nw (kFr.rf S (kRo S (S.O a))) hqf) hqf) (Or.inl rfl), nw_self (S := S) (κ := 15) (ρ := ρ) (n := N'), (nw_Oq (S := S) (κ := 15) (ρ := ρ) (n := N')).trans hρ, by rw [uR_N, cp_N, nw_Nq, hN2], by rw [uR_R, if_pos ⟨rfl, rfl⟩], fun j => by rw [uR_I, cp_I, nw_Ib (κ := 15) hqf ha], fun i hi => by rw [uR_R, if_neg (fun z => nw_ne hqf ha z.1.symm), cp_R, if_pos rfl, cpy0 _ _ (by omega), nw_Rb (κ := 15) hqf hB]; exact (hxs i hi).1⟩)
    · skip
      exact absurd (by rw [← nI_0]; exact nI_lt (by omega) (by omega)) c_7
