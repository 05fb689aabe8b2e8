theorem clr_I (S : kS) (b i) : (S.clr b i).I = S.I := rfl
theorem clr_R (S : kS) (b i c j) : (S.clr b i).R c j = if c = b ∧ j < i then none else S.R c j := rfl
theorem clr_L (S : kS) (b i) : (S.clr b i).L = S.L := rfl
theorem clr_K (S : kS) (b i) : (S.clr b i).K = S.K := rfl
theorem clr_O (S : kS) (b i) : (S.clr b i).O = S.O := rfl
theorem clr_N (S : kS) (b i) : (S.clr b i).N = S.N := rfl
theorem kFr.uI {S S' : kS} {P : Nat → Prop} (h : kFr S S' P) {a i : Nat} {v : Int32} (hp : P a) : kFr S (S'.uI a i v) P := ⟨h.1, fun b hb hn => ⟨fun j => by rw [uI_I, if_neg (fun q => hn (by rw [q.1]; exact hp))]; exact (h.2 b hb hn).1 j, (h.2 b hb hn).2⟩⟩
theorem kFr.uR {S S' : kS} {P : Nat → Prop} (h : kFr S S' P) {a i : Nat} {v : Option Nat} (hp : P a) : kFr S (S'.uR a i v) P := ⟨h.1, fun b hb hn => ⟨(h.2 b hb hn).1, fun j => by rw [uR_R, if_neg (fun q => hn (by rw [q.1]; exact hp))]; exact (h.2 b hb hn).2 j⟩⟩
theorem kFr.clr {S S' : kS} {P : Nat → Prop} (h : kFr S S' P) {a i : Nat} (hp : P a) : kFr S (S'.clr a i) P := ⟨h.1, fun b hb hn => ⟨(h.2 b hb hn).1, fun j => by rw [clr_R, if_neg (fun q => hn (by rw [q.1]; exact hp))]; exact (h.2 b hb hn).2 j⟩⟩
theorem kFr.cp {S S' : kS} {P : Nat → Prop} (h : kFr S S' P) {a0 a x y z : Nat} (hp : P a) : kFr S (S'.cp a0 a x y z) P := ⟨h.1, fun b hb hn => ⟨(h.2 b hb hn).1, fun j => by rw [cp_R, if_neg (fun q => hn (by rw [q]; exact hp))]; exact (h.2 b hb hn).2 j⟩⟩
theorem kFr.nw {S S' : kS} {P : Nat → Prop} (h : kFr S S' P) {q κ ρ n : Nat} (hq : q ∉ S'.L) : kFr S (S'.nw q κ ρ n) P := by
  have hne : ∀ b, b ∈ S.L → ¬ b = q := fun b hb e => hq (by rw [← e]; exact (h.1 b hb).1)
  refine ⟨fun b hb => ⟨List.mem_append_left _ (h.1 b hb).1, ?_, ?_, ?_⟩, fun b hb hn => ⟨fun j => ?_, fun j => ?_⟩⟩
  · rw [nw_K]; exact (if_neg (hne b hb)).trans (h.1 b hb).2.1
  · rw [nw_O]; exact (if_neg (hne b hb)).trans (h.1 b hb).2.2.1
  · rw [nw_N]; exact (if_neg (hne b hb)).trans (h.1 b hb).2.2.2
  · rw [nw_I]; unfold va_up; rw [if_neg (hne b hb)]; exact (h.2 b hb hn).1 j
  · rw [nw_R]; unfold va_up; rw [if_neg (hne b hb)]; exact (h.2 b hb hn).2 j
theorem kS.at.ne {S : kS} {a b κ κ' : Nat} (ha : S.at a κ) (hb : S.at b κ') (h : ¬ κ = κ') : ¬ a = b := fun e => h (by rw [← ha.2, e]; exact hb.2)
theorem lt_of_nle {i m : Nat} (c : ¬ nI m ≤ nI i) (h : i < 2 ^ 31) : i < m := by
  rcases Nat.lt_or_ge i m with q | q
  · exact q
  · exact absurd (nI_le q h) c
theorem ge_of_le {i m : Nat} (c : nI m ≤ nI i) (h : m < 2 ^ 31) : m ≤ i := by
  rcases Nat.lt_or_ge i m with q | q
  · exact absurd c (nI_ge q h)
  · exact q
set_option maxHeartbeats 1000000 in
set_option maxRecDepth 20000 in
theorem c_Jx4a65c_clear_da8c8 (l : Launch) (e0 : Nat × Nat) (S : kS) (a κ m : Nat) (xs : Nat → Nat) (h : kLs e0 S a κ m xs) : kM l e0 yJx4a65c_clear_da8c8 cJx4a65c_clear_da8c8 4 none ({ frames := 0, cells := 0, slots := 0, locals := 0 } : Room) 0 0 [.ref a] S (kQv (fun S9 => kFr S S9 (kRo S (S.O a)) ∧ kLs e0 S9 a κ 0 xs ∧ S9.R a 1 = S.R a 1)) := by
  refine kMetE (by decide +kernel) (Nat.le_of_ble_eq_true rfl) (fun C he hl X E hm => ?_)
  have X : kX C RJx4a65c cJx4a65c_clear_da8c8 4 ({ frames := 0, cells := 0, slots := 0, locals := 0 } : Room) := X
  subst he hl
  show kG C 4 S 0 0 0 [(0, .ref a)] []
  obtain ⟨ha, hsz, b, hb, hh⟩ := h
  rcases hh with ⟨hbe, hm0⟩ | ⟨hB, hO, hmN, hcap, hxs⟩
  · subst hbe
    refine k_aload_n X (q := 0) dJx4a65c_clear_da8c8_0 rfl rfl ?_
    refine k_dup X dJx4a65c_clear_da8c8_1 rfl ?_
    refine gJx4a65c_63 X (S := S) ha.1 ha.2 dJx4a65c_clear_da8c8_2 (fun v_2_1 ev_2_1 => ?_)
    refine k_iconst X (v := 1) dJx4a65c_clear_da8c8_5 (by decide) ?_
    refine k_iadd X dJx4a65c_clear_da8c8_6 (fun v_6_2 ev_6_2 => ?_)
    refine pJx4a65c_63 X (S := S) ha.1 ha.2 dJx4a65c_clear_da8c8_7 ?_
    refine k_aload_n X (q := 0) dJx4a65c_clear_da8c8_10 rfl rfl ?_
    refine gJx4a65c_9s X (S := (S.uI a 0 v_6_2)) ha.1 ha.2 hb dJx4a65c_clear_da8c8_11 ?_
    refine k_astore_n X [(1, .ref C.e0.1), (0, .ref a)] dJx4a65c_clear_da8c8_14 rfl (by decide) rfl ?_
    refine k_aload_n X (q := 1) dJx4a65c_clear_da8c8_15 rfl rfl ?_
    refine gJx4a65c_48 X (S := (S.uI a 0 v_6_2)) ha.1 ha.2 dJx4a65c_clear_da8c8_16 (fun v_16_3 ev_16_3 => ?_)
    have hv9 : nI m = v_16_3 := by rw [ev_16_3, uI_I, if_neg (by omega)]; exact hsz.symm
    subst hv9
    refine k_istore_n X [(2, .int (nI m)), (1, .ref C.e0.1), (0, .ref a)] dJx4a65c_clear_da8c8_19 rfl (by decide) rfl ?_
    refine k_aload_n X (q := 2) dJx4a65c_clear_da8c8_20 rfl rfl ?_
    refine k_iconst X (v := 0) dJx4a65c_clear_da8c8_21 (by decide) ?_
    refine k_dup_x1 X dJx4a65c_clear_da8c8_22 rfl rfl ?_
    refine pJx4a65c_48 X (S := (S.uI a 0 v_6_2)) ha.1 ha.2 dJx4a65c_clear_da8c8_23 ?_
    refine k_istore_n X [(3, .int 0), (2, .int (nI m)), (1, .ref C.e0.1), (0, .ref a)] dJx4a65c_clear_da8c8_26 rfl (by decide) rfl ?_
    refine k_iload_n X (q := 0) dJx4a65c_clear_da8c8_27 rfl rfl ?_
    refine k_iload_n X (q := 1) dJx4a65c_clear_da8c8_28 rfl rfl ?_
    refine k_icmp_ge (tgt := 42) X dJx4a65c_clear_da8c8_29 (by decide) (fun c_29 => ?_) (fun c_29 => ?_)
    · skip
      exact k_vret X E dJx4a65c_clear_da8c8_42 (Nat.le_of_ble_eq_true rfl) (Nat.le_of_ble_eq_true rfl) (⟨kFr.uI (P := kRo S (S.O a)) (a := a) (kFr.uI (P := kRo S (S.O a)) (a := a) (kFr.rf S _) (Or.inl rfl)) (Or.inl rfl), ⟨ha, by rw [uI_I, if_pos ⟨rfl, rfl⟩, nI_0], _, hb, Or.inl ⟨rfl, rfl⟩⟩, rfl⟩)
    · skip
      exact absurd (by rw [hm0, nI_0]; exact Int32.le_refl 0) c_29
  · have hN : S.N b ≤ 73 := by unfold kcapOk at hcap; omega
    have hne : ¬ a = b := ha.ne hB (by decide)
    refine k_aload_n X (q := 0) dJx4a65c_clear_da8c8_0 rfl rfl ?_
    refine k_dup X dJx4a65c_clear_da8c8_1 rfl ?_
    refine gJx4a65c_63 X (S := S) ha.1 ha.2 dJx4a65c_clear_da8c8_2 (fun v_2_4 ev_2_4 => ?_)
    refine k_iconst X (v := 1) dJx4a65c_clear_da8c8_5 (by decide) ?_
    refine k_iadd X dJx4a65c_clear_da8c8_6 (fun v_6_5 ev_6_5 => ?_)
    refine pJx4a65c_63 X (S := S) ha.1 ha.2 dJx4a65c_clear_da8c8_7 ?_
    refine k_aload_n X (q := 0) dJx4a65c_clear_da8c8_10 rfl rfl ?_
    refine gJx4a65c_9s X (S := (S.uI a 0 v_6_5)) ha.1 ha.2 hb dJx4a65c_clear_da8c8_11 ?_
    refine k_astore_n X [(1, .ref b), (0, .ref a)] dJx4a65c_clear_da8c8_14 rfl (by decide) rfl ?_
    refine k_aload_n X (q := 1) dJx4a65c_clear_da8c8_15 rfl rfl ?_
    refine gJx4a65c_48 X (S := (S.uI a 0 v_6_5)) ha.1 ha.2 dJx4a65c_clear_da8c8_16 (fun v_16_6 ev_16_6 => ?_)
    have hv9 : nI m = v_16_6 := by rw [ev_16_6, uI_I, if_neg (by omega)]; exact hsz.symm
    subst hv9
    refine k_istore_n X [(2, .int (nI m)), (1, .ref b), (0, .ref a)] dJx4a65c_clear_da8c8_19 rfl (by decide) rfl ?_
    refine k_aload_n X (q := 2) dJx4a65c_clear_da8c8_20 rfl rfl ?_
    refine k_iconst X (v := 0) dJx4a65c_clear_da8c8_21 (by decide) ?_
    refine k_dup_x1 X dJx4a65c_clear_da8c8_22 rfl rfl ?_
    refine pJx4a65c_48 X (S := (S.uI a 0 v_6_5)) ha.1 ha.2 dJx4a65c_clear_da8c8_23 ?_
    refine k_istore_n X [(3, .int 0), (2, .int (nI m)), (1, .ref b), (0, .ref a)] dJx4a65c_clear_da8c8_26 rfl (by decide) rfl ?_
    have hinit : ((S.uI a 0 v_6_5).uI a 2 0) = ((S.uI a 0 v_6_5).uI a 2 0).clr b 0 := (clr_0 _ _).symm
    rw [hinit]
    have L_27 : ∀ (N : Nat) (i : Nat) (x : Int32), m - i = N → x = nI i → i ≤ m → kG C 4 (((S.uI a 0 v_6_5).uI a 2 0).clr b i) 0 0 27 [(3, .int x), (2, .int (nI m)), (1, .ref b)] [] := by
      intro N
      induction N using Nat.strongRecOn with
      | _ N ih =>
      intro i x hMs h27_0 h27_1
      subst h27_0
      refine k_iload_n X (q := 0) dJx4a65c_clear_da8c8_27 rfl rfl ?_
      refine k_iload_n X (q := 1) dJx4a65c_clear_da8c8_28 rfl rfl ?_
      refine k_icmp_ge (tgt := 42) X dJx4a65c_clear_da8c8_29 (by decide) (fun c_29 => ?_) (fun c_29 => ?_)
      · skip
        have him : m = i := by have := ge_of_le c_29 (by omega); omega
        subst him
        exact k_vret X E dJx4a65c_clear_da8c8_42 (Nat.le_of_ble_eq_true rfl) (Nat.le_of_ble_eq_true rfl) (⟨kFr.clr (P := kRo S (S.O a)) (a := b) (kFr.uI (P := kRo S (S.O a)) (a := a) (kFr.uI (P := kRo S (S.O a)) (a := a) (kFr.rf S _) (Or.inl rfl)) (Or.inl rfl)) (Or.inr hO), ⟨ha, by rw [clr_I, uI_I, if_pos ⟨rfl, rfl⟩, nI_0], b, by rw [clr_R, if_neg (fun q => hne q.1)]; exact hb, Or.inr ⟨hB, hO, Nat.zero_le _, hcap, fun i h => absurd h (by omega)⟩⟩, by rw [clr_R, if_neg (fun q => hne q.1)]; rfl⟩)
      · skip
        have hlt : i < m := lt_of_nle c_29 (by omega)
        refine k_aload_n X (q := 2) dJx4a65c_clear_da8c8_32 rfl rfl ?_
        refine k_iload_n X (q := 0) dJx4a65c_clear_da8c8_33 rfl rfl ?_
        refine k_null X dJx4a65c_clear_da8c8_34 ?_
        refine k_aastN X (S := (((S.uI a 0 v_6_5).uI a 2 0).clr b i)) (Or.inr hB) (show vp_in (nI i) (S.N b) from vp_in_nI (by omega) (by omega)) dJx4a65c_clear_da8c8_35 ?_
        obtain ⟨v_36_7, ev_36_7⟩ : ∃ z : Int32, z = (nI i) + 1 := ⟨_, rfl⟩
        refine k_iinc X (q := 0) (v := v_36_7) [(3, .int v_36_7), (2, .int (nI m)), (1, .ref b)] dJx4a65c_clear_da8c8_36 rfl (by rw [ev_36_7]; rfl) (by decide) rfl ?_
        refine k_goto (tgt := 27) X dJx4a65c_clear_da8c8_39 (by decide) ?_
        refine k_lv [0, 1, 2] _ rfl ?_
        rw [nI_clamp (by omega), clr_s]
        exact ih (m - (i + 1)) (by omega) (i + 1) _ rfl (by rw [ev_36_7, nI_succ]) (by omega)
    refine k_lv [0, 1, 2] _ rfl ?_
    exact L_27 _ 0 0 rfl nI_0.symm (Nat.zero_le _)
