/-- as kLs, with the length of the list's row (0: the empty one that all begin with) -/
def kLc (e0 : Nat × Nat) (S : kS) (a κ m : Nat) (xs : Nat → Nat) (c : Nat) : Prop := S.at a 12 ∧ S.I a 2 = nI m ∧ ∃ b, S.R a 1 = some b ∧ ((b = e0.1 ∧ m = 0 ∧ c = 0) ∨ (S.at b 15 ∧ S.O b = 100 + S.O a ∧ S.N b = c ∧ m ≤ c ∧ kcapOk c ∧ ∀ i, i < m → S.R b i = some (xs i) ∧ S.at (xs i) κ))
theorem kLc.s {e0 : Nat × Nat} {S : kS} {a κ m c : Nat} {xs : Nat → Nat} (h : kLc e0 S a κ m xs c) : kLs e0 S a κ m xs := by
  obtain ⟨h1, h2, b, h3, h4⟩ := h
  rcases h4 with ⟨h5, h6, h7⟩ | ⟨h5, h6, h7, h8, h9, h10⟩
  · exact ⟨h1, h2, b, h3, Or.inl ⟨h5, h6⟩⟩
  · exact ⟨h1, h2, b, h3, Or.inr ⟨h5, h6, by omega, by rw [h7]; exact h9, h10⟩⟩
theorem kLs.c {e0 : Nat × Nat} {S : kS} {a κ m : Nat} {xs : Nat → Nat} (h : kLs e0 S a κ m xs) : ∃ c, kLc e0 S a κ m xs c := by
  obtain ⟨h1, h2, b, h3, h4⟩ := h
  rcases h4 with ⟨h5, h6⟩ | ⟨h5, h6, h7, h8, h9⟩
  · exact ⟨0, h1, h2, b, h3, Or.inl ⟨h5, h6, rfl⟩⟩
  · exact ⟨S.N b, h1, h2, b, h3, Or.inr ⟨h5, h6, rfl, h7, h8, h9⟩⟩
theorem k_e0 {C : kC} {own : String} {cc : ByteArray} {nL : Nat} {rm : Room} {S : kS} {k n pc : Nat} {lv : List (Nat × Value)} {st : List Value} (X : kX C own cc nL rm) (kk : C.e0.1 ∉ S.L → kG C nL S k n pc lv st) : kG C nL S k n pc lv st := fun H locs ls hP hD hS h => kk (fun z => X.2.2.2.2.2.2.2.1 (kD_in hD z)) H locs ls hP hD hS h
def kmc (c m : Nat) : Nat := if m < c then 0 else 1
def kms (c m : Nat) : Nat := if m < c then 0 else kng m
def knc (c m : Nat) : Nat := if m < c then c else kng m
theorem kFr.uRf {S S' : kS} {P : Nat → Prop} (h : kFr S S' P) {a i : Nat} {v : Option Nat} (hp : a ∉ S.L) : kFr S (S'.uR a i v) P := ⟨h.1, fun b hb hn => ⟨(h.2 b hb hn).1, fun j => by rw [uR_R, if_neg (fun q => hp (by rw [← q.1]; exact hb))]; exact (h.2 b hb hn).2 j⟩⟩
theorem kFr.tr {S S' S'' : kS} {P : Nat → Prop} (h : kFr S S' P) (h2 : kFr S' S'' P) : kFr S S'' P := ⟨fun b hb => by
  obtain ⟨a1, a2, a3, a4⟩ := h.1 b hb
  obtain ⟨b1, b2, b3, b4⟩ := h2.1 b a1
  exact ⟨b1, b2.trans a2, b3.trans a3, b4.trans a4⟩, fun b hb hn => ⟨fun j => ((h2.2 b (h.1 b hb).1 hn).1 j).trans ((h.2 b hb hn).1 j), fun j => ((h2.2 b (h.1 b hb).1 hn).2 j).trans ((h.2 b hb hn).2 j)⟩⟩
theorem kFr.mono {S S' : kS} {P P' : Nat → Prop} (h : kFr S S' P) (hp : ∀ b, b ∈ S.L → P b → P' b) : kFr S S' P' := ⟨h.1, fun b hb hn => h.2 b hb (fun z => hn (hp b hb z))⟩
/-- roles stay: a later frame by roles is an earlier one -/
theorem kRo_tr {S S' : kS} {P : Nat → Prop} (h : kFr S S' P) {r b : Nat} (hb : b ∈ S.L) : kRo S' r b ↔ kRo S r b := by unfold kRo; rw [(h.1 b hb).2.2.1]
theorem kFr.trR {S S' S'' : kS} {r : Nat} (h : kFr S S' (kRo S r)) (h2 : kFr S' S'' (kRo S' r)) : kFr S S'' (kRo S r) := ⟨fun b hb => by
  obtain ⟨a1, a2, a3, a4⟩ := h.1 b hb
  obtain ⟨b1, b2, b3, b4⟩ := h2.1 b a1
  exact ⟨b1, b2.trans a2, b3.trans a3, b4.trans a4⟩, fun b hb hn => by
    have hn2 : ¬ kRo S' r b := fun z => hn ((kRo_tr h hb).mp z)
    exact ⟨fun j => ((h2.2 b (h.1 b hb).1 hn2).1 j).trans ((h.2 b hb hn).1 j), fun j => ((h2.2 b (h.1 b hb).1 hn2).2 j).trans ((h.2 b hb hn).2 j)⟩⟩
set_option maxHeartbeats 1000000 in
set_option maxRecDepth 20000 in
theorem c_Jx4a65c_grow_d5877 (l : Launch) (e0 : Nat × Nat) (S : kS) (a κ m : Nat) (xs : Nat → Nat) (hκ : kEl κ) (h : kLs e0 S a κ m xs) (hfull : ∀ b, S.at b 15 → S.R a 1 = some b → S.N b = m) (hm64 : m ≤ 64) : kM l e0 yJx4a65c_grow_d5877 cJx4a65c_grow_d5877 1 (Option.some (Jvm.ClassFile.FieldType.array (Jvm.ClassFile.FieldType.object "java/lang/Object"))) ({ frames := 4, cells := 1, slots := (kng m), locals := 127 } : Room) 1 (kng m) [.ref a] S (kQq (fun v S9 => ∃ q, v = some q ∧ kGr e0 S S9 a m xs q)) := by
  refine kMetE (by decide +kernel) (Nat.le_of_ble_eq_true rfl) (fun C he hl X E hm => ?_)
  have X : kX C RJx4a65c cJx4a65c_grow_d5877 1 ({ frames := 4, cells := 1, slots := (kng m), locals := 127 } : Room) := X
  subst he hl
  show kG C 1 S 0 0 0 [(0, .ref a)] []
  have hsz := h.2.1
  have ha := h.1
  refine k_aload_n X (q := 0) dJx4a65c_grow_d5877_0 rfl rfl ?_
  refine k_aload_n X (q := 0) dJx4a65c_grow_d5877_1 rfl rfl ?_
  refine gJx4a65c_48 X (S := S) ha.1 ha.2 dJx4a65c_grow_d5877_2 (fun v_2_1 ev_2_1 => ?_)
  refine k_iconst X (v := 1) dJx4a65c_grow_d5877_5 (by decide) ?_
  refine k_iadd X dJx4a65c_grow_d5877_6 (fun v_6_2 ev_6_2 => ?_)
  have hv9 : nI (m + 1) = v_6_2 := by rw [ev_6_2, ev_2_1, hsz, nI_1]
  subst hv9
  refine k_gotQ X (vJx4a65c_69 X (S := S) ⟨ha.1, ha.2⟩ (c_Jx4a65c_grow_92f84 C.l C.e0 S a κ m xs hκ h hfull hm64) (As := [.int (nI (m + 1))]) (rest := []) rfl rfl rfl rfl ⟨Nat.le_of_ble_eq_true rfl, Nat.le_of_ble_eq_true rfl⟩ (Nat.le_of_ble_eq_true rfl) ⟨Nat.le_of_eq (Nat.zero_add 1), Nat.le_of_eq (Nat.zero_add _)⟩ dJx4a65c_grow_d5877_7) (fun r_7_4 S_7_5 h_7_2 => ?_)
  obtain ⟨q, hvq, hgr⟩ := h_7_2
  subst hvq
  exact k_aret X E (r := (some q)) (Or.inr ⟨_, rfl⟩) dJx4a65c_grow_d5877_10 (Nat.le_of_eq (Nat.zero_add 1)) (Nat.le_of_eq (Nat.zero_add _)) (⟨q, rfl, hgr⟩)
set_option maxHeartbeats 1000000 in
set_option maxRecDepth 20000 in
theorem c_Jx4a65c_add_72be8 (l : Launch) (e0 : Nat × Nat) (S : kS) (a κ m c x b : Nat) (xs : Nat → Nat) (hκ : kEl κ) (h : kLc e0 S a κ m xs c) (hb : S.R a 1 = some b) (hx : S.at x κ) (hm64 : m ≤ 64) : kM l e0 yJx4a65c_add_72be8 cJx4a65c_add_72be8 4 none ({ frames := 5, cells := (kmc c m), slots := (kms c m), locals := 147 } : Room) (kmc c m) (kms c m) [.ref a, .ref x, .ref b, .int (nI m)] S (kQv (fun S9 => kFr S S9 (kRo S (S.O a)) ∧ kLc e0 S9 a κ (m + 1) (va_up xs m x) (knc c m))) := by
  refine kMetE (by decide +kernel) (Nat.le_of_ble_eq_true rfl) (fun C he hl X E hm => ?_)
  have X : kX C RJx4a65c cJx4a65c_add_72be8 4 ({ frames := 5, cells := (kmc c m), slots := (kms c m), locals := 147 } : Room) := X
  subst he hl
  show kG C 4 S 0 0 0 [(0, .ref a), (1, .ref x), (2, .ref b), (3, .int (nI m))] []
  obtain ⟨Cn, Ty, NN, hcl, hsh, hca⟩ := id hκ
  obtain ⟨ha, hsz, b2, hb2, hh⟩ := id h
  rw [hb] at hb2
  cases hb2
  have hcc : c = 0 ∧ m = 0 ∨ kcapOk c ∧ m ≤ c := by
    rcases hh with ⟨-, h1, h2⟩ | ⟨-, -, -, h1, h2, -⟩
    · exact Or.inl ⟨h2, h1⟩
    · exact Or.inr ⟨h2, h1⟩
  rcases hh with ⟨hbe, hm0, hc0⟩ | ⟨hB, hO, hNc, hmN, hcap, hxs⟩
  rotate_left
  rcases Nat.lt_or_ge m c with hlt | hge
  · have hne : ¬ a = b := ha.ne hB (by decide)
    have hN9 : c ≤ 73 := by unfold kcapOk at hcap; omega
    refine k_iload_n X (q := 3) dJx4a65c_add_72be8_0 rfl rfl ?_
    refine k_aload_n X (q := 2) dJx4a65c_add_72be8_1 rfl rfl ?_
    refine k_alen X (S := S) hB.1 (by simp [hB.2]) dJx4a65c_add_72be8_2 ?_
    rw [hNc]
    refine k_icmp_ne (tgt := 11) X dJx4a65c_add_72be8_3 (by decide) (fun c_3 => ?_) (fun c_3 => ?_)
    · skip
      refine k_aload_n X (q := 2) dJx4a65c_add_72be8_11 rfl rfl ?_
      refine k_iload_n X (q := 3) dJx4a65c_add_72be8_12 rfl rfl ?_
      refine k_aload_n X (q := 1) dJx4a65c_add_72be8_13 rfl rfl ?_
      refine k_aastO X (S := S) hcl hsh hca hB hx (show vp_in (nI m) (_) from vp_in_nI (by first | omega | (rw [uR_N]; omega) | (rw [hqN]; omega)) (by first | omega | (rw [hqN]; omega))) dJx4a65c_add_72be8_14 ?_
      refine k_aload_n X (q := 0) dJx4a65c_add_72be8_15 rfl rfl ?_
      refine k_iload_n X (q := 3) dJx4a65c_add_72be8_16 rfl rfl ?_
      refine k_iconst X (v := 1) dJx4a65c_add_72be8_17 (by decide) ?_
      refine k_iadd X dJx4a65c_add_72be8_18 (fun v_18_1 ev_18_1 => ?_)
      refine pJx4a65c_48 X (S := (S.uR b (nI m).toNatClampNeg (some x))) ha.1 ha.2 dJx4a65c_add_72be8_19 ?_
      exact k_vret X E dJx4a65c_add_72be8_22 (by show _ ≤ kmc c m; omega) (by show _ ≤ kms c m; omega) (⟨kFr.uI (P := kRo S (S.O a)) (a := a) (kFr.uR (P := kRo S (S.O a)) (a := b) (kFr.rf S _) (Or.inr hO)) (Or.inl rfl), ⟨ha, by rw [uI_I, if_pos ⟨rfl, rfl⟩, ev_18_1]; exact nI_1 m, b, by rw [uI_R, uR_R, if_neg (fun z => hne z.1)]; exact hb, Or.inr ⟨hB, hO, by rw [show knc c m = c from if_pos hlt]; exact hNc, by rw [show knc c m = c from if_pos hlt]; omega, by rw [show knc c m = c from if_pos hlt]; exact hcap, fun i hi => by
        rw [uI_R, uR_R, nI_clamp (by omega)]
        by_cases him : m = i
        · subst him
          rw [if_pos ⟨rfl, rfl⟩]
          exact ⟨by unfold va_up; rw [if_pos rfl], by unfold va_up; rw [if_pos rfl]; exact hx⟩
        · rw [if_neg (fun z => him z.2.symm)]
          have h9 := hxs i (by omega)
          unfold va_up
          rw [if_neg (fun z => him z.symm)]
          exact h9⟩⟩⟩)
    · skip
      exact absurd ((nI_eq (by omega) (by omega)).mp c_3) (by omega)
  · have hN9 : c ≤ 73 := by unfold kcapOk at hcap; omega
    have hfm : S.at b 15 → S.N b = m := fun _ => by omega
    have hkm : kmc c m = 1 := if_neg (by omega)
    have hks : kms c m = kng m := if_neg (by omega)
    have hgo := kng_ok (m := m) (Or.inr (by rw [show m = c by omega]; exact hcap)) hm64
    refine k_iload_n X (q := 3) dJx4a65c_add_72be8_0 rfl rfl ?_
    refine k_aload_n X (q := 2) dJx4a65c_add_72be8_1 rfl rfl ?_
    refine k_alen X (S := S) hB.1 (by simp [hB.2]) dJx4a65c_add_72be8_2 ?_
    rw [hNc]
    refine k_icmp_ne (tgt := 11) X dJx4a65c_add_72be8_3 (by decide) (fun c_3 => ?_) (fun c_3 => ?_)
    · skip
      exact absurd (by rw [show c = m by omega]; rfl) c_3
    · skip
      refine k_aload_n X (q := 0) dJx4a65c_add_72be8_6 rfl rfl ?_
      refine k_gotQ X (vJx4a65c_129 X (S := S) ⟨ha.1, ha.2⟩ (c_Jx4a65c_grow_d5877 C.l C.e0 S a κ m xs hκ h.s (fun b2 hb2 hr2 => by rw [hb] at hr2; cases hr2; exact hfm hb2) hm64) (As := []) (rest := []) rfl rfl rfl rfl ⟨Nat.le_of_ble_eq_true rfl, Nat.le_of_ble_eq_true rfl⟩ (Nat.le_of_ble_eq_true rfl) ⟨(by show 0 + 1 ≤ kmc c m; omega), (by show 0 + kng m ≤ kms c m; omega)⟩ dJx4a65c_add_72be8_7) (fun r_7_3 S_7_4 h_7_1 => ?_)
      obtain ⟨q, hvq, hgr⟩ := h_7_1
      subst hvq
      obtain ⟨hqf, hfr, hq15, hqO, hqN, hqR, hqI, hqx⟩ := hgr
      have ha1 := hfr.at ha
      have hx1 := hfr.at hx
      have hne : ¬ a = q := fun e => hqf (by rw [← e]; exact ha.1)
      refine k_astore_n X [(2, .ref q), (0, .ref a), (1, .ref x), (3, .int (nI m))] dJx4a65c_add_72be8_10 rfl (by decide) rfl ?_
      refine k_aload_n X (q := 0) dJx4a65c_add_72be8_11 rfl rfl ?_
      refine k_iload_n X (q := 3) dJx4a65c_add_72be8_12 rfl rfl ?_
      refine k_aload_n X (q := 2) dJx4a65c_add_72be8_13 rfl rfl ?_
      refine k_aastO X (S := S_7_4) hcl hsh hca hq15 hx1 (show vp_in (nI m) (_) from vp_in_nI (by first | omega | (rw [uR_N]; omega) | (rw [hqN]; omega)) (by first | omega | (rw [hqN]; omega))) dJx4a65c_add_72be8_14 ?_
      refine k_aload_n X (q := 1) dJx4a65c_add_72be8_15 rfl rfl ?_
      refine k_iload_n X (q := 3) dJx4a65c_add_72be8_16 rfl rfl ?_
      refine k_iconst X (v := 1) dJx4a65c_add_72be8_17 (by decide) ?_
      refine k_iadd X dJx4a65c_add_72be8_18 (fun v_18_5 ev_18_5 => ?_)
      refine pJx4a65c_48 X (S := (S_7_4.uR q (nI m).toNatClampNeg (some x))) ha1.1 ha1.2 dJx4a65c_add_72be8_19 ?_
      exact k_vret X E dJx4a65c_add_72be8_22 (by show _ ≤ kmc c m; omega) (by show _ ≤ kms c m; omega) (⟨kFr.uI (P := kRo S (S.O a)) (a := a) (kFr.uRf (a := q) hfr hqf) (Or.inl rfl), ⟨ha1, by rw [uI_I, if_pos ⟨rfl, rfl⟩, ev_18_5]; exact nI_1 m, q, by rw [uI_R, uR_R, if_neg (fun z => hne z.1)]; exact hqR, Or.inr ⟨hq15, hqO.trans (by rw [← (hfr.1 a ha.1).2.2.1]; rfl), by rw [show knc c m = kng m from if_neg (by omega)]; exact hqN, by rw [show knc c m = kng m from if_neg (by omega)]; omega, by rw [show knc c m = kng m from if_neg (by omega)]; exact hgo.1, fun i hi => by
        rw [uI_R, uR_R, nI_clamp (by omega)]
        by_cases him : m = i
        · subst him
          rw [if_pos ⟨rfl, rfl⟩]
          exact ⟨by unfold va_up; rw [if_pos rfl], by unfold va_up; rw [if_pos rfl]; exact hx1⟩
        · rw [if_neg (fun z => him z.2.symm)]
          unfold va_up
          rw [if_neg (fun z => him z.symm)]
          exact ⟨hqx i (by omega), hfr.at (hxs i (by omega)).2⟩⟩⟩⟩)
  · subst hbe
    refine k_e0 X (fun he9 => ?_)
    have hfm : S.at C.e0.1 15 → S.N C.e0.1 = m := fun z => absurd z.1 he9
    have hkm : kmc c m = 1 := if_neg (by omega)
    have hks : kms c m = kng m := if_neg (by omega)
    have hgo := kng_ok (m := m) (Or.inl hm0) hm64
    refine k_iload_n X (q := 3) dJx4a65c_add_72be8_0 rfl rfl ?_
    refine k_aload_n X (q := 2) dJx4a65c_add_72be8_1 rfl rfl ?_
    refine k_alen0 X dJx4a65c_add_72be8_2 ?_
    refine k_icmp_ne (tgt := 11) X dJx4a65c_add_72be8_3 (by decide) (fun c_3 => ?_) (fun c_3 => ?_)
    · skip
      exact absurd (by rw [hm0, nI_0]) c_3
    · skip
      refine k_aload_n X (q := 0) dJx4a65c_add_72be8_6 rfl rfl ?_
      refine k_gotQ X (vJx4a65c_129 X (S := S) ⟨ha.1, ha.2⟩ (c_Jx4a65c_grow_d5877 C.l C.e0 S a κ m xs hκ h.s (fun b2 hb2 hr2 => by rw [hb] at hr2; cases hr2; exact hfm hb2) hm64) (As := []) (rest := []) rfl rfl rfl rfl ⟨Nat.le_of_ble_eq_true rfl, Nat.le_of_ble_eq_true rfl⟩ (Nat.le_of_ble_eq_true rfl) ⟨(by show 0 + 1 ≤ kmc c m; omega), (by show 0 + kng m ≤ kms c m; omega)⟩ dJx4a65c_add_72be8_7) (fun r_7_7 S_7_8 h_7_5 => ?_)
      obtain ⟨q, hvq, hgr⟩ := h_7_5
      subst hvq
      obtain ⟨hqf, hfr, hq15, hqO, hqN, hqR, hqI, hqx⟩ := hgr
      have ha1 := hfr.at ha
      have hx1 := hfr.at hx
      have hne : ¬ a = q := fun e => hqf (by rw [← e]; exact ha.1)
      refine k_astore_n X [(2, .ref q), (0, .ref a), (1, .ref x), (3, .int (nI m))] dJx4a65c_add_72be8_10 rfl (by decide) rfl ?_
      refine k_aload_n X (q := 0) dJx4a65c_add_72be8_11 rfl rfl ?_
      refine k_iload_n X (q := 3) dJx4a65c_add_72be8_12 rfl rfl ?_
      refine k_aload_n X (q := 2) dJx4a65c_add_72be8_13 rfl rfl ?_
      refine k_aastO X (S := S_7_8) hcl hsh hca hq15 hx1 (show vp_in (nI m) (_) from vp_in_nI (by first | omega | (rw [uR_N]; omega) | (rw [hqN]; omega)) (by first | omega | (rw [hqN]; omega))) dJx4a65c_add_72be8_14 ?_
      refine k_aload_n X (q := 1) dJx4a65c_add_72be8_15 rfl rfl ?_
      refine k_iload_n X (q := 3) dJx4a65c_add_72be8_16 rfl rfl ?_
      refine k_iconst X (v := 1) dJx4a65c_add_72be8_17 (by decide) ?_
      refine k_iadd X dJx4a65c_add_72be8_18 (fun v_18_9 ev_18_9 => ?_)
      refine pJx4a65c_48 X (S := (S_7_8.uR q (nI m).toNatClampNeg (some x))) ha1.1 ha1.2 dJx4a65c_add_72be8_19 ?_
      exact k_vret X E dJx4a65c_add_72be8_22 (by show _ ≤ kmc c m; omega) (by show _ ≤ kms c m; omega) (⟨kFr.uI (P := kRo S (S.O a)) (a := a) (kFr.uRf (a := q) hfr hqf) (Or.inl rfl), ⟨ha1, by rw [uI_I, if_pos ⟨rfl, rfl⟩, ev_18_9]; exact nI_1 m, q, by rw [uI_R, uR_R, if_neg (fun z => hne z.1)]; exact hqR, Or.inr ⟨hq15, hqO.trans (by rw [← (hfr.1 a ha.1).2.2.1]; rfl), by rw [show knc c m = kng m from if_neg (by omega)]; exact hqN, by rw [show knc c m = kng m from if_neg (by omega)]; omega, by rw [show knc c m = kng m from if_neg (by omega)]; exact hgo.1, fun i hi => by
        rw [uI_R, uR_R, nI_clamp (by omega)]
        by_cases him : m = i
        · subst him
          rw [if_pos ⟨rfl, rfl⟩]
          exact ⟨by unfold va_up; rw [if_pos rfl], by unfold va_up; rw [if_pos rfl]; exact hx1⟩
        · rw [if_neg (fun z => him z.2.symm)]
          unfold va_up
          rw [if_neg (fun z => him z.symm)]
          exact ⟨hqx i (by omega), absurd hi (by omega)⟩⟩⟩⟩)
