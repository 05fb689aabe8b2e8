/-! WHAT isAsked COMPARES -/
theorem ksum_add {f g : Nat → Int32} : ∀ m, ksum (fun k => f k + g k) m = ksum f m + ksum g m
  | 0 => by show (0 : Int32) = 0 + 0; decide
  | m + 1 => by
    show ksum (fun k => f k + g k) m + (f m + g m) = (ksum f m + f m) + (ksum g m + g m)
    rw [ksum_add m, Int32.add_assoc, Int32.add_assoc, ← Int32.add_assoc (ksum g m), Int32.add_comm (ksum g m) (f m), Int32.add_assoc (f m)]
theorem kcnt_sum {p : Nat → Bool} : ∀ m, ksum (fun i => kb (p i)) m = nI (kcnt p m)
  | 0 => nI_0.symm
  | m + 1 => by
    show ksum (fun i => kb (p i)) m + kb (p m) = _
    rw [kcnt_sum m]
    by_cases h : p m = true
    · rw [kcnt_t h, h]; exact nI_1 _
    · rw [kcnt_f h, show p m = false by cases g : p m; rfl; exact absurd g h]; exact Int32.add_zero _
theorem i0_le {x : Int32} (h : 0 ≤ x.toInt) : (0 : Int32) ≤ x := Int32.le_iff_toInt_le.mpr h
theorem i0_nlt {x : Int32} (h : 0 ≤ x.toInt) : ¬ x < 0 := fun z => by
  have h2 := Int32.lt_iff_toInt_lt.mp z
  have h3 : (0 : Int32).toInt = 0 := rfl
  omega
section KAF
variable {e0 : Nat × Nat} {A : Nat → Nat} {n : Nat} {cz : Nat → Nat} {T G E : Nat} {S S' Si : kS} {L : kLL} {i j z m o : Nat}
/-- in which of six lists a citizen is: in one -/
theorem k6_1 (h : kI e0 A n cz T G E S) (hi : i < n) : ksum (fun k => kb (decide (S.I (cz i) 6 = nI k) && decide ((0 : Int32) ≤ S.I (cz i) 3) && (decide ((-1 : Int32) = -1) || decide (S.I (cz i) 1 - S.I (cz i) 1 / 4 * 4 = -1)))) 6 = 1 := by
  obtain ⟨⟨s, h1, h2, h3⟩, -, -, -, -, h4, -⟩ := h.ci hi
  have h5 : (0 : Int32) ≤ S.I (cz i) 3 := i0_le h4
  have h6 : ∀ k, k < 6 → kb (decide (S.I (cz i) 6 = nI k) && decide ((0 : Int32) ≤ S.I (cz i) 3) && (decide ((-1 : Int32) = -1) || decide (S.I (cz i) 1 - S.I (cz i) 1 / 4 * 4 = -1))) = if k = s then 1 else 0 := fun k hk => by
    rw [h3]
    by_cases e : k = s
    · subst e; simp [kb, h5]
    · have e2 : ¬ nI s = nI k := fun z => e (nI_inj (by omega) (by omega) z).symm
      simp [kb, e, e2]
  rw [ksum_congr 6 h6]
  rcases (show s = 1 ∨ s = 2 ∨ s = 3 ∨ s = 4 by omega) with rfl | rfl | rfl | rfl <;> decide
theorem k6_all (h : kI e0 A n cz T G E S) : ∀ m, m ≤ n → ksum (fun k => kcof S cz m (nI k) 0 (-1)) 6 = nI m
  | 0, _ => rfl
  | m + 1, hm => by
    have e : ∀ k, k < 6 → kcof S cz (m + 1) (nI k) 0 (-1) = kcof S cz m (nI k) 0 (-1) + kb (decide (S.I (cz m) 6 = nI k) && decide ((0 : Int32) ≤ S.I (cz m) 3) && (decide ((-1 : Int32) = -1) || decide (S.I (cz m) 1 - S.I (cz m) 1 / 4 * 4 = -1))) := fun k _ => rfl
    rw [ksum_congr 6 e, ksum_add, k6_all h m (by omega), k6_1 h (by omega)]
    exact nI_1 m
theorem kfull_n (h : kI e0 A n cz T G E S) : kfull S cz n = nI (kcnt (fun i => decide (kQcit S A (cz i) 6 = 1)) n) := by
  rw [← kcnt_sum]
  refine ksum_congr n (fun i hi => ?_)
  obtain ⟨-, -, -, -, -, h4, -⟩ := h.ci hi
  have h5 : (0 : Int32) ≤ S.I (cz i) 3 := i0_le h4
  show _ = kb (decide (S.I (cz i) 6 = 1))
  simp [h5]
theorem kpre_n (h : kI e0 A n cz T G E S) {dd : Nat} (hd : S.I (A 1) 0 = nI dd) (hdd : dd ≤ 1000) : kcnt (kpre S A cz) n = kcnt (fun i => decide (kQcit S A (cz i) 6 = 1) && !decide ((i + dd) % 4 = 0)) n := by
  have hn := h.n40
  refine kcnt_congr n (fun i hi => ?_)
  show (decide (S.I (cz i) 6 = 1) && !decide (krem (S.I (cz i) 0 + S.I (A 1) 0) 4 = 0)) = (decide (S.I (cz i) 6 = 1) && !decide ((i + dd) % 4 = 0))
  have e : krem (S.I (cz i) 0 + S.I (A 1) 0) 4 = nI ((i + dd) % 4) := by
    rw [(h.who.2.1 i hi).2.1, hd, nI_add]
    exact pk_rem (d := 4) (by omega) (by omega) (by omega)
  rw [e]
  congr 2
  by_cases g : (i + dd) % 4 = 0
  · rw [g]; simp [nI_0]
  · have g2 : ¬ nI ((i + dd) % 4) = 0 := nI_ne0 (by omega) (by omega)
    simp [g, g2]
theorem kdig_v (h : kI e0 A n cz T G E S) (hQ : kQL e0 A n cz L S) (hf : kFr S S' (kRo S 20)) : kdig S' A n cz L = kdig S A n cz L := by
  have e1 : ∀ d, kdi (kQcity S' A n cz L) 15 d = kdi (kQcity S A n cz L) 15 d := fun d => kdi_congr 15 (fun w _ => kQcity_v h hQ hf w)
  have e2 : ∀ d, kdi (kQcouncil S' A n cz) 5 d = kdi (kQcouncil S A n cz) 5 d := fun d => kdi_congr 5 (fun w _ => kQcouncil_v h hf w)
  have e3 : ∀ d, kdi (kQmoney S' A n cz) 9 d = kdi (kQmoney S A n cz) 9 d := fun d => kdi_congr 9 (fun w _ => kQmoney_v h hf w)
  have e4 : ∀ d, kdi (kQjury S' A L) 7 d = kdi (kQjury S A L) 7 d := fun d => kdi_congr 7 (fun w _ => kQjury_v h hQ hf w)
  have e5 : ∀ d, kdi (fun k => kvat S' (A 43) (nI k)) 8 d = kdi (fun k => kvat S (A 43) (nI k)) 8 d := fun d => kdi_congr 8 (fun w _ => kvat_v hf (st_43 h.st).1 (so_43 h.st) (by decide) _)
  unfold kdig
  rw [kdl_v h hQ hf, kdo_v h hf, e5, e4, e3, e2, e1]
/-- the office that a citizen holds -/
theorem kten (h : kI e0 A n cz T G E S) (_hi : i < n) : (kQcit S A (cz i) 10 = -1 ∧ ∀ o, o < 7 → ¬ S.R (kof A o) 1 = some (cz i)) ∨ ∃ o, o < 7 ∧ kQcit S A (cz i) 10 = nI o ∧ S.R (kof A o) 1 = some (cz i) ∧ (S.I (cz i) 6 = 1 ∨ S.I (cz i) 6 = 2) ∧ S.I (cz i) 9 = 0 := by
  cases e : kff (fun o => decide (S.R (kof A o) 1 = some (cz i))) 7 with
  | none =>
    refine Or.inl ⟨?_, fun o ho z => kff_no 7 e o ho (decide_eq_true z)⟩
    show kidx (kff (fun o => decide (S.R (kof A o) 1 = some (cz i))) 7) = -1
    rw [e]; rfl
  | some o =>
    obtain ⟨a1, a2⟩ := kff_at 7 e
    have a3 := of_decide_eq_true a1
    obtain ⟨t, -, ht, h6, h9⟩ := h.ho.1 o a2 _ a3
    refine Or.inr ⟨o, a2, ?_, a3, h6, h9⟩
    show kidx (kff (fun o => decide (S.R (kof A o) 1 = some (cz i))) 7) = nI o
    rw [e]; rfl
theorem kten_s (h : kI e0 A n cz T G E S) (hi : i < n) {v : Int32} (hv : v = kQcit S A (cz i) 10) (c : ¬ v < 0) : ∃ o, o < 7 ∧ kQcit S A (cz i) 10 = nI o ∧ S.R (kof A o) 1 = some (cz i) ∧ (S.I (cz i) 6 = 1 ∨ S.I (cz i) 6 = 2) ∧ S.I (cz i) 9 = 0 := by
  rcases kten h hi with ⟨z, -⟩ | z
  · exact absurd (by rw [hv, z]; decide) c
  · exact z
theorem kten_n (h : kI e0 A n cz T G E S) (hi : i < n) {v : Int32} (hv : v = kQcit S A (cz i) 10) (c : v < 0) : ∀ o, o < 7 → ¬ S.R (kof A o) 1 = some (cz i) := by
  rcases kten h hi with ⟨-, z⟩ | ⟨o, ho, z, -⟩
  · exact z
  · rw [hv, z] at c
    exact absurd c (nI_pos (by omega))
theorem k11 (h : kI e0 A n cz T G E S) (hi : i < n) (e : kQcit S A (cz i) 11 = 1) : kQcit S A (cz i) 6 = 1 ∧ kQcit S A (cz i) 10 = -1 := by
  have e2 : (if S.I (cz i) 9 = 0 then (0 : Int32) else 1) = 1 := e
  have e3 : ¬ S.I (cz i) 9 = 0 := fun z => by rw [if_pos z] at e2; exact absurd e2 (by decide)
  refine ⟨((h.snd2 i hi).2).resolve_left e3, ?_⟩
  rcases kten h hi with ⟨z, -⟩ | ⟨o, ho, z, -, -, h9⟩
  · exact z
  · exact absurd h9 e3
theorem k7 (h : kI e0 A n cz T G E S) (hi : i < n) (e : kQcit S A (cz i) 6 = 1) : kQcit S A (cz i) 7 = 0 := (h.snd2 i hi).1 e
theorem k4 (h : kI e0 A n cz T G E S) (hi : i < n) : ¬ kQcit S A (cz i) 4 < 0 := i0_nlt (h.ci hi).2.1
theorem k7p (h : kI e0 A n cz T G E S) (hi : i < n) : (0 : Int32) ≤ kQcit S A (cz i) 7 := i0_le (h.ci hi).2.2.1.1
theorem kcou_n : kcou S cz n = ksum (fun t => kQcit S A (cz t) 11) n := rfl
/-- the chair, if there is one -/
theorem kch_s (h : kI e0 A n cz T G E S) {v : Int32} (hv : v = kQcouncil S A n cz 2) (c : ¬ v < 0) : ∃ j, j < n ∧ v = nI j ∧ kQcit S A (cz j) 11 = 1 := by
  have hv2 : v = knum S (S.R (A 1) 10) := hv
  cases e : S.R (A 1) 10 with
  | none => rw [hv2, e] at c; exact absurd (show (-1 : Int32) < 0 by decide) c
  | some x =>
    obtain ⟨j, hj, hx, h9⟩ := h.ch x e
    refine ⟨j, hj, ?_, ?_⟩
    · rw [hv2, e, hx]; exact (h.who.2.1 j hj).2.1
    · rw [hx] at h9
      show (if S.I (cz j) 9 = 0 then (0 : Int32) else 1) = 1
      rw [h9]; decide
/-- which offices are held by one of the first m -/
def kIn (S Si : kS) (A : Nat → Nat) (cz : Nat → Nat) (z m : Nat) : Prop := (Si.at z 17 ∧ Si.O z = 302 ∧ Si.N z = 7) ∧ ∀ o, o < 7 → ((∀ t, t < m → ¬ S.R (kof A o) 1 = some (cz t)) → Si.I z o = 0) ∧ ((∃ t, t < m ∧ S.R (kof A o) 1 = some (cz t)) → Si.I z o = 1)
theorem kIn.z0 {S0 : kS} (_hz : z ∉ S0.L) : kIn S (S0.nw z 17 302 7) A cz z 0 := ⟨⟨nw_self (S := S0) (κ := 17) (ρ := 302) (n := 7), nw_Oq (S := S0) (κ := 17) (ρ := 302) (n := 7), nw_Nq (S := S0) (κ := 17) (ρ := 302) (n := 7)⟩, fun o _ => ⟨fun _ => by rw [nwI', if_pos rfl], fun ⟨t, ht, _⟩ => absurd ht (by omega)⟩⟩
theorem kIn.skip (h : kIn S Si A cz z m) (hn : ∀ o, o < 7 → ¬ S.R (kof A o) 1 = some (cz m)) : kIn S Si A cz z (m + 1) := ⟨h.1, fun o ho => ⟨fun q => (h.2 o ho).1 (fun t ht => q t (by omega)), fun ⟨t, ht, q⟩ => (h.2 o ho).2 ⟨t, by
  by_cases e : t = m
  · subst e; exact absurd q (hn o ho)
  · omega, q⟩⟩⟩
theorem kIn.put (h : kIn S Si A cz z m) (hI : kI e0 A n cz T G E S) (ho : o < 7) (q : S.R (kof A o) 1 = some (cz m)) : kIn S (Si.uI z o 1) A cz z (m + 1) := ⟨⟨at_uI h.1.1, h.1.2.1, h.1.2.2⟩, fun k hk => by
  rw [uI_I]
  by_cases e : k = o
  · subst e
    rw [if_pos ⟨rfl, rfl⟩]
    exact ⟨fun z9 => absurd q (z9 m (by omega)), fun _ => rfl⟩
  · rw [if_neg (fun z9 => e z9.2)]
    refine ⟨fun z9 => (h.2 k hk).1 (fun t ht => z9 t (by omega)), fun ⟨t, ht, z9⟩ => (h.2 k hk).2 ⟨t, ?_, z9⟩⟩
    by_cases e2 : t = m
    · subst e2; exact absurd (hI.ho.2 k o hk ho _ z9 q) e
    · omega⟩
theorem kIn.no (h : kIn S Si A cz z m) (hI : kI e0 A n cz T G E S) (hm : m < n) (ho : o < 7) (q : S.R (kof A o) 1 = some (cz m)) : Si.I z o = 0 := (h.2 o ho).1 (fun t ht z9 => by
  have e := hI.who.2.2 t m (by omega) hm (Option.some.inj (z9.symm.trans q))
  omega)
theorem kIn.end1 (h : kIn S Si A cz z n) (hI : kI e0 A n cz T G E S) (ho : o < 7) {v : Int32} (hv : v = kQoffice S A o 0) (c : (0 : Int32) ≤ v) : Si.I z o = 1 := by
  have hv2 : v = knum S (S.R (kof A o) 1) := hv
  cases e : S.R (kof A o) 1 with
  | none => rw [hv2, e] at c; exact absurd c (show ¬ (0 : Int32) ≤ -1 by decide)
  | some x =>
    obtain ⟨t, ht, hx, -⟩ := hI.ho.1 o ho x e
    exact (h.2 o ho).2 ⟨t, ht, by rw [e, hx]⟩
theorem kIn.end0 (h : kIn S Si A cz z n) (hI : kI e0 A n cz T G E S) (ho : o < 7) {v : Int32} (hv : v = kQoffice S A o 0) (c : ¬ (0 : Int32) ≤ v) : Si.I z o = 0 := by
  have hn := hI.n40
  have hv2 : v = knum S (S.R (kof A o) 1) := hv
  refine (h.2 o ho).1 (fun t ht z9 => c ?_)
  rw [hv2, z9]
  show (0 : Int32) ≤ S.I (cz t) 0
  rw [(hI.who.2.1 t ht).2.1]
  exact nI_pos' (by omega)
/-- the same, of a state further back -/
theorem kRs.base {S1 : kS} {q : Nat} (h : kRs e0 A n cz T G E S1 q i j Si) (h0 : kI e0 A n cz T G E S) (hK : kKe A S S1) (hF : kFr S S1 (kRo S 20)) : kRs e0 A n cz T G E S q i j Si := by
  obtain ⟨⟨h1, h2, h3⟩, ⟨q1, q2, q3, q4⟩, hr, hc⟩ := h
  refine ⟨⟨h1, hK.tr h2, hF.trR h3⟩, ⟨q1, q2, q3, fun z => q4 (hF.1 _ z).1⟩, fun t ht => ?_, fun t w ht hw hz => (hc t w ht hw hz).trans (kQcit_v h0 hF ht w)⟩
  obtain ⟨a1, a2, a3, a4, a5⟩ := hr t ht
  exact ⟨a1, a2, a3, a4, fun z => a5 (hF.1 _ z).1⟩
theorem lg_cmp_0 (x : Int64) : lg_cmp x x = 0 := by simp [lg_cmp]
end KAF
