section KKP
variable {e0 : Nat × Nat} {A : Nat → Nat} {n : Nat} {cz : Nat → Nat} {T G E : Nat} {S S' : kS} {r : Nat}
theorem kWe_congr : ∀ m, (∀ i, i < m → S'.I (cz i) 4 = S.I (cz i) 4) → kWe S' cz m = kWe S cz m
  | 0, _ => rfl
  | m + 1, h => by
    show kWe S' cz m + _ = kWe S cz m + _
    rw [kWe_congr m (fun i hi => h i (by omega)), h m (by omega)]
theorem kMo.same {x : Nat} (h : kMo S n cz x) (hf : S'.at x 7 ∧ S'.O x = S.O x) (hI : ∀ j, S'.I x j = S.I x j) (hR : ∀ j, S'.R x j = S.R x j) : kMo S' n cz x := by
  obtain ⟨h1, h2, h3, h4, h5⟩ := h
  exact ⟨hf.1, hf.2.trans h2, by rw [hR]; exact h3, by rw [hI]; exact h4, by rw [hI]; exact h5⟩
/-- of a frame: all that matters but one list and the lots is as it was -/
def kOk (r ρ : Nat) : Prop := ¬ ρ = r ∧ ¬ ρ = 100 + r ∧ ¬ ρ = 7
theorem kSame (hf : kFr S S' (fun z => kRo S r z ∨ S.O z = 7)) {b : Nat} (hb : b ∈ S.L) (ho : kOk r (S.O b)) : (∀ j, S'.I b j = S.I b j) ∧ ∀ j, S'.R b j = S.R b j := hf.2 b hb (fun z => by
  obtain ⟨h1, h2, h3⟩ := ho
  rcases z with (z | z) | z
  · exact h1 z
  · exact h2 z
  · exact h3 z)
theorem kI.frD {t : Nat} (h : kI e0 A n cz T G E S) (hr : clR r) (hf : kFr S S' (fun z => kRo S r z ∨ S.O z = 7)) (hl : kCl e0 A n cz S' r) (hlu : ∃ p, p < 64 ∧ S'.I (A 7) 0 = nI p) (hdr : S'.I (A 7) 1 = S.I (A 7) 1 + nI t) (hT : T + t ≤ 1000000) : kI e0 A n cz (T + t) G E S' ∧ kKe A S S' := by
  have hr0 : 10 ≤ r ∧ r < 60 := by unfold clR at hr; omega
  have hst' := h.st.frD hf hr0
  have hC' := h.hC.frD (so_10 h.st) hf (by unfold clR at hr; omega) (by omega) (by unfold clR at hr; omega) (by omega)
  have hO' := h.hO.frD (so_11 h.st) hf (by unfold clR at hr; omega) (by omega) (by unfold clR at hr; omega) (by omega)
  have sC : ∀ i, i < n → (∀ j, S'.I (cz i) j = S.I (cz i) j) ∧ ∀ j, S'.R (cz i) j = S.R (cz i) j := fun i hi => kSame hf (h.at hi).1 (by rw [h.oc i hi]; unfold kOk; unfold clR at hr; omega)
  have s1 := kSame hf (st_1 h.st).1 (by rw [so_1 h.st]; unfold kOk; unfold clR at hr; omega)
  have s5 := kSame hf (st_5 h.st).1 (by rw [so_5 h.st]; unfold kOk; unfold clR at hr; omega)
  have s40 := kSame hf (st_40 h.st).1 (by rw [so_40 h.st]; unfold kOk; unfold clR at hr; omega)
  have s41 := kSame hf (st_41 h.st).1 (by rw [so_41 h.st]; unfold kOk; unfold clR at hr; omega)
  have s45 := kSame hf (st_45 h.st).1 (by rw [so_45 h.st]; unfold kOk; unfold clR at hr; omega)
  have s52 := kSame hf (st_52 h.st).1 (by rw [so_52 h.st]; unfold kOk; unfold clR at hr; omega)
  have sO : ∀ k, k < 7 → (∀ j, S'.I (kof A k) j = S.I (kof A k) j) ∧ ∀ j, S'.R (kof A k) j = S.R (kof A k) j := fun k hk => kSame hf (h.hO.el hk).1 (by rw [h.oo k hk]; unfold kOk; unfold clR at hr; omega)
  have sM : ∀ x, kMo S n cz x → kMo S' n cz x := fun x hx => by
    have hs := kSame hf hx.1.1 (by rw [hx.2.1]; unfold kOk; unfold clR at hr; omega)
    exact hx.same ⟨hf.at hx.1, (hf.1 x hx.1.1).2.2.1⟩ hs.1 hs.2
  have sU : ∀ x, kSu S n cz x → kSu S' n cz x := fun x hx => by
    obtain ⟨g1, g2, g3, g4, g5, g6⟩ := hx
    have hs := kSame hf g1.1 (by rw [g2]; unfold kOk; unfold clR at hr; omega)
    exact ⟨hf.at g1, (hf.1 x g1.1).2.2.1.trans g2, by rw [hs.2]; exact g3, by rw [hs.2]; exact g4, fun d hd => by
      rw [hs.2] at hd
      exact ⟨hf.at (g5 d hd).1, (hf.1 d (g5 d hd).1.1).2.2.1.trans (g5 d hd).2⟩, by rw [hs.1]; exact g6⟩
  have oA : ∀ r', clR r' → S.O (A r') = r' := fun r' hr' => by
    have h0 := h.st
    unfold clR at hr'
    rcases (show r' = 12 ∨ r' = 13 ∨ r' = 14 ∨ r' = 16 ∨ r' = 17 ∨ r' = 20 ∨ r' = 21 ∨ r' = 22 ∨ r' = 23 ∨ r' = 24 ∨ r' = 25 ∨ r' = 26 ∨ r' = 27 ∨ r' = 28 ∨ r' = 29 ∨ r' = 30 ∨ r' = 31 by omega) with rfl | rfl | rfl | rfl | rfl | rfl | rfl | rfl | rfl | rfl | rfl | rfl | rfl | rfl | rfl | rfl | rfl
    · exact so_12 h0
    · exact so_13 h0
    · exact so_14 h0
    · exact so_16 h0
    · exact so_17 h0
    · exact so_20 h0
    · exact so_21 h0
    · exact so_22 h0
    · exact so_23 h0
    · exact so_24 h0
    · exact so_25 h0
    · exact so_26 h0
    · exact so_27 h0
    · exact so_28 h0
    · exact so_29 h0
    · exact so_30 h0
    · exact so_31 h0
  obtain ⟨-, -, -, hcl, ⟨h18, h19⟩, hsu, hwho, hnum⟩ := h.1
  have hd7 : (S'.I (A 7) 1).toInt = (S.I (A 7) 1).toInt + t := by
    obtain ⟨-, a2, a3⟩ := h.lu
    rw [hdr, Int32.toInt_add, nI_toInt (by omega)]
    exact Int.bmod_eq_of_le (by omega) (by omega)
  refine ⟨⟨⟨hst', hC', hO', fun r' hr' => ?_, ⟨?_, ?_⟩, ?_, ?_, fun k hk => ?_⟩, fun i hi => ?_, ?_, ?_, ?_, ?_, ?_, ?_⟩, ?_⟩
  · by_cases e : r' = r
    · rw [e]; exact hl
    · obtain ⟨m, xs, g1, g2, g3⟩ := hcl r' hr'
      exact ⟨m, xs, g1.frD (oA r' hr') hf e (by unfold clR at hr hr'; omega) (by unfold clR at hr hr'; omega) (by unfold clR at hr'; omega), g2, g3⟩
  · obtain ⟨m, xs, g1, g2, g3⟩ := h18
    exact ⟨m, xs, g1.frD (so_18 h.st) hf (by unfold clR at hr; omega) (by omega) (by unfold clR at hr; omega) (by omega), g2, fun t ht => sM _ (g3 t ht)⟩
  · obtain ⟨m, xs, g1, g2, g3⟩ := h19
    exact ⟨m, xs, g1.frD (so_19 h.st) hf (by unfold clR at hr; omega) (by omega) (by unfold clR at hr; omega) (by omega), g2, fun t ht => sM _ (g3 t ht)⟩
  · obtain ⟨m, xs, g1, g2, g3⟩ := hsu
    exact ⟨m, xs, g1.frD (so_15 h.st) hf (by unfold clR at hr; omega) (by omega) (by unfold clR at hr; omega) (by omega), g2, fun t ht => sU _ (g3 t ht)⟩
  · exact ⟨hwho.1, fun i hi => ⟨((hf.1 _ (h.at hi).1).2.2.1).trans (hwho.2.1 i hi).1, by rw [(sC i hi).1]; exact (hwho.2.1 i hi).2.1, by rw [(sC i hi).1]; exact (hwho.2.1 i hi).2.2⟩, hwho.2.2⟩
  · rw [(sO k hk).1]; exact hnum k hk
  · obtain ⟨a1, a2, ⟨a3, a4⟩, a5, a6, a7, a8⟩ := h.ci hi
    unfold kCi
    simp only [(sC i hi).1]
    exact ⟨a1, a2, ⟨a3, a4⟩, a5, a6, a7, by omega⟩
  · obtain ⟨a1, a2⟩ := h.ho
    refine ⟨fun k hk c hc => ?_, fun k k' hk hk' c hc hc' => ?_⟩
    · rw [(sO k hk).2] at hc
      obtain ⟨i, b1, b2, b3, b4⟩ := a1 k hk c hc
      subst b2
      exact ⟨i, b1, rfl, by rw [(sC i b1).1]; exact b3, by rw [(sC i b1).1]; exact b4⟩
    · rw [(sO k hk).2] at hc
      rw [(sO k' hk').2] at hc'
      exact a2 k k' hk hk' c hc hc'
  · intro c hc
    rw [s1.2] at hc
    obtain ⟨i, b1, b2, b3⟩ := h.ch c hc
    subst b2
    exact ⟨i, b1, rfl, by rw [(sC i b1).1]; exact b3⟩
  · exact ⟨fun k hk c hc => h.le.1 k hk c (by rw [← s52.2]; exact hc), fun k hk => by rw [s40.1]; exact h.le.2 k hk⟩
  · unfold kMy
    simp only [s1.1]
    rw [kWe_congr n (fun i hi => (sC i hi).1 4)]
    exact h.my
  · obtain ⟨-, a2, a3⟩ := h.lu
    exact ⟨hlu, by omega, by omega⟩
  · obtain ⟨a1, ⟨a2, a3⟩, a4, a5, a6, a7⟩ := h.ms
    unfold kMs
    simp only [s1.1, s5.1, s45.1]
    exact ⟨a1, ⟨a2, by omega⟩, a4, a5, a6, a7⟩
  · exact ⟨s1.1 0, s41.1, Or.inr (s1.2 10), by omega⟩
end KKP
