section KFO
variable {e0 : Nat × Nat} {A : Nat → Nat} {n : Nat} {cz : Nat → Nat} {T G E : Nat} {S S' : kS}
theorem kI.n40' (h : kI e0 A n cz T G E S) {i : Nat} (hi : i < n) (j : Nat) : ¬ A 40 = cz i ∧ ¬ A 1 = cz i := ⟨fun z => h.cne hi (r := 40) ⟨⟨13, by decide⟩, by omega⟩ z.symm, fun z => h.one hi z.symm⟩
/-- one field of one citizen -/
theorem kI.cu (h : kI e0 A n cz T G E S) {i f : Nat} {v : Int32} (hi : i < n) (hf : 2 ≤ f) (hci : kCi (S.uI (cz i) f v) T G (cz i)) (h4 : f = 4 → v.toInt ≤ (S.I (cz i) 4).toInt)
    (h9 : S.R (A 1) 10 = some (cz i) → (S.uI (cz i) f v).I (cz i) 9 = 1)
    (hho : ∀ k, k < 7 → S.R (kof A k) 1 = some (cz i) → ((S.uI (cz i) f v).I (cz i) 6 = 1 ∨ (S.uI (cz i) f v).I (cz i) 6 = 2) ∧ (S.uI (cz i) f v).I (cz i) 9 = 0)
    (hle : ∀ k, k < 3 → S.R (A 52) k = some (cz i) → ((S.uI (cz i) f v).I (cz i) 6 = 1 ∨ (S.uI (cz i) f v).I (cz i) 6 = 2)) : kI e0 A n cz T G E (S.uI (cz i) f v) ∧ kKe A S (S.uI (cz i) f v) := by
  have hinj := h.who.2.2
  have hg : kGo S (S.uI (cz i) f v) wCit := kGo.rf.uI (fun _ => by rw [h.oc i hi]; unfold wCit; omega)
  have ho : ∀ j, j < n → ¬ j = i → ∀ g, (S.uI (cz i) f v).I (cz j) g = S.I (cz j) g := fun j hj hn g => by rw [uI_I, if_neg (fun z => hn (hinj j i hj hi z.1))]
  have ha : ∀ g, (S.uI (cz i) f v).I (A 1) g = S.I (A 1) g := fun g => by rw [uI_I, if_neg (fun z => h.one hi z.1.symm)]
  obtain ⟨m1, m2, m3, m4, m5⟩ := h.my
  refine h.cit hg hi (Nat.le_refl _) ho hci ?_ (by rw [ha, ha]; exact Int.le_refl _) (Or.inr ⟨rfl, h9⟩) (fun k hk => Or.inr ⟨rfl, hho k hk⟩) (fun k hk => Or.inr ⟨rfl, hle k hk⟩) (fun k hk => Or.inr (by rw [uI_I, if_neg (fun z => (h.n40' hi 0).1 z.1)]))
  unfold kMy
  rw [ha, ha, ha]
  refine ⟨m1, m2, m3, m4, ?_⟩
  by_cases e : f = 4
  · subst e
    have hv := h4 rfl
    have := kWe_upd (S := S) (S' := S.uI (cz i) 4 v) (d := v.toInt - (S.I (cz i) 4).toInt) n hi (by rw [uI_I, if_pos ⟨rfl, rfl⟩]; omega) (fun j hj hn => ho j hj hn 4)
    rw [this]; omega
  · have := kWe_congr (S := S) (S' := S.uI (cz i) f v) (cz := cz) n (fun j hj => by rw [uI_I, if_neg (fun z => e z.2.symm)])
    rw [this]; exact m5
/-- status to FULL -/
theorem kI.full (h : kI e0 A n cz T G E S) {i : Nat} (hi : i < n) (hs : S.I (cz i) 6 = 3) : kI e0 A n cz T G E (S.uI (cz i) 6 1) ∧ kKe A S (S.uI (cz i) 6 1) := by
  obtain ⟨c1, c2, c3, c5, c6, c7⟩ := h.ci hi
  have h0 : S.I (cz i) 9 = 0 := by
    rcases c6 with z | ⟨-, z⟩
    · exact z
    · rw [hs] at z; exact absurd z (by decide)
  refine h.cu hi (by omega) ?_ (by omega) (fun z => ?_) (fun k hk z => ?_) (fun k hk z => Or.inl (by rw [uI_I, if_pos ⟨rfl, rfl⟩]))
  · unfold kCi
    simp only [uI_I, true_and, show ¬ (4 : Nat) = 6 by omega, show ¬ (5 : Nat) = 6 by omega, show ¬ (9 : Nat) = 6 by omega, show ¬ (3 : Nat) = 6 by omega, if_false, if_true]
    exact ⟨⟨1, by omega, by omega, rfl⟩, c2, c3, fun _ => c5 (Or.inr hs), Or.inl h0, c7⟩
  · obtain ⟨j, b1, b2, b3⟩ := h.ch _ z
    rw [h0] at b3; exact absurd b3 (by decide)
  · obtain ⟨j, b1, b2, b3, b4⟩ := h.ho.1 k hk _ z
    rw [hs] at b3
    rcases b3 with q | q <;> exact absurd q (by decide)
theorem kI.back (h : kI e0 A n cz T G E S) {c : Option Nat} (hc : c = none ∨ ∃ i, i < n ∧ c = some (cz i)) : kI e0 A n cz T G E (kback S c) ∧ kKe A S (kback S c) := by
  rcases hc with rfl | ⟨i, hi, rfl⟩
  · exact ⟨h, kKe.rf⟩
  · show kI e0 A n cz T G E (if S.I (cz i) 6 = 3 then S.uI (cz i) 6 1 else S) ∧ kKe A S (if S.I (cz i) 6 = 3 then S.uI (cz i) 6 1 else S)
    by_cases hs : S.I (cz i) 6 = 3
    · rw [if_pos hs]; exact h.full hi hs
    · rw [if_neg hs]; exact ⟨h, kKe.rf⟩
theorem kI.older (h : kI e0 A n cz T G E S) {i : Nat} (hi : i < n) {v : Int32} (hv : v = S.I (cz i) 3 + 1) (hT : T ≤ 1000000) : kI e0 A n cz (T + 1) G E (S.uI (cz i) 3 v) ∧ kKe A S (S.uI (cz i) 3 v) := by
  obtain ⟨c1, c2, c3, c5, c6, c7, c8⟩ := h.ci hi
  have h' := h.mono (T' := T + 1) (G' := G) (E' := E) (by omega) (Nat.le_refl _) (Nat.le_refl _)
  have ht : v.toInt = (S.I (cz i) 3).toInt + 1 := by rw [hv]; exact i_add (by rw [t_1]; omega) (by rw [t_1]; omega)
  refine h'.cu hi (by omega) ?_ (by omega) (fun z => ?_) (fun k hk z => ?_) (fun k hk z => ?_)
  · unfold kCi
    simp only [uI_I, true_and, show ¬ (4 : Nat) = 3 by omega, show ¬ (5 : Nat) = 3 by omega, show ¬ (9 : Nat) = 3 by omega, show ¬ (6 : Nat) = 3 by omega, if_false, if_true]
    exact ⟨c1, c2, c3, c5, c6, by omega, by omega⟩
  · obtain ⟨j, b1, b2, b3⟩ := h.ch _ z
    rw [uI_I, if_neg (by omega)]; exact b3
  · obtain ⟨j, b1, b2, b3, b4⟩ := h.ho.1 k hk _ z
    rw [uI_I, if_neg (by omega), uI_I, if_neg (by omega)]; exact ⟨b3, b4⟩
  · obtain ⟨j, b1, b2, b3⟩ := h.le.1 k hk _ z
    rw [uI_I, if_neg (by omega)]; exact b3
/-- wealth goes down -/
theorem kI.less (h : kI e0 A n cz T G E S) {i : Nat} (hi : i < n) {v : Int32} (hv : 0 ≤ v.toInt ∧ v.toInt ≤ (S.I (cz i) 4).toInt) : kI e0 A n cz T G E (S.uI (cz i) 4 v) ∧ kKe A S (S.uI (cz i) 4 v) := by
  obtain ⟨c1, c2, c3, c5, c6, c7⟩ := h.ci hi
  refine h.cu hi (by omega) ?_ (fun _ => hv.2) (fun z => ?_) (fun k hk z => ?_) (fun k hk z => ?_)
  · unfold kCi
    simp only [uI_I, true_and, show ¬ (3 : Nat) = 4 by omega, show ¬ (5 : Nat) = 4 by omega, show ¬ (9 : Nat) = 4 by omega, show ¬ (6 : Nat) = 4 by omega, if_false, if_true]
    exact ⟨c1, hv.1, c3, c5, c6, c7⟩
  · obtain ⟨j, b1, b2, b3⟩ := h.ch _ z
    rw [uI_I, if_neg (by omega)]; exact b3
  · obtain ⟨j, b1, b2, b3, b4⟩ := h.ho.1 k hk _ z
    rw [uI_I, if_neg (by omega), uI_I, if_neg (by omega)]; exact ⟨b3, b4⟩
  · obtain ⟨j, b1, b2, b3⟩ := h.le.1 k hk _ z
    rw [uI_I, if_neg (by omega)]; exact b3
/-- what one gives the other gets -/
theorem kI.two (h : kI e0 A n cz T G E S) {i j : Nat} (hi : i < n) (hj : j < n) (hij : ¬ i = j) {v w : Int32} (hv : 0 ≤ v.toInt) (hw : 0 ≤ w.toInt) (hs : v.toInt + w.toInt = (S.I (cz i) 4).toInt + (S.I (cz j) 4).toInt) : kI e0 A n cz T G E ((S.uI (cz i) 4 v).uI (cz j) 4 w) ∧ kKe A S ((S.uI (cz i) 4 v).uI (cz j) 4 w) := by
  have hinj := h.who.2.2
  have hg : kGo S ((S.uI (cz i) 4 v).uI (cz j) 4 w) (fun ρ f => ρ = 200 ∧ f = 4) := (kGo.rf.uI (fun _ => ⟨h.oc i hi, rfl⟩)).uI (a := cz j) (fun _ => ⟨h.oc j hj, rfl⟩)
  have nij : ¬ cz i = cz j := fun z => hij (hinj i j hi hj z)
  have q : ∀ k, k < n → 0 ≤ (((S.uI (cz i) 4 v).uI (cz j) 4 w).I (cz k) 4).toInt := fun k hk => by
    rw [uI_I, uI_I]
    by_cases e1 : cz k = cz j ∧ 4 = 4
    · rw [if_pos e1]; exact hw
    · rw [if_neg e1]
      by_cases e2 : cz k = cz i ∧ 4 = 4
      · rw [if_pos e2]; exact hv
      · rw [if_neg e2]; exact (h.ci hk).2.1
  have w1 := kWe_upd (cz := cz) (S := S) (S' := S.uI (cz i) 4 v) (d := v.toInt - (S.I (cz i) 4).toInt) n hi (by rw [uI_I, if_pos ⟨rfl, rfl⟩]; omega) (fun k hk hn => by rw [uI_I, if_neg (fun z => hn (hinj k i hk hi z.1))])
  have w2 := kWe_upd (cz := cz) (S := S.uI (cz i) 4 v) (S' := (S.uI (cz i) 4 v).uI (cz j) 4 w) (d := w.toInt - (S.I (cz j) 4).toInt) n hj (by rw [uI_I, if_pos ⟨rfl, rfl⟩, uI_I, if_neg (fun z => nij z.1.symm)]; omega) (fun k hk hn => by rw [uI_I, if_neg (fun z => hn (hinj k j hk hj z.1))])
  obtain ⟨m1, m2, m3, m4, m5⟩ := h.my
  exact ⟨⟨h.1.go0 hg (fun ρ j z y => by unfold pSM at y; omega), (fun k hk => by
    obtain ⟨c1, c2, c3⟩ := h.ci hk
    unfold kCi
    rw [h.cF hg hk 3 (by omega), h.cF hg hk 5 (by omega), h.cF hg hk 6 (by omega), h.cF hg hk 9 (by omega)]
    exact ⟨c1, q k hk, c3⟩), h.gHo hg (fun ρ j z y => by unfold pHo at y; omega), h.gCh hg (fun ρ j z y => by unfold pCh at y; omega), h.gLe hg (fun ρ j z y => by unfold pLe at y; omega), (⟨by rw [(h.a1 hg 3 (by omega)).1, (h.a1 hg 4 (by omega)).1, (h.a1 hg 5 (by omega)).1]; exact m1, by rw [(h.a1 hg 3 (by omega)).1]; exact m2, by rw [(h.a1 hg 4 (by omega)).1]; exact m3, by rw [(h.a1 hg 5 (by omega)).1]; exact m4, by rw [(h.a1 hg 4 (by omega)).1, w2, w1]; omega⟩), h.gLu hg (fun ρ j z y => by unfold pLu at y; omega), h.gMs hg (fun ρ j z y => by unfold pMs at y; omega), h.gOf hg (fun ρ j z y => by unfold pOf at y; omega)⟩, h.gKe hg (fun ρ j z y => by unfold pKe at y; omega)⟩
/-- a seat in the council -/
theorem kI.seatC (h : kI e0 A n cz T G E S) {i : Nat} (hi : i < n) (hf : S.I (cz i) 6 = 1) (hno : ∀ k, k < 7 → ¬ S.R (kof A k) 1 = some (cz i)) : kI e0 A n cz T G E (S.uI (cz i) 9 1) ∧ kKe A S (S.uI (cz i) 9 1) := by
  obtain ⟨c1, c2, c3, c5, c6, c7⟩ := h.ci hi
  refine h.cu hi (by omega) ?_ (by omega) (fun z => by rw [uI_I, if_pos ⟨rfl, rfl⟩]) (fun k hk z => absurd z (hno k hk)) (fun k hk z => ?_)
  · unfold kCi
    simp only [uI_I, true_and, show ¬ (3 : Nat) = 9 by omega, show ¬ (5 : Nat) = 9 by omega, show ¬ (4 : Nat) = 9 by omega, show ¬ (6 : Nat) = 9 by omega, if_false, if_true]
    exact ⟨c1, c2, c3, c5, by simp [hf], c7⟩
  · obtain ⟨j, b1, b2, b3⟩ := h.le.1 k hk _ z
    rw [uI_I, if_neg (by omega)]; exact b3
/-- an office falls free -/
theorem kI.ho0 (h : kI e0 A n cz T G E S) {k : Nat} (hk : k < 7) : kI e0 A n cz T G E (S.uR (kof A k) 1 none) ∧ kKe A S (S.uR (kof A k) 1 none) := by
  have hg : kGo S (S.uR (kof A k) 1 none) (fun z j => z = 60 + k ∧ j = 1) := kGo.rf.uR (fun _ => ⟨h.oo k hk, rfl⟩)
  have q : ∀ k' c, (S.uR (kof A k) 1 none).R (kof A k') 1 = some c → S.R (kof A k') 1 = some c := fun k' c hc => by
    rw [uR_R] at hc
    by_cases e : kof A k' = kof A k ∧ 1 = 1
    · rw [if_pos e] at hc; cases hc
    · rw [if_neg e] at hc; exact hc
  exact ⟨⟨h.1.go0 hg (fun ρ j z y => by unfold pSM at y; omega), h.gCi hg (fun ρ j z y => by unfold pCi at y; omega), (⟨fun k1 hk1 c hc => h.ho.1 k1 hk1 c (q k1 c hc), fun k1 k2 hk1 hk2 c hc hc2 => h.ho.2 k1 k2 hk1 hk2 c (q k1 c hc) (q k2 c hc2)⟩), h.gCh hg (fun ρ j z y => by unfold pCh at y; omega), h.gLe hg (fun ρ j z y => by unfold pLe at y; omega), h.gMy hg (fun ρ j z y => by unfold pMy at y; omega), h.gLu hg (fun ρ j z y => by unfold pLu at y; omega), h.gMs hg (fun ρ j z y => by unfold pMs at y; omega), h.gOf hg (fun ρ j z y => by unfold pOf at y; omega)⟩, h.gKe hg (fun ρ j z y => by unfold pKe at y; omega)⟩
/-- an office is filled -/
theorem kI.ho1 (h : kI e0 A n cz T G E S) {k i : Nat} (hk : k < 7) (hi : i < n) (hs : S.I (cz i) 6 = 1 ∨ S.I (cz i) 6 = 2) (h9 : S.I (cz i) 9 = 0) (hno : ∀ k, k < 7 → ¬ S.R (kof A k) 1 = some (cz i)) : kI e0 A n cz T G E (S.uR (kof A k) 1 (some (cz i))) ∧ kKe A S (S.uR (kof A k) 1 (some (cz i))) := by
  have hg : kGo S (S.uR (kof A k) 1 (some (cz i))) (fun z j => z = 60 + k ∧ j = 1) := kGo.rf.uR (fun _ => ⟨h.oo k hk, rfl⟩)
  have hof : ∀ k', k' < 7 → kof A k' = kof A k → k' = k := fun k' hk' e => by
    have h1 := h.oo k' hk'
    rw [e, h.oo k hk] at h1
    omega
  have q : ∀ k' c, k' < 7 → (S.uR (kof A k) 1 (some (cz i))).R (kof A k') 1 = some c → (k' = k ∧ c = cz i) ∨ S.R (kof A k') 1 = some c := fun k' c hk' hc => by
    rw [uR_R] at hc
    by_cases e : kof A k' = kof A k ∧ 1 = 1
    · rw [if_pos e] at hc
      exact Or.inl ⟨hof k' hk' e.1, (Option.some.inj hc).symm⟩
    · rw [if_neg e] at hc; exact Or.inr hc
  refine ⟨⟨h.1.go0 hg (fun ρ j z y => by unfold pSM at y; omega), h.gCi hg (fun ρ j z y => by unfold pCi at y; omega), (⟨fun k1 hk1 c hc => ?_, fun k1 k2 hk1 hk2 c hc hc2 => ?_⟩), h.gCh hg (fun ρ j z y => by unfold pCh at y; omega), h.gLe hg (fun ρ j z y => by unfold pLe at y; omega), h.gMy hg (fun ρ j z y => by unfold pMy at y; omega), h.gLu hg (fun ρ j z y => by unfold pLu at y; omega), h.gMs hg (fun ρ j z y => by unfold pMs at y; omega), h.gOf hg (fun ρ j z y => by unfold pOf at y; omega)⟩, h.gKe hg (fun ρ j z y => by unfold pKe at y; omega)⟩
  · rcases q k1 c hk1 hc with ⟨rfl, rfl⟩ | z
    · exact ⟨i, hi, rfl, hs, h9⟩
    · exact h.ho.1 k1 hk1 c z
  · rcases q k1 c hk1 hc with ⟨e1, e2⟩ | z <;> rcases q k2 c hk2 hc2 with ⟨e3, e4⟩ | z2
    · rw [e1, e3]
    · rw [e2] at z2; exact absurd z2 (hno k2 hk2)
    · rw [e4] at z; exact absurd z (hno k1 hk1)
    · exact h.ho.2 k1 k2 hk1 hk2 c z z2
theorem kI.since (h : kI e0 A n cz T G E S) {k : Nat} (hk : k < 7) {v : Int32} (hv : v = S.I (A 1) 0) : kI e0 A n cz T G E (S.uI (kof A k) 2 v) ∧ kKe A S (S.uI (kof A k) 2 v) := by
  have hg : kGo S (S.uI (kof A k) 2 v) (fun z j => z = 60 + k ∧ j = 2) := kGo.rf.uI (fun _ => ⟨h.oo k hk, rfl⟩)
  obtain ⟨-, -, ⟨d, hd, hd2⟩, -⟩ := h.ms
  have hd3 : 0 ≤ (S.I (A 1) 0).toInt := by rw [hd2, nI_toInt (by omega)]; omega
  exact ⟨⟨h.1.go0 hg (fun ρ j z y => by unfold pSM at y; omega), h.gCi hg (fun ρ j z y => by unfold pCi at y; omega), h.gHo hg (fun ρ j z y => by unfold pHo at y; omega), h.gCh hg (fun ρ j z y => by unfold pCh at y; omega), h.gLe hg (fun ρ j z y => by unfold pLe at y; omega), h.gMy hg (fun ρ j z y => by unfold pMy at y; omega), h.gLu hg (fun ρ j z y => by unfold pLu at y; omega), h.gMs hg (fun ρ j z y => by unfold pMs at y; omega), (fun k1 hk1 => by
    obtain ⟨g1, g3⟩ := h.of k1 hk1
    rw [(h.oF hg hk1 3 (by omega)).1, (h.a1 hg 0 (by omega)).1, (h.a1 hg 4 (by omega)).1, (h.a1 hg 5 (by omega)).1, uI_I]
    by_cases e : kof A k1 = kof A k ∧ 2 = 2
    · rw [if_pos e, hv]; exact ⟨⟨hd3, Int.le_refl _⟩, g3⟩
    · rw [if_neg e]; exact ⟨g1, g3⟩)⟩, h.gKe hg (fun ρ j z y => by unfold pKe at y; omega)⟩
theorem kI.hbef (h : kI e0 A n cz T G E S) {k : Nat} (hk : k < 7) {v : Int32} (hv : v = S.I (A 1) 4 + S.I (A 1) 5) (hE : E ≤ 200000) : kI e0 A n cz T G E (S.uI (kof A k) 3 v) ∧ kKe A S (S.uI (kof A k) 3 v) := by
  have hg : kGo S (S.uI (kof A k) 3 v) (fun z j => z = 60 + k ∧ j = 3) := kGo.rf.uI (fun _ => ⟨h.oo k hk, rfl⟩)
  obtain ⟨t1, t2, t3, t4, t5, t6⟩ := h.t0
  have hv2 : v.toInt = (S.I (A 1) 4).toInt + (S.I (A 1) 5).toInt := by rw [hv]; exact i_add (by omega) (by omega)
  exact ⟨⟨h.1.go0 hg (fun ρ j z y => by unfold pSM at y; omega), h.gCi hg (fun ρ j z y => by unfold pCi at y; omega), h.gHo hg (fun ρ j z y => by unfold pHo at y; omega), h.gCh hg (fun ρ j z y => by unfold pCh at y; omega), h.gLe hg (fun ρ j z y => by unfold pLe at y; omega), h.gMy hg (fun ρ j z y => by unfold pMy at y; omega), h.gLu hg (fun ρ j z y => by unfold pLu at y; omega), h.gMs hg (fun ρ j z y => by unfold pMs at y; omega), (fun k1 hk1 => by
    obtain ⟨g1, g3⟩ := h.of k1 hk1
    rw [(h.oF hg hk1 2 (by omega)).1, (h.a1 hg 0 (by omega)).1, (h.a1 hg 4 (by omega)).1, (h.a1 hg 5 (by omega)).1, uI_I]
    by_cases e : kof A k1 = kof A k ∧ 3 = 3
    · rw [if_pos e]; exact ⟨g1, by omega, by omega⟩
    · rw [if_neg e]; exact ⟨g1, g3⟩)⟩, h.gKe hg (fun ρ j z y => by unfold pKe at y; omega)⟩
/-- a lease is let, or falls free -/
theorem kI.let (h : kI e0 A n cz T G E S) {k t : Nat} (hk : k < 3) {c : Option Nat} (hc : c = none ∨ ∃ i, i < n ∧ c = some (cz i) ∧ (S.I (cz i) 6 = 1 ∨ S.I (cz i) 6 = 2)) (ht : t ≤ 100) : kI e0 A n cz T G E ((S.uR (A 52) k c).uI (A 40) k (nI t)) ∧ kKe A S ((S.uR (A 52) k c).uI (A 40) k (nI t)) := by
  have hg : kGo S ((S.uR (A 52) k c).uI (A 40) k (nI t)) (fun z j => z = 52 ∨ z = 40) := (kGo.rf.uR (fun _ => by rw [so_52 h.st]; omega)).uI (a := A 40) (fun _ => by rw [so_40 h.st]; omega)
  refine ⟨⟨h.1.go0 hg (fun ρ j z y => by unfold pSM at y; omega), h.gCi hg (fun ρ j z y => by unfold pCi at y; omega), h.gHo hg (fun ρ j z y => by unfold pHo at y; omega), h.gCh hg (fun ρ j z y => by unfold pCh at y; omega), (⟨fun k1 hk1 c1 hc2 => ?_, fun k1 hk1 => ?_⟩), h.gMy hg (fun ρ j z y => by unfold pMy at y; omega), h.gLu hg (fun ρ j z y => by unfold pLu at y; omega), h.gMs hg (fun ρ j z y => by unfold pMs at y; omega), h.gOf hg (fun ρ j z y => by unfold pOf at y; omega)⟩, h.gKe hg (fun ρ j z y => by unfold pKe at y; omega)⟩
  · have hc3 : (S.uR (A 52) k c).R (A 52) k1 = some c1 := hc2
    rw [uR_R] at hc3
    by_cases e : A 52 = A 52 ∧ k1 = k
    · rw [if_pos e] at hc3
      rcases hc with z | ⟨i, hi, z, z2⟩
      · rw [z] at hc3; cases hc3
      · rw [z] at hc3; cases hc3
        exact ⟨i, hi, rfl, by rw [h.cF hg hi 6 (by omega)]; exact z2⟩
    · rw [if_neg e] at hc3
      obtain ⟨i, b1, b2, b3⟩ := h.le.1 k1 hk1 c1 hc3
      subst b2
      exact ⟨i, b1, rfl, by rw [h.cF hg b1 6 (by omega)]; exact b3⟩
  · rw [uI_I]
    by_cases e : A 40 = A 40 ∧ k1 = k
    · rw [if_pos e]; exact ⟨t, ht, rfl⟩
    · rw [if_neg e]; exact h.le.2 k1 hk1
/-- the council is dissolved -/
theorem kI.dis (h : kI e0 A n cz T G E S) (hg : kGo S S' (fun ρ j => (ρ = 200 ∧ j = 9) ∨ (ρ = 1 ∧ j = 10))) (h0 : ∀ i, i < n → S'.I (cz i) 9 = 0) (hc : S'.R (A 1) 10 = none) : kI e0 A n cz T G E S' ∧ kKe A S S' := by
  refine ⟨⟨h.1.go0 hg (fun ρ j z y => by unfold pSM at y; omega), (fun i hi => ?_), (⟨fun k hk c hc1 => ?_, fun k k' hk hk' c hc1 hc2 => ?_⟩), (fun c hc1 => ?_), h.gLe hg (fun ρ j z y => by unfold pLe at y; omega), h.gMy hg (fun ρ j z y => by unfold pMy at y; omega), h.gLu hg (fun ρ j z y => by unfold pLu at y; omega), h.gMs hg (fun ρ j z y => by unfold pMs at y; omega), h.gOf hg (fun ρ j z y => by unfold pOf at y; omega)⟩, hg.kp (fun ρ j z y => by omega), (h.a1 hg 0 (by omega)).1, fun k => (h.aF hg (r := 41) (κ := 13) (by decide) k (by omega)).1, Or.inl hc, by rw [(h.aF hg (r := 7) (κ := 6) (by decide) 1 (by omega)).1]; exact Int.le_refl _⟩
  · obtain ⟨c1, c2, c3, c5, c6, c7⟩ := h.ci hi
    unfold kCi
    rw [h.cF hg hi 3 (by omega), h.cF hg hi 4 (by omega), h.cF hg hi 5 (by omega), h.cF hg hi 6 (by omega), h0 i hi]
    exact ⟨c1, c2, c3, c5, Or.inl rfl, c7⟩
  · have hc2 : S.R (kof A k) 1 = some c := by rw [← (h.oF hg hk 1 (by omega)).2]; exact hc1
    obtain ⟨i, b1, b2, b3, b4⟩ := h.ho.1 k hk c hc2
    subst b2
    exact ⟨i, b1, rfl, by rw [h.cF hg b1 6 (by omega)]; exact b3, h0 i b1⟩
  · exact h.ho.2 k k' hk hk' c (by rw [← (h.oF hg hk 1 (by omega)).2]; exact hc1) (by rw [← (h.oF hg hk' 1 (by omega)).2]; exact hc2)
  · rw [hc] at hc1; cases hc1
/-- somebody is sent away -/
def kSend (A : Nat → Nat) (n : Nat) (cz : Nat → Nat) (i : Nat) (s : Int32) (S S' : kS) : Prop := kGo S S' wCit ∧ (∀ j, j < n → ¬ j = i → ∀ f, S'.I (cz j) f = S.I (cz j) f) ∧ (S'.I (cz i) 6 = s ∧ S'.I (cz i) 9 = 0 ∧ S'.I (cz i) 5 = 0 ∧ S'.I (cz i) 3 = S.I (cz i) 3 ∧ S'.I (cz i) 4 = S.I (cz i) 4) ∧ (∀ j, S'.I (A 1) j = S.I (A 1) j) ∧ (S'.R (A 1) 10 = none ∨ (S'.R (A 1) 10 = S.R (A 1) 10 ∧ ¬ S.R (A 1) 10 = some (cz i))) ∧ (∀ k, k < 7 → S'.R (kof A k) 1 = none ∨ (S'.R (kof A k) 1 = S.R (kof A k) 1 ∧ ¬ S.R (kof A k) 1 = some (cz i))) ∧ (∀ k, k < 3 → S'.R (A 52) k = none ∨ (S'.R (A 52) k = S.R (A 52) k ∧ ¬ S.R (A 52) k = some (cz i))) ∧ ∀ k, k < 3 → S'.I (A 40) k = 0 ∨ S'.I (A 40) k = S.I (A 40) k
theorem kI.send (h : kI e0 A n cz T G E S) {i s : Nat} (hi : i < n) (hs : s = 3 ∨ s = 4) (hq : kSend A n cz i (nI s) S S') : kI e0 A n cz T G E S' ∧ kKe A S S' := by
  obtain ⟨hg, ho, ⟨q6, q9, q5, q3, q4⟩, qa, hch, hho, hle, hre⟩ := hq
  obtain ⟨c1, c2, ⟨c3, c4⟩, c5, c6, c7⟩ := h.ci hi
  refine h.cit hg hi (Nat.le_refl _) ho ⟨⟨s, by omega, by omega, q6⟩, by rw [q4]; exact c2, by rw [q5, t_0]; omega, fun _ => q5, Or.inl q9, by rw [q3]; exact c7⟩ ?_ (by rw [qa, qa]; exact Int.le_refl _) ?_ (fun k hk => ?_) (fun k hk => ?_) hre
  · unfold kMy
    rw [qa, qa, qa, kWe_congr n (fun j hj => ?_)]
    · exact h.my
    · by_cases e : j = i
      · rw [e]; exact q4
      · exact ho j hj e 4
  · rcases hch with z | ⟨z, z2⟩
    · exact Or.inl z
    · exact Or.inr ⟨z, fun z3 => absurd z3 z2⟩
  · rcases hho k hk with z | ⟨z, z2⟩
    · exact Or.inl z
    · exact Or.inr ⟨z, fun z3 => absurd z3 z2⟩
  · rcases hle k hk with z | ⟨z, z2⟩
    · exact Or.inl z
    · exact Or.inr ⟨z, fun z3 => absurd z3 z2⟩
end KFO
