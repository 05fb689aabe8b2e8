theorem i_add {a b : Int32} (h : -2147483648 ≤ a.toInt + b.toInt) (h2 : a.toInt + b.toInt ≤ 2147483647) : (a + b).toInt = a.toInt + b.toInt := by
  rw [Int32.toInt_add]
  exact Int.bmod_eq_of_le (by omega) (by omega)
theorem i_sub {a b : Int32} (h : -2147483648 ≤ a.toInt - b.toInt) (h2 : a.toInt - b.toInt ≤ 2147483647) : (a - b).toInt = a.toInt - b.toInt := by
  rw [Int32.toInt_sub]
  exact Int.bmod_eq_of_le (by omega) (by omega)
theorem kmin_i (x y : Int32) : (kmin x y).toInt ≤ x.toInt ∧ (kmin x y).toInt ≤ y.toInt ∧ (kmin x y = x ∨ kmin x y = y) := by
  unfold kmin
  by_cases h : y < x
  · have := Int32.lt_iff_toInt_lt.mp h
    rw [if_pos h]; exact ⟨by omega, by omega, Or.inr rfl⟩
  · have : ¬ y.toInt < x.toInt := fun z => h (Int32.lt_iff_toInt_lt.mpr z)
    rw [if_neg h]; exact ⟨by omega, by omega, Or.inl rfl⟩
theorem kmax_i (x y : Int32) : x.toInt ≤ (kmax x y).toInt ∧ y.toInt ≤ (kmax x y).toInt ∧ (kmax x y = x ∨ kmax x y = y) := by
  unfold kmax
  by_cases h : x < y
  · have := Int32.lt_iff_toInt_lt.mp h
    rw [if_pos h]; exact ⟨by omega, by omega, Or.inr rfl⟩
  · have : ¬ x.toInt < y.toInt := fun z => h (Int32.lt_iff_toInt_lt.mpr z)
    rw [if_neg h]; exact ⟨by omega, by omega, Or.inl rfl⟩
theorem t_0 : (0 : Int32).toInt = 0 := rfl
theorem t_1 : (1 : Int32).toInt = 1 := rfl
section KMU
variable {e0 : Nat × Nat} {A : Nat → Nat} {n : Nat} {cz : Nat → Nat} {T G E : Nat} {S S' : kS}
theorem kWe_ge {S : kS} : ∀ m, (∀ i, i < m → 0 ≤ (S.I (cz i) 4).toInt) → 0 ≤ kWe S cz m ∧ ∀ i, i < m → (S.I (cz i) 4).toInt ≤ kWe S cz m
  | 0, _ => ⟨Int.le_refl _, fun i hi => absurd hi (by omega)⟩
  | m + 1, h => by
    obtain ⟨h1, h2⟩ := kWe_ge m (fun i hi => h i (by omega))
    have h3 := h m (by omega)
    have h4 : kWe S cz (m + 1) = kWe S cz m + (S.I (cz m) 4).toInt := rfl
    refine ⟨by omega, fun i hi => ?_⟩
    by_cases e : i = m
    · rw [e]; omega
    · have := h2 i (by omega)
      omega
theorem kWe_upd {S S' : kS} {i : Nat} {d : Int} : ∀ m, i < m → (S'.I (cz i) 4).toInt = (S.I (cz i) 4).toInt + d → (∀ j, j < m → ¬ j = i → S'.I (cz j) 4 = S.I (cz j) 4) → kWe S' cz m = kWe S cz m + d
  | 0, h, _, _ => absurd h (by omega)
  | m + 1, h, h2, h3 => by
    show kWe S' cz m + (S'.I (cz m) 4).toInt = kWe S cz m + (S.I (cz m) 4).toInt + d
    by_cases e : i = m
    · subst e
      rw [kWe_congr i (fun j hj => h3 j (by omega) (by omega)), h2]
      omega
    · rw [kWe_upd m (by omega) h2 (fun j hj hn => h3 j (by omega) hn), h3 m (by omega) (fun z => e z.symm)]
      omega
theorem kI.w0 (h : kI e0 A n cz T G E S) {i : Nat} (hi : i < n) : 0 ≤ (S.I (cz i) 4).toInt ∧ (S.I (cz i) 4).toInt ≤ 6000 + (E : Int) - (S.I (A 1) 4).toInt ∧ (S.I (A 1) 4).toInt ≤ 6000 + (E : Int) := by
  have h1 := kWe_ge n (fun i hi => (h.ci hi).2.1)
  have h2 := h1.2 i hi
  obtain ⟨-, -, -, -, h5⟩ := h.my
  exact ⟨(h.ci hi).2.1, by omega, by omega⟩
theorem kI.t0 (h : kI e0 A n cz T G E S) : (S.I (A 1) 4).toInt ≤ 6000 + (E : Int) ∧ 0 ≤ (S.I (A 1) 4).toInt ∧ 0 ≤ (S.I (A 1) 3).toInt ∧ (S.I (A 1) 3).toInt ≤ 6300 + (E : Int) ∧ 0 ≤ (S.I (A 1) 5).toInt ∧ (S.I (A 1) 5).toInt ≤ 6300 + (E : Int) := by
  have h1 := kWe_ge n (fun i hi => (h.ci hi).2.1)
  obtain ⟨g1, g2, g3, g4, g5⟩ := h.my
  exact ⟨by omega, g3, g2, by omega, g4, by omega⟩
theorem kI.fI (h : kI e0 A n cz T G E S) {a ρ i : Nat} {v : Int32} (ha : S.O a = ρ) (h1 : ¬ pSM ρ i) (h2 : ¬ pVM ρ i) (h3 : ¬ pLu ρ i) : kI e0 A n cz T G E (S.uI a i v) := by
  have hg : kGo S (S.uI a i v) (fun z j => z = ρ ∧ j = i) := kGo.rf.uI (fun _ => ⟨ha, rfl⟩)
  exact h.free hg (fun r j z y => h1 (by rw [← z.1, ← z.2]; exact y)) (fun r j z y => h2 (by rw [← z.1, ← z.2]; exact y)) (fun r j z y => h3 (by rw [← z.1, ← z.2]; exact y))
theorem kI.fIk (h : kI e0 A n cz T G E S) {a ρ i : Nat} {v : Int32} (ha : S.O a = ρ) (h1 : ¬ pKe ρ i) : kKe A S (S.uI a i v) := by
  have hg : kGo S (S.uI a i v) (fun z j => z = ρ ∧ j = i) := kGo.rf.uI (fun _ => ⟨ha, rfl⟩)
  exact h.gKe hg (fun r j z y => h1 (by rw [← z.1, ← z.2]; exact y))
theorem kI.c0 (h : kI e0 A n cz T G E S) {c i : Nat} {v : Int32} (hc : ∃ k, k < n ∧ c = cz k) (h1 : i = 7 ∨ i = 8 ∨ 10 ≤ i ∨ i = 2) : kI e0 A n cz T G E (S.uI c i v) ∧ kKe A S (S.uI c i v) := by
  obtain ⟨k, hk, rfl⟩ := hc
  exact ⟨h.fI (h.oc k hk) (by unfold pSM; omega) (by unfold pVM pCi pHo pCh pLe pMy pMs pOf; omega) (by unfold pLu; omega), h.fIk (h.oc k hk) (by unfold pKe; omega)⟩
theorem kI.un (h : kI e0 A n cz T G E S) {v : Int32} (hv : 0 ≤ v.toInt ∧ v.toInt ≤ 3 * (T : Int)) : kI e0 A n cz T G E (S.uI (A 1) 2 v) ∧ kKe A S (S.uI (A 1) 2 v) := by
  have hg : kGo S (S.uI (A 1) 2 v) (fun z j => z = 1 ∧ j = 2) := kGo.rf.uI (fun _ => ⟨so_1 h.st, rfl⟩)
  exact ⟨⟨h.1.go0 hg (fun ρ j z y => by unfold pSM at y; omega), h.gCi hg (fun ρ j z y => by unfold pCi at y; omega), h.gHo hg (fun ρ j z y => by unfold pHo at y; omega), h.gCh hg (fun ρ j z y => by unfold pCh at y; omega), h.gLe hg (fun ρ j z y => by unfold pLe at y; omega), h.gMy hg (fun ρ j z y => by unfold pMy at y; omega), h.gLu hg (fun ρ j z y => by unfold pLu at y; omega), (⟨by rw [(h.a1 hg 1 (by omega)).1]; exact h.ms.1, by rw [uI_I, if_pos ⟨rfl, rfl⟩]; exact hv, by rw [(h.a1 hg 0 (by omega)).1]; exact h.ms.2.2.1, by rw [(h.a1 hg 9 (by omega)).1]; exact h.ms.2.2.2.1, by rw [(h.aF hg (r := 5) (κ := 5) (by decide) 1 (by omega)).1]; exact h.ms.2.2.2.2.1, fun k hk => by rw [(h.aF hg (r := 45) (κ := 13) (by decide) k (by omega)).1]; exact h.ms.2.2.2.2.2 k hk⟩), h.gOf hg (fun ρ j z y => by unfold pOf at y; omega)⟩, h.gKe hg (fun ρ j z y => by unfold pKe at y; omega)⟩
theorem kI.fre (h : kI e0 A n cz T G E S) {v : Int32} (hv : v = 0 ∨ v = 1) : kI e0 A n cz T G E (S.uI (A 1) 1 v) ∧ kKe A S (S.uI (A 1) 1 v) := by
  have hg : kGo S (S.uI (A 1) 1 v) (fun z j => z = 1 ∧ j = 1) := kGo.rf.uI (fun _ => ⟨so_1 h.st, rfl⟩)
  exact ⟨⟨h.1.go0 hg (fun ρ j z y => by unfold pSM at y; omega), h.gCi hg (fun ρ j z y => by unfold pCi at y; omega), h.gHo hg (fun ρ j z y => by unfold pHo at y; omega), h.gCh hg (fun ρ j z y => by unfold pCh at y; omega), h.gLe hg (fun ρ j z y => by unfold pLe at y; omega), h.gMy hg (fun ρ j z y => by unfold pMy at y; omega), h.gLu hg (fun ρ j z y => by unfold pLu at y; omega), (⟨by rw [uI_I, if_pos ⟨rfl, rfl⟩]; exact hv, by rw [(h.a1 hg 2 (by omega)).1]; exact h.ms.2.1, by rw [(h.a1 hg 0 (by omega)).1]; exact h.ms.2.2.1, by rw [(h.a1 hg 9 (by omega)).1]; exact h.ms.2.2.2.1, by rw [(h.aF hg (r := 5) (κ := 5) (by decide) 1 (by omega)).1]; exact h.ms.2.2.2.2.1, fun k hk => by rw [(h.aF hg (r := 45) (κ := 13) (by decide) k (by omega)).1]; exact h.ms.2.2.2.2.2 k hk⟩), h.gOf hg (fun ρ j z y => by unfold pOf at y; omega)⟩, h.gKe hg (fun ρ j z y => by unfold pKe at y; omega)⟩
theorem kI.war (h : kI e0 A n cz T G E S) {v : Int32} (hv : v = -1 ∨ ∃ t, t ≤ 300 ∧ v = nI t) : kI e0 A n cz T G E (S.uI (A 1) 9 v) ∧ kKe A S (S.uI (A 1) 9 v) := by
  have hg : kGo S (S.uI (A 1) 9 v) (fun z j => z = 1 ∧ j = 9) := kGo.rf.uI (fun _ => ⟨so_1 h.st, rfl⟩)
  exact ⟨⟨h.1.go0 hg (fun ρ j z y => by unfold pSM at y; omega), h.gCi hg (fun ρ j z y => by unfold pCi at y; omega), h.gHo hg (fun ρ j z y => by unfold pHo at y; omega), h.gCh hg (fun ρ j z y => by unfold pCh at y; omega), h.gLe hg (fun ρ j z y => by unfold pLe at y; omega), h.gMy hg (fun ρ j z y => by unfold pMy at y; omega), h.gLu hg (fun ρ j z y => by unfold pLu at y; omega), (⟨by rw [(h.a1 hg 1 (by omega)).1]; exact h.ms.1, by rw [(h.a1 hg 2 (by omega)).1]; exact h.ms.2.1, by rw [(h.a1 hg 0 (by omega)).1]; exact h.ms.2.2.1, by rw [uI_I, if_pos ⟨rfl, rfl⟩]; exact hv, by rw [(h.aF hg (r := 5) (κ := 5) (by decide) 1 (by omega)).1]; exact h.ms.2.2.2.2.1, fun k hk => by rw [(h.aF hg (r := 45) (κ := 13) (by decide) k (by omega)).1]; exact h.ms.2.2.2.2.2 k hk⟩), h.gOf hg (fun ρ j z y => by unfold pOf at y; omega)⟩, h.gKe hg (fun ρ j z y => by unfold pKe at y; omega)⟩
theorem kI.a16 (h : kI e0 A n cz T G E S) {v : Int32}  : kI e0 A n cz T G E (S.uI (A 1) 6 v) ∧ kKe A S (S.uI (A 1) 6 v) := by
  have hg : kGo S (S.uI (A 1) 6 v) (fun z j => z = 1 ∧ j = 6) := kGo.rf.uI (fun _ => ⟨so_1 h.st, rfl⟩)
  exact ⟨⟨h.1.go0 hg (fun ρ j z y => by unfold pSM at y; omega), h.gCi hg (fun ρ j z y => by unfold pCi at y; omega), h.gHo hg (fun ρ j z y => by unfold pHo at y; omega), h.gCh hg (fun ρ j z y => by unfold pCh at y; omega), h.gLe hg (fun ρ j z y => by unfold pLe at y; omega), h.gMy hg (fun ρ j z y => by unfold pMy at y; omega), h.gLu hg (fun ρ j z y => by unfold pLu at y; omega), h.gMs hg (fun ρ j z y => by unfold pMs at y; omega), h.gOf hg (fun ρ j z y => by unfold pOf at y; omega)⟩, h.gKe hg (fun ρ j z y => by unfold pKe at y; omega)⟩
theorem kI.a17 (h : kI e0 A n cz T G E S) {v : Int32}  : kI e0 A n cz T G E (S.uI (A 1) 7 v) ∧ kKe A S (S.uI (A 1) 7 v) := by
  have hg : kGo S (S.uI (A 1) 7 v) (fun z j => z = 1 ∧ j = 7) := kGo.rf.uI (fun _ => ⟨so_1 h.st, rfl⟩)
  exact ⟨⟨h.1.go0 hg (fun ρ j z y => by unfold pSM at y; omega), h.gCi hg (fun ρ j z y => by unfold pCi at y; omega), h.gHo hg (fun ρ j z y => by unfold pHo at y; omega), h.gCh hg (fun ρ j z y => by unfold pCh at y; omega), h.gLe hg (fun ρ j z y => by unfold pLe at y; omega), h.gMy hg (fun ρ j z y => by unfold pMy at y; omega), h.gLu hg (fun ρ j z y => by unfold pLu at y; omega), h.gMs hg (fun ρ j z y => by unfold pMs at y; omega), h.gOf hg (fun ρ j z y => by unfold pOf at y; omega)⟩, h.gKe hg (fun ρ j z y => by unfold pKe at y; omega)⟩
theorem kI.a18 (h : kI e0 A n cz T G E S) {v : Int32}  : kI e0 A n cz T G E (S.uI (A 1) 8 v) ∧ kKe A S (S.uI (A 1) 8 v) := by
  have hg : kGo S (S.uI (A 1) 8 v) (fun z j => z = 1 ∧ j = 8) := kGo.rf.uI (fun _ => ⟨so_1 h.st, rfl⟩)
  exact ⟨⟨h.1.go0 hg (fun ρ j z y => by unfold pSM at y; omega), h.gCi hg (fun ρ j z y => by unfold pCi at y; omega), h.gHo hg (fun ρ j z y => by unfold pHo at y; omega), h.gCh hg (fun ρ j z y => by unfold pCh at y; omega), h.gLe hg (fun ρ j z y => by unfold pLe at y; omega), h.gMy hg (fun ρ j z y => by unfold pMy at y; omega), h.gLu hg (fun ρ j z y => by unfold pLu at y; omega), h.gMs hg (fun ρ j z y => by unfold pMs at y; omega), h.gOf hg (fun ρ j z y => by unfold pOf at y; omega)⟩, h.gKe hg (fun ρ j z y => by unfold pKe at y; omega)⟩
theorem kI.day (h : kI e0 A n cz T G E S) {v : Int32} (hv : ∃ d, d ≤ 400 ∧ v = nI d) (hv2 : (S.I (A 1) 0).toInt ≤ v.toInt) : kI e0 A n cz T G E (S.uI (A 1) 0 v) := by
  have hg : kGo S (S.uI (A 1) 0 v) (fun z j => z = 1 ∧ j = 0) := kGo.rf.uI (fun _ => ⟨so_1 h.st, rfl⟩)
  exact ⟨h.1.go0 hg (fun ρ j z y => by unfold pSM at y; omega), h.gCi hg (fun ρ j z y => by unfold pCi at y; omega), h.gHo hg (fun ρ j z y => by unfold pHo at y; omega), h.gCh hg (fun ρ j z y => by unfold pCh at y; omega), h.gLe hg (fun ρ j z y => by unfold pLe at y; omega), h.gMy hg (fun ρ j z y => by unfold pMy at y; omega), h.gLu hg (fun ρ j z y => by unfold pLu at y; omega), (⟨by rw [(h.a1 hg 1 (by omega)).1]; exact h.ms.1, by rw [(h.a1 hg 2 (by omega)).1]; exact h.ms.2.1, by rw [uI_I, if_pos ⟨rfl, rfl⟩]; exact hv, by rw [(h.a1 hg 9 (by omega)).1]; exact h.ms.2.2.2.1, by rw [(h.aF hg (r := 5) (κ := 5) (by decide) 1 (by omega)).1]; exact h.ms.2.2.2.2.1, fun k hk => by rw [(h.aF hg (r := 45) (κ := 13) (by decide) k (by omega)).1]; exact h.ms.2.2.2.2.2 k hk⟩), (fun k hk => by
    obtain ⟨⟨g1, g2⟩, g3⟩ := h.of k hk
    rw [(h.oF hg hk 2 (by omega)).1, (h.oF hg hk 3 (by omega)).1, (h.a1 hg 4 (by omega)).1, (h.a1 hg 5 (by omega)).1, uI_I, if_pos ⟨rfl, rfl⟩]
    exact ⟨⟨g1, by omega⟩, g3⟩)⟩
theorem kI.ch0 (h : kI e0 A n cz T G E S) : kI e0 A n cz T G E (S.uR (A 1) 10 none) ∧ kKe A S (S.uR (A 1) 10 none) := by
  have hg : kGo S (S.uR (A 1) 10 none) (fun z j => z = 1 ∧ j = 10) := kGo.rf.uR (fun _ => ⟨so_1 h.st, rfl⟩)
  exact ⟨⟨h.1.go0 hg (fun ρ j z y => by unfold pSM at y; omega), h.gCi hg (fun ρ j z y => by unfold pCi at y; omega), h.gHo hg (fun ρ j z y => by unfold pHo at y; omega), (fun c hc => by
    rw [uR_R, if_pos ⟨rfl, rfl⟩] at hc
    cases hc), h.gLe hg (fun ρ j z y => by unfold pLe at y; omega), h.gMy hg (fun ρ j z y => by unfold pMy at y; omega), h.gLu hg (fun ρ j z y => by unfold pLu at y; omega), h.gMs hg (fun ρ j z y => by unfold pMs at y; omega), h.gOf hg (fun ρ j z y => by unfold pOf at y; omega)⟩, hg.kp (fun ρ j z y => by omega), (h.a1 hg 0 (by omega)).1, fun k => (h.aF hg (r := 41) (κ := 13) (by decide) k (by omega)).1, Or.inl (by rw [uR_R, if_pos ⟨rfl, rfl⟩]), Int.le_refl _⟩
theorem kI.ch1 (h : kI e0 A n cz T G E S) {i : Nat} (hi : i < n) (hc : S.I (cz i) 9 = 1) : kI e0 A n cz T G E (S.uR (A 1) 10 (some (cz i))) := by
  have hg : kGo S (S.uR (A 1) 10 (some (cz i))) (fun z j => z = 1 ∧ j = 10) := kGo.rf.uR (fun _ => ⟨so_1 h.st, rfl⟩)
  exact ⟨h.1.go0 hg (fun ρ j z y => by unfold pSM at y; omega), h.gCi hg (fun ρ j z y => by unfold pCi at y; omega), h.gHo hg (fun ρ j z y => by unfold pHo at y; omega), (fun c hc2 => by
    rw [uR_R, if_pos ⟨rfl, rfl⟩] at hc2
    cases hc2
    exact ⟨i, hi, rfl, hc⟩), h.gLe hg (fun ρ j z y => by unfold pLe at y; omega), h.gMy hg (fun ρ j z y => by unfold pMy at y; omega), h.gLu hg (fun ρ j z y => by unfold pLu at y; omega), h.gMs hg (fun ρ j z y => by unfold pMs at y; omega), h.gOf hg (fun ρ j z y => by unfold pOf at y; omega)⟩
theorem kI.take (h : kI e0 A n cz T G E S) {x : Int32} {e : Nat} (hx : 0 ≤ x.toInt ∧ x.toInt ≤ (e : Int)) (hE : E + e ≤ 200000) : kI e0 A n cz T G (E + e) (ktake S A x) ∧ kKe A S (ktake S A x) := by
  have hg : kGo S (ktake S A x) (fun z j => z = 1 ∧ 3 ≤ j ∧ j ≤ 5) := (kGo.rf.uI (fun _ => ⟨so_1 h.st, by omega⟩)).uI (a := A 1) (fun _ => ⟨so_1 h.st, by omega⟩)
  obtain ⟨t1, t2, t3, t4, t5, t6⟩ := h.t0
  obtain ⟨m1, m2, m3, m4, m5⟩ := h.my
  have q3 : ((ktake S A x).I (A 1) 3).toInt = (S.I (A 1) 3).toInt + x.toInt := by
    unfold ktake
    rw [uI_I, if_neg (by omega), uI_I, if_pos ⟨rfl, rfl⟩]
    exact i_add (by omega) (by omega)
  have q4 : ((ktake S A x).I (A 1) 4).toInt = (S.I (A 1) 4).toInt + x.toInt := by
    unfold ktake
    rw [uI_I, if_pos ⟨rfl, rfl⟩]
    exact i_add (by omega) (by omega)
  have q5 : (ktake S A x).I (A 1) 5 = S.I (A 1) 5 := by
    unfold ktake
    rw [uI_I, if_neg (by omega), uI_I, if_neg (by omega)]
  have hm := h.mono (T' := T) (G' := G) (E' := E + e) (Nat.le_refl _) (Nat.le_refl _) (by omega)
  have qw : kWe (ktake S A x) cz n = kWe S cz n := kWe_congr n (fun i hi => h.cF hg hi 4 (by omega))
  exact ⟨⟨h.1.go0 hg (fun ρ j z y => by unfold pSM at y; omega), hm.gCi hg (fun ρ j z y => by unfold pCi at y; omega), hm.gHo hg (fun ρ j z y => by unfold pHo at y; omega), hm.gCh hg (fun ρ j z y => by unfold pCh at y; omega), hm.gLe hg (fun ρ j z y => by unfold pLe at y; omega), (⟨by rw [q5]; omega, by omega, by omega, by rw [q5]; omega, by rw [qw]; omega⟩), hm.gLu hg (fun ρ j z y => by unfold pLu at y; omega), hm.gMs hg (fun ρ j z y => by unfold pMs at y; omega), (fun k hk => by
    obtain ⟨g1, g3, g4⟩ := h.of k hk
    rw [(h.oF hg hk 2 (by omega)).1, (h.oF hg hk 3 (by omega)).1, (h.a1 hg 0 (by omega)).1]
    exact ⟨g1, g3, by rw [q4, q5]; omega⟩)⟩, h.gKe hg (fun ρ j z y => by unfold pKe at y; omega)⟩
theorem kI.pay (h : kI e0 A n cz T G E S) {x : Int32} (hx : 0 ≤ x.toInt) (hE : E ≤ 200000) : kI e0 A n cz T G E (kpay S A x) ∧ kKe A S (kpay S A x) := by
  have hg : kGo S (kpay S A x) (fun z j => z = 1 ∧ 3 ≤ j ∧ j ≤ 5) := (kGo.rf.uI (fun _ => ⟨so_1 h.st, by omega⟩)).uI (a := A 1) (fun _ => ⟨so_1 h.st, by omega⟩)
  obtain ⟨t1, t2, t3, t4, t5, t6⟩ := h.t0
  obtain ⟨m1, m2, m3, m4, m5⟩ := h.my
  obtain ⟨k1, k2, k3⟩ := kmin_i (S.I (A 1) 3) x
  have k4 : 0 ≤ (kmin (S.I (A 1) 3) x).toInt := by rcases k3 with e | e <;> rw [e] <;> omega
  have q3 : ((kpay S A x).I (A 1) 3).toInt = (S.I (A 1) 3).toInt - (kmin (S.I (A 1) 3) x).toInt := by
    unfold kpay
    rw [uI_I, if_neg (by omega), uI_I, if_pos ⟨rfl, rfl⟩]
    exact i_sub (by omega) (by omega)
  have q5 : ((kpay S A x).I (A 1) 5).toInt = (S.I (A 1) 5).toInt + (kmin (S.I (A 1) 3) x).toInt := by
    unfold kpay
    rw [uI_I, if_pos ⟨rfl, rfl⟩]
    exact i_add (by omega) (by omega)
  have q4 : (kpay S A x).I (A 1) 4 = S.I (A 1) 4 := by
    unfold kpay
    rw [uI_I, if_neg (by omega), uI_I, if_neg (by omega)]
  have qw : kWe (kpay S A x) cz n = kWe S cz n := kWe_congr n (fun i hi => h.cF hg hi 4 (by omega))
  exact ⟨⟨h.1.go0 hg (fun ρ j z y => by unfold pSM at y; omega), h.gCi hg (fun ρ j z y => by unfold pCi at y; omega), h.gHo hg (fun ρ j z y => by unfold pHo at y; omega), h.gCh hg (fun ρ j z y => by unfold pCh at y; omega), h.gLe hg (fun ρ j z y => by unfold pLe at y; omega), (⟨by rw [q4]; omega, by omega, by rw [q4]; omega, by omega, by rw [qw, q4]; omega⟩), h.gLu hg (fun ρ j z y => by unfold pLu at y; omega), h.gMs hg (fun ρ j z y => by unfold pMs at y; omega), (fun k hk => by
    obtain ⟨g1, g3, g4⟩ := h.of k hk
    rw [(h.oF hg hk 2 (by omega)).1, (h.oF hg hk 3 (by omega)).1, (h.a1 hg 0 (by omega)).1]
    exact ⟨g1, g3, by rw [q4, q5]; omega⟩)⟩, h.gKe hg (fun ρ j z y => by unfold pKe at y; omega)⟩
theorem kI.calm (h : kI e0 A n cz T G E S) {x : Int32} (hx : 0 ≤ x.toInt) (hT : T ≤ 1000000) : kI e0 A n cz T G E (kcalm S A x) ∧ kKe A S (kcalm S A x) := by
  obtain ⟨-, ⟨a2, a3⟩, -⟩ := h.ms
  refine h.un ?_
  obtain ⟨k1, k2, k3⟩ := kmax_i 0 (S.I (A 1) 2 - x)
  by_cases hy : (S.I (A 1) 2).toInt - x.toInt < -2147483648
  · have := Int32.toInt_lt x
    omega
  · have e := i_sub (a := S.I (A 1) 2) (b := x) (by omega) (by omega)
    rcases k3 with q | q
    · rw [q, t_0]; omega
    · rw [q]
      rw [q] at k1
      rw [t_0] at k1
      exact ⟨k1, by omega⟩
theorem kI.draw (h : kI e0 A n cz T G E S) (hT : T + 1 ≤ 1000000) : kI e0 A n cz (T + 1) G E (kdraw S A) ∧ kKe A S (kdraw S A) := by
  have hst := h.st
  refine h.frL (r := 20) (by omega) ((kdraw_fr hst).go (fun b hb z j => by simp [z])) ⟨fun hr => ?_, fun z => by omega, fun z => by omega⟩ (kdraw_lu h.lu.1) (by rw [show (1 : Nat) = 1 from rfl]; exact kdraw_dr) hT
  obtain ⟨m, xs, g1, g2⟩ := h.cl hr
  exact ⟨m, xs, kdraw_ls hst g1, g2⟩
end KMU
