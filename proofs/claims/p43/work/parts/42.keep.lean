/-- but for the places (role, field) of W, what there was is as it was -/
def kGo (S S' : kS) (W : Nat → Nat → Prop) : Prop := (∀ b, b ∈ S.L → b ∈ S'.L ∧ S'.K b = S.K b ∧ S'.O b = S.O b ∧ S'.N b = S.N b) ∧ ∀ b, b ∈ S.L → ∀ j, ¬ W (S.O b) j → S'.I b j = S.I b j ∧ S'.R b j = S.R b j
theorem kGo.rf {S : kS} {W : Nat → Nat → Prop} : kGo S S W := ⟨fun b hb => ⟨hb, rfl, rfl, rfl⟩, fun b hb j hn => ⟨rfl, rfl⟩⟩
theorem kGo.at {S S' : kS} {W : Nat → Nat → Prop} (h : kGo S S' W) {a κ : Nat} (ha : S.at a κ) : S'.at a κ := ⟨(h.1 a ha.1).1, (h.1 a ha.1).2.1.trans ha.2⟩
theorem kGo.tr {S S1 S2 : kS} {W : Nat → Nat → Prop} (h : kGo S S1 W) (h2 : kGo S1 S2 W) : kGo S S2 W := ⟨fun b hb => by
  obtain ⟨a1, a2, a3, a4⟩ := h.1 b hb
  obtain ⟨b1, b2, b3, b4⟩ := h2.1 b a1
  exact ⟨b1, b2.trans a2, b3.trans a3, b4.trans a4⟩, fun b hb j hn => by
  have h3 := h2.2 b (h.1 b hb).1 j (by rw [(h.1 b hb).2.2.1]; exact hn)
  have h4 := h.2 b hb j hn
  exact ⟨h3.1.trans h4.1, h3.2.trans h4.2⟩⟩
theorem kGo.mono {S S' : kS} {W W' : Nat → Nat → Prop} (h : kGo S S' W) (hw : ∀ ρ j, W ρ j → W' ρ j) : kGo S S' W' := ⟨h.1, fun b hb j hn => h.2 b hb j (fun z => hn (hw _ _ z))⟩
theorem kGo.uI {S S' : kS} {W : Nat → Nat → Prop} (h : kGo S S' W) {a i : Nat} {v : Int32} (hw : a ∈ S.L → W (S.O a) i) : kGo S (S'.uI a i v) W := ⟨h.1, fun b hb j hn => ⟨by
  rw [uI_I, if_neg (fun z => hn (by rw [z.1, z.2]; exact hw (by rw [← z.1]; exact hb)))]
  exact (h.2 b hb j hn).1, (h.2 b hb j hn).2⟩⟩
theorem kGo.uR {S S' : kS} {W : Nat → Nat → Prop} (h : kGo S S' W) {a i : Nat} {v : Option Nat} (hw : a ∈ S.L → W (S.O a) i) : kGo S (S'.uR a i v) W := ⟨h.1, fun b hb j hn => ⟨(h.2 b hb j hn).1, by
  rw [uR_R, if_neg (fun z => hn (by rw [z.1, z.2]; exact hw (by rw [← z.1]; exact hb)))]
  exact (h.2 b hb j hn).2⟩⟩
theorem kFr.go {S S' : kS} {P : Nat → Prop} {W : Nat → Nat → Prop} (h : kFr S S' P) (hp : ∀ b, b ∈ S.L → P b → ∀ j, W (S.O b) j) : kGo S S' W := ⟨h.1, fun b hb j hn => by
  have h3 := h.2 b hb (fun z => hn (hp b hb z j))
  exact ⟨h3.1 j, h3.2 j⟩⟩
/-- places that matter: of the structure, of each part of the invariant -/
def pSM (ρ j : Nat) : Prop := ρ = 0 ∨ (ρ = 1 ∧ 11 ≤ j) ∨ ρ = 2 ∨ (ρ = 3 ∧ j ≤ 3) ∨ (ρ = 4 ∧ j ≤ 6) ∨ (ρ = 5 ∧ ¬ j = 1 ∧ ¬ j = 10) ∨ (ρ = 6 ∧ j ≤ 5) ∨ (60 ≤ ρ ∧ ρ < 67 ∧ (j = 0 ∨ j = 4)) ∨ (10 ≤ ρ ∧ ρ < 40) ∨ (110 ≤ ρ ∧ ρ < 140) ∨ (ρ = 200 ∧ j ≤ 1) ∨ (ρ = 201 ∧ (j = 0 ∨ j = 2 ∨ j = 4)) ∨ (ρ = 202 ∧ (j ≤ 1 ∨ j = 3 ∨ j = 5))
def pCi (ρ j : Nat) : Prop := ρ = 200 ∧ ((3 ≤ j ∧ j ≤ 6) ∨ j = 9)
def pHo (ρ j : Nat) : Prop := (60 ≤ ρ ∧ ρ < 67 ∧ j = 1) ∨ (ρ = 200 ∧ (j = 6 ∨ j = 9))
def pCh (ρ j : Nat) : Prop := (ρ = 1 ∧ j = 10) ∨ (ρ = 200 ∧ j = 9)
def pLe (ρ j : Nat) : Prop := ρ = 52 ∨ ρ = 40 ∨ (ρ = 200 ∧ j = 6)
def pMy (ρ j : Nat) : Prop := (ρ = 1 ∧ (3 ≤ j ∧ j ≤ 5)) ∨ (ρ = 200 ∧ j = 4)
def pLu (ρ j : Nat) : Prop := (ρ = 7 ∧ j ≤ 1) ∨ ρ = 23 ∨ ρ = 123
def pMs (ρ j : Nat) : Prop := (ρ = 1 ∧ (j ≤ 2 ∨ j = 9)) ∨ (ρ = 5 ∧ j = 1) ∨ ρ = 45
def pOf (ρ j : Nat) : Prop := (60 ≤ ρ ∧ ρ < 67 ∧ (j = 2 ∨ j = 3)) ∨ (ρ = 1 ∧ (j = 0 ∨ j = 4 ∨ j = 5))
def pKe (ρ j : Nat) : Prop := (ρ = 1 ∧ (j = 0 ∨ j = 10)) ∨ ρ = 41 ∨ (ρ = 7 ∧ j = 1) ∨ ρ = 202 ∨ (ρ = 201 ∧ j ≤ 4)
/-- no place of W is one of P -/
def kNo (W P : Nat → Nat → Prop) : Prop := ∀ ρ j, W ρ j → P ρ j → False
section KGO
variable {e0 : Nat × Nat} {A : Nat → Nat} {n : Nat} {cz : Nat → Nat} {T G E : Nat} {S S' : kS} {W : Nat → Nat → Prop}
theorem stR_SM : ∀ q ∈ stR, pSM q.1 q.2.1 ∧ (q.1 < 10 ∨ 60 ≤ q.1 ∧ q.1 < 67) := by unfold pSM; decide +kernel
theorem kSt.go (h : kSt A S) (hg : kGo S S' W) (hW : ∀ ρ j, W ρ j → pSM ρ j → 10 ≤ ρ ∧ ρ < 60 ∨ 100 ≤ ρ) : kSt A S' := by
  refine ⟨fun q hq => ⟨hg.at (h.1 q hq).1, ((hg.1 _ (h.1 q hq).1.1).2.2.1).trans (h.1 q hq).2⟩, fun q hq => ?_, fun q hq => ?_⟩
  · obtain ⟨κ', hk'⟩ := stR_K q hq
    have h9 := stR_SM q hq
    have ho : S.O (A q.1) = q.1 := (h.1 _ hk').2
    rw [(hg.2 _ (h.1 _ hk').1.1 q.2.1 (fun z => by rw [ho] at z; have := hW _ _ z h9.1; omega)).2]
    exact h.2.1 q hq
  · obtain ⟨κ', hk'⟩ := stN_K q hq
    rw [(hg.1 _ (h.1 _ hk').1.1).2.2.2]
    exact h.2.2 q hq
theorem kLc.go {a κ m c : Nat} {xs : Nat → Nat} (h : kLc e0 S a κ m xs c) (hg : kGo S S' W) (ho : ∀ j, ¬ W (S.O a) j ∧ ¬ W (100 + S.O a) j) : kLc e0 S' a κ m xs c := by
  obtain ⟨h1, h2, b, h3, h4⟩ := h
  refine ⟨hg.at h1, by rw [(hg.2 a h1.1 2 (ho 2).1).1]; exact h2, b, by rw [(hg.2 a h1.1 1 (ho 1).1).2]; exact h3, ?_⟩
  rcases h4 with h4 | ⟨h5, h6, h7, h8, h9, h10⟩
  · exact Or.inl h4
  · obtain ⟨q1, q2, q3, q4⟩ := hg.1 b h5.1
    exact Or.inr ⟨hg.at h5, by rw [q3, h6, (hg.1 a h1.1).2.2.1], q4.trans h7, h8, h9, fun i hi => ⟨by rw [(hg.2 b h5.1 i (by rw [h6]; exact (ho i).2)).2]; exact (h10 i hi).1, hg.at (h10 i hi).2⟩⟩
theorem kLs.go {a κ m : Nat} {xs : Nat → Nat} (h : kLs e0 S a κ m xs) (hg : kGo S S' W) (ho : ∀ j, ¬ W (S.O a) j ∧ ¬ W (100 + S.O a) j) : kLs e0 S' a κ m xs := by
  obtain ⟨c, hc⟩ := h.c
  exact (hc.go hg ho).s
/-- what the list of role r has to be -/
def kLi (e0 : Nat × Nat) (A : Nat → Nat) (n : Nat) (cz : Nat → Nat) (S : kS) (r : Nat) : Prop := (clR r → kCl e0 A n cz S r) ∧ (r = 18 ∨ r = 19 → kMl e0 A n cz S r) ∧ (r = 15 → kSl e0 A n cz S)
theorem kI.oA (h : kSt A S) {r' : Nat} (hr' : 10 ≤ r' ∧ r' < 32) : S.O (A r') = r' := by
  rcases (show r' = 10 ∨ r' = 11 ∨ r' = 12 ∨ r' = 13 ∨ r' = 14 ∨ r' = 15 ∨ r' = 16 ∨ r' = 17 ∨ r' = 18 ∨ r' = 19 ∨ r' = 20 ∨ r' = 21 ∨ r' = 22 ∨ r' = 23 ∨ r' = 24 ∨ r' = 25 ∨ r' = 26 ∨ r' = 27 ∨ r' = 28 ∨ r' = 29 ∨ r' = 30 ∨ r' = 31 by omega) with rfl | rfl | rfl | rfl | rfl | rfl | rfl | rfl | rfl | rfl | rfl | rfl | rfl | rfl | rfl | rfl | rfl | rfl | rfl | rfl | rfl | rfl
  · exact so_10 h
  · exact so_11 h
  · exact so_12 h
  · exact so_13 h
  · exact so_14 h
  · exact so_15 h
  · exact so_16 h
  · exact so_17 h
  · exact so_18 h
  · exact so_19 h
  · exact so_20 h
  · exact so_21 h
  · exact so_22 h
  · exact so_23 h
  · exact so_24 h
  · exact so_25 h
  · exact so_26 h
  · exact so_27 h
  · exact so_28 h
  · exact so_29 h
  · exact so_30 h
  · exact so_31 h
theorem kMo.go {x : Nat} (h : kMo S n cz x) (hg : kGo S S' W) (hW : ∀ j, ¬ (W 201 j ∧ pSM 201 j)) : kMo S' n cz x := by
  obtain ⟨h1, h2, h3, h4, h5⟩ := h
  have q : ∀ j, (j = 0 ∨ j = 2 ∨ j = 4) → S'.I x j = S.I x j ∧ S'.R x j = S.R x j := fun j hj => hg.2 x h1.1 j (fun z => hW j ⟨by rw [h2] at z; exact z, by unfold pSM; omega⟩)
  exact ⟨hg.at h1, (hg.1 x h1.1).2.2.1.trans h2, by rw [(q 0 (by omega)).2]; exact h3, by rw [(q 2 (by omega)).1]; exact h4, by rw [(q 4 (by omega)).1]; exact h5⟩
theorem kSu.go {x : Nat} (h : kSu S n cz x) (hg : kGo S S' W) (hW : ∀ j, ¬ (W 202 j ∧ pSM 202 j)) : kSu S' n cz x := by
  obtain ⟨h1, h2, h3, h4, h5, h6, h7⟩ := h
  have q : ∀ j, (j ≤ 1 ∨ j = 3 ∨ j = 5) → S'.I x j = S.I x j ∧ S'.R x j = S.R x j := fun j hj => hg.2 x h1.1 j (fun z => hW j ⟨by rw [h2] at z; exact z, by unfold pSM; omega⟩)
  exact ⟨hg.at h1, (hg.1 x h1.1).2.2.1.trans h2, by rw [(q 0 (by omega)).2]; exact h3, by rw [(q 1 (by omega)).2]; exact h4, fun d hd => by
    rw [(q 5 (by omega)).2] at hd
    exact ⟨hg.at (h5 d hd).1, (hg.1 d (h5 d hd).1.1).2.2.1.trans (h5 d hd).2⟩, by rw [(q 3 (by omega)).1]; exact h6, by rw [(q 0 (by omega)).2, (q 1 (by omega)).2]; exact h7⟩
/-- the structure stays, but for the list of role r -/
theorem kStru.go {r : Nat} (h : kStru e0 A n cz S) (hg : kGo S S' W) (hr : 12 ≤ r ∧ r < 40) (hW : ∀ ρ j, W ρ j → pSM ρ j → ρ = r ∨ ρ = 100 + r) (hl : kLi e0 A n cz S' r) : kStru e0 A n cz S' := by
  obtain ⟨hst, hC, hO, hcl, ⟨h18, h19⟩, hsu, hwho, hnum⟩ := h
  have hn9 : ∀ ρ, (10 ≤ ρ ∧ ρ < 40) ∧ ¬ ρ = r → ∀ j, ¬ W ρ j ∧ ¬ W (100 + ρ) j := fun ρ hρ j => ⟨fun z => by
    have := hW _ _ z (by unfold pSM; omega)
    omega, fun z => by
    have := hW _ _ z (by unfold pSM; omega)
    omega⟩
  have hM : ∀ j, ¬ (W 201 j ∧ pSM 201 j) := fun j z => by
    have := hW _ _ z.1 z.2
    omega
  have hU : ∀ j, ¬ (W 202 j ∧ pSM 202 j) := fun j z => by
    have := hW _ _ z.1 z.2
    omega
  have oA : ∀ r', 10 ≤ r' ∧ r' < 32 → S.O (A r') = r' := fun r' h' => kI.oA hst h'
  refine ⟨hst.go hg (fun ρ j z z2 => by have := hW ρ j z z2; omega), hC.go hg (by rw [so_10 hst]; exact hn9 10 (by omega)), hO.go hg (by rw [so_11 hst]; exact hn9 11 (by omega)), fun r' hr' => ?_, ⟨?_, ?_⟩, ?_, ?_, fun k hk => ?_⟩
  · by_cases e : r' = r
    · rw [e]; exact hl.1 (by rw [← e]; exact hr')
    · obtain ⟨m, xs, g1, g2, g3⟩ := hcl r' hr'
      exact ⟨m, xs, g1.go hg (by rw [oA r' (by unfold clR at hr'; omega)]; exact hn9 r' (by unfold clR at hr'; omega)), g2, g3⟩
  · by_cases e : 18 = r
    · rw [e]; exact hl.2.1 (by omega)
    · obtain ⟨m, xs, g1, g2, g3⟩ := h18
      exact ⟨m, xs, g1.go hg (by rw [so_18 hst]; exact hn9 18 (by omega)), g2, fun t ht => (g3 t ht).go hg hM⟩
  · by_cases e : 19 = r
    · rw [e]; exact hl.2.1 (by omega)
    · obtain ⟨m, xs, g1, g2, g3⟩ := h19
      exact ⟨m, xs, g1.go hg (by rw [so_19 hst]; exact hn9 19 (by omega)), g2, fun t ht => (g3 t ht).go hg hM⟩
  · by_cases e : 15 = r
    · exact hl.2.2 (by omega)
    · obtain ⟨m, xs, g1, g2, g3⟩ := hsu
      exact ⟨m, xs, g1.go hg (by rw [so_15 hst]; exact hn9 15 (by omega)), g2, fun t ht => (g3 t ht).go hg hU⟩
  · refine ⟨hwho.1, fun i hi => ?_, hwho.2.2⟩
    have h1 := (hC.el hi).1
    have q : ∀ j, j ≤ 1 → S'.I (cz i) j = S.I (cz i) j := fun j hj => (hg.2 _ h1 j (fun z => by
      rw [(hwho.2.1 i hi).1] at z
      have := hW _ _ z (by unfold pSM; omega)
      omega)).1
    exact ⟨((hg.1 _ h1).2.2.1).trans (hwho.2.1 i hi).1, by rw [q 0 (by omega)]; exact (hwho.2.1 i hi).2.1, by rw [q 1 (by omega)]; exact (hwho.2.1 i hi).2.2⟩
  · have h1 := (hO.el hk).1
    have h2 : S.O (kof A k) = 60 + k := by
      rcases (show k = 0 ∨ k = 1 ∨ k = 2 ∨ k = 3 ∨ k = 4 ∨ k = 5 ∨ k = 6 by omega) with rfl | rfl | rfl | rfl | rfl | rfl | rfl
      · exact so_60 hst
      · exact so_61 hst
      · exact so_62 hst
      · exact so_63 hst
      · exact so_64 hst
      · exact so_65 hst
      · exact so_66 hst
    rw [(hg.2 _ h1 0 (fun z => by
      rw [h2] at z
      have := hW _ _ z (by unfold pSM; omega)
      omega)).1]
    exact hnum k hk
theorem kStru.go0 (h : kStru e0 A n cz S) (hg : kGo S S' W) (hW : kNo W pSM) : kStru e0 A n cz S' := h.go (r := 39) hg (by omega) (fun ρ j z z2 => absurd (hW ρ j z z2) id) ⟨fun z => by unfold clR at z; omega, fun z => by omega, fun z => by omega⟩
theorem kGo.kp (hg : kGo S S' W) (hW : ∀ ρ j, W ρ j → (ρ = 202 ∨ (ρ = 201 ∧ j ≤ 4)) → False) : kKp S S' := fun x hx ho => ⟨⟨(hg.1 x hx).1, (hg.1 x hx).2.1, (hg.1 x hx).2.2.1⟩, fun j hj => hg.2 x hx j (fun z => hW _ _ z (by omega))⟩
-- the parts
theorem kI.cF (h : kI e0 A n cz T G E S) (hg : kGo S S' W) {i : Nat} (hi : i < n) (j : Nat) (hW : ¬ W 200 j) : S'.I (cz i) j = S.I (cz i) j := (hg.2 _ (h.at hi).1 j (by rw [h.oc i hi]; exact hW)).1
theorem kI.oF (h : kI e0 A n cz T G E S) (hg : kGo S S' W) {k : Nat} (hk : k < 7) (j : Nat) (hW : ¬ W (60 + k) j) : S'.I (kof A k) j = S.I (kof A k) j ∧ S'.R (kof A k) j = S.R (kof A k) j := hg.2 _ (h.hO.el hk).1 j (by rw [h.oo k hk]; exact hW)
theorem kI.aF (h : kI e0 A n cz T G E S) (hg : kGo S S' W) {r κ : Nat} (hr : (r, κ) ∈ stK) (j : Nat) (hW : ¬ W r j) : S'.I (A r) j = S.I (A r) j ∧ S'.R (A r) j = S.R (A r) j := hg.2 _ (h.st.1 _ hr).1.1 j (by rw [(h.st.1 _ hr).2]; exact hW)
theorem kI.a1 (h : kI e0 A n cz T G E S) (hg : kGo S S' W) (j : Nat) (hW : ¬ W 1 j) : S'.I (A 1) j = S.I (A 1) j ∧ S'.R (A 1) j = S.R (A 1) j := h.aF hg (κ := 2) (by decide) j hW
theorem kCi.eq {c : Nat} (h : kCi S T G c) (hI : ∀ j, pCi 200 j → S'.I c j = S.I c j) : kCi S' T G c := by
  have q : ∀ j, ((3 ≤ j ∧ j ≤ 6) ∨ j = 9) → S'.I c j = S.I c j := fun j hj => hI j ⟨rfl, hj⟩
  unfold kCi
  rw [q 3 (by omega), q 4 (by omega), q 5 (by omega), q 6 (by omega), q 9 (by omega)]
  exact h
theorem kI.gCi (h : kI e0 A n cz T G E S) (hg : kGo S S' W) (hW : kNo W pCi) : ∀ i, i < n → kCi S' T G (cz i) := fun i hi => (h.ci hi).eq (fun j hj => h.cF hg hi j (fun z => hW _ _ z hj))
theorem kI.gHo (h : kI e0 A n cz T G E S) (hg : kGo S S' W) (hW : kNo W pHo) : kHo A n cz S' := by
  obtain ⟨a1, a2⟩ := h.ho
  have q : ∀ k, k < 7 → S'.R (kof A k) 1 = S.R (kof A k) 1 := fun k hk => (h.oF hg hk 1 (fun z => hW _ _ z (by unfold pHo; omega))).2
  refine ⟨fun k hk c hc => ?_, fun k k' hk hk' c hc hc' => ?_⟩
  · rw [q k hk] at hc
    obtain ⟨i, b1, b2, b3, b4⟩ := a1 k hk c hc
    subst b2
    exact ⟨i, b1, rfl, by rw [h.cF hg b1 6 (fun z => hW _ _ z (by unfold pHo; omega))]; exact b3, by rw [h.cF hg b1 9 (fun z => hW _ _ z (by unfold pHo; omega))]; exact b4⟩
  · rw [q k hk] at hc
    rw [q k' hk'] at hc'
    exact a2 k k' hk hk' c hc hc'
theorem kI.gCh (h : kI e0 A n cz T G E S) (hg : kGo S S' W) (hW : kNo W pCh) : kCh A n cz S' := by
  intro c hc
  rw [(h.a1 hg 10 (fun z => hW _ _ z (by unfold pCh; omega))).2] at hc
  obtain ⟨i, b1, b2, b3⟩ := h.ch c hc
  subst b2
  exact ⟨i, b1, rfl, by rw [h.cF hg b1 9 (fun z => hW _ _ z (by unfold pCh; omega))]; exact b3⟩
theorem kI.gLe (h : kI e0 A n cz T G E S) (hg : kGo S S' W) (hW : kNo W pLe) : kLe A n cz S' := by
  refine ⟨fun k hk c hc => ?_, fun k hk => ?_⟩
  · rw [(h.aF hg (r := 52) (κ := 14) (by decide) k (fun z => hW _ _ z (by unfold pLe; omega))).2] at hc
    obtain ⟨i, b1, b2, b3⟩ := h.le.1 k hk c hc
    subst b2
    exact ⟨i, b1, rfl, by rw [h.cF hg b1 6 (fun z => hW _ _ z (by unfold pLe; omega))]; exact b3⟩
  · rw [(h.aF hg (r := 40) (κ := 13) (by decide) k (fun z => hW _ _ z (by unfold pLe; omega))).1]
    exact h.le.2 k hk
theorem kWe_congr : ∀ m, (∀ i, i < m → S'.I (cz i) 4 = S.I (cz i) 4) → kWe S' cz m = kWe S cz m
  | 0, _ => rfl
  | m + 1, h => by
    show kWe S' cz m + _ = kWe S cz m + _
    rw [kWe_congr m (fun i hi => h i (by omega)), h m (by omega)]
theorem kI.gMy (h : kI e0 A n cz T G E S) (hg : kGo S S' W) (hW : kNo W pMy) : kMy A n cz E S' := by
  have q : ∀ j, 3 ≤ j ∧ j ≤ 5 → S'.I (A 1) j = S.I (A 1) j := fun j hj => (h.a1 hg j (fun z => hW _ _ z (by unfold pMy; omega))).1
  unfold kMy
  rw [q 3 (by omega), q 4 (by omega), q 5 (by omega), kWe_congr n (fun i hi => h.cF hg hi 4 (fun z => hW _ _ z (by unfold pMy; omega)))]
  exact h.my
theorem kI.gRu (h : kI e0 A n cz T G E S) (hg : kGo S S' W) (hW : ∀ j, ¬ W 23 j ∧ ¬ W 123 j) : kRu e0 A n cz S' := by
  obtain ⟨m, xs, g1, g2⟩ := h.ru
  exact ⟨m, xs, g1.go hg (by rw [so_23 h.st]; exact hW), g2⟩
theorem kI.gLu (h : kI e0 A n cz T G E S) (hg : kGo S S' W) (hW : kNo W pLu) : kLu A T S' ∧ kRu e0 A n cz S' := by
  refine ⟨?_, h.gRu hg (fun j => ⟨fun z => hW _ _ z (by unfold pLu; omega), fun z => hW _ _ z (by unfold pLu; omega)⟩)⟩
  have q : ∀ j, j ≤ 1 → S'.I (A 7) j = S.I (A 7) j := fun j hj => (h.aF hg (r := 7) (κ := 6) (by decide) j (fun z => hW _ _ z (by unfold pLu; omega))).1
  unfold kLu
  rw [q 0 (by omega), q 1 (by omega)]
  exact h.lu
theorem kI.gMs (h : kI e0 A n cz T G E S) (hg : kGo S S' W) (hW : kNo W pMs) : kMs A T S' := by
  have q : ∀ j, (j ≤ 2 ∨ j = 9) → S'.I (A 1) j = S.I (A 1) j := fun j hj => (h.a1 hg j (fun z => hW _ _ z (by unfold pMs; omega))).1
  have q5 : S'.I (A 5) 1 = S.I (A 5) 1 := (h.aF hg (r := 5) (κ := 5) (by decide) 1 (fun z => hW _ _ z (by unfold pMs; omega))).1
  have q45 : ∀ j, S'.I (A 45) j = S.I (A 45) j := fun j => (h.aF hg (r := 45) (κ := 13) (by decide) j (fun z => hW _ _ z (by unfold pMs; omega))).1
  unfold kMs
  rw [q 0 (by omega), q 1 (by omega), q 2 (by omega), q 9 (by omega), q5]
  simp only [q45]
  exact h.ms
theorem kI.gOf (h : kI e0 A n cz T G E S) (hg : kGo S S' W) (hW : kNo W pOf) : kOf A S' := by
  have q : ∀ j, (j = 0 ∨ j = 4 ∨ j = 5) → S'.I (A 1) j = S.I (A 1) j := fun j hj => (h.a1 hg j (fun z => hW _ _ z (by unfold pOf; omega))).1
  intro k hk
  rw [(h.oF hg hk 2 (fun z => hW _ _ z (by unfold pOf; omega))).1, (h.oF hg hk 3 (fun z => hW _ _ z (by unfold pOf; omega))).1, q 0 (by omega), q 4 (by omega), q 5 (by omega)]
  exact h.of k hk
theorem kI.gKe (h : kI e0 A n cz T G E S) (hg : kGo S S' W) (hW : kNo W pKe) : kKe A S S' := by
  refine ⟨hg.kp (fun ρ j z y => hW _ _ z (by unfold pKe; omega)), (h.a1 hg 0 (fun z => hW _ _ z (by unfold pKe; omega))).1, fun k => (h.aF hg (r := 41) (κ := 13) (by decide) k (fun z => hW _ _ z (by unfold pKe; omega))).1, Or.inr (h.a1 hg 10 (fun z => hW _ _ z (by unfold pKe; omega))).2, ?_⟩
  rw [(h.aF hg (r := 7) (κ := 6) (by decide) 1 (fun z => hW _ _ z (by unfold pKe; omega))).1]
  exact Int.le_refl _
/-- a place of any part but the lots' and the structure's -/
def pVM (ρ j : Nat) : Prop := pCi ρ j ∨ pHo ρ j ∨ pCh ρ j ∨ pLe ρ j ∨ pMy ρ j ∨ pMs ρ j ∨ pOf ρ j
theorem kI.free (h : kI e0 A n cz T G E S) (hg : kGo S S' W) (hS : kNo W pSM) (hV : kNo W pVM) (hL : kNo W pLu) : kI e0 A n cz T G E S' :=
  ⟨h.1.go0 hg hS, h.gCi hg (fun ρ j z y => hV ρ j z (by unfold pVM; simp [y])), h.gHo hg (fun ρ j z y => hV ρ j z (by unfold pVM; simp [y])), h.gCh hg (fun ρ j z y => hV ρ j z (by unfold pVM; simp [y])), h.gLe hg (fun ρ j z y => hV ρ j z (by unfold pVM; simp [y])), h.gMy hg (fun ρ j z y => hV ρ j z (by unfold pVM; simp [y])), h.gLu hg hL, h.gMs hg (fun ρ j z y => hV ρ j z (by unfold pVM; simp [y])), h.gOf hg (fun ρ j z y => hV ρ j z (by unfold pVM; simp [y]))⟩
/-- a list changes, with draws -/
theorem kI.frL {r t : Nat} (h : kI e0 A n cz T G E S) (hr : 12 ≤ r ∧ r < 32) (hg : kGo S S' (fun ρ j => ρ = r ∨ ρ = 100 + r ∨ ρ = 7)) (hl : kLi e0 A n cz S' r) (hlu : ∃ p, p < 64 ∧ S'.I (A 7) 0 = nI p) (hdr : S'.I (A 7) 1 = S.I (A 7) 1 + nI t) (hT : T + t ≤ 1000000) (h23 : ¬ r = 23 := by omega) : kI e0 A n cz (T + t) G E S' ∧ kKe A S S' := by
  have hm := h.mono (T' := T + t) (G' := G) (E' := E) (by omega) (Nat.le_refl _) (Nat.le_refl _)
  have hV : kNo (fun ρ j => ρ = r ∨ ρ = 100 + r ∨ ρ = 7) pVM := fun ρ j z y => by unfold pVM pCi pHo pCh pLe pMy pMs pOf at y; omega
  have hd7 : (S'.I (A 7) 1).toInt = (S.I (A 7) 1).toInt + t := by
    obtain ⟨-, a2, a3⟩ := h.lu
    rw [hdr, Int32.toInt_add, nI_toInt (by omega)]
    exact Int.bmod_eq_of_le (by omega) (by omega)
  refine ⟨⟨h.1.go hg (by omega) (fun ρ j z y => by unfold pSM at y; omega) hl, hm.gCi hg (fun ρ j z y => hV ρ j z (by unfold pVM; simp [y])), hm.gHo hg (fun ρ j z y => hV ρ j z (by unfold pVM; simp [y])), hm.gCh hg (fun ρ j z y => hV ρ j z (by unfold pVM; simp [y])), hm.gLe hg (fun ρ j z y => hV ρ j z (by unfold pVM; simp [y])), hm.gMy hg (fun ρ j z y => hV ρ j z (by unfold pVM; simp [y])), ?_, hm.gMs hg (fun ρ j z y => hV ρ j z (by unfold pVM; simp [y])), hm.gOf hg (fun ρ j z y => hV ρ j z (by unfold pVM; simp [y]))⟩, ?_⟩
  · obtain ⟨-, a2, a3⟩ := h.lu
    exact ⟨⟨hlu, by omega, by omega⟩, hm.gRu hg (fun j => by omega)⟩
  · exact ⟨hg.kp (fun ρ j z y => by omega), (h.a1 hg 0 (by omega)).1, fun k => (h.aF hg (r := 41) (κ := 13) (by decide) k (by omega)).1, Or.inr (h.a1 hg 10 (by omega)).2, by omega⟩
/-- a list of citizens that comes and goes, with draws -/
theorem kI.frD {r t : Nat} (h : kI e0 A n cz T G E S) (hr : clR r) (hf : kFr S S' (fun z => kRo S r z ∨ S.O z = 7)) (hl : kCl e0 A n cz S' r) (hlu : ∃ p, p < 64 ∧ S'.I (A 7) 0 = nI p) (hdr : S'.I (A 7) 1 = S.I (A 7) 1 + nI t) (hT : T + t ≤ 1000000) (h23 : ¬ r = 23 := by omega) : kI e0 A n cz (T + t) G E S' ∧ kKe A S S' := by
  have hr0 : 12 ≤ r ∧ r < 32 ∧ ¬ r = 15 ∧ ¬ r = 18 ∧ ¬ r = 19 := by unfold clR at hr; omega
  exact h.frL (by omega) (hf.go (fun b hb z j => by
    unfold kRo at z
    omega)) ⟨fun _ => hl, fun z => by omega, fun z => by omega⟩ hlu hdr hT h23
/-- without draws -/
theorem kI.frC {r : Nat} (h : kI e0 A n cz T G E S) (hr : clR r) (hf : kFr S S' (kRo S r)) (hl : kCl e0 A n cz S' r) (hT : T ≤ 1000000) (h23 : ¬ r = 23 := by omega) : kI e0 A n cz T G E S' ∧ kKe A S S' := by
  have h7 : ∀ j, S'.I (A 7) j = S.I (A 7) j := (hf.2 _ (st_7 h.st).1 (fun z => by
    unfold kRo at z
    rw [so_7 h.st] at z
    unfold clR at hr
    omega)).1
  exact h.frD (t := 0) hr (hf.mono (fun b hb z => Or.inl z)) hl (by rw [h7]; exact h.lu.1) (by rw [h7, nI_0, Int32.add_zero]) hT h23
end KGO
