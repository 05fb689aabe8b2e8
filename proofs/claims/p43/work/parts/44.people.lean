section KPE
variable {e0 : Nat × Nat} {A : Nat → Nat} {n : Nat} {cz : Nat → Nat} {T G E : Nat} {S S' : kS}
/-- where a change of one citizen may reach -/
def wCit (ρ j : Nat) : Prop := (ρ = 200 ∧ 2 ≤ j) ∨ (ρ = 1 ∧ ((3 ≤ j ∧ j ≤ 5) ∨ j = 10)) ∨ (60 ≤ ρ ∧ ρ < 67 ∧ j = 1) ∨ ρ = 52 ∨ ρ = 40
/-- one citizen changes; he may lose seat, office and leases -/
theorem kI.cit {G' E' i : Nat} (h : kI e0 A n cz T G E S) (hg : kGo S S' wCit) (hi : i < n) (hG : G ≤ G') (ho : ∀ j, j < n → ¬ j = i → ∀ f, S'.I (cz j) f = S.I (cz j) f) (hci : kCi S' T G' (cz i))
    (hmy : kMy A n cz E' S') (hof : (S.I (A 1) 4).toInt + (S.I (A 1) 5).toInt ≤ (S'.I (A 1) 4).toInt + (S'.I (A 1) 5).toInt)
    (hch : S'.R (A 1) 10 = none ∨ (S'.R (A 1) 10 = S.R (A 1) 10 ∧ (S.R (A 1) 10 = some (cz i) → S'.I (cz i) 9 = 1)))
    (hho : ∀ k, k < 7 → S'.R (kof A k) 1 = none ∨ (S'.R (kof A k) 1 = S.R (kof A k) 1 ∧ (S.R (kof A k) 1 = some (cz i) → (S'.I (cz i) 6 = 1 ∨ S'.I (cz i) 6 = 2) ∧ S'.I (cz i) 9 = 0)))
    (hle : ∀ k, k < 3 → S'.R (A 52) k = none ∨ (S'.R (A 52) k = S.R (A 52) k ∧ (S.R (A 52) k = some (cz i) → (S'.I (cz i) 6 = 1 ∨ S'.I (cz i) 6 = 2))))
    (hre : ∀ k, k < 3 → S'.I (A 40) k = 0 ∨ S'.I (A 40) k = S.I (A 40) k) : kI e0 A n cz T G' E' S' ∧ kKe A S S' := by
  have hinj := h.who.2.2
  refine ⟨⟨h.1.go0 hg (fun ρ j z y => by unfold wCit at z; unfold pSM at y; omega), fun j hj => ?_, ⟨fun k hk c hc => ?_, fun k k' hk hk' c hc hc' => ?_⟩, fun c hc => ?_, ⟨fun k hk c hc => ?_, fun k hk => ?_⟩, hmy, h.gLu hg (fun ρ j z y => by unfold wCit at z; unfold pLu at y; omega), h.gMs hg (fun ρ j z y => by unfold wCit at z; unfold pMs at y; omega), fun k hk => ?_⟩, hg.kp (fun ρ j z y => by unfold wCit at z; omega), (h.a1 hg 0 (by unfold wCit; omega)).1, fun k => (h.aF hg (r := 41) (κ := 13) (by decide) k (by unfold wCit; omega)).1, ?_, ?_⟩
  · by_cases e : j = i
    · rw [e]; exact hci
    · obtain ⟨a1, a2, ⟨a3, a4⟩, a5⟩ := h.ci hj
      have h9 : kCi S T G' (cz j) := ⟨a1, a2, ⟨a3, by omega⟩, a5⟩
      exact h9.eq (fun f _ => ho j hj e f)
  · rcases hho k hk with e | ⟨e, e2⟩
    · rw [e] at hc; cases hc
    · rw [e] at hc
      obtain ⟨j, b1, b2, b3, b4⟩ := h.ho.1 k hk c hc
      by_cases ei : j = i
      · subst b2 ei
        exact ⟨j, b1, rfl, e2 hc⟩
      · subst b2
        exact ⟨j, b1, rfl, by rw [ho j b1 ei]; exact b3, by rw [ho j b1 ei]; exact b4⟩
  · rcases hho k hk with e | ⟨e, e2⟩
    · rw [e] at hc; cases hc
    · rcases hho k' hk' with e' | ⟨e', e2'⟩
      · rw [e'] at hc'; cases hc'
      · rw [e] at hc
        rw [e'] at hc'
        exact h.ho.2 k k' hk hk' c hc hc'
  · rcases hch with e | ⟨e, e2⟩
    · rw [e] at hc; cases hc
    · rw [e] at hc
      obtain ⟨j, b1, b2, b3⟩ := h.ch c hc
      by_cases ei : j = i
      · subst b2 ei
        exact ⟨j, b1, rfl, e2 hc⟩
      · subst b2
        exact ⟨j, b1, rfl, by rw [ho j b1 ei]; exact b3⟩
  · rcases hle k hk with e | ⟨e, e2⟩
    · rw [e] at hc; cases hc
    · rw [e] at hc
      obtain ⟨j, b1, b2, b3⟩ := h.le.1 k hk c hc
      by_cases ei : j = i
      · subst b2 ei
        exact ⟨j, b1, rfl, e2 hc⟩
      · subst b2
        exact ⟨j, b1, rfl, by rw [ho j b1 ei]; exact b3⟩
  · rcases hre k hk with e | e
    · exact ⟨0, by omega, e⟩
    · rw [e]; exact h.le.2 k hk
  · obtain ⟨g1, g3, g4⟩ := h.of k hk
    rw [(h.oF hg hk 2 (by unfold wCit; omega)).1, (h.oF hg hk 3 (by unfold wCit; omega)).1, (h.a1 hg 0 (by unfold wCit; omega)).1]
    exact ⟨g1, g3, by omega⟩
  · rcases hch with e | e
    · exact Or.inl e
    · exact Or.inr e.1
  · rw [(h.aF hg (r := 7) (κ := 6) (by decide) 1 (by unfold wCit; omega)).1]
    exact Int.le_refl _
theorem kI.cne (h : kI e0 A n cz T G E S) {i r : Nat} (hi : i < n) (hr : (∃ κ, (r, κ) ∈ stK) ∧ ¬ r = 200) : ¬ cz i = A r := fun e => by
  obtain ⟨⟨κ, hk⟩, hr2⟩ := hr
  have h1 := (h.st.1 _ hk).2
  have h2 := h.oc i hi
  rw [e] at h2
  exact hr2 (h1.symm.trans h2)
theorem kI.one (h : kI e0 A n cz T G E S) {i : Nat} (hi : i < n) : ¬ cz i = A 1 := h.cne hi ⟨⟨2, by decide⟩, by omega⟩
/-- what fine() comes to -/
theorem kfin1_sp {c : Nat} {x : Int32} (hne : ¬ c = A 1) : ((kfin1 S A c x).I c 4 = S.I c 4 - kmin (S.I c 4) x ∧ (kfin1 S A c x).I c 5 = S.I c 5 + (x - kmin (S.I c 4) x)) ∧ ((kfin1 S A c x).I (A 1) 3 = S.I (A 1) 3 + kmin (S.I c 4) x ∧ (kfin1 S A c x).I (A 1) 4 = S.I (A 1) 4 + kmin (S.I c 4) x ∧ (kfin1 S A c x).I (A 1) 5 = S.I (A 1) 5) := by
  have hne2 : ¬ A 1 = c := fun z => hne z.symm
  unfold kfin1 ktake kgive
  refine ⟨⟨?_, ?_⟩, ?_, ?_, ?_⟩ <;> simp [uI_I, hne, hne2]
theorem kfin1_go {c : Nat} {x : Int32} (hst : kSt A S) (hc : S.O c = 200) : kGo S (kfin1 S A c x) wCit := by
  unfold kfin1 ktake kgive
  exact (((kGo.rf.uI (fun _ => by rw [hc]; unfold wCit; omega)).uI (a := A 1) (fun _ => by rw [so_1 hst]; unfold wCit; omega)).uI (a := A 1) (fun _ => by rw [so_1 hst]; unfold wCit; omega)).uI (fun _ => by rw [hc]; unfold wCit; omega)
theorem kleave_go {c : Nat} (hst : kSt A S) (hc : S.O c = 200) : kGo S (kleave S A c) wCit := by
  unfold kleave
  by_cases g : S.R (A 1) 10 = some c
  · rw [if_pos g]
    exact (kGo.rf.uI (fun _ => by rw [hc]; unfold wCit; omega)).uR (a := A 1) (fun _ => by rw [so_1 hst]; unfold wCit; omega)
  · rw [if_neg g]
    exact kGo.rf.uI (fun _ => by rw [hc]; unfold wCit; omega)
theorem kleave_I {c b j : Nat} : (kleave S A c).I b j = if b = c ∧ j = 9 then 0 else S.I b j := by
  unfold kleave
  by_cases g : S.R (A 1) 10 = some c
  · rw [if_pos g]; rfl
  · rw [if_neg g]; rfl
theorem kleave_R {c b j : Nat} : (kleave S A c).R b j = if b = A 1 ∧ j = 10 ∧ S.R (A 1) 10 = some c then none else S.R b j := by
  unfold kleave
  by_cases g : S.R (A 1) 10 = some c
  · rw [if_pos g, uR_R]
    by_cases g2 : b = A 1 ∧ j = 10
    · rw [if_pos g2, if_pos ⟨g2.1, g2.2, g⟩]
    · rw [if_neg g2, if_neg (fun z => g2 ⟨z.1, z.2.1⟩)]; rfl
  · rw [if_neg g, if_neg (fun z => g z.2.2)]; rfl
theorem kfin1_o {c : Nat} {x : Int32} {b j : Nat} (h1 : ¬ b = c) (h2 : ¬ b = A 1) : (kfin1 S A c x).I b j = S.I b j := by
  unfold kfin1 ktake kgive
  simp [uI_I, h1, h2]
theorem kfin1_R {c : Nat} {x : Int32} {b j : Nat} : (kfin1 S A c x).R b j = S.R b j := rfl
theorem kI.fine (h : kI e0 A n cz T G E S) {i : Nat} (hi : i < n) {x : Int32} (hx : 0 ≤ x.toInt ∧ x.toInt ≤ 32000) (hs : S.I (cz i) 6 = 1 ∨ S.I (cz i) 6 = 2) (hG : G + 1 ≤ 60000) (hE : E ≤ 150000) : kI e0 A n cz T (G + 1) E (kfine S A (cz i) x) ∧ kKe A S (kfine S A (cz i) x) := by
  have hne := h.one hi
  obtain ⟨⟨f4, f5⟩, g3, g4, g5⟩ := kfin1_sp (S := S) (x := x) hne
  obtain ⟨w1, w2, w3⟩ := h.w0 hi
  obtain ⟨t1, t2, t3, t4, t5, t6⟩ := h.t0
  obtain ⟨m1, m2, m3, m4, m5⟩ := h.my
  obtain ⟨c1, c2, ⟨c3, c4⟩, c5, c6, c7⟩ := h.ci hi
  obtain ⟨k1, k2, k3⟩ := kmin_i (S.I (cz i) 4) x
  have k4 : 0 ≤ (kmin (S.I (cz i) 4) x).toInt := by rcases k3 with e | e <;> rw [e] <;> omega
  have d1 : (x - kmin (S.I (cz i) 4) x).toInt = x.toInt - (kmin (S.I (cz i) 4) x).toInt := i_sub (by omega) (by omega)
  have d2 : (S.I (cz i) 5 + (x - kmin (S.I (cz i) 4) x)).toInt = (S.I (cz i) 5).toInt + (x.toInt - (kmin (S.I (cz i) 4) x).toInt) := by rw [i_add (by omega) (by omega), d1]
  have d3 : (S.I (cz i) 4 - kmin (S.I (cz i) 4) x).toInt = (S.I (cz i) 4).toInt - (kmin (S.I (cz i) 4) x).toInt := i_sub (by omega) (by omega)
  have d4 : (S.I (A 1) 3 + kmin (S.I (cz i) 4) x).toInt = (S.I (A 1) 3).toInt + (kmin (S.I (cz i) 4) x).toInt := i_add (by omega) (by omega)
  have d5 : (S.I (A 1) 4 + kmin (S.I (cz i) 4) x).toInt = (S.I (A 1) 4).toInt + (kmin (S.I (cz i) 4) x).toInt := i_add (by omega) (by omega)
  have hinj := h.who.2.2
  have ho1 : ∀ j, j < n → ¬ j = i → ∀ f, (kfin1 S A (cz i) x).I (cz j) f = S.I (cz j) f := fun j hj hn f => kfin1_o (fun z => hn (hinj j i hj hi z)) (h.one hj)
  have hw : kWe (kfin1 S A (cz i) x) cz n = kWe S cz n + -(kmin (S.I (cz i) 4) x).toInt := kWe_upd n hi (by rw [f4, d3]; omega) (fun j hj hn => ho1 j hj hn 4)
  have hmy1 : kMy A n cz E (kfin1 S A (cz i) x) := ⟨by rw [g3, g4, g5, d4, d5]; omega, by rw [g3, d4]; omega, by rw [g4, d5]; omega, by rw [g5]; omega, by rw [hw, g4, d5]; omega⟩
  have f6 : (kfin1 S A (cz i) x).I (cz i) 6 = S.I (cz i) 6 := kfin1_I hne (by decide) (by decide)
  have f9 : (kfin1 S A (cz i) x).I (cz i) 9 = S.I (cz i) 9 := kfin1_I hne (by decide) (by decide)
  have f3 : (kfin1 S A (cz i) x).I (cz i) 3 = S.I (cz i) 3 := kfin1_I hne (by decide) (by decide)
  have hg1 := kfin1_go (S := S) (x := x) h.st (h.oc i hi)
  unfold kfine
  by_cases hc : S.I (cz i) 6 = 1 ∧ 0 < S.I (cz i) 5 + (x - kmin (S.I (cz i) 4) x)
  · rw [if_pos hc]
    have hne1 : ¬ A 1 = cz i := fun z => hne z.symm
    have q4 : (kleave ((kfin1 S A (cz i) x).uI (cz i) 6 2) A (cz i)).I (cz i) 4 = S.I (cz i) 4 - kmin (S.I (cz i) 4) x := by rw [kleave_I, if_neg (by omega), uI_I, if_neg (by omega), f4]
    have q5 : (kleave ((kfin1 S A (cz i) x).uI (cz i) 6 2) A (cz i)).I (cz i) 5 = S.I (cz i) 5 + (x - kmin (S.I (cz i) 4) x) := by rw [kleave_I, if_neg (by omega), uI_I, if_neg (by omega), f5]
    have q6 : (kleave ((kfin1 S A (cz i) x).uI (cz i) 6 2) A (cz i)).I (cz i) 6 = 2 := by rw [kleave_I, if_neg (by omega), uI_I, if_pos ⟨rfl, rfl⟩]
    have q9 : (kleave ((kfin1 S A (cz i) x).uI (cz i) 6 2) A (cz i)).I (cz i) 9 = 0 := by rw [kleave_I, if_pos ⟨rfl, rfl⟩]
    have q3 : (kleave ((kfin1 S A (cz i) x).uI (cz i) 6 2) A (cz i)).I (cz i) 3 = S.I (cz i) 3 := by rw [kleave_I, if_neg (by omega), uI_I, if_neg (by omega), f3]
    have qa : ∀ j, (kleave ((kfin1 S A (cz i) x).uI (cz i) 6 2) A (cz i)).I (A 1) j = (kfin1 S A (cz i) x).I (A 1) j := fun j => by rw [kleave_I, if_neg (fun z => hne1 z.1), uI_I, if_neg (fun z => hne1 z.1)]
    have qo : ∀ j, j < n → ¬ j = i → ∀ f, (kleave ((kfin1 S A (cz i) x).uI (cz i) 6 2) A (cz i)).I (cz j) f = S.I (cz j) f := fun j hj hn f => by
      have hz : ¬ cz j = cz i := fun z => hn (hinj j i hj hi z)
      rw [kleave_I, if_neg (fun z => hz z.1), uI_I, if_neg (fun z => hz z.1), ho1 j hj hn]
    have hgB : kGo S (kleave ((kfin1 S A (cz i) x).uI (cz i) 6 2) A (cz i)) wCit := by
      have hg2 : kGo S ((kfin1 S A (cz i) x).uI (cz i) 6 2) wCit := hg1.uI (fun _ => by rw [h.oc i hi]; unfold wCit; omega)
      exact hg2.tr (kleave_go (S := (kfin1 S A (cz i) x).uI (cz i) 6 2) (kSt.uI (kfin1_st h.st)) (h.oc i hi))
    refine h.cit hgB hi (by omega) qo ⟨⟨2, by omega, by omega, q6⟩, by rw [q4, d3]; omega, ⟨by rw [q5, d2]; omega, by rw [q5, d2]; omega⟩, fun z => ?_, Or.inl q9, by rw [q3]; exact c7.1, by rw [q3]; exact c7.2⟩ ?_ ?_ ?_ (fun k hk => ?_) (fun k hk => ?_) (fun k hk => ?_)
    · rw [q6] at z; rcases z with z | z <;> exact absurd z (by decide)
    · obtain ⟨z1, z2, z3, z4, z5⟩ := hmy1
      have hwe : kWe (kleave ((kfin1 S A (cz i) x).uI (cz i) 6 2) A (cz i)) cz n = kWe (kfin1 S A (cz i) x) cz n := kWe_congr n (fun j hj => by rw [kleave_I, if_neg (by omega), uI_I, if_neg (by omega)])
      unfold kMy
      rw [qa 3, qa 4, qa 5, hwe]
      exact ⟨z1, z2, z3, z4, z5⟩
    · rw [qa 4, qa 5, g4, g5, d5]; omega
    · rw [kleave_R]
      by_cases e : A 1 = A 1 ∧ 10 = 10 ∧ ((kfin1 S A (cz i) x).uI (cz i) 6 2).R (A 1) 10 = some (cz i)
      · rw [if_pos e]; exact Or.inl rfl
      · rw [if_neg e]; exact Or.inr ⟨rfl, fun z => absurd ⟨rfl, rfl, z⟩ e⟩
    · refine Or.inr ⟨?_, fun _ => ⟨Or.inr q6, q9⟩⟩
      rw [kleave_R, if_neg (by omega)]; rfl
    · refine Or.inr ⟨?_, fun _ => Or.inr q6⟩
      rw [kleave_R, if_neg (by omega)]; rfl
    · refine Or.inr ?_
      have n1 : ¬ A 40 = A 1 := h.st.ne (r := 40) (r' := 1) (κ := 13) (κ' := 2) (by decide) (by decide) (by decide)
      have n2 : ¬ A 40 = cz i := fun z => h.cne hi (r := 40) ⟨⟨13, by decide⟩, by omega⟩ z.symm
      rw [kleave_I, if_neg (fun z => n2 z.1), uI_I, if_neg (fun z => n2 z.1), kfin1_o n2 n1]
  · rw [if_neg hc]
    have hd : S.I (cz i) 6 = 1 ∨ S.I (cz i) 6 = 3 → (kfin1 S A (cz i) x).I (cz i) 5 = 0 := fun z => by
      rcases hs with z2 | z2
      · have z3 : ¬ 0 < S.I (cz i) 5 + (x - kmin (S.I (cz i) 4) x) := fun z4 => hc ⟨z2, z4⟩
        have z5 : ¬ 0 < (S.I (cz i) 5 + (x - kmin (S.I (cz i) 4) x)).toInt := fun z6 => z3 (Int32.lt_iff_toInt_lt.mpr (by rw [t_0]; exact z6))
        rw [f5]
        exact Int32.toInt_inj.mp (by rw [t_0]; omega)
      · rw [z2] at z; rcases z with z | z <;> exact absurd z (by decide)
    refine h.cit hg1 hi (by omega) ho1 ⟨by rw [f6]; exact c1, by rw [f4, d3]; omega, ⟨by rw [f5, d2]; omega, by rw [f5, d2]; omega⟩, by rw [f6]; exact hd, by rw [f9, f6]; exact c6, by rw [f3]; exact c7.1, by rw [f3]; exact c7.2⟩ hmy1 ?_ ?_ (fun k hk => ?_) (fun k hk => ?_) (fun k hk => ?_)
    · rw [g4, g5, d5]; omega
    · refine Or.inr ⟨rfl, fun z => ?_⟩
      obtain ⟨j, b1, b2, b3⟩ := h.ch _ z
      rw [f9]; exact b3
    · refine Or.inr ⟨rfl, fun z => ?_⟩
      obtain ⟨j, b1, b2, b3, b4⟩ := h.ho.1 k hk _ z
      rw [f6, f9]; exact ⟨b3, b4⟩
    · refine Or.inr ⟨rfl, fun z => ?_⟩
      rw [f6]; exact hs
    · refine Or.inr ?_
      have n1 : ¬ A 40 = A 1 := h.st.ne (r := 40) (r' := 1) (κ := 13) (κ' := 2) (by decide) (by decide) (by decide)
      have n2 : ¬ A 40 = cz i := fun z => h.cne hi (r := 40) ⟨⟨13, by decide⟩, by omega⟩ z.symm
      exact kfin1_o n2 n1
end KPE
