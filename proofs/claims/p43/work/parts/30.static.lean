/-- roles and shapes of the fixed things, pointers between them, lengths of the fixed rows -/
def stK : List (Nat × Nat) := [(0, 11), (1, 2), (2, 3), (3, 4), (4, 0), (5, 5), (6, 9), (7, 6), (10, 12), (11, 12), (12, 12), (13, 12), (14, 12), (15, 12), (16, 12), (17, 12), (18, 12), (19, 12), (20, 12), (21, 12), (22, 12), (23, 12), (24, 12), (25, 12), (26, 12), (27, 12), (28, 12), (29, 12), (30, 12), (31, 12), (40, 13), (41, 13), (42, 13), (43, 13), (44, 13), (45, 13), (46, 13), (47, 13), (48, 13), (49, 13), (50, 13), (51, 13), (52, 14), (60, 8), (61, 8), (62, 8), (63, 8), (64, 8), (65, 8), (66, 8)]
def stR : List (Nat × Nat × Nat) := [(0, 0, 1), (0, 1, 2), (0, 2, 3), (0, 3, 4), (0, 4, 5), (0, 5, 6), (1, 11, 7), (1, 12, 10), (1, 13, 11), (1, 14, 52), (1, 15, 40), (1, 16, 12), (2, 0, 1), (2, 1, 41), (2, 2, 42), (2, 3, 13), (2, 4, 14), (3, 0, 1), (3, 1, 15), (3, 2, 16), (3, 3, 17), (4, 0, 1), (4, 1, 3), (4, 2, 18), (4, 3, 19), (4, 4, 43), (4, 5, 20), (4, 6, 44), (5, 0, 1), (5, 2, 45), (5, 3, 46), (5, 4, 47), (5, 5, 48), (5, 6, 49), (5, 7, 50), (5, 8, 21), (5, 9, 22), (6, 0, 1), (6, 1, 4), (6, 2, 3), (6, 3, 23), (6, 4, 24), (6, 5, 51), (60, 4, 25), (61, 4, 26), (62, 4, 27), (63, 4, 28), (64, 4, 29), (65, 4, 30), (66, 4, 31)]
def stN : List (Nat × Nat) := [(40, 3), (41, 4), (42, 4), (43, 8), (44, 40), (45, 4), (46, 4), (47, 4), (48, 4), (49, 4), (50, 4), (51, 4), (52, 3)]
/-- the fixed things stand where A says -/
def kSt (A : Nat → Nat) (S : kS) : Prop := (∀ q ∈ stK, S.at (A q.1) q.2 ∧ S.O (A q.1) = q.1) ∧ (∀ q ∈ stR, S.R (A q.1) q.2.1 = some (A q.2.2)) ∧ (∀ q ∈ stN, S.N (A q.1) = q.2)
def stSh (r : Nat) : Nat := match stK.find? (fun q => q.1 == r) with | some q => q.2 | none => 0
theorem stR_K0 : ∀ q ∈ stR, (q.1, stSh q.1) ∈ stK := by decide +kernel
theorem stN_K0 : ∀ q ∈ stN, (q.1, stSh q.1) ∈ stK := by decide +kernel
theorem stR_K : ∀ q ∈ stR, ∃ κ, (q.1, κ) ∈ stK := fun q h => ⟨_, stR_K0 q h⟩
theorem stN_K : ∀ q ∈ stN, ∃ κ, (q.1, κ) ∈ stK := fun q h => ⟨_, stN_K0 q h⟩
section KST
variable {A : Nat → Nat} {S S' : kS}
theorem kSt.ne (h : kSt A S) {r r' κ κ' : Nat} (h1 : (r, κ) ∈ stK) (h2 : (r', κ') ∈ stK) (hn : ¬ r = r') : ¬ A r = A r' := fun e => hn ((h.1 _ h1).2.symm.trans ((congrArg S.O e).trans (h.1 _ h2).2))
theorem kSt.uI (h : kSt A S) {a i : Nat} {v : Int32} : kSt A (S.uI a i v) := h
theorem kSt.uR (h : kSt A S) {r j κ : Nat} {v : Option Nat} (h1 : (r, κ) ∈ stK) (hn : ∀ q ∈ stR, ¬ (q.1 = r ∧ q.2.1 = j)) : kSt A (S.uR (A r) j v) := by
  refine ⟨h.1, fun q hq => ?_, h.2.2⟩
  rw [uR_R]
  by_cases hc : A q.1 = A r ∧ q.2.1 = j
  · obtain ⟨κ', hk'⟩ := stR_K q hq
    by_cases hr : q.1 = r
    · exact absurd ⟨hr, hc.2⟩ (hn q hq)
    · exact absurd hc.1 (h.ne hk' h1 hr)
  · rw [if_neg hc]
    exact h.2.1 q hq
theorem kSt.uRo (h : kSt A S) {a j κ : Nat} {v : Option Nat} (ha : S.at a κ) (hk : ∀ q ∈ stR, ∀ κ', (q.1, κ') ∈ stK → ¬ κ' = κ) : kSt A (S.uR a j v) := by
  refine ⟨h.1, fun q hq => ?_, h.2.2⟩
  rw [uR_R, if_neg (fun hc => ?_)]
  · exact h.2.1 q hq
  · obtain ⟨κ', hk'⟩ := stR_K q hq
    exact hk q hq κ' hk' ((h.1 _ hk').1.2.symm.trans ((congrArg S.K hc.1).trans ha.2))
theorem kSt.uRg (h : kSt A S) {a j κ : Nat} {v : Option Nat} (ha : S.at a κ) (hn : ∀ q ∈ stR, ¬ (stSh q.1 = κ ∧ q.2.1 = j)) : kSt A (S.uR a j v) := by
  refine ⟨h.1, fun q hq => ?_, h.2.2⟩
  rw [uR_R, if_neg (fun hc => ?_)]
  · exact h.2.1 q hq
  · exact hn q hq ⟨(h.1 _ (stR_K0 q hq)).1.2.symm.trans ((congrArg S.K hc.1).trans ha.2), hc.2⟩
theorem kSt.of (h : kSt A S) (h1 : S'.L = S.L) (h2 : S'.K = S.K) (h3 : S'.O = S.O) (h4 : S'.N = S.N) (h5 : S'.R = S.R) : kSt A S' := by
  refine ⟨fun q hq => ⟨⟨?_, ?_⟩, ?_⟩, fun q hq => ?_, fun q hq => ?_⟩
  · rw [h1]; exact (h.1 q hq).1.1
  · rw [h2]; exact (h.1 q hq).1.2
  · rw [h3]; exact (h.1 q hq).2
  · rw [h5]; exact h.2.1 q hq
  · rw [h4]; exact h.2.2 q hq
theorem kSt.fr (h : kSt A S) {P : Nat → Prop} (hf : kFr S S' P) (hp : ∀ q ∈ stR, ¬ P (A q.1)) : kSt A S' := by
  refine ⟨fun q hq => ⟨hf.at (h.1 q hq).1, ((hf.1 _ (h.1 q hq).1.1).2.2.1).trans (h.1 q hq).2⟩, fun q hq => ?_, fun q hq => ?_⟩
  · obtain ⟨κ', hk'⟩ := stR_K q hq
    rw [(hf.2 _ (h.1 _ hk').1.1 (hp q hq)).2]
    exact h.2.1 q hq
  · obtain ⟨κ', hk'⟩ := stN_K q hq
    rw [(hf.1 _ (h.1 _ hk').1.1).2.2.2]
    exact h.2.2 q hq
/-- a list's doings leave the fixed things -/
theorem kSt.frR (h : kSt A S) {r : Nat} (hf : kFr S S' (kRo S r)) (hr : ∀ q ∈ stR, ¬ q.1 = r ∧ ¬ q.1 = 100 + r) : kSt A S' := h.fr hf (fun q hq hz => by
  obtain ⟨κ', hk'⟩ := stR_K q hq
  have ho := (h.1 _ hk').2
  rcases hz with hz | hz
  · exact (hr q hq).1 (ho.symm.trans hz)
  · exact (hr q hq).2 (ho.symm.trans hz))
theorem kLs.el {e0 : Nat × Nat} {a κ m i : Nat} {xs : Nat → Nat} (h : kLs e0 S a κ m xs) (hi : i < m) : S.at (xs i) κ := by
  obtain ⟨-, -, b, -, h4⟩ := h
  rcases h4 with ⟨-, h5⟩ | ⟨-, -, -, -, h5⟩
  · exact absurd hi (by omega)
  · exact (h5 i hi).2
theorem st_0 (h : kSt A S) : S.at (A 0) 11 := (h.1 (0, 11) (List.mem_of_getElem? (i := 0) rfl)).1
theorem so_0 (h : kSt A S) : S.O (A 0) = 0 := (h.1 (0, 11) (List.mem_of_getElem? (i := 0) rfl)).2
theorem st_1 (h : kSt A S) : S.at (A 1) 2 := (h.1 (1, 2) (List.mem_of_getElem? (i := 1) rfl)).1
theorem so_1 (h : kSt A S) : S.O (A 1) = 1 := (h.1 (1, 2) (List.mem_of_getElem? (i := 1) rfl)).2
theorem st_2 (h : kSt A S) : S.at (A 2) 3 := (h.1 (2, 3) (List.mem_of_getElem? (i := 2) rfl)).1
theorem so_2 (h : kSt A S) : S.O (A 2) = 2 := (h.1 (2, 3) (List.mem_of_getElem? (i := 2) rfl)).2
theorem st_3 (h : kSt A S) : S.at (A 3) 4 := (h.1 (3, 4) (List.mem_of_getElem? (i := 3) rfl)).1
theorem so_3 (h : kSt A S) : S.O (A 3) = 3 := (h.1 (3, 4) (List.mem_of_getElem? (i := 3) rfl)).2
theorem st_4 (h : kSt A S) : S.at (A 4) 0 := (h.1 (4, 0) (List.mem_of_getElem? (i := 4) rfl)).1
theorem so_4 (h : kSt A S) : S.O (A 4) = 4 := (h.1 (4, 0) (List.mem_of_getElem? (i := 4) rfl)).2
theorem st_5 (h : kSt A S) : S.at (A 5) 5 := (h.1 (5, 5) (List.mem_of_getElem? (i := 5) rfl)).1
theorem so_5 (h : kSt A S) : S.O (A 5) = 5 := (h.1 (5, 5) (List.mem_of_getElem? (i := 5) rfl)).2
theorem st_6 (h : kSt A S) : S.at (A 6) 9 := (h.1 (6, 9) (List.mem_of_getElem? (i := 6) rfl)).1
theorem so_6 (h : kSt A S) : S.O (A 6) = 6 := (h.1 (6, 9) (List.mem_of_getElem? (i := 6) rfl)).2
theorem st_7 (h : kSt A S) : S.at (A 7) 6 := (h.1 (7, 6) (List.mem_of_getElem? (i := 7) rfl)).1
theorem so_7 (h : kSt A S) : S.O (A 7) = 7 := (h.1 (7, 6) (List.mem_of_getElem? (i := 7) rfl)).2
theorem st_10 (h : kSt A S) : S.at (A 10) 12 := (h.1 (10, 12) (List.mem_of_getElem? (i := 8) rfl)).1
theorem so_10 (h : kSt A S) : S.O (A 10) = 10 := (h.1 (10, 12) (List.mem_of_getElem? (i := 8) rfl)).2
theorem st_11 (h : kSt A S) : S.at (A 11) 12 := (h.1 (11, 12) (List.mem_of_getElem? (i := 9) rfl)).1
theorem so_11 (h : kSt A S) : S.O (A 11) = 11 := (h.1 (11, 12) (List.mem_of_getElem? (i := 9) rfl)).2
theorem st_12 (h : kSt A S) : S.at (A 12) 12 := (h.1 (12, 12) (List.mem_of_getElem? (i := 10) rfl)).1
theorem so_12 (h : kSt A S) : S.O (A 12) = 12 := (h.1 (12, 12) (List.mem_of_getElem? (i := 10) rfl)).2
theorem st_13 (h : kSt A S) : S.at (A 13) 12 := (h.1 (13, 12) (List.mem_of_getElem? (i := 11) rfl)).1
theorem so_13 (h : kSt A S) : S.O (A 13) = 13 := (h.1 (13, 12) (List.mem_of_getElem? (i := 11) rfl)).2
theorem st_14 (h : kSt A S) : S.at (A 14) 12 := (h.1 (14, 12) (List.mem_of_getElem? (i := 12) rfl)).1
theorem so_14 (h : kSt A S) : S.O (A 14) = 14 := (h.1 (14, 12) (List.mem_of_getElem? (i := 12) rfl)).2
theorem st_15 (h : kSt A S) : S.at (A 15) 12 := (h.1 (15, 12) (List.mem_of_getElem? (i := 13) rfl)).1
theorem so_15 (h : kSt A S) : S.O (A 15) = 15 := (h.1 (15, 12) (List.mem_of_getElem? (i := 13) rfl)).2
theorem st_16 (h : kSt A S) : S.at (A 16) 12 := (h.1 (16, 12) (List.mem_of_getElem? (i := 14) rfl)).1
theorem so_16 (h : kSt A S) : S.O (A 16) = 16 := (h.1 (16, 12) (List.mem_of_getElem? (i := 14) rfl)).2
theorem st_17 (h : kSt A S) : S.at (A 17) 12 := (h.1 (17, 12) (List.mem_of_getElem? (i := 15) rfl)).1
theorem so_17 (h : kSt A S) : S.O (A 17) = 17 := (h.1 (17, 12) (List.mem_of_getElem? (i := 15) rfl)).2
theorem st_18 (h : kSt A S) : S.at (A 18) 12 := (h.1 (18, 12) (List.mem_of_getElem? (i := 16) rfl)).1
theorem so_18 (h : kSt A S) : S.O (A 18) = 18 := (h.1 (18, 12) (List.mem_of_getElem? (i := 16) rfl)).2
theorem st_19 (h : kSt A S) : S.at (A 19) 12 := (h.1 (19, 12) (List.mem_of_getElem? (i := 17) rfl)).1
theorem so_19 (h : kSt A S) : S.O (A 19) = 19 := (h.1 (19, 12) (List.mem_of_getElem? (i := 17) rfl)).2
theorem st_20 (h : kSt A S) : S.at (A 20) 12 := (h.1 (20, 12) (List.mem_of_getElem? (i := 18) rfl)).1
theorem so_20 (h : kSt A S) : S.O (A 20) = 20 := (h.1 (20, 12) (List.mem_of_getElem? (i := 18) rfl)).2
theorem st_21 (h : kSt A S) : S.at (A 21) 12 := (h.1 (21, 12) (List.mem_of_getElem? (i := 19) rfl)).1
theorem so_21 (h : kSt A S) : S.O (A 21) = 21 := (h.1 (21, 12) (List.mem_of_getElem? (i := 19) rfl)).2
theorem st_22 (h : kSt A S) : S.at (A 22) 12 := (h.1 (22, 12) (List.mem_of_getElem? (i := 20) rfl)).1
theorem so_22 (h : kSt A S) : S.O (A 22) = 22 := (h.1 (22, 12) (List.mem_of_getElem? (i := 20) rfl)).2
theorem st_23 (h : kSt A S) : S.at (A 23) 12 := (h.1 (23, 12) (List.mem_of_getElem? (i := 21) rfl)).1
theorem so_23 (h : kSt A S) : S.O (A 23) = 23 := (h.1 (23, 12) (List.mem_of_getElem? (i := 21) rfl)).2
theorem st_24 (h : kSt A S) : S.at (A 24) 12 := (h.1 (24, 12) (List.mem_of_getElem? (i := 22) rfl)).1
theorem so_24 (h : kSt A S) : S.O (A 24) = 24 := (h.1 (24, 12) (List.mem_of_getElem? (i := 22) rfl)).2
theorem st_25 (h : kSt A S) : S.at (A 25) 12 := (h.1 (25, 12) (List.mem_of_getElem? (i := 23) rfl)).1
theorem so_25 (h : kSt A S) : S.O (A 25) = 25 := (h.1 (25, 12) (List.mem_of_getElem? (i := 23) rfl)).2
theorem st_26 (h : kSt A S) : S.at (A 26) 12 := (h.1 (26, 12) (List.mem_of_getElem? (i := 24) rfl)).1
theorem so_26 (h : kSt A S) : S.O (A 26) = 26 := (h.1 (26, 12) (List.mem_of_getElem? (i := 24) rfl)).2
theorem st_27 (h : kSt A S) : S.at (A 27) 12 := (h.1 (27, 12) (List.mem_of_getElem? (i := 25) rfl)).1
theorem so_27 (h : kSt A S) : S.O (A 27) = 27 := (h.1 (27, 12) (List.mem_of_getElem? (i := 25) rfl)).2
theorem st_28 (h : kSt A S) : S.at (A 28) 12 := (h.1 (28, 12) (List.mem_of_getElem? (i := 26) rfl)).1
theorem so_28 (h : kSt A S) : S.O (A 28) = 28 := (h.1 (28, 12) (List.mem_of_getElem? (i := 26) rfl)).2
theorem st_29 (h : kSt A S) : S.at (A 29) 12 := (h.1 (29, 12) (List.mem_of_getElem? (i := 27) rfl)).1
theorem so_29 (h : kSt A S) : S.O (A 29) = 29 := (h.1 (29, 12) (List.mem_of_getElem? (i := 27) rfl)).2
theorem st_30 (h : kSt A S) : S.at (A 30) 12 := (h.1 (30, 12) (List.mem_of_getElem? (i := 28) rfl)).1
theorem so_30 (h : kSt A S) : S.O (A 30) = 30 := (h.1 (30, 12) (List.mem_of_getElem? (i := 28) rfl)).2
theorem st_31 (h : kSt A S) : S.at (A 31) 12 := (h.1 (31, 12) (List.mem_of_getElem? (i := 29) rfl)).1
theorem so_31 (h : kSt A S) : S.O (A 31) = 31 := (h.1 (31, 12) (List.mem_of_getElem? (i := 29) rfl)).2
theorem st_40 (h : kSt A S) : S.at (A 40) 13 := (h.1 (40, 13) (List.mem_of_getElem? (i := 30) rfl)).1
theorem so_40 (h : kSt A S) : S.O (A 40) = 40 := (h.1 (40, 13) (List.mem_of_getElem? (i := 30) rfl)).2
theorem st_41 (h : kSt A S) : S.at (A 41) 13 := (h.1 (41, 13) (List.mem_of_getElem? (i := 31) rfl)).1
theorem so_41 (h : kSt A S) : S.O (A 41) = 41 := (h.1 (41, 13) (List.mem_of_getElem? (i := 31) rfl)).2
theorem st_42 (h : kSt A S) : S.at (A 42) 13 := (h.1 (42, 13) (List.mem_of_getElem? (i := 32) rfl)).1
theorem so_42 (h : kSt A S) : S.O (A 42) = 42 := (h.1 (42, 13) (List.mem_of_getElem? (i := 32) rfl)).2
theorem st_43 (h : kSt A S) : S.at (A 43) 13 := (h.1 (43, 13) (List.mem_of_getElem? (i := 33) rfl)).1
theorem so_43 (h : kSt A S) : S.O (A 43) = 43 := (h.1 (43, 13) (List.mem_of_getElem? (i := 33) rfl)).2
theorem st_44 (h : kSt A S) : S.at (A 44) 13 := (h.1 (44, 13) (List.mem_of_getElem? (i := 34) rfl)).1
theorem so_44 (h : kSt A S) : S.O (A 44) = 44 := (h.1 (44, 13) (List.mem_of_getElem? (i := 34) rfl)).2
theorem st_45 (h : kSt A S) : S.at (A 45) 13 := (h.1 (45, 13) (List.mem_of_getElem? (i := 35) rfl)).1
theorem so_45 (h : kSt A S) : S.O (A 45) = 45 := (h.1 (45, 13) (List.mem_of_getElem? (i := 35) rfl)).2
theorem st_46 (h : kSt A S) : S.at (A 46) 13 := (h.1 (46, 13) (List.mem_of_getElem? (i := 36) rfl)).1
theorem so_46 (h : kSt A S) : S.O (A 46) = 46 := (h.1 (46, 13) (List.mem_of_getElem? (i := 36) rfl)).2
theorem st_47 (h : kSt A S) : S.at (A 47) 13 := (h.1 (47, 13) (List.mem_of_getElem? (i := 37) rfl)).1
theorem so_47 (h : kSt A S) : S.O (A 47) = 47 := (h.1 (47, 13) (List.mem_of_getElem? (i := 37) rfl)).2
theorem st_48 (h : kSt A S) : S.at (A 48) 13 := (h.1 (48, 13) (List.mem_of_getElem? (i := 38) rfl)).1
theorem so_48 (h : kSt A S) : S.O (A 48) = 48 := (h.1 (48, 13) (List.mem_of_getElem? (i := 38) rfl)).2
theorem st_49 (h : kSt A S) : S.at (A 49) 13 := (h.1 (49, 13) (List.mem_of_getElem? (i := 39) rfl)).1
theorem so_49 (h : kSt A S) : S.O (A 49) = 49 := (h.1 (49, 13) (List.mem_of_getElem? (i := 39) rfl)).2
theorem st_50 (h : kSt A S) : S.at (A 50) 13 := (h.1 (50, 13) (List.mem_of_getElem? (i := 40) rfl)).1
theorem so_50 (h : kSt A S) : S.O (A 50) = 50 := (h.1 (50, 13) (List.mem_of_getElem? (i := 40) rfl)).2
theorem st_51 (h : kSt A S) : S.at (A 51) 13 := (h.1 (51, 13) (List.mem_of_getElem? (i := 41) rfl)).1
theorem so_51 (h : kSt A S) : S.O (A 51) = 51 := (h.1 (51, 13) (List.mem_of_getElem? (i := 41) rfl)).2
theorem st_52 (h : kSt A S) : S.at (A 52) 14 := (h.1 (52, 14) (List.mem_of_getElem? (i := 42) rfl)).1
theorem so_52 (h : kSt A S) : S.O (A 52) = 52 := (h.1 (52, 14) (List.mem_of_getElem? (i := 42) rfl)).2
theorem st_60 (h : kSt A S) : S.at (A 60) 8 := (h.1 (60, 8) (List.mem_of_getElem? (i := 43) rfl)).1
theorem so_60 (h : kSt A S) : S.O (A 60) = 60 := (h.1 (60, 8) (List.mem_of_getElem? (i := 43) rfl)).2
theorem st_61 (h : kSt A S) : S.at (A 61) 8 := (h.1 (61, 8) (List.mem_of_getElem? (i := 44) rfl)).1
theorem so_61 (h : kSt A S) : S.O (A 61) = 61 := (h.1 (61, 8) (List.mem_of_getElem? (i := 44) rfl)).2
theorem st_62 (h : kSt A S) : S.at (A 62) 8 := (h.1 (62, 8) (List.mem_of_getElem? (i := 45) rfl)).1
theorem so_62 (h : kSt A S) : S.O (A 62) = 62 := (h.1 (62, 8) (List.mem_of_getElem? (i := 45) rfl)).2
theorem st_63 (h : kSt A S) : S.at (A 63) 8 := (h.1 (63, 8) (List.mem_of_getElem? (i := 46) rfl)).1
theorem so_63 (h : kSt A S) : S.O (A 63) = 63 := (h.1 (63, 8) (List.mem_of_getElem? (i := 46) rfl)).2
theorem st_64 (h : kSt A S) : S.at (A 64) 8 := (h.1 (64, 8) (List.mem_of_getElem? (i := 47) rfl)).1
theorem so_64 (h : kSt A S) : S.O (A 64) = 64 := (h.1 (64, 8) (List.mem_of_getElem? (i := 47) rfl)).2
theorem st_65 (h : kSt A S) : S.at (A 65) 8 := (h.1 (65, 8) (List.mem_of_getElem? (i := 48) rfl)).1
theorem so_65 (h : kSt A S) : S.O (A 65) = 65 := (h.1 (65, 8) (List.mem_of_getElem? (i := 48) rfl)).2
theorem st_66 (h : kSt A S) : S.at (A 66) 8 := (h.1 (66, 8) (List.mem_of_getElem? (i := 49) rfl)).1
theorem so_66 (h : kSt A S) : S.O (A 66) = 66 := (h.1 (66, 8) (List.mem_of_getElem? (i := 49) rfl)).2
theorem sr_0_0 (h : kSt A S) : S.R (A 0) 0 = some (A 1) := h.2.1 (0, 0, 1) (List.mem_of_getElem? (i := 0) rfl)
theorem sr_0_1 (h : kSt A S) : S.R (A 0) 1 = some (A 2) := h.2.1 (0, 1, 2) (List.mem_of_getElem? (i := 1) rfl)
theorem sr_0_2 (h : kSt A S) : S.R (A 0) 2 = some (A 3) := h.2.1 (0, 2, 3) (List.mem_of_getElem? (i := 2) rfl)
theorem sr_0_3 (h : kSt A S) : S.R (A 0) 3 = some (A 4) := h.2.1 (0, 3, 4) (List.mem_of_getElem? (i := 3) rfl)
theorem sr_0_4 (h : kSt A S) : S.R (A 0) 4 = some (A 5) := h.2.1 (0, 4, 5) (List.mem_of_getElem? (i := 4) rfl)
theorem sr_0_5 (h : kSt A S) : S.R (A 0) 5 = some (A 6) := h.2.1 (0, 5, 6) (List.mem_of_getElem? (i := 5) rfl)
theorem sr_1_11 (h : kSt A S) : S.R (A 1) 11 = some (A 7) := h.2.1 (1, 11, 7) (List.mem_of_getElem? (i := 6) rfl)
theorem sr_1_12 (h : kSt A S) : S.R (A 1) 12 = some (A 10) := h.2.1 (1, 12, 10) (List.mem_of_getElem? (i := 7) rfl)
theorem sr_1_13 (h : kSt A S) : S.R (A 1) 13 = some (A 11) := h.2.1 (1, 13, 11) (List.mem_of_getElem? (i := 8) rfl)
theorem sr_1_14 (h : kSt A S) : S.R (A 1) 14 = some (A 52) := h.2.1 (1, 14, 52) (List.mem_of_getElem? (i := 9) rfl)
theorem sr_1_15 (h : kSt A S) : S.R (A 1) 15 = some (A 40) := h.2.1 (1, 15, 40) (List.mem_of_getElem? (i := 10) rfl)
theorem sr_1_16 (h : kSt A S) : S.R (A 1) 16 = some (A 12) := h.2.1 (1, 16, 12) (List.mem_of_getElem? (i := 11) rfl)
theorem sr_2_0 (h : kSt A S) : S.R (A 2) 0 = some (A 1) := h.2.1 (2, 0, 1) (List.mem_of_getElem? (i := 12) rfl)
theorem sr_2_1 (h : kSt A S) : S.R (A 2) 1 = some (A 41) := h.2.1 (2, 1, 41) (List.mem_of_getElem? (i := 13) rfl)
theorem sr_2_2 (h : kSt A S) : S.R (A 2) 2 = some (A 42) := h.2.1 (2, 2, 42) (List.mem_of_getElem? (i := 14) rfl)
theorem sr_2_3 (h : kSt A S) : S.R (A 2) 3 = some (A 13) := h.2.1 (2, 3, 13) (List.mem_of_getElem? (i := 15) rfl)
theorem sr_2_4 (h : kSt A S) : S.R (A 2) 4 = some (A 14) := h.2.1 (2, 4, 14) (List.mem_of_getElem? (i := 16) rfl)
theorem sr_3_0 (h : kSt A S) : S.R (A 3) 0 = some (A 1) := h.2.1 (3, 0, 1) (List.mem_of_getElem? (i := 17) rfl)
theorem sr_3_1 (h : kSt A S) : S.R (A 3) 1 = some (A 15) := h.2.1 (3, 1, 15) (List.mem_of_getElem? (i := 18) rfl)
theorem sr_3_2 (h : kSt A S) : S.R (A 3) 2 = some (A 16) := h.2.1 (3, 2, 16) (List.mem_of_getElem? (i := 19) rfl)
theorem sr_3_3 (h : kSt A S) : S.R (A 3) 3 = some (A 17) := h.2.1 (3, 3, 17) (List.mem_of_getElem? (i := 20) rfl)
theorem sr_4_0 (h : kSt A S) : S.R (A 4) 0 = some (A 1) := h.2.1 (4, 0, 1) (List.mem_of_getElem? (i := 21) rfl)
theorem sr_4_1 (h : kSt A S) : S.R (A 4) 1 = some (A 3) := h.2.1 (4, 1, 3) (List.mem_of_getElem? (i := 22) rfl)
theorem sr_4_2 (h : kSt A S) : S.R (A 4) 2 = some (A 18) := h.2.1 (4, 2, 18) (List.mem_of_getElem? (i := 23) rfl)
theorem sr_4_3 (h : kSt A S) : S.R (A 4) 3 = some (A 19) := h.2.1 (4, 3, 19) (List.mem_of_getElem? (i := 24) rfl)
theorem sr_4_4 (h : kSt A S) : S.R (A 4) 4 = some (A 43) := h.2.1 (4, 4, 43) (List.mem_of_getElem? (i := 25) rfl)
theorem sr_4_5 (h : kSt A S) : S.R (A 4) 5 = some (A 20) := h.2.1 (4, 5, 20) (List.mem_of_getElem? (i := 26) rfl)
theorem sr_4_6 (h : kSt A S) : S.R (A 4) 6 = some (A 44) := h.2.1 (4, 6, 44) (List.mem_of_getElem? (i := 27) rfl)
theorem sr_5_0 (h : kSt A S) : S.R (A 5) 0 = some (A 1) := h.2.1 (5, 0, 1) (List.mem_of_getElem? (i := 28) rfl)
theorem sr_5_2 (h : kSt A S) : S.R (A 5) 2 = some (A 45) := h.2.1 (5, 2, 45) (List.mem_of_getElem? (i := 29) rfl)
theorem sr_5_3 (h : kSt A S) : S.R (A 5) 3 = some (A 46) := h.2.1 (5, 3, 46) (List.mem_of_getElem? (i := 30) rfl)
theorem sr_5_4 (h : kSt A S) : S.R (A 5) 4 = some (A 47) := h.2.1 (5, 4, 47) (List.mem_of_getElem? (i := 31) rfl)
theorem sr_5_5 (h : kSt A S) : S.R (A 5) 5 = some (A 48) := h.2.1 (5, 5, 48) (List.mem_of_getElem? (i := 32) rfl)
theorem sr_5_6 (h : kSt A S) : S.R (A 5) 6 = some (A 49) := h.2.1 (5, 6, 49) (List.mem_of_getElem? (i := 33) rfl)
theorem sr_5_7 (h : kSt A S) : S.R (A 5) 7 = some (A 50) := h.2.1 (5, 7, 50) (List.mem_of_getElem? (i := 34) rfl)
theorem sr_5_8 (h : kSt A S) : S.R (A 5) 8 = some (A 21) := h.2.1 (5, 8, 21) (List.mem_of_getElem? (i := 35) rfl)
theorem sr_5_9 (h : kSt A S) : S.R (A 5) 9 = some (A 22) := h.2.1 (5, 9, 22) (List.mem_of_getElem? (i := 36) rfl)
theorem sr_6_0 (h : kSt A S) : S.R (A 6) 0 = some (A 1) := h.2.1 (6, 0, 1) (List.mem_of_getElem? (i := 37) rfl)
theorem sr_6_1 (h : kSt A S) : S.R (A 6) 1 = some (A 4) := h.2.1 (6, 1, 4) (List.mem_of_getElem? (i := 38) rfl)
theorem sr_6_2 (h : kSt A S) : S.R (A 6) 2 = some (A 3) := h.2.1 (6, 2, 3) (List.mem_of_getElem? (i := 39) rfl)
theorem sr_6_3 (h : kSt A S) : S.R (A 6) 3 = some (A 23) := h.2.1 (6, 3, 23) (List.mem_of_getElem? (i := 40) rfl)
theorem sr_6_4 (h : kSt A S) : S.R (A 6) 4 = some (A 24) := h.2.1 (6, 4, 24) (List.mem_of_getElem? (i := 41) rfl)
theorem sr_6_5 (h : kSt A S) : S.R (A 6) 5 = some (A 51) := h.2.1 (6, 5, 51) (List.mem_of_getElem? (i := 42) rfl)
theorem sr_60_4 (h : kSt A S) : S.R (A 60) 4 = some (A 25) := h.2.1 (60, 4, 25) (List.mem_of_getElem? (i := 43) rfl)
theorem sr_61_4 (h : kSt A S) : S.R (A 61) 4 = some (A 26) := h.2.1 (61, 4, 26) (List.mem_of_getElem? (i := 44) rfl)
theorem sr_62_4 (h : kSt A S) : S.R (A 62) 4 = some (A 27) := h.2.1 (62, 4, 27) (List.mem_of_getElem? (i := 45) rfl)
theorem sr_63_4 (h : kSt A S) : S.R (A 63) 4 = some (A 28) := h.2.1 (63, 4, 28) (List.mem_of_getElem? (i := 46) rfl)
theorem sr_64_4 (h : kSt A S) : S.R (A 64) 4 = some (A 29) := h.2.1 (64, 4, 29) (List.mem_of_getElem? (i := 47) rfl)
theorem sr_65_4 (h : kSt A S) : S.R (A 65) 4 = some (A 30) := h.2.1 (65, 4, 30) (List.mem_of_getElem? (i := 48) rfl)
theorem sr_66_4 (h : kSt A S) : S.R (A 66) 4 = some (A 31) := h.2.1 (66, 4, 31) (List.mem_of_getElem? (i := 49) rfl)
theorem sn_40 (h : kSt A S) : S.N (A 40) = 3 := h.2.2 (40, 3) (List.mem_of_getElem? (i := 0) rfl)
theorem sm_40 (h : kSt A S) : S.N (A 40) < 2 ^ 31 := by rw [sn_40 h]; decide
theorem sn_41 (h : kSt A S) : S.N (A 41) = 4 := h.2.2 (41, 4) (List.mem_of_getElem? (i := 1) rfl)
theorem sm_41 (h : kSt A S) : S.N (A 41) < 2 ^ 31 := by rw [sn_41 h]; decide
theorem sn_42 (h : kSt A S) : S.N (A 42) = 4 := h.2.2 (42, 4) (List.mem_of_getElem? (i := 2) rfl)
theorem sm_42 (h : kSt A S) : S.N (A 42) < 2 ^ 31 := by rw [sn_42 h]; decide
theorem sn_43 (h : kSt A S) : S.N (A 43) = 8 := h.2.2 (43, 8) (List.mem_of_getElem? (i := 3) rfl)
theorem sm_43 (h : kSt A S) : S.N (A 43) < 2 ^ 31 := by rw [sn_43 h]; decide
theorem sn_44 (h : kSt A S) : S.N (A 44) = 40 := h.2.2 (44, 40) (List.mem_of_getElem? (i := 4) rfl)
theorem sm_44 (h : kSt A S) : S.N (A 44) < 2 ^ 31 := by rw [sn_44 h]; decide
theorem sn_45 (h : kSt A S) : S.N (A 45) = 4 := h.2.2 (45, 4) (List.mem_of_getElem? (i := 5) rfl)
theorem sm_45 (h : kSt A S) : S.N (A 45) < 2 ^ 31 := by rw [sn_45 h]; decide
theorem sn_46 (h : kSt A S) : S.N (A 46) = 4 := h.2.2 (46, 4) (List.mem_of_getElem? (i := 6) rfl)
theorem sm_46 (h : kSt A S) : S.N (A 46) < 2 ^ 31 := by rw [sn_46 h]; decide
theorem sn_47 (h : kSt A S) : S.N (A 47) = 4 := h.2.2 (47, 4) (List.mem_of_getElem? (i := 7) rfl)
theorem sm_47 (h : kSt A S) : S.N (A 47) < 2 ^ 31 := by rw [sn_47 h]; decide
theorem sn_48 (h : kSt A S) : S.N (A 48) = 4 := h.2.2 (48, 4) (List.mem_of_getElem? (i := 8) rfl)
theorem sm_48 (h : kSt A S) : S.N (A 48) < 2 ^ 31 := by rw [sn_48 h]; decide
theorem sn_49 (h : kSt A S) : S.N (A 49) = 4 := h.2.2 (49, 4) (List.mem_of_getElem? (i := 9) rfl)
theorem sm_49 (h : kSt A S) : S.N (A 49) < 2 ^ 31 := by rw [sn_49 h]; decide
theorem sn_50 (h : kSt A S) : S.N (A 50) = 4 := h.2.2 (50, 4) (List.mem_of_getElem? (i := 10) rfl)
theorem sm_50 (h : kSt A S) : S.N (A 50) < 2 ^ 31 := by rw [sn_50 h]; decide
theorem sn_51 (h : kSt A S) : S.N (A 51) = 4 := h.2.2 (51, 4) (List.mem_of_getElem? (i := 11) rfl)
theorem sm_51 (h : kSt A S) : S.N (A 51) < 2 ^ 31 := by rw [sn_51 h]; decide
theorem sn_52 (h : kSt A S) : S.N (A 52) = 3 := h.2.2 (52, 3) (List.mem_of_getElem? (i := 12) rfl)
theorem sm_52 (h : kSt A S) : S.N (A 52) < 2 ^ 31 := by rw [sn_52 h]; decide
end KST
