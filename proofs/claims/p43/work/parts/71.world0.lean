def kAd (l : List (Nat × Nat)) (f g : Nat → Nat) (r : Nat) : Nat := if 60 ≤ r ∧ r < 67 then f (r - 60) else if 25 ≤ r ∧ r < 32 then g (r - 25) else (l.lookup r).getD 0
theorem kAd_f {l : List (Nat × Nat)} {f g : Nat → Nat} {k : Nat} (hk : k < 7) : kAd l f g (60 + k) = f k := by
  unfold kAd
  rw [if_pos (by omega), show 60 + k - 60 = k by omega]
/-- a citizen as it is made -/
def kCz (S : kS) (c t : Nat) : Prop := S.O c = 200 ∧ S.I c 0 = nI t ∧ S.I c 1 = nI (t % 8) ∧ S.I c 6 = 1 ∧ S.I c 5 = 0 ∧ S.I c 9 = 0 ∧ (∃ w, w ≤ 149 ∧ S.I c 4 = nI w) ∧ ∃ a, a ≤ 100 ∧ S.I c 3 = nI a
/-- the numbers of a city in which nothing has been done -/
def kZc (A : Nat → Nat) (S : kS) : Prop := (S.I (A 1) 0 = 0 ∧ S.I (A 1) 1 = 1 ∧ S.I (A 1) 2 = 0 ∧ S.I (A 1) 3 = 300 ∧ S.I (A 1) 4 = 0 ∧ S.I (A 1) 5 = 0 ∧ S.I (A 1) 9 = -1 ∧ S.R (A 1) 10 = none) ∧ (S.I (A 7) 0 = 0 ∧ S.I (A 7) 1 = 0) ∧ (∀ j, S.R (A 52) j = none) ∧ (∀ j, S.I (A 40) j = 0) ∧ S.I (A 5) 1 = 0 ∧ ∀ j, S.I (A 45) j = 0
/-- a city in which i citizens stand and nothing has been done -/
def kZ (e0 : Nat × Nat) (A : Nat → Nat) (i : Nat) (cz : Nat → Nat) (S : kS) : Prop :=
  kSt A S ∧ (∃ c, kLc e0 S (A 10) 1 i cz c) ∧ kLs e0 S (A 11) 8 7 (kof A) ∧ (∀ r, clR r → kLs e0 S (A r) 1 0 (fun _ => 0)) ∧ (kLs e0 S (A 18) 7 0 (fun _ => 0) ∧ kLs e0 S (A 19) 7 0 (fun _ => 0)) ∧ kLs e0 S (A 15) 10 0 (fun _ => 0) ∧ (∀ t, t < i → kCz S (cz t) t) ∧ (∀ t t', t < i → t' < i → cz t = cz t' → t = t') ∧ (∀ k, k < 7 → S.I (kof A k) 0 = nI k ∧ S.I (kof A k) 2 = 0 ∧ S.I (kof A k) 3 = 0 ∧ S.R (kof A k) 1 = none) ∧ kZc A S
theorem kEm_s {e0 : Nat × Nat} {S : kS} {a κ ρ N : Nat} (h : kOj S a 12 ρ N) (h1 : S.I a 2 = 0) (h2 : S.R a 1 = some e0.1) : kLs e0 S a κ 0 (fun _ => 0) := (kLc_0 h.1 h1 h2).s
theorem kSt_mk {e0 : Nat × Nat} {S : kS} {q ac ab ad aa ae aw a7 a10 a11 a12 a13 a14 a15 a16 a17 a18 a19 a20 a21 a22 a23 a24 a40 a41 a42 a43 a44 a45 a46 a47 a48 a49 a50 a51 a52 c : Nat} {f g : Nat → Nat} (hq : kOj S q 11 0 0) (p0 : S.R q 0 = some ac) (p1 : S.R q 1 = some ab) (p2 : S.R q 2 = some ad) (p3 : S.R q 3 = some aa) (p4 : S.R q 4 = some ae) (p5 : S.R q 5 = some aw) (h2 : kB2 e0 S ac a7 a10 a11 a52 a40 a12) (h3 : kB3 e0 S ab ac a41 a42 a13 a14) (h4 : kB4 e0 S ad ac a15 a16 a17) (h0 : kB0 e0 S aa ac ad a18 a19 a43 a20 a44) (h5 : kB5 e0 S ae ac a45 a46 a47 a48 a49 a50 a21 a22) (h9 : kB9 e0 S aw ac aa ad a23 a24 a51) (h11 : kOj S a11 12 11 0) (hl : kLc e0 S a11 8 7 f c) (h8 : ∀ k, k < 7 → kB8 e0 S (f k) (g k) k) : kSt (kAd [(0, q), (1, ac), (2, ab), (3, ad), (4, aa), (5, ae), (6, aw), (7, a7), (10, a10), (11, a11), (12, a12), (13, a13), (14, a14), (15, a15), (16, a16), (17, a17), (18, a18), (19, a19), (20, a20), (21, a21), (22, a22), (23, a23), (24, a24), (40, a40), (41, a41), (42, a42), (43, a43), (44, a44), (45, a45), (46, a46), (47, a47), (48, a48), (49, a49), (50, a50), (51, a51), (52, a52)] f g) S := by
  obtain ⟨⟨h2_0_0, h2_0_1, h2_0_2, h2_0_3, h2_0_4, h2_0_5, h2_0_6, h2_0_7, h2_0_8, h2_0_9, h2_0_10, h2_0_11, h2_0_12, h2_0_13, h2_0_14⟩, ⟨h2_1_0, h2_1_1, h2_1_2⟩, ⟨h2_2_0, h2_2_1, h2_2_2⟩, ⟨h2_3_0, h2_3_1⟩, ⟨h2_4_0, h2_4_1⟩, ⟨h2_5_0, h2_5_1, h2_5_2⟩⟩ := h2
  obtain ⟨⟨h3_0_0, h3_0_1, h3_0_2, h3_0_3, h3_0_4, h3_0_5⟩, h3_1_0, h3_2_0, ⟨h3_3_0, h3_3_1, h3_3_2⟩, ⟨h3_4_0, h3_4_1, h3_4_2⟩⟩ := h3
  obtain ⟨⟨h4_0_0, h4_0_1, h4_0_2, h4_0_3, h4_0_4⟩, ⟨h4_1_0, h4_1_1, h4_1_2⟩, ⟨h4_2_0, h4_2_1, h4_2_2⟩, ⟨h4_3_0, h4_3_1, h4_3_2⟩⟩ := h4
  obtain ⟨⟨h0_0_0, h0_0_1, h0_0_2, h0_0_3, h0_0_4, h0_0_5, h0_0_6, h0_0_7⟩, ⟨h0_1_0, h0_1_1, h0_1_2⟩, ⟨h0_2_0, h0_2_1, h0_2_2⟩, h0_3_0, ⟨h0_4_0, h0_4_1, h0_4_2⟩, h0_5_0⟩ := h0
  obtain ⟨⟨h5_0_0, h5_0_1, h5_0_2, h5_0_3, h5_0_4, h5_0_5, h5_0_6, h5_0_7, h5_0_8, h5_0_9, h5_0_10⟩, ⟨h5_1_0, h5_1_1⟩, h5_2_0, h5_3_0, h5_4_0, h5_5_0, h5_6_0, ⟨h5_7_0, h5_7_1, h5_7_2⟩, ⟨h5_8_0, h5_8_1, h5_8_2⟩⟩ := h5
  obtain ⟨⟨h9_0_0, h9_0_1, h9_0_2, h9_0_3, h9_0_4, h9_0_5, h9_0_6⟩, ⟨h9_1_0, h9_1_1, h9_1_2⟩, ⟨h9_2_0, h9_2_1, h9_2_2⟩, h9_3_0⟩ := h9
  refine ⟨fun x hx => ?_, fun x hx => ?_, fun x hx => ?_⟩
  · simp only [stK, List.mem_cons, List.not_mem_nil, or_false] at hx
    rcases hx with rfl | rfl | rfl | rfl | rfl | rfl | rfl | rfl | rfl | rfl | rfl | rfl | rfl | rfl | rfl | rfl | rfl | rfl | rfl | rfl | rfl | rfl | rfl | rfl | rfl | rfl | rfl | rfl | rfl | rfl | rfl | rfl | rfl | rfl | rfl | rfl | rfl | rfl | rfl | rfl | rfl | rfl | rfl | rfl | rfl | rfl | rfl | rfl | rfl | rfl
    · exact ⟨(hq).1, (hq).2.1⟩
    · exact ⟨(h2_0_0).1, (h2_0_0).2.1⟩
    · exact ⟨(h3_0_0).1, (h3_0_0).2.1⟩
    · exact ⟨(h4_0_0).1, (h4_0_0).2.1⟩
    · exact ⟨(h0_0_0).1, (h0_0_0).2.1⟩
    · exact ⟨(h5_0_0).1, (h5_0_0).2.1⟩
    · exact ⟨(h9_0_0).1, (h9_0_0).2.1⟩
    · exact ⟨(h2_1_0).1, (h2_1_0).2.1⟩
    · exact ⟨(h2_2_0).1, (h2_2_0).2.1⟩
    · exact ⟨(h11).1, (h11).2.1⟩
    · exact ⟨(h2_5_0).1, (h2_5_0).2.1⟩
    · exact ⟨(h3_3_0).1, (h3_3_0).2.1⟩
    · exact ⟨(h3_4_0).1, (h3_4_0).2.1⟩
    · exact ⟨(h4_1_0).1, (h4_1_0).2.1⟩
    · exact ⟨(h4_2_0).1, (h4_2_0).2.1⟩
    · exact ⟨(h4_3_0).1, (h4_3_0).2.1⟩
    · exact ⟨(h0_1_0).1, (h0_1_0).2.1⟩
    · exact ⟨(h0_2_0).1, (h0_2_0).2.1⟩
    · exact ⟨(h0_4_0).1, (h0_4_0).2.1⟩
    · exact ⟨(h5_7_0).1, (h5_7_0).2.1⟩
    · exact ⟨(h5_8_0).1, (h5_8_0).2.1⟩
    · exact ⟨(h9_1_0).1, (h9_1_0).2.1⟩
    · exact ⟨(h9_2_0).1, (h9_2_0).2.1⟩
    · exact ⟨((h8 0 (by decide)).2.1).1, ((h8 0 (by decide)).2.1).2.1⟩
    · exact ⟨((h8 1 (by decide)).2.1).1, ((h8 1 (by decide)).2.1).2.1⟩
    · exact ⟨((h8 2 (by decide)).2.1).1, ((h8 2 (by decide)).2.1).2.1⟩
    · exact ⟨((h8 3 (by decide)).2.1).1, ((h8 3 (by decide)).2.1).2.1⟩
    · exact ⟨((h8 4 (by decide)).2.1).1, ((h8 4 (by decide)).2.1).2.1⟩
    · exact ⟨((h8 5 (by decide)).2.1).1, ((h8 5 (by decide)).2.1).2.1⟩
    · exact ⟨((h8 6 (by decide)).2.1).1, ((h8 6 (by decide)).2.1).2.1⟩
    · exact ⟨(h2_4_0).1, (h2_4_0).2.1⟩
    · exact ⟨(h3_1_0).1, (h3_1_0).2.1⟩
    · exact ⟨(h3_2_0).1, (h3_2_0).2.1⟩
    · exact ⟨(h0_3_0).1, (h0_3_0).2.1⟩
    · exact ⟨(h0_5_0).1, (h0_5_0).2.1⟩
    · exact ⟨(h5_1_0).1, (h5_1_0).2.1⟩
    · exact ⟨(h5_2_0).1, (h5_2_0).2.1⟩
    · exact ⟨(h5_3_0).1, (h5_3_0).2.1⟩
    · exact ⟨(h5_4_0).1, (h5_4_0).2.1⟩
    · exact ⟨(h5_5_0).1, (h5_5_0).2.1⟩
    · exact ⟨(h5_6_0).1, (h5_6_0).2.1⟩
    · exact ⟨(h9_3_0).1, (h9_3_0).2.1⟩
    · exact ⟨(h2_3_0).1, (h2_3_0).2.1⟩
    · exact ⟨((h8 0 (by decide)).1.1).1, ((h8 0 (by decide)).1.1).2.1⟩
    · exact ⟨((h8 1 (by decide)).1.1).1, ((h8 1 (by decide)).1.1).2.1⟩
    · exact ⟨((h8 2 (by decide)).1.1).1, ((h8 2 (by decide)).1.1).2.1⟩
    · exact ⟨((h8 3 (by decide)).1.1).1, ((h8 3 (by decide)).1.1).2.1⟩
    · exact ⟨((h8 4 (by decide)).1.1).1, ((h8 4 (by decide)).1.1).2.1⟩
    · exact ⟨((h8 5 (by decide)).1.1).1, ((h8 5 (by decide)).1.1).2.1⟩
    · exact ⟨((h8 6 (by decide)).1.1).1, ((h8 6 (by decide)).1.1).2.1⟩
  · simp only [stR, List.mem_cons, List.not_mem_nil, or_false] at hx
    rcases hx with rfl | rfl | rfl | rfl | rfl | rfl | rfl | rfl | rfl | rfl | rfl | rfl | rfl | rfl | rfl | rfl | rfl | rfl | rfl | rfl | rfl | rfl | rfl | rfl | rfl | rfl | rfl | rfl | rfl | rfl | rfl | rfl | rfl | rfl | rfl | rfl | rfl | rfl | rfl | rfl | rfl | rfl | rfl | rfl | rfl | rfl | rfl | rfl | rfl | rfl
    · exact p0
    · exact p1
    · exact p2
    · exact p3
    · exact p4
    · exact p5
    · exact h2_0_9
    · exact h2_0_10
    · exact h2_0_11
    · exact h2_0_12
    · exact h2_0_13
    · exact h2_0_14
    · exact h3_0_1
    · exact h3_0_2
    · exact h3_0_3
    · exact h3_0_4
    · exact h3_0_5
    · exact h4_0_1
    · exact h4_0_2
    · exact h4_0_3
    · exact h4_0_4
    · exact h0_0_1
    · exact h0_0_2
    · exact h0_0_3
    · exact h0_0_4
    · exact h0_0_5
    · exact h0_0_6
    · exact h0_0_7
    · exact h5_0_2
    · exact h5_0_3
    · exact h5_0_4
    · exact h5_0_5
    · exact h5_0_6
    · exact h5_0_7
    · exact h5_0_8
    · exact h5_0_9
    · exact h5_0_10
    · exact h9_0_1
    · exact h9_0_2
    · exact h9_0_3
    · exact h9_0_4
    · exact h9_0_5
    · exact h9_0_6
    · exact (h8 0 (by decide)).1.2.2.2.2.2
    · exact (h8 1 (by decide)).1.2.2.2.2.2
    · exact (h8 2 (by decide)).1.2.2.2.2.2
    · exact (h8 3 (by decide)).1.2.2.2.2.2
    · exact (h8 4 (by decide)).1.2.2.2.2.2
    · exact (h8 5 (by decide)).1.2.2.2.2.2
    · exact (h8 6 (by decide)).1.2.2.2.2.2
  · simp only [stN, List.mem_cons, List.not_mem_nil, or_false] at hx
    rcases hx with rfl | rfl | rfl | rfl | rfl | rfl | rfl | rfl | rfl | rfl | rfl | rfl | rfl
    · exact (h2_4_0).2.2
    · exact (h3_1_0).2.2
    · exact (h3_2_0).2.2
    · exact (h0_3_0).2.2
    · exact (h0_5_0).2.2
    · exact (h5_1_0).2.2
    · exact (h5_2_0).2.2
    · exact (h5_3_0).2.2
    · exact (h5_4_0).2.2
    · exact (h5_5_0).2.2
    · exact (h5_6_0).2.2
    · exact (h9_3_0).2.2
    · exact (h2_3_0).2.2

theorem kZ_mk {e0 : Nat × Nat} {S : kS} {q ac ab ad aa ae aw a7 a10 a11 a12 a13 a14 a15 a16 a17 a18 a19 a20 a21 a22 a23 a24 a40 a41 a42 a43 a44 a45 a46 a47 a48 a49 a50 a51 a52 c : Nat} {f g : Nat → Nat} (hq : kOj S q 11 0 0) (p0 : S.R q 0 = some ac) (p1 : S.R q 1 = some ab) (p2 : S.R q 2 = some ad) (p3 : S.R q 3 = some aa) (p4 : S.R q 4 = some ae) (p5 : S.R q 5 = some aw) (h2 : kB2 e0 S ac a7 a10 a11 a52 a40 a12) (h3 : kB3 e0 S ab ac a41 a42 a13 a14) (h4 : kB4 e0 S ad ac a15 a16 a17) (h0 : kB0 e0 S aa ac ad a18 a19 a43 a20 a44) (h5 : kB5 e0 S ae ac a45 a46 a47 a48 a49 a50 a21 a22) (h9 : kB9 e0 S aw ac aa ad a23 a24 a51) (h11 : kOj S a11 12 11 0) (hl : kLc e0 S a11 8 7 f c) (h8 : ∀ k, k < 7 → kB8 e0 S (f k) (g k) k) : kZ e0 (kAd [(0, q), (1, ac), (2, ab), (3, ad), (4, aa), (5, ae), (6, aw), (7, a7), (10, a10), (11, a11), (12, a12), (13, a13), (14, a14), (15, a15), (16, a16), (17, a17), (18, a18), (19, a19), (20, a20), (21, a21), (22, a22), (23, a23), (24, a24), (40, a40), (41, a41), (42, a42), (43, a43), (44, a44), (45, a45), (46, a46), (47, a47), (48, a48), (49, a49), (50, a50), (51, a51), (52, a52)] f g) 0 (fun _ => 0) S := by
  have hst := kSt_mk hq p0 p1 p2 p3 p4 p5 h2 h3 h4 h0 h5 h9 h11 hl h8
  obtain ⟨⟨h2_0_0, h2_0_1, h2_0_2, h2_0_3, h2_0_4, h2_0_5, h2_0_6, h2_0_7, h2_0_8, h2_0_9, h2_0_10, h2_0_11, h2_0_12, h2_0_13, h2_0_14⟩, ⟨h2_1_0, h2_1_1, h2_1_2⟩, ⟨h2_2_0, h2_2_1, h2_2_2⟩, ⟨h2_3_0, h2_3_1⟩, ⟨h2_4_0, h2_4_1⟩, ⟨h2_5_0, h2_5_1, h2_5_2⟩⟩ := h2
  obtain ⟨⟨h3_0_0, h3_0_1, h3_0_2, h3_0_3, h3_0_4, h3_0_5⟩, h3_1_0, h3_2_0, ⟨h3_3_0, h3_3_1, h3_3_2⟩, ⟨h3_4_0, h3_4_1, h3_4_2⟩⟩ := h3
  obtain ⟨⟨h4_0_0, h4_0_1, h4_0_2, h4_0_3, h4_0_4⟩, ⟨h4_1_0, h4_1_1, h4_1_2⟩, ⟨h4_2_0, h4_2_1, h4_2_2⟩, ⟨h4_3_0, h4_3_1, h4_3_2⟩⟩ := h4
  obtain ⟨⟨h0_0_0, h0_0_1, h0_0_2, h0_0_3, h0_0_4, h0_0_5, h0_0_6, h0_0_7⟩, ⟨h0_1_0, h0_1_1, h0_1_2⟩, ⟨h0_2_0, h0_2_1, h0_2_2⟩, h0_3_0, ⟨h0_4_0, h0_4_1, h0_4_2⟩, h0_5_0⟩ := h0
  obtain ⟨⟨h5_0_0, h5_0_1, h5_0_2, h5_0_3, h5_0_4, h5_0_5, h5_0_6, h5_0_7, h5_0_8, h5_0_9, h5_0_10⟩, ⟨h5_1_0, h5_1_1⟩, h5_2_0, h5_3_0, h5_4_0, h5_5_0, h5_6_0, ⟨h5_7_0, h5_7_1, h5_7_2⟩, ⟨h5_8_0, h5_8_1, h5_8_2⟩⟩ := h5
  obtain ⟨⟨h9_0_0, h9_0_1, h9_0_2, h9_0_3, h9_0_4, h9_0_5, h9_0_6⟩, ⟨h9_1_0, h9_1_1, h9_1_2⟩, ⟨h9_2_0, h9_2_1, h9_2_2⟩, h9_3_0⟩ := h9
  have hof : ∀ k, k < 7 → kof (kAd [(0, q), (1, ac), (2, ab), (3, ad), (4, aa), (5, ae), (6, aw), (7, a7), (10, a10), (11, a11), (12, a12), (13, a13), (14, a14), (15, a15), (16, a16), (17, a17), (18, a18), (19, a19), (20, a20), (21, a21), (22, a22), (23, a23), (24, a24), (40, a40), (41, a41), (42, a42), (43, a43), (44, a44), (45, a45), (46, a46), (47, a47), (48, a48), (49, a49), (50, a50), (51, a51), (52, a52)] f g) k = f k := fun k hk => kAd_f hk
  refine ⟨hst, ⟨0, kLc_0 h2_2_0.1 h2_2_1 h2_2_2⟩, ?_, fun r hr => ?_, ⟨kEm_s h0_1_0 h0_1_1 h0_1_2, kEm_s h0_2_0 h0_2_1 h0_2_2⟩, kEm_s h4_1_0 h4_1_1 h4_1_2, fun t ht => absurd ht (by omega), fun t t' ht => absurd ht (by omega), fun k hk => ?_, ⟨h2_0_1, h2_0_2, h2_0_3, h2_0_4, h2_0_5, h2_0_6, h2_0_7, h2_0_8⟩, ⟨h2_1_1, h2_1_2⟩, h2_3_1, h2_4_1, h5_0_1, h5_1_1⟩
  · obtain ⟨l1, l2, b, l3, l4⟩ := hl.s
    refine ⟨l1, l2, b, l3, ?_⟩
    rcases l4 with ⟨-, z⟩ | ⟨b1, b2, b3, b4, b5⟩
    · omega
    · exact Or.inr ⟨b1, b2, b3, b4, fun i hi => by rw [hof i hi]; exact b5 i hi⟩
  · unfold clR at hr
    rcases (show r = 12 ∨ r = 13 ∨ r = 14 ∨ r = 16 ∨ r = 17 ∨ r = 20 ∨ r = 21 ∨ r = 22 ∨ r = 23 ∨ r = 24 ∨ r = 25 ∨ r = 26 ∨ r = 27 ∨ r = 28 ∨ r = 29 ∨ r = 30 ∨ r = 31 by omega) with rfl | rfl | rfl | rfl | rfl | rfl | rfl | rfl | rfl | rfl | rfl | rfl | rfl | rfl | rfl | rfl | rfl
    · exact kEm_s h2_5_0 h2_5_1 h2_5_2
    · exact kEm_s h3_3_0 h3_3_1 h3_3_2
    · exact kEm_s h3_4_0 h3_4_1 h3_4_2
    · exact kEm_s h4_2_0 h4_2_1 h4_2_2
    · exact kEm_s h4_3_0 h4_3_1 h4_3_2
    · exact kEm_s h0_4_0 h0_4_1 h0_4_2
    · exact kEm_s h5_7_0 h5_7_1 h5_7_2
    · exact kEm_s h5_8_0 h5_8_1 h5_8_2
    · exact kEm_s h9_1_0 h9_1_1 h9_1_2
    · exact kEm_s h9_2_0 h9_2_1 h9_2_2
    · exact kEm_s (h8 0 (by decide)).2.1 (h8 0 (by decide)).2.2.1 (h8 0 (by decide)).2.2.2
    · exact kEm_s (h8 1 (by decide)).2.1 (h8 1 (by decide)).2.2.1 (h8 1 (by decide)).2.2.2
    · exact kEm_s (h8 2 (by decide)).2.1 (h8 2 (by decide)).2.2.1 (h8 2 (by decide)).2.2.2
    · exact kEm_s (h8 3 (by decide)).2.1 (h8 3 (by decide)).2.2.1 (h8 3 (by decide)).2.2.2
    · exact kEm_s (h8 4 (by decide)).2.1 (h8 4 (by decide)).2.2.1 (h8 4 (by decide)).2.2.2
    · exact kEm_s (h8 5 (by decide)).2.1 (h8 5 (by decide)).2.2.1 (h8 5 (by decide)).2.2.2
    · exact kEm_s (h8 6 (by decide)).2.1 (h8 6 (by decide)).2.2.1 (h8 6 (by decide)).2.2.2
  · rw [hof k hk]
    exact ⟨(h8 k hk).1.2.1, (h8 k hk).1.2.2.1, (h8 k hk).1.2.2.2.1, (h8 k hk).1.2.2.2.2.1⟩
set_option maxHeartbeats 1000000 in
set_option maxRecDepth 20000 in
theorem c_X11_init (l : Launch) (e0 : Nat × Nat) (S : kS) (q : Nat) (hq : kOj S q 11 0 0) (hO : ∀ z, z ∈ S.L → S.O z = 0) : kM l e0 yX11_init cX11_init 1 none ({ frames := 8, cells := 56, slots := 763, locals := 212 } : Room) 56 763 [.ref q] S (kQv (fun S9 => ∃ A : Nat → Nat, A 0 = q ∧ kZ e0 A 0 (fun _ => 0) S9)) := by
  refine kMetE (by decide +kernel) (Nat.le_of_ble_eq_true rfl) (fun C he hl X E hm => ?_)
  have X : kX C RX11 cX11_init 1 ({ frames := 8, cells := 56, slots := 763, locals := 212 } : Room) := X
  subst he hl
  show kG C 1 S 0 0 0 [(0, .ref q)] []
  refine k_aload_n X (q := 0) dX11_init_0 rfl rfl ?_
  refine k_objInit X qmX11_1 (Nat.le_of_ble_eq_true rfl) (Nat.le_of_ble_eq_true rfl) dX11_init_1 ?_
  refine k_aload_n X (q := 0) dX11_init_4 rfl rfl ?_
  refine nX11_7 X 1 (Nat.le_of_ble_eq_true rfl) (Nat.le_of_ble_eq_true rfl) dX11_init_5 (fun a_5_1 fa_5_1 => ?_)
  have hqa_1 : kOj (S.nw a_5_1 2 1 0) a_5_1 2 1 0 := ⟨nw_self (S := S) (κ := 2) (ρ := 1) (n := 0), nw_Oq (S := S) (κ := 2) (ρ := 1) (n := 0), nw_Nq (S := S) (κ := 2) (ρ := 1) (n := 0)⟩
  have hN_1 : kFr S (S.nw a_5_1 2 1 0) (fun _ => False) := (kFr.rf S _).nw fa_5_1
  have hqn_1 := hq.fr hN_1
  refine k_dup X dX11_init_8 rfl ?_
  refine k_gotV X (vX11_9 X (S := (S.nw a_5_1 2 1 0)) (c_X2_init C.l C.e0 (S.nw a_5_1 2 1 0) a_5_1  hqa_1 (fun z hz => by rcases nwL'.mp hz with e | e; rw [hN_1.1 z e |>.2.2.1, hO z e]; omega; rw [e, hqa_1.2.1]; omega)) (As := []) (rest := [.ref a_5_1, .ref q]) rfl rfl rfl rfl ⟨Nat.le_of_ble_eq_true rfl, Nat.le_of_ble_eq_true rfl⟩ (Nat.le_of_ble_eq_true rfl) ⟨Nat.le_of_ble_eq_true rfl, Nat.le_of_ble_eq_true rfl⟩ dX11_init_9) (fun S_9_3 h_9_1 => ?_)
  obtain ⟨a7, a10, a11, a52, a40, a12, f, g, c, hfr_1, hb_1, h11_1, hl_1, h8_1⟩ := h_9_1
  have hqv_1 : kOj S_9_3 q 11 0 0 := hqn_1.fr hfr_1
  have hneq_1 : ¬ q = a_5_1 := fun e => fa_5_1 (by rw [← e]; exact hq.1.1)
  have hUV_1 : kFr S S_9_3 (fun z => S.O z = 0) := (hN_1.mono (fun b hb z => absurd z id)).trX hfr_1 (fun z hz e => absurd hz (by rw [e]; exact fa_5_1))
  refine pX11_10 X (S := S_9_3) hqv_1.1.1 hqv_1.1.2 hm (r := (some a_5_1)) dX11_init_12 ?_
  have hVW_1 : kFr S_9_3 (S_9_3.uR q 0 (some a_5_1)) (fun z => S_9_3.O z = 0) := (kFr.rf S_9_3 _).uR (show S_9_3.O q = 0 from hqv_1.2.1)
  have hUW_1 : kFr S (S_9_3.uR q 0 (some a_5_1)) (fun z => S.O z = 0) := hUV_1.uR (show S.O q = 0 from hq.2.1)
  have hq_1 := hqv_1.fr hVW_1
  have h2_1 := hb_1.fr (Pr := fun ρ => ρ = 0) hVW_1 (by decide) (by decide) (by decide) (by decide) (by decide) (by decide)
  have k11_1 := h11_1.fr hVW_1
  have kl_1 := hl_1.fr hVW_1 (fun b hb z e => by rcases z with z | z <;> (have h5 := h11_1.2.1; rw [h5] at z; have h6 : S_9_3.O b = 0 := e; omega))
  have k8_1 : ∀ k, k < 7 → kB8 C.e0 (S_9_3.uR q 0 (some a_5_1)) (f k) (g k) k := fun k hk => (h8_1 k hk).fr (Pr := fun ρ => ρ = 0) hVW_1 (fun z => by omega) (fun z => by omega)
  have hp_1_0 : (S_9_3.uR q 0 (some a_5_1)).R q 0 = some a_5_1 := by rw [uR_R, if_pos ⟨rfl, rfl⟩]
  refine k_aload_n X (q := 0) dX11_init_15 rfl rfl ?_
  refine nX11_16 X 2 (Nat.le_of_ble_eq_true rfl) (Nat.le_of_ble_eq_true rfl) dX11_init_16 (fun a_16_4 fa_16_4 => ?_)
  have hqa_2 : kOj ((S_9_3.uR q 0 (some a_5_1)).nw a_16_4 3 2 0) a_16_4 3 2 0 := ⟨nw_self (S := (S_9_3.uR q 0 (some a_5_1))) (κ := 3) (ρ := 2) (n := 0), nw_Oq (S := (S_9_3.uR q 0 (some a_5_1))) (κ := 3) (ρ := 2) (n := 0), nw_Nq (S := (S_9_3.uR q 0 (some a_5_1))) (κ := 3) (ρ := 2) (n := 0)⟩
  have hN_2 : kFr (S_9_3.uR q 0 (some a_5_1)) ((S_9_3.uR q 0 (some a_5_1)).nw a_16_4 3 2 0) (fun _ => False) := (kFr.rf (S_9_3.uR q 0 (some a_5_1)) _).nw fa_16_4
  have hqn_2 := hq_1.fr hN_2
  have hpn_2_0 : ((S_9_3.uR q 0 (some a_5_1)).nw a_16_4 3 2 0).R q 0 = some a_5_1 := ((hN_2.2 q hq_1.1.1 (fun z => z)).2 0).trans hp_1_0
  refine k_dup X dX11_init_19 rfl ?_
  refine k_aload_n X (q := 0) dX11_init_20 rfl rfl ?_
  refine gX11_10s X (S := ((S_9_3.uR q 0 (some a_5_1)).nw a_16_4 3 2 0)) hqn_2.1.1 hqn_2.1.2 hpn_2_0 dX11_init_21 ?_
  refine k_gotV X (vX11_18 X (S := ((S_9_3.uR q 0 (some a_5_1)).nw a_16_4 3 2 0)) (c_X3_init C.l C.e0 ((S_9_3.uR q 0 (some a_5_1)).nw a_16_4 3 2 0) a_16_4 a_5_1 hqa_2) (As := [.ref a_5_1]) (rest := [.ref a_16_4, .ref q]) rfl rfl rfl rfl ⟨Nat.le_of_ble_eq_true rfl, Nat.le_of_ble_eq_true rfl⟩ (Nat.le_of_ble_eq_true rfl) ⟨Nat.le_of_ble_eq_true rfl, Nat.le_of_ble_eq_true rfl⟩ dX11_init_24) (fun S_24_6 h_24_4 => ?_)
  obtain ⟨a41, a42, a13, a14, hfr_2, hb_2⟩ := h_24_4
  have hqv_2 : kOj S_24_6 q 11 0 0 := hqn_2.fr hfr_2
  have hneq_2 : ¬ q = a_16_4 := fun e => fa_16_4 (by rw [← e]; exact hq_1.1.1)
  have hUV_2 : kFr (S_9_3.uR q 0 (some a_5_1)) S_24_6 (fun z => (S_9_3.uR q 0 (some a_5_1)).O z = 0) := (hN_2.mono (fun b hb z => absurd z id)).trX hfr_2 (fun z hz e => absurd hz (by rw [e]; exact fa_16_4))
  have hpv_2_0 : S_24_6.R q 0 = some a_5_1 := ((hfr_2.2 q hqn_2.1.1 hneq_2).2 0).trans hpn_2_0
  refine pX11_21 X (S := S_24_6) hqv_2.1.1 hqv_2.1.2 hm (r := (some a_16_4)) dX11_init_27 ?_
  have hVW_2 : kFr S_24_6 (S_24_6.uR q 1 (some a_16_4)) (fun z => S_24_6.O z = 0) := (kFr.rf S_24_6 _).uR (show S_24_6.O q = 0 from hqv_2.2.1)
  have hUW_2 : kFr (S_9_3.uR q 0 (some a_5_1)) (S_24_6.uR q 1 (some a_16_4)) (fun z => (S_9_3.uR q 0 (some a_5_1)).O z = 0) := hUV_2.uR (show (S_9_3.uR q 0 (some a_5_1)).O q = 0 from hq_1.2.1)
  have hq_2 := hqv_2.fr hVW_2
  have h2_2 := h2_1.fr (Pr := fun ρ => ρ = 0) hUW_2 (by decide) (by decide) (by decide) (by decide) (by decide) (by decide)
  have h3_2 := hb_2.fr (Pr := fun ρ => ρ = 0) hVW_2 (by decide) (by decide) (by decide) (by decide) (by decide)
  have k11_2 := k11_1.fr hUW_2
  have kl_2 := kl_1.fr hUW_2 (fun b hb z e => by rcases z with z | z <;> (have h5 := k11_1.2.1; rw [h5] at z; have h6 : (S_9_3.uR q 0 (some a_5_1)).O b = 0 := e; omega))
  have k8_2 : ∀ k, k < 7 → kB8 C.e0 (S_24_6.uR q 1 (some a_16_4)) (f k) (g k) k := fun k hk => (k8_1 k hk).fr (Pr := fun ρ => ρ = 0) hUW_2 (fun z => by omega) (fun z => by omega)
  have hp_2_0 : (S_24_6.uR q 1 (some a_16_4)).R q 0 = some a_5_1 := by rw [uR_R, if_neg (by omega)]; exact hpv_2_0
  have hp_2_1 : (S_24_6.uR q 1 (some a_16_4)).R q 1 = some a_16_4 := by rw [uR_R, if_pos ⟨rfl, rfl⟩]
  refine k_aload_n X (q := 0) dX11_init_30 rfl rfl ?_
  refine nX11_25 X 3 (Nat.le_of_ble_eq_true rfl) (Nat.le_of_ble_eq_true rfl) dX11_init_31 (fun a_31_7 fa_31_7 => ?_)
  have hqa_3 : kOj ((S_24_6.uR q 1 (some a_16_4)).nw a_31_7 4 3 0) a_31_7 4 3 0 := ⟨nw_self (S := (S_24_6.uR q 1 (some a_16_4))) (κ := 4) (ρ := 3) (n := 0), nw_Oq (S := (S_24_6.uR q 1 (some a_16_4))) (κ := 4) (ρ := 3) (n := 0), nw_Nq (S := (S_24_6.uR q 1 (some a_16_4))) (κ := 4) (ρ := 3) (n := 0)⟩
  have hN_3 : kFr (S_24_6.uR q 1 (some a_16_4)) ((S_24_6.uR q 1 (some a_16_4)).nw a_31_7 4 3 0) (fun _ => False) := (kFr.rf (S_24_6.uR q 1 (some a_16_4)) _).nw fa_31_7
  have hqn_3 := hq_2.fr hN_3
  have hpn_3_0 : ((S_24_6.uR q 1 (some a_16_4)).nw a_31_7 4 3 0).R q 0 = some a_5_1 := ((hN_3.2 q hq_2.1.1 (fun z => z)).2 0).trans hp_2_0
  have hpn_3_1 : ((S_24_6.uR q 1 (some a_16_4)).nw a_31_7 4 3 0).R q 1 = some a_16_4 := ((hN_3.2 q hq_2.1.1 (fun z => z)).2 1).trans hp_2_1
  refine k_dup X dX11_init_34 rfl ?_
  refine k_aload_n X (q := 0) dX11_init_35 rfl rfl ?_
  refine gX11_10s X (S := ((S_24_6.uR q 1 (some a_16_4)).nw a_31_7 4 3 0)) hqn_3.1.1 hqn_3.1.2 hpn_3_0 dX11_init_36 ?_
  refine k_gotV X (vX11_27 X (S := ((S_24_6.uR q 1 (some a_16_4)).nw a_31_7 4 3 0)) (c_X4_init C.l C.e0 ((S_24_6.uR q 1 (some a_16_4)).nw a_31_7 4 3 0) a_31_7 a_5_1 hqa_3) (As := [.ref a_5_1]) (rest := [.ref a_31_7, .ref q]) rfl rfl rfl rfl ⟨Nat.le_of_ble_eq_true rfl, Nat.le_of_ble_eq_true rfl⟩ (Nat.le_of_ble_eq_true rfl) ⟨Nat.le_of_ble_eq_true rfl, Nat.le_of_ble_eq_true rfl⟩ dX11_init_39) (fun S_39_9 h_39_7 => ?_)
  obtain ⟨a15, a16, a17, hfr_3, hb_3⟩ := h_39_7
  have hqv_3 : kOj S_39_9 q 11 0 0 := hqn_3.fr hfr_3
  have hneq_3 : ¬ q = a_31_7 := fun e => fa_31_7 (by rw [← e]; exact hq_2.1.1)
  have hUV_3 : kFr (S_24_6.uR q 1 (some a_16_4)) S_39_9 (fun z => (S_24_6.uR q 1 (some a_16_4)).O z = 0) := (hN_3.mono (fun b hb z => absurd z id)).trX hfr_3 (fun z hz e => absurd hz (by rw [e]; exact fa_31_7))
  have hpv_3_0 : S_39_9.R q 0 = some a_5_1 := ((hfr_3.2 q hqn_3.1.1 hneq_3).2 0).trans hpn_3_0
  have hpv_3_1 : S_39_9.R q 1 = some a_16_4 := ((hfr_3.2 q hqn_3.1.1 hneq_3).2 1).trans hpn_3_1
  refine pX11_28 X (S := S_39_9) hqv_3.1.1 hqv_3.1.2 hm (r := (some a_31_7)) dX11_init_42 ?_
  have hVW_3 : kFr S_39_9 (S_39_9.uR q 2 (some a_31_7)) (fun z => S_39_9.O z = 0) := (kFr.rf S_39_9 _).uR (show S_39_9.O q = 0 from hqv_3.2.1)
  have hUW_3 : kFr (S_24_6.uR q 1 (some a_16_4)) (S_39_9.uR q 2 (some a_31_7)) (fun z => (S_24_6.uR q 1 (some a_16_4)).O z = 0) := hUV_3.uR (show (S_24_6.uR q 1 (some a_16_4)).O q = 0 from hq_2.2.1)
  have hq_3 := hqv_3.fr hVW_3
  have h2_3 := h2_2.fr (Pr := fun ρ => ρ = 0) hUW_3 (by decide) (by decide) (by decide) (by decide) (by decide) (by decide)
  have h3_3 := h3_2.fr (Pr := fun ρ => ρ = 0) hUW_3 (by decide) (by decide) (by decide) (by decide) (by decide)
  have h4_3 := hb_3.fr (Pr := fun ρ => ρ = 0) hVW_3 (by decide) (by decide) (by decide) (by decide)
  have k11_3 := k11_2.fr hUW_3
  have kl_3 := kl_2.fr hUW_3 (fun b hb z e => by rcases z with z | z <;> (have h5 := k11_2.2.1; rw [h5] at z; have h6 : (S_24_6.uR q 1 (some a_16_4)).O b = 0 := e; omega))
  have k8_3 : ∀ k, k < 7 → kB8 C.e0 (S_39_9.uR q 2 (some a_31_7)) (f k) (g k) k := fun k hk => (k8_2 k hk).fr (Pr := fun ρ => ρ = 0) hUW_3 (fun z => by omega) (fun z => by omega)
  have hp_3_0 : (S_39_9.uR q 2 (some a_31_7)).R q 0 = some a_5_1 := by rw [uR_R, if_neg (by omega)]; exact hpv_3_0
  have hp_3_1 : (S_39_9.uR q 2 (some a_31_7)).R q 1 = some a_16_4 := by rw [uR_R, if_neg (by omega)]; exact hpv_3_1
  have hp_3_2 : (S_39_9.uR q 2 (some a_31_7)).R q 2 = some a_31_7 := by rw [uR_R, if_pos ⟨rfl, rfl⟩]
  refine k_aload_n X (q := 0) dX11_init_45 rfl rfl ?_
  refine nX11_32 X 4 (Nat.le_of_ble_eq_true rfl) (Nat.le_of_ble_eq_true rfl) dX11_init_46 (fun a_46_10 fa_46_10 => ?_)
  have hqa_4 : kOj ((S_39_9.uR q 2 (some a_31_7)).nw a_46_10 0 4 0) a_46_10 0 4 0 := ⟨nw_self (S := (S_39_9.uR q 2 (some a_31_7))) (κ := 0) (ρ := 4) (n := 0), nw_Oq (S := (S_39_9.uR q 2 (some a_31_7))) (κ := 0) (ρ := 4) (n := 0), nw_Nq (S := (S_39_9.uR q 2 (some a_31_7))) (κ := 0) (ρ := 4) (n := 0)⟩
  have hN_4 : kFr (S_39_9.uR q 2 (some a_31_7)) ((S_39_9.uR q 2 (some a_31_7)).nw a_46_10 0 4 0) (fun _ => False) := (kFr.rf (S_39_9.uR q 2 (some a_31_7)) _).nw fa_46_10
  have hqn_4 := hq_3.fr hN_4
  have hpn_4_0 : ((S_39_9.uR q 2 (some a_31_7)).nw a_46_10 0 4 0).R q 0 = some a_5_1 := ((hN_4.2 q hq_3.1.1 (fun z => z)).2 0).trans hp_3_0
  have hpn_4_1 : ((S_39_9.uR q 2 (some a_31_7)).nw a_46_10 0 4 0).R q 1 = some a_16_4 := ((hN_4.2 q hq_3.1.1 (fun z => z)).2 1).trans hp_3_1
  have hpn_4_2 : ((S_39_9.uR q 2 (some a_31_7)).nw a_46_10 0 4 0).R q 2 = some a_31_7 := ((hN_4.2 q hq_3.1.1 (fun z => z)).2 2).trans hp_3_2
  refine k_dup X dX11_init_49 rfl ?_
  refine k_aload_n X (q := 0) dX11_init_50 rfl rfl ?_
  refine gX11_10s X (S := ((S_39_9.uR q 2 (some a_31_7)).nw a_46_10 0 4 0)) hqn_4.1.1 hqn_4.1.2 hpn_4_0 dX11_init_51 ?_
  refine k_aload_n X (q := 0) dX11_init_54 rfl rfl ?_
  refine gX11_28s X (S := ((S_39_9.uR q 2 (some a_31_7)).nw a_46_10 0 4 0)) hqn_4.1.1 hqn_4.1.2 hpn_4_2 dX11_init_55 ?_
  refine k_gotV X (vX11_34 X (S := ((S_39_9.uR q 2 (some a_31_7)).nw a_46_10 0 4 0)) (c_X0_init C.l C.e0 ((S_39_9.uR q 2 (some a_31_7)).nw a_46_10 0 4 0) a_46_10 a_5_1 a_31_7 hqa_4) (As := [.ref a_5_1, .ref a_31_7]) (rest := [.ref a_46_10, .ref q]) rfl rfl rfl rfl ⟨Nat.le_of_ble_eq_true rfl, Nat.le_of_ble_eq_true rfl⟩ (Nat.le_of_ble_eq_true rfl) ⟨Nat.le_of_ble_eq_true rfl, Nat.le_of_ble_eq_true rfl⟩ dX11_init_58) (fun S_58_12 h_58_10 => ?_)
  obtain ⟨a18, a19, a43, a20, a44, hfr_4, hb_4⟩ := h_58_10
  have hqv_4 : kOj S_58_12 q 11 0 0 := hqn_4.fr hfr_4
  have hneq_4 : ¬ q = a_46_10 := fun e => fa_46_10 (by rw [← e]; exact hq_3.1.1)
  have hUV_4 : kFr (S_39_9.uR q 2 (some a_31_7)) S_58_12 (fun z => (S_39_9.uR q 2 (some a_31_7)).O z = 0) := (hN_4.mono (fun b hb z => absurd z id)).trX hfr_4 (fun z hz e => absurd hz (by rw [e]; exact fa_46_10))
  have hpv_4_0 : S_58_12.R q 0 = some a_5_1 := ((hfr_4.2 q hqn_4.1.1 hneq_4).2 0).trans hpn_4_0
  have hpv_4_1 : S_58_12.R q 1 = some a_16_4 := ((hfr_4.2 q hqn_4.1.1 hneq_4).2 1).trans hpn_4_1
  have hpv_4_2 : S_58_12.R q 2 = some a_31_7 := ((hfr_4.2 q hqn_4.1.1 hneq_4).2 2).trans hpn_4_2
  refine pX11_37 X (S := S_58_12) hqv_4.1.1 hqv_4.1.2 hm (r := (some a_46_10)) dX11_init_61 ?_
  have hVW_4 : kFr S_58_12 (S_58_12.uR q 3 (some a_46_10)) (fun z => S_58_12.O z = 0) := (kFr.rf S_58_12 _).uR (show S_58_12.O q = 0 from hqv_4.2.1)
  have hUW_4 : kFr (S_39_9.uR q 2 (some a_31_7)) (S_58_12.uR q 3 (some a_46_10)) (fun z => (S_39_9.uR q 2 (some a_31_7)).O z = 0) := hUV_4.uR (show (S_39_9.uR q 2 (some a_31_7)).O q = 0 from hq_3.2.1)
  have hq_4 := hqv_4.fr hVW_4
  have h2_4 := h2_3.fr (Pr := fun ρ => ρ = 0) hUW_4 (by decide) (by decide) (by decide) (by decide) (by decide) (by decide)
  have h3_4 := h3_3.fr (Pr := fun ρ => ρ = 0) hUW_4 (by decide) (by decide) (by decide) (by decide) (by decide)
  have h4_4 := h4_3.fr (Pr := fun ρ => ρ = 0) hUW_4 (by decide) (by decide) (by decide) (by decide)
  have h0_4 := hb_4.fr (Pr := fun ρ => ρ = 0) hVW_4 (by decide) (by decide) (by decide) (by decide) (by decide) (by decide)
  have k11_4 := k11_3.fr hUW_4
  have kl_4 := kl_3.fr hUW_4 (fun b hb z e => by rcases z with z | z <;> (have h5 := k11_3.2.1; rw [h5] at z; have h6 : (S_39_9.uR q 2 (some a_31_7)).O b = 0 := e; omega))
  have k8_4 : ∀ k, k < 7 → kB8 C.e0 (S_58_12.uR q 3 (some a_46_10)) (f k) (g k) k := fun k hk => (k8_3 k hk).fr (Pr := fun ρ => ρ = 0) hUW_4 (fun z => by omega) (fun z => by omega)
  have hp_4_0 : (S_58_12.uR q 3 (some a_46_10)).R q 0 = some a_5_1 := by rw [uR_R, if_neg (by omega)]; exact hpv_4_0
  have hp_4_1 : (S_58_12.uR q 3 (some a_46_10)).R q 1 = some a_16_4 := by rw [uR_R, if_neg (by omega)]; exact hpv_4_1
  have hp_4_2 : (S_58_12.uR q 3 (some a_46_10)).R q 2 = some a_31_7 := by rw [uR_R, if_neg (by omega)]; exact hpv_4_2
  have hp_4_3 : (S_58_12.uR q 3 (some a_46_10)).R q 3 = some a_46_10 := by rw [uR_R, if_pos ⟨rfl, rfl⟩]
  refine k_aload_n X (q := 0) dX11_init_64 rfl rfl ?_
  refine nX11_41 X 5 (Nat.le_of_ble_eq_true rfl) (Nat.le_of_ble_eq_true rfl) dX11_init_65 (fun a_65_13 fa_65_13 => ?_)
  have hqa_5 : kOj ((S_58_12.uR q 3 (some a_46_10)).nw a_65_13 5 5 0) a_65_13 5 5 0 := ⟨nw_self (S := (S_58_12.uR q 3 (some a_46_10))) (κ := 5) (ρ := 5) (n := 0), nw_Oq (S := (S_58_12.uR q 3 (some a_46_10))) (κ := 5) (ρ := 5) (n := 0), nw_Nq (S := (S_58_12.uR q 3 (some a_46_10))) (κ := 5) (ρ := 5) (n := 0)⟩
  have hN_5 : kFr (S_58_12.uR q 3 (some a_46_10)) ((S_58_12.uR q 3 (some a_46_10)).nw a_65_13 5 5 0) (fun _ => False) := (kFr.rf (S_58_12.uR q 3 (some a_46_10)) _).nw fa_65_13
  have hqn_5 := hq_4.fr hN_5
  have hpn_5_0 : ((S_58_12.uR q 3 (some a_46_10)).nw a_65_13 5 5 0).R q 0 = some a_5_1 := ((hN_5.2 q hq_4.1.1 (fun z => z)).2 0).trans hp_4_0
  have hpn_5_1 : ((S_58_12.uR q 3 (some a_46_10)).nw a_65_13 5 5 0).R q 1 = some a_16_4 := ((hN_5.2 q hq_4.1.1 (fun z => z)).2 1).trans hp_4_1
  have hpn_5_2 : ((S_58_12.uR q 3 (some a_46_10)).nw a_65_13 5 5 0).R q 2 = some a_31_7 := ((hN_5.2 q hq_4.1.1 (fun z => z)).2 2).trans hp_4_2
  have hpn_5_3 : ((S_58_12.uR q 3 (some a_46_10)).nw a_65_13 5 5 0).R q 3 = some a_46_10 := ((hN_5.2 q hq_4.1.1 (fun z => z)).2 3).trans hp_4_3
  refine k_dup X dX11_init_68 rfl ?_
  refine k_aload_n X (q := 0) dX11_init_69 rfl rfl ?_
  refine gX11_10s X (S := ((S_58_12.uR q 3 (some a_46_10)).nw a_65_13 5 5 0)) hqn_5.1.1 hqn_5.1.2 hpn_5_0 dX11_init_70 ?_
  refine k_gotV X (vX11_43 X (S := ((S_58_12.uR q 3 (some a_46_10)).nw a_65_13 5 5 0)) (c_X5_init C.l C.e0 ((S_58_12.uR q 3 (some a_46_10)).nw a_65_13 5 5 0) a_65_13 a_5_1 hqa_5) (As := [.ref a_5_1]) (rest := [.ref a_65_13, .ref q]) rfl rfl rfl rfl ⟨Nat.le_of_ble_eq_true rfl, Nat.le_of_ble_eq_true rfl⟩ (Nat.le_of_ble_eq_true rfl) ⟨Nat.le_of_ble_eq_true rfl, Nat.le_of_ble_eq_true rfl⟩ dX11_init_73) (fun S_73_15 h_73_13 => ?_)
  obtain ⟨a45, a46, a47, a48, a49, a50, a21, a22, hfr_5, hb_5⟩ := h_73_13
  have hqv_5 : kOj S_73_15 q 11 0 0 := hqn_5.fr hfr_5
  have hneq_5 : ¬ q = a_65_13 := fun e => fa_65_13 (by rw [← e]; exact hq_4.1.1)
  have hUV_5 : kFr (S_58_12.uR q 3 (some a_46_10)) S_73_15 (fun z => (S_58_12.uR q 3 (some a_46_10)).O z = 0) := (hN_5.mono (fun b hb z => absurd z id)).trX hfr_5 (fun z hz e => absurd hz (by rw [e]; exact fa_65_13))
  have hpv_5_0 : S_73_15.R q 0 = some a_5_1 := ((hfr_5.2 q hqn_5.1.1 hneq_5).2 0).trans hpn_5_0
  have hpv_5_1 : S_73_15.R q 1 = some a_16_4 := ((hfr_5.2 q hqn_5.1.1 hneq_5).2 1).trans hpn_5_1
  have hpv_5_2 : S_73_15.R q 2 = some a_31_7 := ((hfr_5.2 q hqn_5.1.1 hneq_5).2 2).trans hpn_5_2
  have hpv_5_3 : S_73_15.R q 3 = some a_46_10 := ((hfr_5.2 q hqn_5.1.1 hneq_5).2 3).trans hpn_5_3
  refine pX11_44 X (S := S_73_15) hqv_5.1.1 hqv_5.1.2 hm (r := (some a_65_13)) dX11_init_76 ?_
  have hVW_5 : kFr S_73_15 (S_73_15.uR q 4 (some a_65_13)) (fun z => S_73_15.O z = 0) := (kFr.rf S_73_15 _).uR (show S_73_15.O q = 0 from hqv_5.2.1)
  have hUW_5 : kFr (S_58_12.uR q 3 (some a_46_10)) (S_73_15.uR q 4 (some a_65_13)) (fun z => (S_58_12.uR q 3 (some a_46_10)).O z = 0) := hUV_5.uR (show (S_58_12.uR q 3 (some a_46_10)).O q = 0 from hq_4.2.1)
  have hq_5 := hqv_5.fr hVW_5
  have h2_5 := h2_4.fr (Pr := fun ρ => ρ = 0) hUW_5 (by decide) (by decide) (by decide) (by decide) (by decide) (by decide)
  have h3_5 := h3_4.fr (Pr := fun ρ => ρ = 0) hUW_5 (by decide) (by decide) (by decide) (by decide) (by decide)
  have h4_5 := h4_4.fr (Pr := fun ρ => ρ = 0) hUW_5 (by decide) (by decide) (by decide) (by decide)
  have h0_5 := h0_4.fr (Pr := fun ρ => ρ = 0) hUW_5 (by decide) (by decide) (by decide) (by decide) (by decide) (by decide)
  have h5_5 := hb_5.fr (Pr := fun ρ => ρ = 0) hVW_5 (by decide) (by decide) (by decide) (by decide) (by decide) (by decide) (by decide) (by decide) (by decide)
  have k11_5 := k11_4.fr hUW_5
  have kl_5 := kl_4.fr hUW_5 (fun b hb z e => by rcases z with z | z <;> (have h5 := k11_4.2.1; rw [h5] at z; have h6 : (S_58_12.uR q 3 (some a_46_10)).O b = 0 := e; omega))
  have k8_5 : ∀ k, k < 7 → kB8 C.e0 (S_73_15.uR q 4 (some a_65_13)) (f k) (g k) k := fun k hk => (k8_4 k hk).fr (Pr := fun ρ => ρ = 0) hUW_5 (fun z => by omega) (fun z => by omega)
  have hp_5_0 : (S_73_15.uR q 4 (some a_65_13)).R q 0 = some a_5_1 := by rw [uR_R, if_neg (by omega)]; exact hpv_5_0
  have hp_5_1 : (S_73_15.uR q 4 (some a_65_13)).R q 1 = some a_16_4 := by rw [uR_R, if_neg (by omega)]; exact hpv_5_1
  have hp_5_2 : (S_73_15.uR q 4 (some a_65_13)).R q 2 = some a_31_7 := by rw [uR_R, if_neg (by omega)]; exact hpv_5_2
  have hp_5_3 : (S_73_15.uR q 4 (some a_65_13)).R q 3 = some a_46_10 := by rw [uR_R, if_neg (by omega)]; exact hpv_5_3
  have hp_5_4 : (S_73_15.uR q 4 (some a_65_13)).R q 4 = some a_65_13 := by rw [uR_R, if_pos ⟨rfl, rfl⟩]
  refine k_aload_n X (q := 0) dX11_init_79 rfl rfl ?_
  refine nX11_48 X 6 (Nat.le_of_ble_eq_true rfl) (Nat.le_of_ble_eq_true rfl) dX11_init_80 (fun a_80_16 fa_80_16 => ?_)
  have hqa_6 : kOj ((S_73_15.uR q 4 (some a_65_13)).nw a_80_16 9 6 0) a_80_16 9 6 0 := ⟨nw_self (S := (S_73_15.uR q 4 (some a_65_13))) (κ := 9) (ρ := 6) (n := 0), nw_Oq (S := (S_73_15.uR q 4 (some a_65_13))) (κ := 9) (ρ := 6) (n := 0), nw_Nq (S := (S_73_15.uR q 4 (some a_65_13))) (κ := 9) (ρ := 6) (n := 0)⟩
  have hN_6 : kFr (S_73_15.uR q 4 (some a_65_13)) ((S_73_15.uR q 4 (some a_65_13)).nw a_80_16 9 6 0) (fun _ => False) := (kFr.rf (S_73_15.uR q 4 (some a_65_13)) _).nw fa_80_16
  have hqn_6 := hq_5.fr hN_6
  have hpn_6_0 : ((S_73_15.uR q 4 (some a_65_13)).nw a_80_16 9 6 0).R q 0 = some a_5_1 := ((hN_6.2 q hq_5.1.1 (fun z => z)).2 0).trans hp_5_0
  have hpn_6_1 : ((S_73_15.uR q 4 (some a_65_13)).nw a_80_16 9 6 0).R q 1 = some a_16_4 := ((hN_6.2 q hq_5.1.1 (fun z => z)).2 1).trans hp_5_1
  have hpn_6_2 : ((S_73_15.uR q 4 (some a_65_13)).nw a_80_16 9 6 0).R q 2 = some a_31_7 := ((hN_6.2 q hq_5.1.1 (fun z => z)).2 2).trans hp_5_2
  have hpn_6_3 : ((S_73_15.uR q 4 (some a_65_13)).nw a_80_16 9 6 0).R q 3 = some a_46_10 := ((hN_6.2 q hq_5.1.1 (fun z => z)).2 3).trans hp_5_3
  have hpn_6_4 : ((S_73_15.uR q 4 (some a_65_13)).nw a_80_16 9 6 0).R q 4 = some a_65_13 := ((hN_6.2 q hq_5.1.1 (fun z => z)).2 4).trans hp_5_4
  refine k_dup X dX11_init_83 rfl ?_
  refine k_aload_n X (q := 0) dX11_init_84 rfl rfl ?_
  refine gX11_10s X (S := ((S_73_15.uR q 4 (some a_65_13)).nw a_80_16 9 6 0)) hqn_6.1.1 hqn_6.1.2 hpn_6_0 dX11_init_85 ?_
  refine k_aload_n X (q := 0) dX11_init_88 rfl rfl ?_
  refine gX11_37s X (S := ((S_73_15.uR q 4 (some a_65_13)).nw a_80_16 9 6 0)) hqn_6.1.1 hqn_6.1.2 hpn_6_3 dX11_init_89 ?_
  refine k_aload_n X (q := 0) dX11_init_92 rfl rfl ?_
  refine gX11_28s X (S := ((S_73_15.uR q 4 (some a_65_13)).nw a_80_16 9 6 0)) hqn_6.1.1 hqn_6.1.2 hpn_6_2 dX11_init_93 ?_
  refine k_gotV X (vX11_50 X (S := ((S_73_15.uR q 4 (some a_65_13)).nw a_80_16 9 6 0)) (c_X9_init C.l C.e0 ((S_73_15.uR q 4 (some a_65_13)).nw a_80_16 9 6 0) a_80_16 a_5_1 a_46_10 a_31_7 hqa_6) (As := [.ref a_5_1, .ref a_46_10, .ref a_31_7]) (rest := [.ref a_80_16, .ref q]) rfl rfl rfl rfl ⟨Nat.le_of_ble_eq_true rfl, Nat.le_of_ble_eq_true rfl⟩ (Nat.le_of_ble_eq_true rfl) ⟨Nat.le_of_ble_eq_true rfl, Nat.le_of_ble_eq_true rfl⟩ dX11_init_96) (fun S_96_18 h_96_16 => ?_)
  obtain ⟨a23, a24, a51, hfr_6, hb_6⟩ := h_96_16
  have hqv_6 : kOj S_96_18 q 11 0 0 := hqn_6.fr hfr_6
  have hneq_6 : ¬ q = a_80_16 := fun e => fa_80_16 (by rw [← e]; exact hq_5.1.1)
  have hUV_6 : kFr (S_73_15.uR q 4 (some a_65_13)) S_96_18 (fun z => (S_73_15.uR q 4 (some a_65_13)).O z = 0) := (hN_6.mono (fun b hb z => absurd z id)).trX hfr_6 (fun z hz e => absurd hz (by rw [e]; exact fa_80_16))
  have hpv_6_0 : S_96_18.R q 0 = some a_5_1 := ((hfr_6.2 q hqn_6.1.1 hneq_6).2 0).trans hpn_6_0
  have hpv_6_1 : S_96_18.R q 1 = some a_16_4 := ((hfr_6.2 q hqn_6.1.1 hneq_6).2 1).trans hpn_6_1
  have hpv_6_2 : S_96_18.R q 2 = some a_31_7 := ((hfr_6.2 q hqn_6.1.1 hneq_6).2 2).trans hpn_6_2
  have hpv_6_3 : S_96_18.R q 3 = some a_46_10 := ((hfr_6.2 q hqn_6.1.1 hneq_6).2 3).trans hpn_6_3
  have hpv_6_4 : S_96_18.R q 4 = some a_65_13 := ((hfr_6.2 q hqn_6.1.1 hneq_6).2 4).trans hpn_6_4
  refine pX11_53 X (S := S_96_18) hqv_6.1.1 hqv_6.1.2 hm (r := (some a_80_16)) dX11_init_99 ?_
  have hVW_6 : kFr S_96_18 (S_96_18.uR q 5 (some a_80_16)) (fun z => S_96_18.O z = 0) := (kFr.rf S_96_18 _).uR (show S_96_18.O q = 0 from hqv_6.2.1)
  have hUW_6 : kFr (S_73_15.uR q 4 (some a_65_13)) (S_96_18.uR q 5 (some a_80_16)) (fun z => (S_73_15.uR q 4 (some a_65_13)).O z = 0) := hUV_6.uR (show (S_73_15.uR q 4 (some a_65_13)).O q = 0 from hq_5.2.1)
  have hq_6 := hqv_6.fr hVW_6
  have h2_6 := h2_5.fr (Pr := fun ρ => ρ = 0) hUW_6 (by decide) (by decide) (by decide) (by decide) (by decide) (by decide)
  have h3_6 := h3_5.fr (Pr := fun ρ => ρ = 0) hUW_6 (by decide) (by decide) (by decide) (by decide) (by decide)
  have h4_6 := h4_5.fr (Pr := fun ρ => ρ = 0) hUW_6 (by decide) (by decide) (by decide) (by decide)
  have h0_6 := h0_5.fr (Pr := fun ρ => ρ = 0) hUW_6 (by decide) (by decide) (by decide) (by decide) (by decide) (by decide)
  have h5_6 := h5_5.fr (Pr := fun ρ => ρ = 0) hUW_6 (by decide) (by decide) (by decide) (by decide) (by decide) (by decide) (by decide) (by decide) (by decide)
  have h9_6 := hb_6.fr (Pr := fun ρ => ρ = 0) hVW_6 (by decide) (by decide) (by decide) (by decide)
  have k11_6 := k11_5.fr hUW_6
  have kl_6 := kl_5.fr hUW_6 (fun b hb z e => by rcases z with z | z <;> (have h5 := k11_5.2.1; rw [h5] at z; have h6 : (S_73_15.uR q 4 (some a_65_13)).O b = 0 := e; omega))
  have k8_6 : ∀ k, k < 7 → kB8 C.e0 (S_96_18.uR q 5 (some a_80_16)) (f k) (g k) k := fun k hk => (k8_5 k hk).fr (Pr := fun ρ => ρ = 0) hUW_6 (fun z => by omega) (fun z => by omega)
  have hp_6_0 : (S_96_18.uR q 5 (some a_80_16)).R q 0 = some a_5_1 := by rw [uR_R, if_neg (by omega)]; exact hpv_6_0
  have hp_6_1 : (S_96_18.uR q 5 (some a_80_16)).R q 1 = some a_16_4 := by rw [uR_R, if_neg (by omega)]; exact hpv_6_1
  have hp_6_2 : (S_96_18.uR q 5 (some a_80_16)).R q 2 = some a_31_7 := by rw [uR_R, if_neg (by omega)]; exact hpv_6_2
  have hp_6_3 : (S_96_18.uR q 5 (some a_80_16)).R q 3 = some a_46_10 := by rw [uR_R, if_neg (by omega)]; exact hpv_6_3
  have hp_6_4 : (S_96_18.uR q 5 (some a_80_16)).R q 4 = some a_65_13 := by rw [uR_R, if_neg (by omega)]; exact hpv_6_4
  have hp_6_5 : (S_96_18.uR q 5 (some a_80_16)).R q 5 = some a_80_16 := by rw [uR_R, if_pos ⟨rfl, rfl⟩]
  refine k_aload_n X (q := 0) dX11_init_102 rfl rfl ?_
  refine k_iconst X (v := 0) dX11_init_103 (by decide) ?_
  refine pX11_57 X (S := (S_96_18.uR q 5 (some a_80_16))) hq_6.1.1 hq_6.1.2 dX11_init_104 ?_
  have hUW_99 : kFr (S_96_18.uR q 5 (some a_80_16)) ((S_96_18.uR q 5 (some a_80_16)).uI q 6 0) (fun z => (S_96_18.uR q 5 (some a_80_16)).O z = 0) := (kFr.rf (S_96_18.uR q 5 (some a_80_16)) _).uI (show (S_96_18.uR q 5 (some a_80_16)).O q = 0 from hq_6.2.1)
  have hq_99 := hq_6.fr hUW_99
  have h2_99 := h2_6.fr (Pr := fun ρ => ρ = 0) hUW_99 (by decide) (by decide) (by decide) (by decide) (by decide) (by decide)
  have h3_99 := h3_6.fr (Pr := fun ρ => ρ = 0) hUW_99 (by decide) (by decide) (by decide) (by decide) (by decide)
  have h4_99 := h4_6.fr (Pr := fun ρ => ρ = 0) hUW_99 (by decide) (by decide) (by decide) (by decide)
  have h0_99 := h0_6.fr (Pr := fun ρ => ρ = 0) hUW_99 (by decide) (by decide) (by decide) (by decide) (by decide) (by decide)
  have h5_99 := h5_6.fr (Pr := fun ρ => ρ = 0) hUW_99 (by decide) (by decide) (by decide) (by decide) (by decide) (by decide) (by decide) (by decide) (by decide)
  have h9_99 := h9_6.fr (Pr := fun ρ => ρ = 0) hUW_99 (by decide) (by decide) (by decide) (by decide)
  have h11_99 := k11_6.fr hUW_99
  have hl_99 := kl_6.fr hUW_99 (fun b hb z e => by rcases z with z | z <;> (have h5 := k11_6.2.1; rw [h5] at z; have h6 : (S_96_18.uR q 5 (some a_80_16)).O b = 0 := e; omega))
  have h8_99 : ∀ k, k < 7 → kB8 C.e0 ((S_96_18.uR q 5 (some a_80_16)).uI q 6 0) (f k) (g k) k := fun k hk => (k8_6 k hk).fr (Pr := fun ρ => ρ = 0) hUW_99 (fun z => by omega) (fun z => by omega)
  exact k_vret X E dX11_init_107 (Nat.le_of_ble_eq_true rfl) (Nat.le_of_ble_eq_true rfl) (⟨_, rfl, kZ_mk hq_99 hp_6_0 hp_6_1 hp_6_2 hp_6_3 hp_6_4 hp_6_5 h2_99 h3_99 h4_99 h0_99 h5_99 h9_99 h11_99 hl_99 h8_99⟩)
