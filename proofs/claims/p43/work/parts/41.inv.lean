/-! THE INVARIANT -/
def kMo (S : kS) (n : Nat) (cz : Nat → Nat) (x : Nat) : Prop := S.at x 7 ∧ S.O x = 201 ∧ (∃ j, j < n ∧ S.R x 0 = some (cz j)) ∧ (∃ t, t < 8 ∧ S.I x 2 = nI t) ∧ ∃ t, t ≤ 300 ∧ S.I x 4 = nI t
def kSu (S : kS) (n : Nat) (cz : Nat → Nat) (x : Nat) : Prop := S.at x 10 ∧ S.O x = 202 ∧ (∃ j, j < n ∧ S.R x 0 = some (cz j)) ∧ (∃ j, j < n ∧ S.R x 1 = some (cz j)) ∧ (∀ d, S.R x 5 = some d → S.at d 7 ∧ S.O d = 201) ∧ (∃ t, t ≤ 200 ∧ S.I x 3 = nI t) ∧ ¬ S.R x 0 = S.R x 1
/-- the roles of lists of citizens that come and go -/
def clR (r : Nat) : Prop := r = 12 ∨ r = 13 ∨ r = 14 ∨ r = 16 ∨ r = 17 ∨ (20 ≤ r ∧ r ≤ 31)
def kCl (e0 : Nat × Nat) (A : Nat → Nat) (n : Nat) (cz : Nat → Nat) (S : kS) (r : Nat) : Prop := ∃ m xs, kLs e0 S (A r) 1 m xs ∧ m ≤ 40 ∧ ∀ t, t < m → ∃ j, j < n ∧ xs t = cz j
def kMl (e0 : Nat × Nat) (A : Nat → Nat) (n : Nat) (cz : Nat → Nat) (S : kS) (r : Nat) : Prop := ∃ m xs, kLs e0 S (A r) 7 m xs ∧ m ≤ 12 ∧ ∀ t, t < m → kMo S n cz (xs t)
def kSl (e0 : Nat × Nat) (A : Nat → Nat) (n : Nat) (cz : Nat → Nat) (S : kS) : Prop := ∃ m xs, kLs e0 S (A 15) 10 m xs ∧ m ≤ 8 ∧ ∀ t, t < m → kSu S n cz (xs t)
/-- who the citizens are -/
def kWho (n : Nat) (cz : Nat → Nat) (S : kS) : Prop := (20 ≤ n ∧ n ≤ 40) ∧ (∀ i, i < n → S.O (cz i) = 200 ∧ S.I (cz i) 0 = nI i ∧ S.I (cz i) 1 = nI (i % 8)) ∧ ∀ i j, i < n → j < n → cz i = cz j → i = j
/-- what stands where -/
def kStru (e0 : Nat × Nat) (A : Nat → Nat) (n : Nat) (cz : Nat → Nat) (S : kS) : Prop :=
  kSt A S ∧ kLs e0 S (A 10) 1 n cz ∧ kLs e0 S (A 11) 8 7 (kof A) ∧ (∀ r, clR r → kCl e0 A n cz S r) ∧ (kMl e0 A n cz S 18 ∧ kMl e0 A n cz S 19) ∧ kSl e0 A n cz S ∧ kWho n cz S ∧ ∀ k, k < 7 → S.I (kof A k) 0 = nI k
/-- a citizen's numbers -/
def kCi (S : kS) (T G : Nat) (c : Nat) : Prop := (∃ s, 1 ≤ s ∧ s ≤ 4 ∧ S.I c 6 = nI s) ∧ 0 ≤ (S.I c 4).toInt ∧ (0 ≤ (S.I c 5).toInt ∧ (S.I c 5).toInt ≤ 32000 * (G : Int)) ∧ (S.I c 6 = 1 ∨ S.I c 6 = 3 → S.I c 5 = 0) ∧ (S.I c 9 = 0 ∨ (S.I c 9 = 1 ∧ S.I c 6 = 1)) ∧ 0 ≤ (S.I c 3).toInt ∧ (S.I c 3).toInt ≤ 100 + (T : Int)
/-- all wealth -/
def kWe (S : kS) (cz : Nat → Nat) : Nat → Int
  | 0 => 0
  | n + 1 => kWe S cz n + (S.I (cz n) 4).toInt
def kHo (A : Nat → Nat) (n : Nat) (cz : Nat → Nat) (S : kS) : Prop := (∀ k, k < 7 → ∀ c, S.R (kof A k) 1 = some c → ∃ i, i < n ∧ c = cz i ∧ (S.I c 6 = 1 ∨ S.I c 6 = 2) ∧ S.I c 9 = 0) ∧ ∀ k k', k < 7 → k' < 7 → ∀ c, S.R (kof A k) 1 = some c → S.R (kof A k') 1 = some c → k = k'
def kCh (A : Nat → Nat) (n : Nat) (cz : Nat → Nat) (S : kS) : Prop := ∀ c, S.R (A 1) 10 = some c → ∃ i, i < n ∧ c = cz i ∧ S.I c 9 = 1
def kLe (A : Nat → Nat) (n : Nat) (cz : Nat → Nat) (S : kS) : Prop := (∀ k, k < 3 → ∀ c, S.R (A 52) k = some c → ∃ i, i < n ∧ c = cz i ∧ (S.I c 6 = 1 ∨ S.I c 6 = 2)) ∧ ∀ k, k < 3 → ∃ t, t ≤ 100 ∧ S.I (A 40) k = nI t
/-- the money -/
def kMy (A : Nat → Nat) (n : Nat) (cz : Nat → Nat) (E : Nat) (S : kS) : Prop := (S.I (A 1) 3).toInt = 300 + (S.I (A 1) 4).toInt - (S.I (A 1) 5).toInt ∧ 0 ≤ (S.I (A 1) 3).toInt ∧ 0 ≤ (S.I (A 1) 4).toInt ∧ 0 ≤ (S.I (A 1) 5).toInt ∧ (S.I (A 1) 4).toInt + kWe S cz n ≤ 6000 + (E : Int)
def kLu (A : Nat → Nat) (T : Nat) (S : kS) : Prop := (∃ p, p < 64 ∧ S.I (A 7) 0 = nI p) ∧ 0 ≤ (S.I (A 7) 1).toInt ∧ (S.I (A 7) 1).toInt ≤ (T : Int)
/-- those who rule: nobody twice -/
def kRu (e0 : Nat × Nat) (A : Nat → Nat) (n : Nat) (cz : Nat → Nat) (S : kS) : Prop := ∃ m xs, kLs e0 S (A 23) 1 m xs ∧ (∀ t, t < m → ∃ j, j < n ∧ xs t = cz j) ∧ ∀ t t', t < m → t' < m → xs t = xs t' → t = t'
def kMs (A : Nat → Nat) (T : Nat) (S : kS) : Prop := (S.I (A 1) 1 = 0 ∨ S.I (A 1) 1 = 1) ∧ (0 ≤ (S.I (A 1) 2).toInt ∧ (S.I (A 1) 2).toInt ≤ 3 * (T : Int)) ∧ (∃ d, d ≤ 400 ∧ S.I (A 1) 0 = nI d) ∧ (S.I (A 1) 9 = -1 ∨ ∃ t, t ≤ 300 ∧ S.I (A 1) 9 = nI t) ∧ (∃ a, a ≤ 4 ∧ S.I (A 5) 1 = nI a) ∧ ∀ k, k < 4 → ∃ t, t ≤ 60 ∧ S.I (A 45) k = nI t
/-- since when, and what was handled before -/
def kOf (A : Nat → Nat) (S : kS) : Prop := ∀ k, k < 7 → (0 ≤ (S.I (kof A k) 2).toInt ∧ (S.I (kof A k) 2).toInt ≤ (S.I (A 1) 0).toInt) ∧ 0 ≤ (S.I (kof A k) 3).toInt ∧ (S.I (kof A k) 3).toInt ≤ (S.I (A 1) 4).toInt + (S.I (A 1) 5).toInt
def kI (e0 : Nat × Nat) (A : Nat → Nat) (n : Nat) (cz : Nat → Nat) (T G E : Nat) (S : kS) : Prop :=
  kStru e0 A n cz S ∧ (∀ i, i < n → kCi S T G (cz i)) ∧ kHo A n cz S ∧ kCh A n cz S ∧ kLe A n cz S ∧ kMy A n cz E S ∧ (kLu A T S ∧ kRu e0 A n cz S) ∧ kMs A T S ∧ kOf A S
/-- suits and motions stay what they are; what no method but pass() changes -/
def kKp (S S' : kS) : Prop := ∀ x, x ∈ S.L → (S.O x = 201 ∨ S.O x = 202) → (x ∈ S'.L ∧ S'.K x = S.K x ∧ S'.O x = S.O x) ∧ ∀ j, (S.O x = 202 ∨ j ≤ 4) → S'.I x j = S.I x j ∧ S'.R x j = S.R x j
def kKe (A : Nat → Nat) (S S' : kS) : Prop := kKp S S' ∧ S'.I (A 1) 0 = S.I (A 1) 0 ∧ (∀ k, S'.I (A 41) k = S.I (A 41) k) ∧ (S'.R (A 1) 10 = none ∨ S'.R (A 1) 10 = S.R (A 1) 10) ∧ (S.I (A 7) 1).toInt ≤ (S'.I (A 7) 1).toInt
theorem kKp.rf {S : kS} : kKp S S := fun x hx ho => ⟨⟨hx, rfl, rfl⟩, fun j hj => ⟨rfl, rfl⟩⟩
theorem kKp.tr {S S1 S2 : kS} (h : kKp S S1) (h2 : kKp S1 S2) : kKp S S2 := fun x hx ho => by
  obtain ⟨⟨a1, a2, a3⟩, a4⟩ := h x hx ho
  obtain ⟨⟨b1, b2, b3⟩, b4⟩ := h2 x a1 (by rw [a3]; exact ho)
  exact ⟨⟨b1, b2.trans a2, b3.trans a3⟩, fun j hj => ⟨((b4 j (by rw [a3]; exact hj)).1).trans (a4 j hj).1, ((b4 j (by rw [a3]; exact hj)).2).trans (a4 j hj).2⟩⟩
theorem kKe.rf {A : Nat → Nat} {S : kS} : kKe A S S := ⟨kKp.rf, rfl, fun _ => rfl, Or.inr rfl, Int.le_refl _⟩
theorem kKe.tr {A : Nat → Nat} {S S1 S2 : kS} (h : kKe A S S1) (h2 : kKe A S1 S2) : kKe A S S2 := ⟨h.1.tr h2.1, h2.2.1.trans h.2.1, fun k => (h2.2.2.1 k).trans (h.2.2.1 k), by
  rcases h2.2.2.2.1 with e | e
  · exact Or.inl e
  · rw [e]; exact h.2.2.2.1, Int.le_trans h.2.2.2.2 h2.2.2.2.2⟩
/-- the same, of a method that may change the order of the tribes or the chair -/
def kKd (A : Nat → Nat) (S S' : kS) : Prop := kKp S S' ∧ S'.I (A 1) 0 = S.I (A 1) 0 ∧ (S.I (A 7) 1).toInt ≤ (S'.I (A 7) 1).toInt
theorem kKe.d {A : Nat → Nat} {S S' : kS} (h : kKe A S S') : kKd A S S' := ⟨h.1, h.2.1, h.2.2.2.2⟩
theorem kKd.tr {A : Nat → Nat} {S S1 S2 : kS} (h : kKd A S S1) (h2 : kKd A S1 S2) : kKd A S S2 := ⟨h.1.tr h2.1, h2.2.1.trans h.2.1, Int.le_trans h.2.2 h2.2.2⟩
section KIV
variable {e0 : Nat × Nat} {A : Nat → Nat} {n : Nat} {cz : Nat → Nat} {T G E : Nat} {S S' : kS}
theorem kI.st (h : kI e0 A n cz T G E S) : kSt A S := h.1.1
theorem kI.hC (h : kI e0 A n cz T G E S) : kLs e0 S (A 10) 1 n cz := h.1.2.1
theorem kI.hO (h : kI e0 A n cz T G E S) : kLs e0 S (A 11) 8 7 (kof A) := h.1.2.2.1
theorem kI.who (h : kI e0 A n cz T G E S) : kWho n cz S := h.1.2.2.2.2.2.2.1
theorem kI.n40 (h : kI e0 A n cz T G E S) : n ≤ 40 := h.who.1.2
theorem kI.oc (h : kI e0 A n cz T G E S) : ∀ j, j < n → S.O (cz j) = 200 := fun j hj => (h.who.2.1 j hj).1
theorem kI.at (h : kI e0 A n cz T G E S) {i : Nat} (hi : i < n) : S.at (cz i) 1 := h.hC.el hi
theorem kI.ci (h : kI e0 A n cz T G E S) {i : Nat} (hi : i < n) : kCi S T G (cz i) := h.2.1 i hi
theorem kI.ho (h : kI e0 A n cz T G E S) : kHo A n cz S := h.2.2.1
theorem kI.ch (h : kI e0 A n cz T G E S) : kCh A n cz S := h.2.2.2.1
theorem kI.le (h : kI e0 A n cz T G E S) : kLe A n cz S := h.2.2.2.2.1
theorem kI.my (h : kI e0 A n cz T G E S) : kMy A n cz E S := h.2.2.2.2.2.1
theorem kI.lu (h : kI e0 A n cz T G E S) : kLu A T S := h.2.2.2.2.2.2.1.1
theorem kI.ru (h : kI e0 A n cz T G E S) : kRu e0 A n cz S := h.2.2.2.2.2.2.1.2
theorem kI.ms (h : kI e0 A n cz T G E S) : kMs A T S := h.2.2.2.2.2.2.2.1
theorem kI.of (h : kI e0 A n cz T G E S) : kOf A S := h.2.2.2.2.2.2.2.2
theorem kI.cl (h : kI e0 A n cz T G E S) {r : Nat} (hr : clR r) : kCl e0 A n cz S r := h.1.2.2.2.1 r hr
theorem kI.oo (h : kI e0 A n cz T G E S) : ∀ k, k < 7 → S.O (kof A k) = 60 + k := fun k hk => by
  have h0 := h.st
  rcases (show k = 0 ∨ k = 1 ∨ k = 2 ∨ k = 3 ∨ k = 4 ∨ k = 5 ∨ k = 6 by omega) with rfl | rfl | rfl | rfl | rfl | rfl | rfl
  · exact so_60 h0
  · exact so_61 h0
  · exact so_62 h0
  · exact so_63 h0
  · exact so_64 h0
  · exact so_65 h0
  · exact so_66 h0
/-- more may have happened -/
theorem kI.mono {T' G' E' : Nat} (h : kI e0 A n cz T G E S) (h1 : T ≤ T') (h2 : G ≤ G') (h3 : E ≤ E') : kI e0 A n cz T' G' E' S := by
  refine ⟨h.1, fun i hi => ?_, h.ho, h.ch, h.le, ?_, ?_, ?_, h.of⟩
  · obtain ⟨a1, a2, ⟨a3, a4⟩, a5, a6, a7, a8⟩ := h.ci hi
    exact ⟨a1, a2, ⟨a3, by omega⟩, a5, a6, a7, by omega⟩
  · obtain ⟨a1, a2, a3, a4, a5⟩ := h.my
    exact ⟨a1, a2, a3, a4, by omega⟩
  · obtain ⟨a1, a2, a3⟩ := h.lu
    exact ⟨⟨a1, a2, by omega⟩, h.ru⟩
  · obtain ⟨a1, ⟨a2, a3⟩, a4⟩ := h.ms
    exact ⟨a1, ⟨a2, by omega⟩, a4⟩
end KIV
