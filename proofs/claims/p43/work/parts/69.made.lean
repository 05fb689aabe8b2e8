/-! WHAT IS MADE -/
theorem qAI : Cond.arrayClass .int ∈ kT := kT_in 154 (by decide +kernel) rfl
def kOj (S : kS) (b κ ρ N : Nat) : Prop := S.at b κ ∧ S.O b = ρ ∧ S.N b = N
theorem kOj.fr {S S' : kS} {P : Nat → Prop} {b κ ρ N : Nat} (h : kOj S b κ ρ N) (hf : kFr S S' P) : kOj S' b κ ρ N := ⟨hf.at h.1, ((hf.1 b h.1.1).2.2.1).trans h.2.1, ((hf.1 b h.1.1).2.2.2).trans h.2.2⟩
theorem kFr.un {S S' : kS} {Pr : Nat → Prop} {b κ ρ N : Nat} (hf : kFr S S' (fun z => Pr (S.O z))) (h : kOj S b κ ρ N) (hp : ¬ Pr ρ) : (∀ j, S'.I b j = S.I b j) ∧ ∀ j, S'.R b j = S.R b j := hf.2 b h.1.1 (fun z => hp (by have z1 : Pr (S.O b) := z; rw [h.2.1] at z1; exact z1))
theorem nwL' {S : kS} {q κ ρ n b : Nat} : b ∈ (S.nw q κ ρ n).L ↔ b ∈ S.L ∨ b = q := by rw [nw_L]; simp
theorem nwK' {S : kS} {q κ ρ n b : Nat} : (S.nw q κ ρ n).K b = if b = q then κ else S.K b := rfl
theorem nwO' {S : kS} {q κ ρ n b : Nat} : (S.nw q κ ρ n).O b = if b = q then ρ else S.O b := rfl
theorem nwN' {S : kS} {q κ ρ n b : Nat} : (S.nw q κ ρ n).N b = if b = q then n else S.N b := rfl
theorem nwI' {S : kS} {q κ ρ n b j : Nat} : (S.nw q κ ρ n).I b j = if b = q then 0 else S.I b j := by
  rw [nw_I]; unfold va_up; split <;> rfl
theorem nwR' {S : kS} {q κ ρ n b j : Nat} : (S.nw q κ ρ n).R b j = if b = q then none else S.R b j := by
  rw [nw_R]; unfold va_up; split <;> rfl
theorem fiL' {S : kS} {a n : Nat} {v : Int32} : (S.fil a n v).L = S.L := rfl
theorem fiK' {S : kS} {a n : Nat} {v : Int32} : (S.fil a n v).K = S.K := rfl
theorem fiO' {S : kS} {a n : Nat} {v : Int32} : (S.fil a n v).O = S.O := rfl
theorem fiN' {S : kS} {a n : Nat} {v : Int32} : (S.fil a n v).N = S.N := rfl
theorem fiR' {S : kS} {a n : Nat} {v : Int32} : (S.fil a n v).R = S.R := rfl
theorem fiI' {S : kS} {a n b j : Nat} {v : Int32} : (S.fil a n v).I b j = if b = a ∧ j < n then v else S.I b j := rfl
theorem at_fi {S : kS} {b n q κ : Nat} {v : Int32} (h : S.at q κ) : (S.fil b n v).at q κ := h
theorem kS.at_ {S : kS} {b κ : Nat} : S.at b κ ↔ b ∈ S.L ∧ S.K b = κ := Iff.rfl
def kB3 (e0 : Nat × Nat) (S : kS) (q c a41 a42 a13 a14 : Nat) : Prop := (kOj S q 3 2 0 ∧ S.R q 0 = some c ∧ S.R q 1 = some a41 ∧ S.R q 2 = some a42 ∧ S.R q 3 = some a13 ∧ S.R q 4 = some a14) ∧ (kOj S a41 13 41 4) ∧ (kOj S a42 13 42 4) ∧ (kOj S a13 12 13 0 ∧ S.I a13 2 = 0 ∧ S.R a13 1 = some e0.1) ∧ (kOj S a14 12 14 0 ∧ S.I a14 2 = 0 ∧ S.R a14 1 = some e0.1)
theorem kB3.fr {e0 : Nat × Nat} {S S' : kS} {Pr : Nat → Prop} {q c a41 a42 a13 a14 : Nat} (h : kB3 e0 S q c a41 a42 a13 a14) (hf : kFr S S' (fun z => Pr (S.O z))) (p0 : ¬ Pr 2) (p1 : ¬ Pr 41) (p2 : ¬ Pr 42) (p3 : ¬ Pr 13) (p4 : ¬ Pr 14) : kB3 e0 S' q c a41 a42 a13 a14 := by
  obtain ⟨⟨h0_0, h0_1, h0_2, h0_3, h0_4, h0_5⟩, h1_0, h2_0, ⟨h3_0, h3_1, h3_2⟩, ⟨h4_0, h4_1, h4_2⟩⟩ := h
  obtain ⟨i0, r0⟩ := hf.un h0_0 p0
  obtain ⟨i1, r1⟩ := hf.un h1_0 p1
  obtain ⟨i2, r2⟩ := hf.un h2_0 p2
  obtain ⟨i3, r3⟩ := hf.un h3_0 p3
  obtain ⟨i4, r4⟩ := hf.un h4_0 p4
  exact ⟨⟨h0_0.fr hf, (r0 _).trans h0_1, (r0 _).trans h0_2, (r0 _).trans h0_3, (r0 _).trans h0_4, (r0 _).trans h0_5⟩, h1_0.fr hf, h2_0.fr hf, ⟨h3_0.fr hf, (i3 _).trans h3_1, (r3 _).trans h3_2⟩, ⟨h4_0.fr hf, (i4 _).trans h4_1, (r4 _).trans h4_2⟩⟩
def kB4 (e0 : Nat × Nat) (S : kS) (q c a15 a16 a17 : Nat) : Prop := (kOj S q 4 3 0 ∧ S.R q 0 = some c ∧ S.R q 1 = some a15 ∧ S.R q 2 = some a16 ∧ S.R q 3 = some a17) ∧ (kOj S a15 12 15 0 ∧ S.I a15 2 = 0 ∧ S.R a15 1 = some e0.1) ∧ (kOj S a16 12 16 0 ∧ S.I a16 2 = 0 ∧ S.R a16 1 = some e0.1) ∧ (kOj S a17 12 17 0 ∧ S.I a17 2 = 0 ∧ S.R a17 1 = some e0.1)
theorem kB4.fr {e0 : Nat × Nat} {S S' : kS} {Pr : Nat → Prop} {q c a15 a16 a17 : Nat} (h : kB4 e0 S q c a15 a16 a17) (hf : kFr S S' (fun z => Pr (S.O z))) (p0 : ¬ Pr 3) (p1 : ¬ Pr 15) (p2 : ¬ Pr 16) (p3 : ¬ Pr 17) : kB4 e0 S' q c a15 a16 a17 := by
  obtain ⟨⟨h0_0, h0_1, h0_2, h0_3, h0_4⟩, ⟨h1_0, h1_1, h1_2⟩, ⟨h2_0, h2_1, h2_2⟩, ⟨h3_0, h3_1, h3_2⟩⟩ := h
  obtain ⟨i0, r0⟩ := hf.un h0_0 p0
  obtain ⟨i1, r1⟩ := hf.un h1_0 p1
  obtain ⟨i2, r2⟩ := hf.un h2_0 p2
  obtain ⟨i3, r3⟩ := hf.un h3_0 p3
  exact ⟨⟨h0_0.fr hf, (r0 _).trans h0_1, (r0 _).trans h0_2, (r0 _).trans h0_3, (r0 _).trans h0_4⟩, ⟨h1_0.fr hf, (i1 _).trans h1_1, (r1 _).trans h1_2⟩, ⟨h2_0.fr hf, (i2 _).trans h2_1, (r2 _).trans h2_2⟩, ⟨h3_0.fr hf, (i3 _).trans h3_1, (r3 _).trans h3_2⟩⟩
def kB0 (e0 : Nat × Nat) (S : kS) (q c d a18 a19 a43 a20 a44 : Nat) : Prop := (kOj S q 0 4 0 ∧ S.R q 0 = some c ∧ S.R q 1 = some d ∧ S.R q 2 = some a18 ∧ S.R q 3 = some a19 ∧ S.R q 4 = some a43 ∧ S.R q 5 = some a20 ∧ S.R q 6 = some a44) ∧ (kOj S a18 12 18 0 ∧ S.I a18 2 = 0 ∧ S.R a18 1 = some e0.1) ∧ (kOj S a19 12 19 0 ∧ S.I a19 2 = 0 ∧ S.R a19 1 = some e0.1) ∧ (kOj S a43 13 43 8) ∧ (kOj S a20 12 20 0 ∧ S.I a20 2 = 0 ∧ S.R a20 1 = some e0.1) ∧ (kOj S a44 13 44 40)
theorem kB0.fr {e0 : Nat × Nat} {S S' : kS} {Pr : Nat → Prop} {q c d a18 a19 a43 a20 a44 : Nat} (h : kB0 e0 S q c d a18 a19 a43 a20 a44) (hf : kFr S S' (fun z => Pr (S.O z))) (p0 : ¬ Pr 4) (p1 : ¬ Pr 18) (p2 : ¬ Pr 19) (p3 : ¬ Pr 43) (p4 : ¬ Pr 20) (p5 : ¬ Pr 44) : kB0 e0 S' q c d a18 a19 a43 a20 a44 := by
  obtain ⟨⟨h0_0, h0_1, h0_2, h0_3, h0_4, h0_5, h0_6, h0_7⟩, ⟨h1_0, h1_1, h1_2⟩, ⟨h2_0, h2_1, h2_2⟩, h3_0, ⟨h4_0, h4_1, h4_2⟩, h5_0⟩ := h
  obtain ⟨i0, r0⟩ := hf.un h0_0 p0
  obtain ⟨i1, r1⟩ := hf.un h1_0 p1
  obtain ⟨i2, r2⟩ := hf.un h2_0 p2
  obtain ⟨i3, r3⟩ := hf.un h3_0 p3
  obtain ⟨i4, r4⟩ := hf.un h4_0 p4
  obtain ⟨i5, r5⟩ := hf.un h5_0 p5
  exact ⟨⟨h0_0.fr hf, (r0 _).trans h0_1, (r0 _).trans h0_2, (r0 _).trans h0_3, (r0 _).trans h0_4, (r0 _).trans h0_5, (r0 _).trans h0_6, (r0 _).trans h0_7⟩, ⟨h1_0.fr hf, (i1 _).trans h1_1, (r1 _).trans h1_2⟩, ⟨h2_0.fr hf, (i2 _).trans h2_1, (r2 _).trans h2_2⟩, h3_0.fr hf, ⟨h4_0.fr hf, (i4 _).trans h4_1, (r4 _).trans h4_2⟩, h5_0.fr hf⟩
def kB5 (e0 : Nat × Nat) (S : kS) (q c a45 a46 a47 a48 a49 a50 a21 a22 : Nat) : Prop := (kOj S q 5 5 0 ∧ S.I q 1 = 0 ∧ S.R q 0 = some c ∧ S.R q 2 = some a45 ∧ S.R q 3 = some a46 ∧ S.R q 4 = some a47 ∧ S.R q 5 = some a48 ∧ S.R q 6 = some a49 ∧ S.R q 7 = some a50 ∧ S.R q 8 = some a21 ∧ S.R q 9 = some a22) ∧ (kOj S a45 13 45 4 ∧ (∀ j, S.I a45 j = 0)) ∧ (kOj S a46 13 46 4) ∧ (kOj S a47 13 47 4) ∧ (kOj S a48 13 48 4) ∧ (kOj S a49 13 49 4) ∧ (kOj S a50 13 50 4) ∧ (kOj S a21 12 21 0 ∧ S.I a21 2 = 0 ∧ S.R a21 1 = some e0.1) ∧ (kOj S a22 12 22 0 ∧ S.I a22 2 = 0 ∧ S.R a22 1 = some e0.1)
theorem kB5.fr {e0 : Nat × Nat} {S S' : kS} {Pr : Nat → Prop} {q c a45 a46 a47 a48 a49 a50 a21 a22 : Nat} (h : kB5 e0 S q c a45 a46 a47 a48 a49 a50 a21 a22) (hf : kFr S S' (fun z => Pr (S.O z))) (p0 : ¬ Pr 5) (p1 : ¬ Pr 45) (p2 : ¬ Pr 46) (p3 : ¬ Pr 47) (p4 : ¬ Pr 48) (p5 : ¬ Pr 49) (p6 : ¬ Pr 50) (p7 : ¬ Pr 21) (p8 : ¬ Pr 22) : kB5 e0 S' q c a45 a46 a47 a48 a49 a50 a21 a22 := by
  obtain ⟨⟨h0_0, h0_1, h0_2, h0_3, h0_4, h0_5, h0_6, h0_7, h0_8, h0_9, h0_10⟩, ⟨h1_0, h1_1⟩, h2_0, h3_0, h4_0, h5_0, h6_0, ⟨h7_0, h7_1, h7_2⟩, ⟨h8_0, h8_1, h8_2⟩⟩ := h
  obtain ⟨i0, r0⟩ := hf.un h0_0 p0
  obtain ⟨i1, r1⟩ := hf.un h1_0 p1
  obtain ⟨i2, r2⟩ := hf.un h2_0 p2
  obtain ⟨i3, r3⟩ := hf.un h3_0 p3
  obtain ⟨i4, r4⟩ := hf.un h4_0 p4
  obtain ⟨i5, r5⟩ := hf.un h5_0 p5
  obtain ⟨i6, r6⟩ := hf.un h6_0 p6
  obtain ⟨i7, r7⟩ := hf.un h7_0 p7
  obtain ⟨i8, r8⟩ := hf.un h8_0 p8
  exact ⟨⟨h0_0.fr hf, (i0 _).trans h0_1, (r0 _).trans h0_2, (r0 _).trans h0_3, (r0 _).trans h0_4, (r0 _).trans h0_5, (r0 _).trans h0_6, (r0 _).trans h0_7, (r0 _).trans h0_8, (r0 _).trans h0_9, (r0 _).trans h0_10⟩, ⟨h1_0.fr hf, fun j => (i1 j).trans (h1_1 j)⟩, h2_0.fr hf, h3_0.fr hf, h4_0.fr hf, h5_0.fr hf, h6_0.fr hf, ⟨h7_0.fr hf, (i7 _).trans h7_1, (r7 _).trans h7_2⟩, ⟨h8_0.fr hf, (i8 _).trans h8_1, (r8 _).trans h8_2⟩⟩
def kB9 (e0 : Nat × Nat) (S : kS) (q c d e a23 a24 a51 : Nat) : Prop := (kOj S q 9 6 0 ∧ S.R q 0 = some c ∧ S.R q 1 = some d ∧ S.R q 2 = some e ∧ S.R q 3 = some a23 ∧ S.R q 4 = some a24 ∧ S.R q 5 = some a51) ∧ (kOj S a23 12 23 0 ∧ S.I a23 2 = 0 ∧ S.R a23 1 = some e0.1) ∧ (kOj S a24 12 24 0 ∧ S.I a24 2 = 0 ∧ S.R a24 1 = some e0.1) ∧ (kOj S a51 13 51 4)
theorem kB9.fr {e0 : Nat × Nat} {S S' : kS} {Pr : Nat → Prop} {q c d e a23 a24 a51 : Nat} (h : kB9 e0 S q c d e a23 a24 a51) (hf : kFr S S' (fun z => Pr (S.O z))) (p0 : ¬ Pr 6) (p1 : ¬ Pr 23) (p2 : ¬ Pr 24) (p3 : ¬ Pr 51) : kB9 e0 S' q c d e a23 a24 a51 := by
  obtain ⟨⟨h0_0, h0_1, h0_2, h0_3, h0_4, h0_5, h0_6⟩, ⟨h1_0, h1_1, h1_2⟩, ⟨h2_0, h2_1, h2_2⟩, h3_0⟩ := h
  obtain ⟨i0, r0⟩ := hf.un h0_0 p0
  obtain ⟨i1, r1⟩ := hf.un h1_0 p1
  obtain ⟨i2, r2⟩ := hf.un h2_0 p2
  obtain ⟨i3, r3⟩ := hf.un h3_0 p3
  exact ⟨⟨h0_0.fr hf, (r0 _).trans h0_1, (r0 _).trans h0_2, (r0 _).trans h0_3, (r0 _).trans h0_4, (r0 _).trans h0_5, (r0 _).trans h0_6⟩, ⟨h1_0.fr hf, (i1 _).trans h1_1, (r1 _).trans h1_2⟩, ⟨h2_0.fr hf, (i2 _).trans h2_1, (r2 _).trans h2_2⟩, h3_0.fr hf⟩
def kB8 (e0 : Nat × Nat) (S : kS) (q g k : Nat) : Prop := (kOj S q 8 (60 + k) 0 ∧ S.I q 0 = nI k ∧ S.I q 2 = 0 ∧ S.I q 3 = 0 ∧ S.R q 1 = none ∧ S.R q 4 = some g) ∧ (kOj S g 12 (25 + k) 0 ∧ S.I g 2 = 0 ∧ S.R g 1 = some e0.1)
theorem kB8.fr {e0 : Nat × Nat} {S S' : kS} {Pr : Nat → Prop} {q g k : Nat} (h : kB8 e0 S q g k) (hf : kFr S S' (fun z => Pr (S.O z))) (p0 : ¬ Pr (60 + k)) (p1 : ¬ Pr (25 + k)) : kB8 e0 S' q g k := by
  obtain ⟨⟨h0_0, h0_1, h0_2, h0_3, h0_4, h0_5⟩, ⟨h1_0, h1_1, h1_2⟩⟩ := h
  obtain ⟨i0, r0⟩ := hf.un h0_0 p0
  obtain ⟨i1, r1⟩ := hf.un h1_0 p1
  exact ⟨⟨h0_0.fr hf, (i0 _).trans h0_1, (i0 _).trans h0_2, (i0 _).trans h0_3, (r0 _).trans h0_4, (r0 _).trans h0_5⟩, ⟨h1_0.fr hf, (i1 _).trans h1_1, (r1 _).trans h1_2⟩⟩
def kB2 (e0 : Nat × Nat) (S : kS) (q a7 a10 a11 a52 a40 a12 : Nat) : Prop := (kOj S q 2 1 0 ∧ S.I q 0 = 0 ∧ S.I q 1 = 1 ∧ S.I q 2 = 0 ∧ S.I q 3 = 300 ∧ S.I q 4 = 0 ∧ S.I q 5 = 0 ∧ S.I q 9 = -1 ∧ S.R q 10 = none ∧ S.R q 11 = some a7 ∧ S.R q 12 = some a10 ∧ S.R q 13 = some a11 ∧ S.R q 14 = some a52 ∧ S.R q 15 = some a40 ∧ S.R q 16 = some a12) ∧ (kOj S a7 6 7 0 ∧ S.I a7 0 = 0 ∧ S.I a7 1 = 0) ∧ (kOj S a10 12 10 0 ∧ S.I a10 2 = 0 ∧ S.R a10 1 = some e0.1) ∧ (kOj S a52 14 52 3 ∧ (∀ j, S.R a52 j = none)) ∧ (kOj S a40 13 40 3 ∧ (∀ j, S.I a40 j = 0)) ∧ (kOj S a12 12 12 0 ∧ S.I a12 2 = 0 ∧ S.R a12 1 = some e0.1)
theorem kB2.fr {e0 : Nat × Nat} {S S' : kS} {Pr : Nat → Prop} {q a7 a10 a11 a52 a40 a12 : Nat} (h : kB2 e0 S q a7 a10 a11 a52 a40 a12) (hf : kFr S S' (fun z => Pr (S.O z))) (p0 : ¬ Pr 1) (p1 : ¬ Pr 7) (p2 : ¬ Pr 10) (p3 : ¬ Pr 52) (p4 : ¬ Pr 40) (p5 : ¬ Pr 12) : kB2 e0 S' q a7 a10 a11 a52 a40 a12 := by
  obtain ⟨⟨h0_0, h0_1, h0_2, h0_3, h0_4, h0_5, h0_6, h0_7, h0_8, h0_9, h0_10, h0_11, h0_12, h0_13, h0_14⟩, ⟨h1_0, h1_1, h1_2⟩, ⟨h2_0, h2_1, h2_2⟩, ⟨h3_0, h3_1⟩, ⟨h4_0, h4_1⟩, ⟨h5_0, h5_1, h5_2⟩⟩ := h
  obtain ⟨i0, r0⟩ := hf.un h0_0 p0
  obtain ⟨i1, r1⟩ := hf.un h1_0 p1
  obtain ⟨i2, r2⟩ := hf.un h2_0 p2
  obtain ⟨i3, r3⟩ := hf.un h3_0 p3
  obtain ⟨i4, r4⟩ := hf.un h4_0 p4
  obtain ⟨i5, r5⟩ := hf.un h5_0 p5
  exact ⟨⟨h0_0.fr hf, (i0 _).trans h0_1, (i0 _).trans h0_2, (i0 _).trans h0_3, (i0 _).trans h0_4, (i0 _).trans h0_5, (i0 _).trans h0_6, (i0 _).trans h0_7, (r0 _).trans h0_8, (r0 _).trans h0_9, (r0 _).trans h0_10, (r0 _).trans h0_11, (r0 _).trans h0_12, (r0 _).trans h0_13, (r0 _).trans h0_14⟩, ⟨h1_0.fr hf, (i1 _).trans h1_1, (i1 _).trans h1_2⟩, ⟨h2_0.fr hf, (i2 _).trans h2_1, (r2 _).trans h2_2⟩, ⟨h3_0.fr hf, fun j => (r3 j).trans (h3_1 j)⟩, ⟨h4_0.fr hf, fun j => (i4 j).trans (h4_1 j)⟩, ⟨h5_0.fr hf, (i5 _).trans h5_1, (r5 _).trans h5_2⟩⟩

set_option maxHeartbeats 1000000 in
set_option maxRecDepth 20000 in
theorem c_X6_init (l : Launch) (e0 : Nat × Nat) (S : kS) (q : Nat) (hq : S.at q 6) : kM l e0 yX6_init cX6_init 1 none ({ frames := 1, cells := 0, slots := 0, locals := 24 } : Room) 0 0 [.ref q] S (kQv (fun S9 => S9 = (S.uI q 0 0).uI q 1 0)) := by
  refine kMetE (by decide +kernel) (Nat.le_of_ble_eq_true rfl) (fun C he hl X E hm => ?_)
  have X : kX C RX6 cX6_init 1 ({ frames := 1, cells := 0, slots := 0, locals := 24 } : Room) := X
  subst he hl
  show kG C 1 S 0 0 0 [(0, .ref q)] []
  refine k_aload_n X (q := 0) dX6_init_0 rfl rfl ?_
  refine k_objInit X qmX6_1 (Nat.le_of_ble_eq_true rfl) (Nat.le_of_ble_eq_true rfl) dX6_init_1 ?_
  refine k_aload_n X (q := 0) dX6_init_4 rfl rfl ?_
  refine k_iconst X (v := 0) dX6_init_5 (by decide) ?_
  refine pX6_7 X (S := S) hq.1 hq.2 dX6_init_6 ?_
  have hat_1 := at_uI (b := q) (j := 0) (v := 0) hq
  refine k_aload_n X (q := 0) dX6_init_9 rfl rfl ?_
  refine k_iconst X (v := 0) dX6_init_10 (by decide) ?_
  refine pX6_13 X (S := (S.uI q 0 0)) hat_1.1 hat_1.2 dX6_init_11 ?_
  have hat_2 := at_uI (b := q) (j := 1) (v := 0) hat_1
  exact k_vret X E dX6_init_14 (Nat.le_of_ble_eq_true rfl) (Nat.le_of_ble_eq_true rfl) rfl
set_option maxHeartbeats 1000000 in
set_option maxRecDepth 20000 in
theorem c_X3_init (l : Launch) (e0 : Nat × Nat) (S : kS) (q c : Nat) (hq : kOj S q 3 2 0) : kM l e0 yX3_init cX3_init 2 none ({ frames := 4, cells := 4, slots := 14, locals := 84 } : Room) 4 14 [.ref q, .ref c] S (kQv (fun S9 => ∃ x0 x1 x2 x3, kFr S S9 (fun b => b = q) ∧ kB3 e0 S9 q c x0 x1 x2 x3)) := by
  refine kMetE (by decide +kernel) (Nat.le_of_ble_eq_true rfl) (fun C he hl X E hm => ?_)
  have X : kX C RX3 cX3_init 2 ({ frames := 4, cells := 4, slots := 14, locals := 84 } : Room) := X
  subst he hl
  show kG C 2 S 0 0 0 [(0, .ref q), (1, .ref c)] []
  refine k_aload_n X (q := 0) dX3_init_0 rfl rfl ?_
  refine k_objInit X qmX3_3 (Nat.le_of_ble_eq_true rfl) (Nat.le_of_ble_eq_true rfl) dX3_init_1 ?_
  refine k_aload_n X (q := 0) dX3_init_4 rfl rfl ?_
  refine k_iconst X (v := 4) dX3_init_5 (by decide) ?_
  refine k_newI X (N' := 4) 41 qAI (by decide) (by decide) (by decide) (Nat.le_of_ble_eq_true rfl) (Nat.le_of_ble_eq_true rfl) dX3_init_6 (fun a_6_1 fa_6_1 => ?_)
  have hat_2 := nw_at (κ := 13) (ρ := 41) (n := 4) fa_6_1 hq.1
  have hat_a_6_1 := nw_self (S := S) (q := a_6_1) (κ := 13) (ρ := 41) (n := 4)
  refine pX3_9 X (S := (S.nw a_6_1 13 41 4)) hat_2.1 hat_2.2 hm (r := (some a_6_1)) dX3_init_8 ?_
  have hat_3 := at_uR (b := q) (j := 1) (v := (some a_6_1)) hat_2
  have hat_4 := at_uR (b := q) (j := 1) (v := (some a_6_1)) hat_a_6_1
  refine k_aload_n X (q := 0) dX3_init_11 rfl rfl ?_
  refine k_iconst X (v := 4) dX3_init_12 (by decide) ?_
  refine k_newI X (N' := 4) 42 qAI (by decide) (by decide) (by decide) (Nat.le_of_ble_eq_true rfl) (Nat.le_of_ble_eq_true rfl) dX3_init_13 (fun a_13_5 fa_13_5 => ?_)
  have hat_6 := nw_at (κ := 13) (ρ := 42) (n := 4) fa_13_5 hat_3
  have hat_7 := nw_at (κ := 13) (ρ := 42) (n := 4) fa_13_5 hat_4
  have hat_a_13_5 := nw_self (S := ((S.nw a_6_1 13 41 4).uR q 1 (some a_6_1))) (q := a_13_5) (κ := 13) (ρ := 42) (n := 4)
  refine pX3_15 X (S := (((S.nw a_6_1 13 41 4).uR q 1 (some a_6_1)).nw a_13_5 13 42 4)) hat_6.1 hat_6.2 hm (r := (some a_13_5)) dX3_init_15 ?_
  have hat_8 := at_uR (b := q) (j := 2) (v := (some a_13_5)) hat_6
  have hat_9 := at_uR (b := q) (j := 2) (v := (some a_13_5)) hat_a_13_5
  have hat_10 := at_uR (b := q) (j := 2) (v := (some a_13_5)) hat_7
  refine k_aload_n X (q := 0) dX3_init_18 rfl rfl ?_
  refine nX3_18 X 13 (Nat.le_of_ble_eq_true rfl) (Nat.le_of_ble_eq_true rfl) dX3_init_19 (fun a_19_11 fa_19_11 => ?_)
  have hat_12 := nw_at (κ := 12) (ρ := 13) (n := 0) fa_19_11 hat_8
  have hat_13 := nw_at (κ := 12) (ρ := 13) (n := 0) fa_19_11 hat_9
  have hat_14 := nw_at (κ := 12) (ρ := 13) (n := 0) fa_19_11 hat_10
  have hat_a_19_11 := nw_self (S := ((((S.nw a_6_1 13 41 4).uR q 1 (some a_6_1)).nw a_13_5 13 42 4).uR q 2 (some a_13_5))) (q := a_19_11) (κ := 12) (ρ := 13) (n := 0)
  refine k_dup X dX3_init_22 rfl ?_
  refine k_gotV X (vX3_20 X (S := (((((S.nw a_6_1 13 41 4).uR q 1 (some a_6_1)).nw a_13_5 13 42 4).uR q 2 (some a_13_5)).nw a_19_11 12 13 0)) (c_Jx4a65c_init_da8c8 C.l C.e0 (((((S.nw a_6_1 13 41 4).uR q 1 (some a_6_1)).nw a_13_5 13 42 4).uR q 2 (some a_13_5)).nw a_19_11 12 13 0) a_19_11 hat_a_19_11) (As := []) (rest := [.ref a_19_11, .ref q]) rfl rfl rfl rfl ⟨Nat.le_of_ble_eq_true rfl, Nat.le_of_ble_eq_true rfl⟩ (Nat.le_of_ble_eq_true rfl) ⟨Nat.le_of_ble_eq_true rfl, Nat.le_of_ble_eq_true rfl⟩ dX3_init_23) (fun S_23_16 h_23_14 => ?_)
  subst h_23_14
  have hat_17 := at_uI (b := a_19_11) (j := 0) (v := 0) hat_12
  have hat_18 := at_uI (b := a_19_11) (j := 0) (v := 0) hat_a_19_11
  have hat_19 := at_uI (b := a_19_11) (j := 0) (v := 0) hat_14
  have hat_20 := at_uR (b := a_19_11) (j := 1) (v := some C.e0.1) hat_17
  have hat_21 := at_uR (b := a_19_11) (j := 1) (v := some C.e0.1) hat_18
  have hat_22 := at_uR (b := a_19_11) (j := 1) (v := some C.e0.1) hat_19
  refine pX3_21 X (S := (((((((S.nw a_6_1 13 41 4).uR q 1 (some a_6_1)).nw a_13_5 13 42 4).uR q 2 (some a_13_5)).nw a_19_11 12 13 0).uI a_19_11 0 0).uR a_19_11 1 (some C.e0.1))) hat_20.1 hat_20.2 hm (r := (some a_19_11)) dX3_init_26 ?_
  have hat_23 := at_uR (b := q) (j := 3) (v := (some a_19_11)) hat_20
  have hat_24 := at_uR (b := q) (j := 3) (v := (some a_19_11)) hat_21
  have hat_25 := at_uR (b := q) (j := 3) (v := (some a_19_11)) hat_22
  refine k_aload_n X (q := 0) dX3_init_29 rfl rfl ?_
  refine nX3_18 X 14 (Nat.le_of_ble_eq_true rfl) (Nat.le_of_ble_eq_true rfl) dX3_init_30 (fun a_30_26 fa_30_26 => ?_)
  have hat_27 := nw_at (κ := 12) (ρ := 14) (n := 0) fa_30_26 hat_23
  have hat_28 := nw_at (κ := 12) (ρ := 14) (n := 0) fa_30_26 hat_24
  have hat_29 := nw_at (κ := 12) (ρ := 14) (n := 0) fa_30_26 hat_25
  have hat_a_30_26 := nw_self (S := ((((((((S.nw a_6_1 13 41 4).uR q 1 (some a_6_1)).nw a_13_5 13 42 4).uR q 2 (some a_13_5)).nw a_19_11 12 13 0).uI a_19_11 0 0).uR a_19_11 1 (some C.e0.1)).uR q 3 (some a_19_11))) (q := a_30_26) (κ := 12) (ρ := 14) (n := 0)
  refine k_dup X dX3_init_33 rfl ?_
  refine k_gotV X (vX3_20 X (S := (((((((((S.nw a_6_1 13 41 4).uR q 1 (some a_6_1)).nw a_13_5 13 42 4).uR q 2 (some a_13_5)).nw a_19_11 12 13 0).uI a_19_11 0 0).uR a_19_11 1 (some C.e0.1)).uR q 3 (some a_19_11)).nw a_30_26 12 14 0)) (c_Jx4a65c_init_da8c8 C.l C.e0 (((((((((S.nw a_6_1 13 41 4).uR q 1 (some a_6_1)).nw a_13_5 13 42 4).uR q 2 (some a_13_5)).nw a_19_11 12 13 0).uI a_19_11 0 0).uR a_19_11 1 (some C.e0.1)).uR q 3 (some a_19_11)).nw a_30_26 12 14 0) a_30_26 hat_a_30_26) (As := []) (rest := [.ref a_30_26, .ref q]) rfl rfl rfl rfl ⟨Nat.le_of_ble_eq_true rfl, Nat.le_of_ble_eq_true rfl⟩ (Nat.le_of_ble_eq_true rfl) ⟨Nat.le_of_ble_eq_true rfl, Nat.le_of_ble_eq_true rfl⟩ dX3_init_34) (fun S_34_31 h_34_29 => ?_)
  subst h_34_29
  have hat_32 := at_uI (b := a_30_26) (j := 0) (v := 0) hat_27
  have hat_33 := at_uI (b := a_30_26) (j := 0) (v := 0) hat_a_30_26
  have hat_34 := at_uI (b := a_30_26) (j := 0) (v := 0) hat_29
  have hat_35 := at_uR (b := a_30_26) (j := 1) (v := some C.e0.1) hat_32
  have hat_36 := at_uR (b := a_30_26) (j := 1) (v := some C.e0.1) hat_33
  have hat_37 := at_uR (b := a_30_26) (j := 1) (v := some C.e0.1) hat_34
  refine pX3_25 X (S := (((((((((((S.nw a_6_1 13 41 4).uR q 1 (some a_6_1)).nw a_13_5 13 42 4).uR q 2 (some a_13_5)).nw a_19_11 12 13 0).uI a_19_11 0 0).uR a_19_11 1 (some C.e0.1)).uR q 3 (some a_19_11)).nw a_30_26 12 14 0).uI a_30_26 0 0).uR a_30_26 1 (some C.e0.1))) hat_35.1 hat_35.2 hm (r := (some a_30_26)) dX3_init_37 ?_
  have hat_38 := at_uR (b := q) (j := 4) (v := (some a_30_26)) hat_35
  have hat_39 := at_uR (b := q) (j := 4) (v := (some a_30_26)) hat_36
  have hat_40 := at_uR (b := q) (j := 4) (v := (some a_30_26)) hat_37
  refine k_aload_n X (q := 0) dX3_init_40 rfl rfl ?_
  refine k_aload_n X (q := 1) dX3_init_41 rfl rfl ?_
  refine pX3_28 X (S := ((((((((((((S.nw a_6_1 13 41 4).uR q 1 (some a_6_1)).nw a_13_5 13 42 4).uR q 2 (some a_13_5)).nw a_19_11 12 13 0).uI a_19_11 0 0).uR a_19_11 1 (some C.e0.1)).uR q 3 (some a_19_11)).nw a_30_26 12 14 0).uI a_30_26 0 0).uR a_30_26 1 (some C.e0.1)).uR q 4 (some a_30_26))) hat_38.1 hat_38.2 hm (r := (some c)) dX3_init_42 ?_
  have hat_41 := at_uR (b := q) (j := 0) (v := (some c)) hat_38
  have hat_42 := at_uR (b := q) (j := 0) (v := (some c)) hat_39
  have hat_43 := at_uR (b := q) (j := 0) (v := (some c)) hat_40
  refine k_aload_n X (q := 0) dX3_init_45 rfl rfl ?_
  have ga_6_1 : ¬ a_6_1 ∈ S.L := fun z => fa_6_1 (by simp [uI_L, uR_L, nwL', fiL', z])
  have na_6_1 : ¬ a_6_1 = q := fun e => ga_6_1 (by rw [e]; exact hq.1.1)
  have oa_6_1 : ¬ q = a_6_1 := fun e => na_6_1 e.symm
  have ga_13_5 : ¬ a_13_5 ∈ S.L := fun z => fa_13_5 (by simp [uI_L, uR_L, nwL', fiL', z])
  have na_13_5 : ¬ a_13_5 = q := fun e => ga_13_5 (by rw [e]; exact hq.1.1)
  have oa_13_5 : ¬ q = a_13_5 := fun e => na_13_5 e.symm
  have na_13_5a_6_1 : ¬ a_13_5 = a_6_1 := fun e => fa_13_5 (by rw [e]; simp [uI_L, uR_L, nwL', fiL'])
  have oa_13_5a_6_1 : ¬ a_6_1 = a_13_5 := fun e => na_13_5a_6_1 e.symm
  have ga_19_11 : ¬ a_19_11 ∈ S.L := fun z => fa_19_11 (by simp [uI_L, uR_L, nwL', fiL', z])
  have na_19_11 : ¬ a_19_11 = q := fun e => ga_19_11 (by rw [e]; exact hq.1.1)
  have oa_19_11 : ¬ q = a_19_11 := fun e => na_19_11 e.symm
  have na_19_11a_6_1 : ¬ a_19_11 = a_6_1 := fun e => fa_19_11 (by rw [e]; simp [uI_L, uR_L, nwL', fiL'])
  have oa_19_11a_6_1 : ¬ a_6_1 = a_19_11 := fun e => na_19_11a_6_1 e.symm
  have na_19_11a_13_5 : ¬ a_19_11 = a_13_5 := fun e => fa_19_11 (by rw [e]; simp [uI_L, uR_L, nwL', fiL'])
  have oa_19_11a_13_5 : ¬ a_13_5 = a_19_11 := fun e => na_19_11a_13_5 e.symm
  have ga_30_26 : ¬ a_30_26 ∈ S.L := fun z => fa_30_26 (by simp [uI_L, uR_L, nwL', fiL', z])
  have na_30_26 : ¬ a_30_26 = q := fun e => ga_30_26 (by rw [e]; exact hq.1.1)
  have oa_30_26 : ¬ q = a_30_26 := fun e => na_30_26 e.symm
  have na_30_26a_6_1 : ¬ a_30_26 = a_6_1 := fun e => fa_30_26 (by rw [e]; simp [uI_L, uR_L, nwL', fiL'])
  have oa_30_26a_6_1 : ¬ a_6_1 = a_30_26 := fun e => na_30_26a_6_1 e.symm
  have na_30_26a_13_5 : ¬ a_30_26 = a_13_5 := fun e => fa_30_26 (by rw [e]; simp [uI_L, uR_L, nwL', fiL'])
  have oa_30_26a_13_5 : ¬ a_13_5 = a_30_26 := fun e => na_30_26a_13_5 e.symm
  have na_30_26a_19_11 : ¬ a_30_26 = a_19_11 := fun e => fa_30_26 (by rw [e]; simp [uI_L, uR_L, nwL', fiL'])
  have oa_30_26a_19_11 : ¬ a_19_11 = a_30_26 := fun e => na_30_26a_19_11 e.symm
  have hp9 : (((((((((((((S.nw a_6_1 13 41 4).uR q 1 (some a_6_1)).nw a_13_5 13 42 4).uR q 2 (some a_13_5)).nw a_19_11 12 13 0).uI a_19_11 0 0).uR a_19_11 1 (some C.e0.1)).uR q 3 (some a_19_11)).nw a_30_26 12 14 0).uI a_30_26 0 0).uR a_30_26 1 (some C.e0.1)).uR q 4 (some a_30_26)).uR q 0 (some c)).R q 1 = some a_6_1 := by simp [kS.at_, uI_L, uI_K, uI_O, uI_N, uI_R, uI_I, uR_L, uR_K, uR_O, uR_N, uR_I, uR_R, nwL', nwK', nwO', nwN', nwI', nwR', fiL', fiK', fiO', fiN', fiR', fiI', na_6_1, oa_6_1, na_13_5, oa_13_5, na_13_5a_6_1, oa_13_5a_6_1, na_19_11, oa_19_11, na_19_11a_6_1, oa_19_11a_6_1, na_19_11a_13_5, oa_19_11a_13_5, na_30_26, oa_30_26, na_30_26a_6_1, oa_30_26a_6_1, na_30_26a_13_5, oa_30_26a_13_5, na_30_26a_19_11, oa_30_26a_19_11]
  refine gX3_9s X (S := (((((((((((((S.nw a_6_1 13 41 4).uR q 1 (some a_6_1)).nw a_13_5 13 42 4).uR q 2 (some a_13_5)).nw a_19_11 12 13 0).uI a_19_11 0 0).uR a_19_11 1 (some C.e0.1)).uR q 3 (some a_19_11)).nw a_30_26 12 14 0).uI a_30_26 0 0).uR a_30_26 1 (some C.e0.1)).uR q 4 (some a_30_26)).uR q 0 (some c))) hat_41.1 hat_41.2 hp9 dX3_init_46 ?_
  refine k_iconst X (v := (-1)) dX3_init_49 (by decide) ?_
  have hN9 : (((((((((((((S.nw a_6_1 13 41 4).uR q 1 (some a_6_1)).nw a_13_5 13 42 4).uR q 2 (some a_13_5)).nw a_19_11 12 13 0).uI a_19_11 0 0).uR a_19_11 1 (some C.e0.1)).uR q 3 (some a_19_11)).nw a_30_26 12 14 0).uI a_30_26 0 0).uR a_30_26 1 (some C.e0.1)).uR q 4 (some a_30_26)).uR q 0 (some c)).N a_6_1 = 4 := by simp [kS.at_, uI_L, uI_K, uI_O, uI_N, uI_R, uI_I, uR_L, uR_K, uR_O, uR_N, uR_I, uR_R, nwL', nwK', nwO', nwN', nwI', nwR', fiL', fiK', fiO', fiN', fiR', fiI', na_6_1, oa_6_1, na_13_5, oa_13_5, na_13_5a_6_1, oa_13_5a_6_1, na_19_11, oa_19_11, na_19_11a_6_1, oa_19_11a_6_1, na_19_11a_13_5, oa_19_11a_13_5, na_30_26, oa_30_26, na_30_26a_6_1, oa_30_26a_6_1, na_30_26a_13_5, oa_30_26a_13_5, na_30_26a_19_11, oa_30_26a_19_11]
  refine k_gotV X (vX3_32 X (S := (((((((((((((S.nw a_6_1 13 41 4).uR q 1 (some a_6_1)).nw a_13_5 13 42 4).uR q 2 (some a_13_5)).nw a_19_11 12 13 0).uI a_19_11 0 0).uR a_19_11 1 (some C.e0.1)).uR q 3 (some a_19_11)).nw a_30_26 12 14 0).uI a_30_26 0 0).uR a_30_26 1 (some C.e0.1)).uR q 4 (some a_30_26)).uR q 0 (some c))) (c_J7_fill_53178 C.l C.e0 (((((((((((((S.nw a_6_1 13 41 4).uR q 1 (some a_6_1)).nw a_13_5 13 42 4).uR q 2 (some a_13_5)).nw a_19_11 12 13 0).uI a_19_11 0 0).uR a_19_11 1 (some C.e0.1)).uR q 3 (some a_19_11)).nw a_30_26 12 14 0).uI a_30_26 0 0).uR a_30_26 1 (some C.e0.1)).uR q 4 (some a_30_26)).uR q 0 (some c)) a_6_1 (-1 : Int32) ⟨hat_43.1, hat_43.2⟩ (by rw [hN9]; decide)) (As := [.ref a_6_1, .int (-1 : Int32)]) (rest := []) rfl rfl rfl rfl ⟨Nat.le_of_ble_eq_true rfl, Nat.le_of_ble_eq_true rfl⟩ (Nat.le_of_ble_eq_true rfl) ⟨Nat.le_of_ble_eq_true rfl, Nat.le_of_ble_eq_true rfl⟩ dX3_init_50) (fun S_50_45 h_50_43 => ?_)
  subst h_50_43
  have hat_46 := at_fi (b := a_6_1) (n := (((((((((((((S.nw a_6_1 13 41 4).uR q 1 (some a_6_1)).nw a_13_5 13 42 4).uR q 2 (some a_13_5)).nw a_19_11 12 13 0).uI a_19_11 0 0).uR a_19_11 1 (some C.e0.1)).uR q 3 (some a_19_11)).nw a_30_26 12 14 0).uI a_30_26 0 0).uR a_30_26 1 (some C.e0.1)).uR q 4 (some a_30_26)).uR q 0 (some c)).N a_6_1) (v := (-1 : Int32)) hat_41
  have hat_47 := at_fi (b := a_6_1) (n := (((((((((((((S.nw a_6_1 13 41 4).uR q 1 (some a_6_1)).nw a_13_5 13 42 4).uR q 2 (some a_13_5)).nw a_19_11 12 13 0).uI a_19_11 0 0).uR a_19_11 1 (some C.e0.1)).uR q 3 (some a_19_11)).nw a_30_26 12 14 0).uI a_30_26 0 0).uR a_30_26 1 (some C.e0.1)).uR q 4 (some a_30_26)).uR q 0 (some c)).N a_6_1) (v := (-1 : Int32)) hat_42
  have hat_48 := at_fi (b := a_6_1) (n := (((((((((((((S.nw a_6_1 13 41 4).uR q 1 (some a_6_1)).nw a_13_5 13 42 4).uR q 2 (some a_13_5)).nw a_19_11 12 13 0).uI a_19_11 0 0).uR a_19_11 1 (some C.e0.1)).uR q 3 (some a_19_11)).nw a_30_26 12 14 0).uI a_30_26 0 0).uR a_30_26 1 (some C.e0.1)).uR q 4 (some a_30_26)).uR q 0 (some c)).N a_6_1) (v := (-1 : Int32)) hat_43
  rw [hN9]
  rw [hN9] at hat_46 hat_47 hat_48
  have ga_6_1 : ¬ a_6_1 ∈ S.L := fun z => fa_6_1 (by simp [uI_L, uR_L, nwL', fiL', z])
  have na_6_1 : ¬ a_6_1 = q := fun e => ga_6_1 (by rw [e]; exact hq.1.1)
  have oa_6_1 : ¬ q = a_6_1 := fun e => na_6_1 e.symm
  have ga_13_5 : ¬ a_13_5 ∈ S.L := fun z => fa_13_5 (by simp [uI_L, uR_L, nwL', fiL', z])
  have na_13_5 : ¬ a_13_5 = q := fun e => ga_13_5 (by rw [e]; exact hq.1.1)
  have oa_13_5 : ¬ q = a_13_5 := fun e => na_13_5 e.symm
  have na_13_5a_6_1 : ¬ a_13_5 = a_6_1 := fun e => fa_13_5 (by rw [e]; simp [uI_L, uR_L, nwL', fiL'])
  have oa_13_5a_6_1 : ¬ a_6_1 = a_13_5 := fun e => na_13_5a_6_1 e.symm
  have ga_19_11 : ¬ a_19_11 ∈ S.L := fun z => fa_19_11 (by simp [uI_L, uR_L, nwL', fiL', z])
  have na_19_11 : ¬ a_19_11 = q := fun e => ga_19_11 (by rw [e]; exact hq.1.1)
  have oa_19_11 : ¬ q = a_19_11 := fun e => na_19_11 e.symm
  have na_19_11a_6_1 : ¬ a_19_11 = a_6_1 := fun e => fa_19_11 (by rw [e]; simp [uI_L, uR_L, nwL', fiL'])
  have oa_19_11a_6_1 : ¬ a_6_1 = a_19_11 := fun e => na_19_11a_6_1 e.symm
  have na_19_11a_13_5 : ¬ a_19_11 = a_13_5 := fun e => fa_19_11 (by rw [e]; simp [uI_L, uR_L, nwL', fiL'])
  have oa_19_11a_13_5 : ¬ a_13_5 = a_19_11 := fun e => na_19_11a_13_5 e.symm
  have ga_30_26 : ¬ a_30_26 ∈ S.L := fun z => fa_30_26 (by simp [uI_L, uR_L, nwL', fiL', z])
  have na_30_26 : ¬ a_30_26 = q := fun e => ga_30_26 (by rw [e]; exact hq.1.1)
  have oa_30_26 : ¬ q = a_30_26 := fun e => na_30_26 e.symm
  have na_30_26a_6_1 : ¬ a_30_26 = a_6_1 := fun e => fa_30_26 (by rw [e]; simp [uI_L, uR_L, nwL', fiL'])
  have oa_30_26a_6_1 : ¬ a_6_1 = a_30_26 := fun e => na_30_26a_6_1 e.symm
  have na_30_26a_13_5 : ¬ a_30_26 = a_13_5 := fun e => fa_30_26 (by rw [e]; simp [uI_L, uR_L, nwL', fiL'])
  have oa_30_26a_13_5 : ¬ a_13_5 = a_30_26 := fun e => na_30_26a_13_5 e.symm
  have na_30_26a_19_11 : ¬ a_30_26 = a_19_11 := fun e => fa_30_26 (by rw [e]; simp [uI_L, uR_L, nwL', fiL'])
  have oa_30_26a_19_11 : ¬ a_19_11 = a_30_26 := fun e => na_30_26a_19_11 e.symm
  have hFr : kFr S ((((((((((((((S.nw a_6_1 13 41 4).uR q 1 (some a_6_1)).nw a_13_5 13 42 4).uR q 2 (some a_13_5)).nw a_19_11 12 13 0).uI a_19_11 0 0).uR a_19_11 1 (some C.e0.1)).uR q 3 (some a_19_11)).nw a_30_26 12 14 0).uI a_30_26 0 0).uR a_30_26 1 (some C.e0.1)).uR q 4 (some a_30_26)).uR q 0 (some c)).fil a_6_1 4 (-1 : Int32)) (fun b => b = q) := by
    refine ⟨fun b hb => ?_, fun b hb hn => ?_⟩
    · have wa_6_1 : ¬ b = a_6_1 := fun e => ga_6_1 (e ▸ hb)
      have wa_13_5 : ¬ b = a_13_5 := fun e => ga_13_5 (e ▸ hb)
      have wa_19_11 : ¬ b = a_19_11 := fun e => ga_19_11 (e ▸ hb)
      have wa_30_26 : ¬ b = a_30_26 := fun e => ga_30_26 (e ▸ hb)
      simp [kS.at_, uI_L, uI_K, uI_O, uI_N, uI_R, uI_I, uR_L, uR_K, uR_O, uR_N, uR_I, uR_R, nwL', nwK', nwO', nwN', nwI', nwR', fiL', fiK', fiO', fiN', fiR', fiI', hb, wa_6_1, wa_13_5, wa_19_11, wa_30_26]
    · have hn : ¬ b = q := hn
      have wa_6_1 : ¬ b = a_6_1 := fun e => ga_6_1 (e ▸ hb)
      have wa_13_5 : ¬ b = a_13_5 := fun e => ga_13_5 (e ▸ hb)
      have wa_19_11 : ¬ b = a_19_11 := fun e => ga_19_11 (e ▸ hb)
      have wa_30_26 : ¬ b = a_30_26 := fun e => ga_30_26 (e ▸ hb)
      simp [kS.at_, uI_L, uI_K, uI_O, uI_N, uI_R, uI_I, uR_L, uR_K, uR_O, uR_N, uR_I, uR_R, nwL', nwK', nwO', nwN', nwI', nwR', fiL', fiK', fiO', fiN', fiR', fiI', hn, wa_6_1, wa_13_5, wa_19_11, wa_30_26]
  have hBu : kB3 C.e0 ((((((((((((((S.nw a_6_1 13 41 4).uR q 1 (some a_6_1)).nw a_13_5 13 42 4).uR q 2 (some a_13_5)).nw a_19_11 12 13 0).uI a_19_11 0 0).uR a_19_11 1 (some C.e0.1)).uR q 3 (some a_19_11)).nw a_30_26 12 14 0).uI a_30_26 0 0).uR a_30_26 1 (some C.e0.1)).uR q 4 (some a_30_26)).uR q 0 (some c)).fil a_6_1 4 (-1 : Int32)) q c a_6_1 a_13_5 a_19_11 a_30_26 := by
    obtain ⟨hq1, hq2, hq3⟩ := hq
    obtain ⟨hq4, hq5⟩ := hq1
    unfold kB3 kOj
    simp [kS.at_, uI_L, uI_K, uI_O, uI_N, uI_R, uI_I, uR_L, uR_K, uR_O, uR_N, uR_I, uR_R, nwL', nwK', nwO', nwN', nwI', nwR', fiL', fiK', fiO', fiN', fiR', fiI', hq4, hq5, hq2, hq3, na_6_1, oa_6_1, na_13_5, oa_13_5, na_13_5a_6_1, oa_13_5a_6_1, na_19_11, oa_19_11, na_19_11a_6_1, oa_19_11a_6_1, na_19_11a_13_5, oa_19_11a_13_5, na_30_26, oa_30_26, na_30_26a_6_1, oa_30_26a_6_1, na_30_26a_13_5, oa_30_26a_13_5, na_30_26a_19_11, oa_30_26a_19_11]
  exact k_vret X E dX3_init_53 (Nat.le_of_ble_eq_true rfl) (Nat.le_of_ble_eq_true rfl) (⟨a_6_1, a_13_5, a_19_11, a_30_26, hFr, hBu⟩)
set_option maxHeartbeats 1000000 in
set_option maxRecDepth 20000 in
theorem c_X4_init (l : Launch) (e0 : Nat × Nat) (S : kS) (q c : Nat) (hq : kOj S q 4 3 0) : kM l e0 yX4_init cX4_init 2 none ({ frames := 4, cells := 3, slots := 9, locals := 84 } : Room) 3 9 [.ref q, .ref c] S (kQv (fun S9 => ∃ x0 x1 x2, kFr S S9 (fun b => b = q) ∧ kB4 e0 S9 q c x0 x1 x2)) := by
  refine kMetE (by decide +kernel) (Nat.le_of_ble_eq_true rfl) (fun C he hl X E hm => ?_)
  have X : kX C RX4 cX4_init 2 ({ frames := 4, cells := 3, slots := 9, locals := 84 } : Room) := X
  subst he hl
  show kG C 2 S 0 0 0 [(0, .ref q), (1, .ref c)] []
  refine k_aload_n X (q := 0) dX4_init_0 rfl rfl ?_
  refine k_objInit X qmX4_3 (Nat.le_of_ble_eq_true rfl) (Nat.le_of_ble_eq_true rfl) dX4_init_1 ?_
  refine k_aload_n X (q := 0) dX4_init_4 rfl rfl ?_
  refine nX4_9 X 15 (Nat.le_of_ble_eq_true rfl) (Nat.le_of_ble_eq_true rfl) dX4_init_5 (fun a_5_1 fa_5_1 => ?_)
  have hat_2 := nw_at (κ := 12) (ρ := 15) (n := 0) fa_5_1 hq.1
  have hat_a_5_1 := nw_self (S := S) (q := a_5_1) (κ := 12) (ρ := 15) (n := 0)
  refine k_dup X dX4_init_8 rfl ?_
  refine k_gotV X (vX4_11 X (S := (S.nw a_5_1 12 15 0)) (c_Jx4a65c_init_da8c8 C.l C.e0 (S.nw a_5_1 12 15 0) a_5_1 hat_a_5_1) (As := []) (rest := [.ref a_5_1, .ref q]) rfl rfl rfl rfl ⟨Nat.le_of_ble_eq_true rfl, Nat.le_of_ble_eq_true rfl⟩ (Nat.le_of_ble_eq_true rfl) ⟨Nat.le_of_ble_eq_true rfl, Nat.le_of_ble_eq_true rfl⟩ dX4_init_9) (fun S_9_4 h_9_2 => ?_)
  subst h_9_2
  have hat_5 := at_uI (b := a_5_1) (j := 0) (v := 0) hat_2
  have hat_6 := at_uI (b := a_5_1) (j := 0) (v := 0) hat_a_5_1
  have hat_7 := at_uR (b := a_5_1) (j := 1) (v := some C.e0.1) hat_5
  have hat_8 := at_uR (b := a_5_1) (j := 1) (v := some C.e0.1) hat_6
  refine pX4_12 X (S := (((S.nw a_5_1 12 15 0).uI a_5_1 0 0).uR a_5_1 1 (some C.e0.1))) hat_7.1 hat_7.2 hm (r := (some a_5_1)) dX4_init_12 ?_
  have hat_9 := at_uR (b := q) (j := 1) (v := (some a_5_1)) hat_7
  have hat_10 := at_uR (b := q) (j := 1) (v := (some a_5_1)) hat_8
  refine k_aload_n X (q := 0) dX4_init_15 rfl rfl ?_
  refine nX4_9 X 16 (Nat.le_of_ble_eq_true rfl) (Nat.le_of_ble_eq_true rfl) dX4_init_16 (fun a_16_11 fa_16_11 => ?_)
  have hat_12 := nw_at (κ := 12) (ρ := 16) (n := 0) fa_16_11 hat_9
  have hat_13 := nw_at (κ := 12) (ρ := 16) (n := 0) fa_16_11 hat_10
  have hat_a_16_11 := nw_self (S := ((((S.nw a_5_1 12 15 0).uI a_5_1 0 0).uR a_5_1 1 (some C.e0.1)).uR q 1 (some a_5_1))) (q := a_16_11) (κ := 12) (ρ := 16) (n := 0)
  refine k_dup X dX4_init_19 rfl ?_
  refine k_gotV X (vX4_11 X (S := (((((S.nw a_5_1 12 15 0).uI a_5_1 0 0).uR a_5_1 1 (some C.e0.1)).uR q 1 (some a_5_1)).nw a_16_11 12 16 0)) (c_Jx4a65c_init_da8c8 C.l C.e0 (((((S.nw a_5_1 12 15 0).uI a_5_1 0 0).uR a_5_1 1 (some C.e0.1)).uR q 1 (some a_5_1)).nw a_16_11 12 16 0) a_16_11 hat_a_16_11) (As := []) (rest := [.ref a_16_11, .ref q]) rfl rfl rfl rfl ⟨Nat.le_of_ble_eq_true rfl, Nat.le_of_ble_eq_true rfl⟩ (Nat.le_of_ble_eq_true rfl) ⟨Nat.le_of_ble_eq_true rfl, Nat.le_of_ble_eq_true rfl⟩ dX4_init_20) (fun S_20_15 h_20_13 => ?_)
  subst h_20_13
  have hat_16 := at_uI (b := a_16_11) (j := 0) (v := 0) hat_12
  have hat_17 := at_uI (b := a_16_11) (j := 0) (v := 0) hat_a_16_11
  have hat_18 := at_uR (b := a_16_11) (j := 1) (v := some C.e0.1) hat_16
  have hat_19 := at_uR (b := a_16_11) (j := 1) (v := some C.e0.1) hat_17
  refine pX4_18 X (S := (((((((S.nw a_5_1 12 15 0).uI a_5_1 0 0).uR a_5_1 1 (some C.e0.1)).uR q 1 (some a_5_1)).nw a_16_11 12 16 0).uI a_16_11 0 0).uR a_16_11 1 (some C.e0.1))) hat_18.1 hat_18.2 hm (r := (some a_16_11)) dX4_init_23 ?_
  have hat_20 := at_uR (b := q) (j := 2) (v := (some a_16_11)) hat_18
  have hat_21 := at_uR (b := q) (j := 2) (v := (some a_16_11)) hat_19
  refine k_aload_n X (q := 0) dX4_init_26 rfl rfl ?_
  refine nX4_9 X 17 (Nat.le_of_ble_eq_true rfl) (Nat.le_of_ble_eq_true rfl) dX4_init_27 (fun a_27_22 fa_27_22 => ?_)
  have hat_23 := nw_at (κ := 12) (ρ := 17) (n := 0) fa_27_22 hat_20
  have hat_24 := nw_at (κ := 12) (ρ := 17) (n := 0) fa_27_22 hat_21
  have hat_a_27_22 := nw_self (S := ((((((((S.nw a_5_1 12 15 0).uI a_5_1 0 0).uR a_5_1 1 (some C.e0.1)).uR q 1 (some a_5_1)).nw a_16_11 12 16 0).uI a_16_11 0 0).uR a_16_11 1 (some C.e0.1)).uR q 2 (some a_16_11))) (q := a_27_22) (κ := 12) (ρ := 17) (n := 0)
  refine k_dup X dX4_init_30 rfl ?_
  refine k_gotV X (vX4_11 X (S := (((((((((S.nw a_5_1 12 15 0).uI a_5_1 0 0).uR a_5_1 1 (some C.e0.1)).uR q 1 (some a_5_1)).nw a_16_11 12 16 0).uI a_16_11 0 0).uR a_16_11 1 (some C.e0.1)).uR q 2 (some a_16_11)).nw a_27_22 12 17 0)) (c_Jx4a65c_init_da8c8 C.l C.e0 (((((((((S.nw a_5_1 12 15 0).uI a_5_1 0 0).uR a_5_1 1 (some C.e0.1)).uR q 1 (some a_5_1)).nw a_16_11 12 16 0).uI a_16_11 0 0).uR a_16_11 1 (some C.e0.1)).uR q 2 (some a_16_11)).nw a_27_22 12 17 0) a_27_22 hat_a_27_22) (As := []) (rest := [.ref a_27_22, .ref q]) rfl rfl rfl rfl ⟨Nat.le_of_ble_eq_true rfl, Nat.le_of_ble_eq_true rfl⟩ (Nat.le_of_ble_eq_true rfl) ⟨Nat.le_of_ble_eq_true rfl, Nat.le_of_ble_eq_true rfl⟩ dX4_init_31) (fun S_31_26 h_31_24 => ?_)
  subst h_31_24
  have hat_27 := at_uI (b := a_27_22) (j := 0) (v := 0) hat_23
  have hat_28 := at_uI (b := a_27_22) (j := 0) (v := 0) hat_a_27_22
  have hat_29 := at_uR (b := a_27_22) (j := 1) (v := some C.e0.1) hat_27
  have hat_30 := at_uR (b := a_27_22) (j := 1) (v := some C.e0.1) hat_28
  refine pX4_21 X (S := (((((((((((S.nw a_5_1 12 15 0).uI a_5_1 0 0).uR a_5_1 1 (some C.e0.1)).uR q 1 (some a_5_1)).nw a_16_11 12 16 0).uI a_16_11 0 0).uR a_16_11 1 (some C.e0.1)).uR q 2 (some a_16_11)).nw a_27_22 12 17 0).uI a_27_22 0 0).uR a_27_22 1 (some C.e0.1))) hat_29.1 hat_29.2 hm (r := (some a_27_22)) dX4_init_34 ?_
  have hat_31 := at_uR (b := q) (j := 3) (v := (some a_27_22)) hat_29
  have hat_32 := at_uR (b := q) (j := 3) (v := (some a_27_22)) hat_30
  refine k_aload_n X (q := 0) dX4_init_37 rfl rfl ?_
  refine k_iconst X (v := 0) dX4_init_38 (by decide) ?_
  refine pX4_24 X (S := ((((((((((((S.nw a_5_1 12 15 0).uI a_5_1 0 0).uR a_5_1 1 (some C.e0.1)).uR q 1 (some a_5_1)).nw a_16_11 12 16 0).uI a_16_11 0 0).uR a_16_11 1 (some C.e0.1)).uR q 2 (some a_16_11)).nw a_27_22 12 17 0).uI a_27_22 0 0).uR a_27_22 1 (some C.e0.1)).uR q 3 (some a_27_22))) hat_31.1 hat_31.2 dX4_init_39 ?_
  have hat_33 := at_uI (b := q) (j := 4) (v := 0) hat_31
  have hat_34 := at_uI (b := q) (j := 4) (v := 0) hat_32
  refine k_aload_n X (q := 0) dX4_init_42 rfl rfl ?_
  refine k_iconst X (v := 0) dX4_init_43 (by decide) ?_
  refine pX4_28 X (S := (((((((((((((S.nw a_5_1 12 15 0).uI a_5_1 0 0).uR a_5_1 1 (some C.e0.1)).uR q 1 (some a_5_1)).nw a_16_11 12 16 0).uI a_16_11 0 0).uR a_16_11 1 (some C.e0.1)).uR q 2 (some a_16_11)).nw a_27_22 12 17 0).uI a_27_22 0 0).uR a_27_22 1 (some C.e0.1)).uR q 3 (some a_27_22)).uI q 4 0)) hat_33.1 hat_33.2 dX4_init_44 ?_
  have hat_35 := at_uI (b := q) (j := 5) (v := 0) hat_33
  have hat_36 := at_uI (b := q) (j := 5) (v := 0) hat_34
  refine k_aload_n X (q := 0) dX4_init_47 rfl rfl ?_
  refine k_iconst X (v := 0) dX4_init_48 (by decide) ?_
  refine pX4_31 X (S := ((((((((((((((S.nw a_5_1 12 15 0).uI a_5_1 0 0).uR a_5_1 1 (some C.e0.1)).uR q 1 (some a_5_1)).nw a_16_11 12 16 0).uI a_16_11 0 0).uR a_16_11 1 (some C.e0.1)).uR q 2 (some a_16_11)).nw a_27_22 12 17 0).uI a_27_22 0 0).uR a_27_22 1 (some C.e0.1)).uR q 3 (some a_27_22)).uI q 4 0).uI q 5 0)) hat_35.1 hat_35.2 dX4_init_49 ?_
  have hat_37 := at_uI (b := q) (j := 6) (v := 0) hat_35
  have hat_38 := at_uI (b := q) (j := 6) (v := 0) hat_36
  refine k_aload_n X (q := 0) dX4_init_52 rfl rfl ?_
  refine k_iconst X (v := 0) dX4_init_53 (by decide) ?_
  refine pX4_34 X (S := (((((((((((((((S.nw a_5_1 12 15 0).uI a_5_1 0 0).uR a_5_1 1 (some C.e0.1)).uR q 1 (some a_5_1)).nw a_16_11 12 16 0).uI a_16_11 0 0).uR a_16_11 1 (some C.e0.1)).uR q 2 (some a_16_11)).nw a_27_22 12 17 0).uI a_27_22 0 0).uR a_27_22 1 (some C.e0.1)).uR q 3 (some a_27_22)).uI q 4 0).uI q 5 0).uI q 6 0)) hat_37.1 hat_37.2 dX4_init_54 ?_
  have hat_39 := at_uI (b := q) (j := 7) (v := 0) hat_37
  have hat_40 := at_uI (b := q) (j := 7) (v := 0) hat_38
  refine k_aload_n X (q := 0) dX4_init_57 rfl rfl ?_
  refine k_iconst X (v := (-1)) dX4_init_58 (by decide) ?_
  refine pX4_37 X (S := ((((((((((((((((S.nw a_5_1 12 15 0).uI a_5_1 0 0).uR a_5_1 1 (some C.e0.1)).uR q 1 (some a_5_1)).nw a_16_11 12 16 0).uI a_16_11 0 0).uR a_16_11 1 (some C.e0.1)).uR q 2 (some a_16_11)).nw a_27_22 12 17 0).uI a_27_22 0 0).uR a_27_22 1 (some C.e0.1)).uR q 3 (some a_27_22)).uI q 4 0).uI q 5 0).uI q 6 0).uI q 7 0)) hat_39.1 hat_39.2 dX4_init_59 ?_
  have hat_41 := at_uI (b := q) (j := 8) (v := (-1 : Int32)) hat_39
  have hat_42 := at_uI (b := q) (j := 8) (v := (-1 : Int32)) hat_40
  refine k_aload_n X (q := 0) dX4_init_62 rfl rfl ?_
  refine k_aload_n X (q := 1) dX4_init_63 rfl rfl ?_
  refine pX4_40 X (S := (((((((((((((((((S.nw a_5_1 12 15 0).uI a_5_1 0 0).uR a_5_1 1 (some C.e0.1)).uR q 1 (some a_5_1)).nw a_16_11 12 16 0).uI a_16_11 0 0).uR a_16_11 1 (some C.e0.1)).uR q 2 (some a_16_11)).nw a_27_22 12 17 0).uI a_27_22 0 0).uR a_27_22 1 (some C.e0.1)).uR q 3 (some a_27_22)).uI q 4 0).uI q 5 0).uI q 6 0).uI q 7 0).uI q 8 (-1 : Int32))) hat_41.1 hat_41.2 hm (r := (some c)) dX4_init_64 ?_
  have hat_43 := at_uR (b := q) (j := 0) (v := (some c)) hat_41
  have hat_44 := at_uR (b := q) (j := 0) (v := (some c)) hat_42
  have ga_5_1 : ¬ a_5_1 ∈ S.L := fun z => fa_5_1 (by simp [uI_L, uR_L, nwL', fiL', z])
  have na_5_1 : ¬ a_5_1 = q := fun e => ga_5_1 (by rw [e]; exact hq.1.1)
  have oa_5_1 : ¬ q = a_5_1 := fun e => na_5_1 e.symm
  have ga_16_11 : ¬ a_16_11 ∈ S.L := fun z => fa_16_11 (by simp [uI_L, uR_L, nwL', fiL', z])
  have na_16_11 : ¬ a_16_11 = q := fun e => ga_16_11 (by rw [e]; exact hq.1.1)
  have oa_16_11 : ¬ q = a_16_11 := fun e => na_16_11 e.symm
  have na_16_11a_5_1 : ¬ a_16_11 = a_5_1 := fun e => fa_16_11 (by rw [e]; simp [uI_L, uR_L, nwL', fiL'])
  have oa_16_11a_5_1 : ¬ a_5_1 = a_16_11 := fun e => na_16_11a_5_1 e.symm
  have ga_27_22 : ¬ a_27_22 ∈ S.L := fun z => fa_27_22 (by simp [uI_L, uR_L, nwL', fiL', z])
  have na_27_22 : ¬ a_27_22 = q := fun e => ga_27_22 (by rw [e]; exact hq.1.1)
  have oa_27_22 : ¬ q = a_27_22 := fun e => na_27_22 e.symm
  have na_27_22a_5_1 : ¬ a_27_22 = a_5_1 := fun e => fa_27_22 (by rw [e]; simp [uI_L, uR_L, nwL', fiL'])
  have oa_27_22a_5_1 : ¬ a_5_1 = a_27_22 := fun e => na_27_22a_5_1 e.symm
  have na_27_22a_16_11 : ¬ a_27_22 = a_16_11 := fun e => fa_27_22 (by rw [e]; simp [uI_L, uR_L, nwL', fiL'])
  have oa_27_22a_16_11 : ¬ a_16_11 = a_27_22 := fun e => na_27_22a_16_11 e.symm
  have hFr : kFr S ((((((((((((((((((S.nw a_5_1 12 15 0).uI a_5_1 0 0).uR a_5_1 1 (some C.e0.1)).uR q 1 (some a_5_1)).nw a_16_11 12 16 0).uI a_16_11 0 0).uR a_16_11 1 (some C.e0.1)).uR q 2 (some a_16_11)).nw a_27_22 12 17 0).uI a_27_22 0 0).uR a_27_22 1 (some C.e0.1)).uR q 3 (some a_27_22)).uI q 4 0).uI q 5 0).uI q 6 0).uI q 7 0).uI q 8 (-1 : Int32)).uR q 0 (some c)) (fun b => b = q) := by
    refine ⟨fun b hb => ?_, fun b hb hn => ?_⟩
    · have wa_5_1 : ¬ b = a_5_1 := fun e => ga_5_1 (e ▸ hb)
      have wa_16_11 : ¬ b = a_16_11 := fun e => ga_16_11 (e ▸ hb)
      have wa_27_22 : ¬ b = a_27_22 := fun e => ga_27_22 (e ▸ hb)
      simp [kS.at_, uI_L, uI_K, uI_O, uI_N, uI_R, uI_I, uR_L, uR_K, uR_O, uR_N, uR_I, uR_R, nwL', nwK', nwO', nwN', nwI', nwR', fiL', fiK', fiO', fiN', fiR', fiI', hb, wa_5_1, wa_16_11, wa_27_22]
    · have hn : ¬ b = q := hn
      have wa_5_1 : ¬ b = a_5_1 := fun e => ga_5_1 (e ▸ hb)
      have wa_16_11 : ¬ b = a_16_11 := fun e => ga_16_11 (e ▸ hb)
      have wa_27_22 : ¬ b = a_27_22 := fun e => ga_27_22 (e ▸ hb)
      simp [kS.at_, uI_L, uI_K, uI_O, uI_N, uI_R, uI_I, uR_L, uR_K, uR_O, uR_N, uR_I, uR_R, nwL', nwK', nwO', nwN', nwI', nwR', fiL', fiK', fiO', fiN', fiR', fiI', hn, wa_5_1, wa_16_11, wa_27_22]
  have hBu : kB4 C.e0 ((((((((((((((((((S.nw a_5_1 12 15 0).uI a_5_1 0 0).uR a_5_1 1 (some C.e0.1)).uR q 1 (some a_5_1)).nw a_16_11 12 16 0).uI a_16_11 0 0).uR a_16_11 1 (some C.e0.1)).uR q 2 (some a_16_11)).nw a_27_22 12 17 0).uI a_27_22 0 0).uR a_27_22 1 (some C.e0.1)).uR q 3 (some a_27_22)).uI q 4 0).uI q 5 0).uI q 6 0).uI q 7 0).uI q 8 (-1 : Int32)).uR q 0 (some c)) q c a_5_1 a_16_11 a_27_22 := by
    obtain ⟨hq1, hq2, hq3⟩ := hq
    obtain ⟨hq4, hq5⟩ := hq1
    unfold kB4 kOj
    simp [kS.at_, uI_L, uI_K, uI_O, uI_N, uI_R, uI_I, uR_L, uR_K, uR_O, uR_N, uR_I, uR_R, nwL', nwK', nwO', nwN', nwI', nwR', fiL', fiK', fiO', fiN', fiR', fiI', hq4, hq5, hq2, hq3, na_5_1, oa_5_1, na_16_11, oa_16_11, na_16_11a_5_1, oa_16_11a_5_1, na_27_22, oa_27_22, na_27_22a_5_1, oa_27_22a_5_1, na_27_22a_16_11, oa_27_22a_16_11]
  exact k_vret X E dX4_init_67 (Nat.le_of_ble_eq_true rfl) (Nat.le_of_ble_eq_true rfl) (⟨a_5_1, a_16_11, a_27_22, hFr, hBu⟩)
set_option maxHeartbeats 1000000 in
set_option maxRecDepth 20000 in
theorem c_X0_init (l : Launch) (e0 : Nat × Nat) (S : kS) (q c d : Nat) (hq : kOj S q 0 4 0) : kM l e0 yX0_init cX0_init 3 none ({ frames := 4, cells := 5, slots := 57, locals := 84 } : Room) 5 57 [.ref q, .ref c, .ref d] S (kQv (fun S9 => ∃ x0 x1 x2 x3 x4, kFr S S9 (fun b => b = q) ∧ kB0 e0 S9 q c d x0 x1 x2 x3 x4)) := by
  refine kMetE (by decide +kernel) (Nat.le_of_ble_eq_true rfl) (fun C he hl X E hm => ?_)
  have X : kX C RX0 cX0_init 3 ({ frames := 4, cells := 5, slots := 57, locals := 84 } : Room) := X
  subst he hl
  show kG C 3 S 0 0 0 [(0, .ref q), (1, .ref c), (2, .ref d)] []
  refine k_aload_n X (q := 0) dX0_init_0 rfl rfl ?_
  refine k_objInit X qmX0_3 (Nat.le_of_ble_eq_true rfl) (Nat.le_of_ble_eq_true rfl) dX0_init_1 ?_
  refine k_aload_n X (q := 0) dX0_init_4 rfl rfl ?_
  refine nX0_9 X 18 (Nat.le_of_ble_eq_true rfl) (Nat.le_of_ble_eq_true rfl) dX0_init_5 (fun a_5_1 fa_5_1 => ?_)
  have hat_2 := nw_at (κ := 12) (ρ := 18) (n := 0) fa_5_1 hq.1
  have hat_a_5_1 := nw_self (S := S) (q := a_5_1) (κ := 12) (ρ := 18) (n := 0)
  refine k_dup X dX0_init_8 rfl ?_
  refine k_gotV X (vX0_11 X (S := (S.nw a_5_1 12 18 0)) (c_Jx4a65c_init_da8c8 C.l C.e0 (S.nw a_5_1 12 18 0) a_5_1 hat_a_5_1) (As := []) (rest := [.ref a_5_1, .ref q]) rfl rfl rfl rfl ⟨Nat.le_of_ble_eq_true rfl, Nat.le_of_ble_eq_true rfl⟩ (Nat.le_of_ble_eq_true rfl) ⟨Nat.le_of_ble_eq_true rfl, Nat.le_of_ble_eq_true rfl⟩ dX0_init_9) (fun S_9_4 h_9_2 => ?_)
  subst h_9_2
  have hat_5 := at_uI (b := a_5_1) (j := 0) (v := 0) hat_2
  have hat_6 := at_uI (b := a_5_1) (j := 0) (v := 0) hat_a_5_1
  have hat_7 := at_uR (b := a_5_1) (j := 1) (v := some C.e0.1) hat_5
  have hat_8 := at_uR (b := a_5_1) (j := 1) (v := some C.e0.1) hat_6
  refine pX0_12 X (S := (((S.nw a_5_1 12 18 0).uI a_5_1 0 0).uR a_5_1 1 (some C.e0.1))) hat_7.1 hat_7.2 hm (r := (some a_5_1)) dX0_init_12 ?_
  have hat_9 := at_uR (b := q) (j := 2) (v := (some a_5_1)) hat_7
  have hat_10 := at_uR (b := q) (j := 2) (v := (some a_5_1)) hat_8
  refine k_aload_n X (q := 0) dX0_init_15 rfl rfl ?_
  refine nX0_9 X 19 (Nat.le_of_ble_eq_true rfl) (Nat.le_of_ble_eq_true rfl) dX0_init_16 (fun a_16_11 fa_16_11 => ?_)
  have hat_12 := nw_at (κ := 12) (ρ := 19) (n := 0) fa_16_11 hat_9
  have hat_13 := nw_at (κ := 12) (ρ := 19) (n := 0) fa_16_11 hat_10
  have hat_a_16_11 := nw_self (S := ((((S.nw a_5_1 12 18 0).uI a_5_1 0 0).uR a_5_1 1 (some C.e0.1)).uR q 2 (some a_5_1))) (q := a_16_11) (κ := 12) (ρ := 19) (n := 0)
  refine k_dup X dX0_init_19 rfl ?_
  refine k_gotV X (vX0_11 X (S := (((((S.nw a_5_1 12 18 0).uI a_5_1 0 0).uR a_5_1 1 (some C.e0.1)).uR q 2 (some a_5_1)).nw a_16_11 12 19 0)) (c_Jx4a65c_init_da8c8 C.l C.e0 (((((S.nw a_5_1 12 18 0).uI a_5_1 0 0).uR a_5_1 1 (some C.e0.1)).uR q 2 (some a_5_1)).nw a_16_11 12 19 0) a_16_11 hat_a_16_11) (As := []) (rest := [.ref a_16_11, .ref q]) rfl rfl rfl rfl ⟨Nat.le_of_ble_eq_true rfl, Nat.le_of_ble_eq_true rfl⟩ (Nat.le_of_ble_eq_true rfl) ⟨Nat.le_of_ble_eq_true rfl, Nat.le_of_ble_eq_true rfl⟩ dX0_init_20) (fun S_20_15 h_20_13 => ?_)
  subst h_20_13
  have hat_16 := at_uI (b := a_16_11) (j := 0) (v := 0) hat_12
  have hat_17 := at_uI (b := a_16_11) (j := 0) (v := 0) hat_a_16_11
  have hat_18 := at_uR (b := a_16_11) (j := 1) (v := some C.e0.1) hat_16
  have hat_19 := at_uR (b := a_16_11) (j := 1) (v := some C.e0.1) hat_17
  refine pX0_18 X (S := (((((((S.nw a_5_1 12 18 0).uI a_5_1 0 0).uR a_5_1 1 (some C.e0.1)).uR q 2 (some a_5_1)).nw a_16_11 12 19 0).uI a_16_11 0 0).uR a_16_11 1 (some C.e0.1))) hat_18.1 hat_18.2 hm (r := (some a_16_11)) dX0_init_23 ?_
  have hat_20 := at_uR (b := q) (j := 3) (v := (some a_16_11)) hat_18
  have hat_21 := at_uR (b := q) (j := 3) (v := (some a_16_11)) hat_19
  refine k_aload_n X (q := 0) dX0_init_26 rfl rfl ?_
  refine k_bipush X (v := 8) dX0_init_27 (by decide) ?_
  refine k_newI X (N' := 8) 43 qAI (by decide) (by decide) (by decide) (Nat.le_of_ble_eq_true rfl) (Nat.le_of_ble_eq_true rfl) dX0_init_29 (fun a_29_22 fa_29_22 => ?_)
  have hat_23 := nw_at (κ := 13) (ρ := 43) (n := 8) fa_29_22 hat_20
  have hat_24 := nw_at (κ := 13) (ρ := 43) (n := 8) fa_29_22 hat_21
  have hat_a_29_22 := nw_self (S := ((((((((S.nw a_5_1 12 18 0).uI a_5_1 0 0).uR a_5_1 1 (some C.e0.1)).uR q 2 (some a_5_1)).nw a_16_11 12 19 0).uI a_16_11 0 0).uR a_16_11 1 (some C.e0.1)).uR q 3 (some a_16_11))) (q := a_29_22) (κ := 13) (ρ := 43) (n := 8)
  refine pX0_21 X (S := (((((((((S.nw a_5_1 12 18 0).uI a_5_1 0 0).uR a_5_1 1 (some C.e0.1)).uR q 2 (some a_5_1)).nw a_16_11 12 19 0).uI a_16_11 0 0).uR a_16_11 1 (some C.e0.1)).uR q 3 (some a_16_11)).nw a_29_22 13 43 8)) hat_23.1 hat_23.2 hm (r := (some a_29_22)) dX0_init_31 ?_
  have hat_25 := at_uR (b := q) (j := 4) (v := (some a_29_22)) hat_23
  have hat_26 := at_uR (b := q) (j := 4) (v := (some a_29_22)) hat_a_29_22
  refine k_aload_n X (q := 0) dX0_init_34 rfl rfl ?_
  refine nX0_9 X 20 (Nat.le_of_ble_eq_true rfl) (Nat.le_of_ble_eq_true rfl) dX0_init_35 (fun a_35_27 fa_35_27 => ?_)
  have hat_28 := nw_at (κ := 12) (ρ := 20) (n := 0) fa_35_27 hat_25
  have hat_29 := nw_at (κ := 12) (ρ := 20) (n := 0) fa_35_27 hat_26
  have hat_a_35_27 := nw_self (S := ((((((((((S.nw a_5_1 12 18 0).uI a_5_1 0 0).uR a_5_1 1 (some C.e0.1)).uR q 2 (some a_5_1)).nw a_16_11 12 19 0).uI a_16_11 0 0).uR a_16_11 1 (some C.e0.1)).uR q 3 (some a_16_11)).nw a_29_22 13 43 8).uR q 4 (some a_29_22))) (q := a_35_27) (κ := 12) (ρ := 20) (n := 0)
  refine k_dup X dX0_init_38 rfl ?_
  refine k_gotV X (vX0_11 X (S := (((((((((((S.nw a_5_1 12 18 0).uI a_5_1 0 0).uR a_5_1 1 (some C.e0.1)).uR q 2 (some a_5_1)).nw a_16_11 12 19 0).uI a_16_11 0 0).uR a_16_11 1 (some C.e0.1)).uR q 3 (some a_16_11)).nw a_29_22 13 43 8).uR q 4 (some a_29_22)).nw a_35_27 12 20 0)) (c_Jx4a65c_init_da8c8 C.l C.e0 (((((((((((S.nw a_5_1 12 18 0).uI a_5_1 0 0).uR a_5_1 1 (some C.e0.1)).uR q 2 (some a_5_1)).nw a_16_11 12 19 0).uI a_16_11 0 0).uR a_16_11 1 (some C.e0.1)).uR q 3 (some a_16_11)).nw a_29_22 13 43 8).uR q 4 (some a_29_22)).nw a_35_27 12 20 0) a_35_27 hat_a_35_27) (As := []) (rest := [.ref a_35_27, .ref q]) rfl rfl rfl rfl ⟨Nat.le_of_ble_eq_true rfl, Nat.le_of_ble_eq_true rfl⟩ (Nat.le_of_ble_eq_true rfl) ⟨Nat.le_of_ble_eq_true rfl, Nat.le_of_ble_eq_true rfl⟩ dX0_init_39) (fun S_39_31 h_39_29 => ?_)
  subst h_39_29
  have hat_32 := at_uI (b := a_35_27) (j := 0) (v := 0) hat_28
  have hat_33 := at_uI (b := a_35_27) (j := 0) (v := 0) hat_a_35_27
  have hat_34 := at_uI (b := a_35_27) (j := 0) (v := 0) hat_29
  have hat_35 := at_uR (b := a_35_27) (j := 1) (v := some C.e0.1) hat_32
  have hat_36 := at_uR (b := a_35_27) (j := 1) (v := some C.e0.1) hat_33
  have hat_37 := at_uR (b := a_35_27) (j := 1) (v := some C.e0.1) hat_34
  refine pX0_25 X (S := (((((((((((((S.nw a_5_1 12 18 0).uI a_5_1 0 0).uR a_5_1 1 (some C.e0.1)).uR q 2 (some a_5_1)).nw a_16_11 12 19 0).uI a_16_11 0 0).uR a_16_11 1 (some C.e0.1)).uR q 3 (some a_16_11)).nw a_29_22 13 43 8).uR q 4 (some a_29_22)).nw a_35_27 12 20 0).uI a_35_27 0 0).uR a_35_27 1 (some C.e0.1))) hat_35.1 hat_35.2 hm (r := (some a_35_27)) dX0_init_42 ?_
  have hat_38 := at_uR (b := q) (j := 5) (v := (some a_35_27)) hat_35
  have hat_39 := at_uR (b := q) (j := 5) (v := (some a_35_27)) hat_36
  have hat_40 := at_uR (b := q) (j := 5) (v := (some a_35_27)) hat_37
  refine k_aload_n X (q := 0) dX0_init_45 rfl rfl ?_
  refine k_bipush X (v := 40) dX0_init_46 (by decide) ?_
  refine k_newI X (N' := 40) 44 qAI (by decide) (by decide) (by decide) (Nat.le_of_ble_eq_true rfl) (Nat.le_of_ble_eq_true rfl) dX0_init_48 (fun a_48_41 fa_48_41 => ?_)
  have hat_42 := nw_at (κ := 13) (ρ := 44) (n := 40) fa_48_41 hat_38
  have hat_43 := nw_at (κ := 13) (ρ := 44) (n := 40) fa_48_41 hat_39
  have hat_44 := nw_at (κ := 13) (ρ := 44) (n := 40) fa_48_41 hat_40
  have hat_a_48_41 := nw_self (S := ((((((((((((((S.nw a_5_1 12 18 0).uI a_5_1 0 0).uR a_5_1 1 (some C.e0.1)).uR q 2 (some a_5_1)).nw a_16_11 12 19 0).uI a_16_11 0 0).uR a_16_11 1 (some C.e0.1)).uR q 3 (some a_16_11)).nw a_29_22 13 43 8).uR q 4 (some a_29_22)).nw a_35_27 12 20 0).uI a_35_27 0 0).uR a_35_27 1 (some C.e0.1)).uR q 5 (some a_35_27))) (q := a_48_41) (κ := 13) (ρ := 44) (n := 40)
  refine pX0_28 X (S := (((((((((((((((S.nw a_5_1 12 18 0).uI a_5_1 0 0).uR a_5_1 1 (some C.e0.1)).uR q 2 (some a_5_1)).nw a_16_11 12 19 0).uI a_16_11 0 0).uR a_16_11 1 (some C.e0.1)).uR q 3 (some a_16_11)).nw a_29_22 13 43 8).uR q 4 (some a_29_22)).nw a_35_27 12 20 0).uI a_35_27 0 0).uR a_35_27 1 (some C.e0.1)).uR q 5 (some a_35_27)).nw a_48_41 13 44 40)) hat_42.1 hat_42.2 hm (r := (some a_48_41)) dX0_init_50 ?_
  have hat_45 := at_uR (b := q) (j := 6) (v := (some a_48_41)) hat_42
  have hat_46 := at_uR (b := q) (j := 6) (v := (some a_48_41)) hat_a_48_41
  have hat_47 := at_uR (b := q) (j := 6) (v := (some a_48_41)) hat_44
  refine k_aload_n X (q := 0) dX0_init_53 rfl rfl ?_
  refine k_iconst X (v := (-1)) dX0_init_54 (by decide) ?_
  refine pX0_31 X (S := ((((((((((((((((S.nw a_5_1 12 18 0).uI a_5_1 0 0).uR a_5_1 1 (some C.e0.1)).uR q 2 (some a_5_1)).nw a_16_11 12 19 0).uI a_16_11 0 0).uR a_16_11 1 (some C.e0.1)).uR q 3 (some a_16_11)).nw a_29_22 13 43 8).uR q 4 (some a_29_22)).nw a_35_27 12 20 0).uI a_35_27 0 0).uR a_35_27 1 (some C.e0.1)).uR q 5 (some a_35_27)).nw a_48_41 13 44 40).uR q 6 (some a_48_41))) hat_45.1 hat_45.2 dX0_init_55 ?_
  have hat_48 := at_uI (b := q) (j := 7) (v := (-1 : Int32)) hat_45
  have hat_49 := at_uI (b := q) (j := 7) (v := (-1 : Int32)) hat_46
  have hat_50 := at_uI (b := q) (j := 7) (v := (-1 : Int32)) hat_47
  refine k_aload_n X (q := 0) dX0_init_58 rfl rfl ?_
  refine k_iconst X (v := (-1)) dX0_init_59 (by decide) ?_
  refine pX0_35 X (S := (((((((((((((((((S.nw a_5_1 12 18 0).uI a_5_1 0 0).uR a_5_1 1 (some C.e0.1)).uR q 2 (some a_5_1)).nw a_16_11 12 19 0).uI a_16_11 0 0).uR a_16_11 1 (some C.e0.1)).uR q 3 (some a_16_11)).nw a_29_22 13 43 8).uR q 4 (some a_29_22)).nw a_35_27 12 20 0).uI a_35_27 0 0).uR a_35_27 1 (some C.e0.1)).uR q 5 (some a_35_27)).nw a_48_41 13 44 40).uR q 6 (some a_48_41)).uI q 7 (-1 : Int32))) hat_48.1 hat_48.2 dX0_init_60 ?_
  have hat_51 := at_uI (b := q) (j := 8) (v := (-1 : Int32)) hat_48
  have hat_52 := at_uI (b := q) (j := 8) (v := (-1 : Int32)) hat_49
  have hat_53 := at_uI (b := q) (j := 8) (v := (-1 : Int32)) hat_50
  refine k_aload_n X (q := 0) dX0_init_63 rfl rfl ?_
  refine k_aload_n X (q := 1) dX0_init_64 rfl rfl ?_
  refine pX0_38 X (S := ((((((((((((((((((S.nw a_5_1 12 18 0).uI a_5_1 0 0).uR a_5_1 1 (some C.e0.1)).uR q 2 (some a_5_1)).nw a_16_11 12 19 0).uI a_16_11 0 0).uR a_16_11 1 (some C.e0.1)).uR q 3 (some a_16_11)).nw a_29_22 13 43 8).uR q 4 (some a_29_22)).nw a_35_27 12 20 0).uI a_35_27 0 0).uR a_35_27 1 (some C.e0.1)).uR q 5 (some a_35_27)).nw a_48_41 13 44 40).uR q 6 (some a_48_41)).uI q 7 (-1 : Int32)).uI q 8 (-1 : Int32))) hat_51.1 hat_51.2 hm (r := (some c)) dX0_init_65 ?_
  have hat_54 := at_uR (b := q) (j := 0) (v := (some c)) hat_51
  have hat_55 := at_uR (b := q) (j := 0) (v := (some c)) hat_52
  have hat_56 := at_uR (b := q) (j := 0) (v := (some c)) hat_53
  refine k_aload_n X (q := 0) dX0_init_68 rfl rfl ?_
  refine k_aload_n X (q := 2) dX0_init_69 rfl rfl ?_
  refine pX0_42 X (S := (((((((((((((((((((S.nw a_5_1 12 18 0).uI a_5_1 0 0).uR a_5_1 1 (some C.e0.1)).uR q 2 (some a_5_1)).nw a_16_11 12 19 0).uI a_16_11 0 0).uR a_16_11 1 (some C.e0.1)).uR q 3 (some a_16_11)).nw a_29_22 13 43 8).uR q 4 (some a_29_22)).nw a_35_27 12 20 0).uI a_35_27 0 0).uR a_35_27 1 (some C.e0.1)).uR q 5 (some a_35_27)).nw a_48_41 13 44 40).uR q 6 (some a_48_41)).uI q 7 (-1 : Int32)).uI q 8 (-1 : Int32)).uR q 0 (some c))) hat_54.1 hat_54.2 hm (r := (some d)) dX0_init_70 ?_
  have hat_57 := at_uR (b := q) (j := 1) (v := (some d)) hat_54
  have hat_58 := at_uR (b := q) (j := 1) (v := (some d)) hat_55
  have hat_59 := at_uR (b := q) (j := 1) (v := (some d)) hat_56
  refine k_aload_n X (q := 0) dX0_init_73 rfl rfl ?_
  have ga_5_1 : ¬ a_5_1 ∈ S.L := fun z => fa_5_1 (by simp [uI_L, uR_L, nwL', fiL', z])
  have na_5_1 : ¬ a_5_1 = q := fun e => ga_5_1 (by rw [e]; exact hq.1.1)
  have oa_5_1 : ¬ q = a_5_1 := fun e => na_5_1 e.symm
  have ga_16_11 : ¬ a_16_11 ∈ S.L := fun z => fa_16_11 (by simp [uI_L, uR_L, nwL', fiL', z])
  have na_16_11 : ¬ a_16_11 = q := fun e => ga_16_11 (by rw [e]; exact hq.1.1)
  have oa_16_11 : ¬ q = a_16_11 := fun e => na_16_11 e.symm
  have na_16_11a_5_1 : ¬ a_16_11 = a_5_1 := fun e => fa_16_11 (by rw [e]; simp [uI_L, uR_L, nwL', fiL'])
  have oa_16_11a_5_1 : ¬ a_5_1 = a_16_11 := fun e => na_16_11a_5_1 e.symm
  have ga_29_22 : ¬ a_29_22 ∈ S.L := fun z => fa_29_22 (by simp [uI_L, uR_L, nwL', fiL', z])
  have na_29_22 : ¬ a_29_22 = q := fun e => ga_29_22 (by rw [e]; exact hq.1.1)
  have oa_29_22 : ¬ q = a_29_22 := fun e => na_29_22 e.symm
  have na_29_22a_5_1 : ¬ a_29_22 = a_5_1 := fun e => fa_29_22 (by rw [e]; simp [uI_L, uR_L, nwL', fiL'])
  have oa_29_22a_5_1 : ¬ a_5_1 = a_29_22 := fun e => na_29_22a_5_1 e.symm
  have na_29_22a_16_11 : ¬ a_29_22 = a_16_11 := fun e => fa_29_22 (by rw [e]; simp [uI_L, uR_L, nwL', fiL'])
  have oa_29_22a_16_11 : ¬ a_16_11 = a_29_22 := fun e => na_29_22a_16_11 e.symm
  have ga_35_27 : ¬ a_35_27 ∈ S.L := fun z => fa_35_27 (by simp [uI_L, uR_L, nwL', fiL', z])
  have na_35_27 : ¬ a_35_27 = q := fun e => ga_35_27 (by rw [e]; exact hq.1.1)
  have oa_35_27 : ¬ q = a_35_27 := fun e => na_35_27 e.symm
  have na_35_27a_5_1 : ¬ a_35_27 = a_5_1 := fun e => fa_35_27 (by rw [e]; simp [uI_L, uR_L, nwL', fiL'])
  have oa_35_27a_5_1 : ¬ a_5_1 = a_35_27 := fun e => na_35_27a_5_1 e.symm
  have na_35_27a_16_11 : ¬ a_35_27 = a_16_11 := fun e => fa_35_27 (by rw [e]; simp [uI_L, uR_L, nwL', fiL'])
  have oa_35_27a_16_11 : ¬ a_16_11 = a_35_27 := fun e => na_35_27a_16_11 e.symm
  have na_35_27a_29_22 : ¬ a_35_27 = a_29_22 := fun e => fa_35_27 (by rw [e]; simp [uI_L, uR_L, nwL', fiL'])
  have oa_35_27a_29_22 : ¬ a_29_22 = a_35_27 := fun e => na_35_27a_29_22 e.symm
  have ga_48_41 : ¬ a_48_41 ∈ S.L := fun z => fa_48_41 (by simp [uI_L, uR_L, nwL', fiL', z])
  have na_48_41 : ¬ a_48_41 = q := fun e => ga_48_41 (by rw [e]; exact hq.1.1)
  have oa_48_41 : ¬ q = a_48_41 := fun e => na_48_41 e.symm
  have na_48_41a_5_1 : ¬ a_48_41 = a_5_1 := fun e => fa_48_41 (by rw [e]; simp [uI_L, uR_L, nwL', fiL'])
  have oa_48_41a_5_1 : ¬ a_5_1 = a_48_41 := fun e => na_48_41a_5_1 e.symm
  have na_48_41a_16_11 : ¬ a_48_41 = a_16_11 := fun e => fa_48_41 (by rw [e]; simp [uI_L, uR_L, nwL', fiL'])
  have oa_48_41a_16_11 : ¬ a_16_11 = a_48_41 := fun e => na_48_41a_16_11 e.symm
  have na_48_41a_29_22 : ¬ a_48_41 = a_29_22 := fun e => fa_48_41 (by rw [e]; simp [uI_L, uR_L, nwL', fiL'])
  have oa_48_41a_29_22 : ¬ a_29_22 = a_48_41 := fun e => na_48_41a_29_22 e.symm
  have na_48_41a_35_27 : ¬ a_48_41 = a_35_27 := fun e => fa_48_41 (by rw [e]; simp [uI_L, uR_L, nwL', fiL'])
  have oa_48_41a_35_27 : ¬ a_35_27 = a_48_41 := fun e => na_48_41a_35_27 e.symm
  have hp9 : ((((((((((((((((((((S.nw a_5_1 12 18 0).uI a_5_1 0 0).uR a_5_1 1 (some C.e0.1)).uR q 2 (some a_5_1)).nw a_16_11 12 19 0).uI a_16_11 0 0).uR a_16_11 1 (some C.e0.1)).uR q 3 (some a_16_11)).nw a_29_22 13 43 8).uR q 4 (some a_29_22)).nw a_35_27 12 20 0).uI a_35_27 0 0).uR a_35_27 1 (some C.e0.1)).uR q 5 (some a_35_27)).nw a_48_41 13 44 40).uR q 6 (some a_48_41)).uI q 7 (-1 : Int32)).uI q 8 (-1 : Int32)).uR q 0 (some c)).uR q 1 (some d)).R q 4 = some a_29_22 := by simp [kS.at_, uI_L, uI_K, uI_O, uI_N, uI_R, uI_I, uR_L, uR_K, uR_O, uR_N, uR_I, uR_R, nwL', nwK', nwO', nwN', nwI', nwR', fiL', fiK', fiO', fiN', fiR', fiI', na_5_1, oa_5_1, na_16_11, oa_16_11, na_16_11a_5_1, oa_16_11a_5_1, na_29_22, oa_29_22, na_29_22a_5_1, oa_29_22a_5_1, na_29_22a_16_11, oa_29_22a_16_11, na_35_27, oa_35_27, na_35_27a_5_1, oa_35_27a_5_1, na_35_27a_16_11, oa_35_27a_16_11, na_35_27a_29_22, oa_35_27a_29_22, na_48_41, oa_48_41, na_48_41a_5_1, oa_48_41a_5_1, na_48_41a_16_11, oa_48_41a_16_11, na_48_41a_29_22, oa_48_41a_29_22, na_48_41a_35_27, oa_48_41a_35_27]
  refine gX0_21s X (S := ((((((((((((((((((((S.nw a_5_1 12 18 0).uI a_5_1 0 0).uR a_5_1 1 (some C.e0.1)).uR q 2 (some a_5_1)).nw a_16_11 12 19 0).uI a_16_11 0 0).uR a_16_11 1 (some C.e0.1)).uR q 3 (some a_16_11)).nw a_29_22 13 43 8).uR q 4 (some a_29_22)).nw a_35_27 12 20 0).uI a_35_27 0 0).uR a_35_27 1 (some C.e0.1)).uR q 5 (some a_35_27)).nw a_48_41 13 44 40).uR q 6 (some a_48_41)).uI q 7 (-1 : Int32)).uI q 8 (-1 : Int32)).uR q 0 (some c)).uR q 1 (some d))) hat_57.1 hat_57.2 hp9 dX0_init_74 ?_
  refine k_iconst X (v := (-1)) dX0_init_77 (by decide) ?_
  have hN9 : ((((((((((((((((((((S.nw a_5_1 12 18 0).uI a_5_1 0 0).uR a_5_1 1 (some C.e0.1)).uR q 2 (some a_5_1)).nw a_16_11 12 19 0).uI a_16_11 0 0).uR a_16_11 1 (some C.e0.1)).uR q 3 (some a_16_11)).nw a_29_22 13 43 8).uR q 4 (some a_29_22)).nw a_35_27 12 20 0).uI a_35_27 0 0).uR a_35_27 1 (some C.e0.1)).uR q 5 (some a_35_27)).nw a_48_41 13 44 40).uR q 6 (some a_48_41)).uI q 7 (-1 : Int32)).uI q 8 (-1 : Int32)).uR q 0 (some c)).uR q 1 (some d)).N a_29_22 = 8 := by simp [kS.at_, uI_L, uI_K, uI_O, uI_N, uI_R, uI_I, uR_L, uR_K, uR_O, uR_N, uR_I, uR_R, nwL', nwK', nwO', nwN', nwI', nwR', fiL', fiK', fiO', fiN', fiR', fiI', na_5_1, oa_5_1, na_16_11, oa_16_11, na_16_11a_5_1, oa_16_11a_5_1, na_29_22, oa_29_22, na_29_22a_5_1, oa_29_22a_5_1, na_29_22a_16_11, oa_29_22a_16_11, na_35_27, oa_35_27, na_35_27a_5_1, oa_35_27a_5_1, na_35_27a_16_11, oa_35_27a_16_11, na_35_27a_29_22, oa_35_27a_29_22, na_48_41, oa_48_41, na_48_41a_5_1, oa_48_41a_5_1, na_48_41a_16_11, oa_48_41a_16_11, na_48_41a_29_22, oa_48_41a_29_22, na_48_41a_35_27, oa_48_41a_35_27]
  refine k_gotV X (vX0_46 X (S := ((((((((((((((((((((S.nw a_5_1 12 18 0).uI a_5_1 0 0).uR a_5_1 1 (some C.e0.1)).uR q 2 (some a_5_1)).nw a_16_11 12 19 0).uI a_16_11 0 0).uR a_16_11 1 (some C.e0.1)).uR q 3 (some a_16_11)).nw a_29_22 13 43 8).uR q 4 (some a_29_22)).nw a_35_27 12 20 0).uI a_35_27 0 0).uR a_35_27 1 (some C.e0.1)).uR q 5 (some a_35_27)).nw a_48_41 13 44 40).uR q 6 (some a_48_41)).uI q 7 (-1 : Int32)).uI q 8 (-1 : Int32)).uR q 0 (some c)).uR q 1 (some d))) (c_J7_fill_53178 C.l C.e0 ((((((((((((((((((((S.nw a_5_1 12 18 0).uI a_5_1 0 0).uR a_5_1 1 (some C.e0.1)).uR q 2 (some a_5_1)).nw a_16_11 12 19 0).uI a_16_11 0 0).uR a_16_11 1 (some C.e0.1)).uR q 3 (some a_16_11)).nw a_29_22 13 43 8).uR q 4 (some a_29_22)).nw a_35_27 12 20 0).uI a_35_27 0 0).uR a_35_27 1 (some C.e0.1)).uR q 5 (some a_35_27)).nw a_48_41 13 44 40).uR q 6 (some a_48_41)).uI q 7 (-1 : Int32)).uI q 8 (-1 : Int32)).uR q 0 (some c)).uR q 1 (some d)) a_29_22 (-1 : Int32) ⟨hat_59.1, hat_59.2⟩ (by rw [hN9]; decide)) (As := [.ref a_29_22, .int (-1 : Int32)]) (rest := []) rfl rfl rfl rfl ⟨Nat.le_of_ble_eq_true rfl, Nat.le_of_ble_eq_true rfl⟩ (Nat.le_of_ble_eq_true rfl) ⟨Nat.le_of_ble_eq_true rfl, Nat.le_of_ble_eq_true rfl⟩ dX0_init_78) (fun S_78_61 h_78_59 => ?_)
  subst h_78_59
  have hat_62 := at_fi (b := a_29_22) (n := ((((((((((((((((((((S.nw a_5_1 12 18 0).uI a_5_1 0 0).uR a_5_1 1 (some C.e0.1)).uR q 2 (some a_5_1)).nw a_16_11 12 19 0).uI a_16_11 0 0).uR a_16_11 1 (some C.e0.1)).uR q 3 (some a_16_11)).nw a_29_22 13 43 8).uR q 4 (some a_29_22)).nw a_35_27 12 20 0).uI a_35_27 0 0).uR a_35_27 1 (some C.e0.1)).uR q 5 (some a_35_27)).nw a_48_41 13 44 40).uR q 6 (some a_48_41)).uI q 7 (-1 : Int32)).uI q 8 (-1 : Int32)).uR q 0 (some c)).uR q 1 (some d)).N a_29_22) (v := (-1 : Int32)) hat_57
  have hat_63 := at_fi (b := a_29_22) (n := ((((((((((((((((((((S.nw a_5_1 12 18 0).uI a_5_1 0 0).uR a_5_1 1 (some C.e0.1)).uR q 2 (some a_5_1)).nw a_16_11 12 19 0).uI a_16_11 0 0).uR a_16_11 1 (some C.e0.1)).uR q 3 (some a_16_11)).nw a_29_22 13 43 8).uR q 4 (some a_29_22)).nw a_35_27 12 20 0).uI a_35_27 0 0).uR a_35_27 1 (some C.e0.1)).uR q 5 (some a_35_27)).nw a_48_41 13 44 40).uR q 6 (some a_48_41)).uI q 7 (-1 : Int32)).uI q 8 (-1 : Int32)).uR q 0 (some c)).uR q 1 (some d)).N a_29_22) (v := (-1 : Int32)) hat_58
  have hat_64 := at_fi (b := a_29_22) (n := ((((((((((((((((((((S.nw a_5_1 12 18 0).uI a_5_1 0 0).uR a_5_1 1 (some C.e0.1)).uR q 2 (some a_5_1)).nw a_16_11 12 19 0).uI a_16_11 0 0).uR a_16_11 1 (some C.e0.1)).uR q 3 (some a_16_11)).nw a_29_22 13 43 8).uR q 4 (some a_29_22)).nw a_35_27 12 20 0).uI a_35_27 0 0).uR a_35_27 1 (some C.e0.1)).uR q 5 (some a_35_27)).nw a_48_41 13 44 40).uR q 6 (some a_48_41)).uI q 7 (-1 : Int32)).uI q 8 (-1 : Int32)).uR q 0 (some c)).uR q 1 (some d)).N a_29_22) (v := (-1 : Int32)) hat_59
  rw [hN9]
  rw [hN9] at hat_62 hat_63 hat_64
  have ga_5_1 : ¬ a_5_1 ∈ S.L := fun z => fa_5_1 (by simp [uI_L, uR_L, nwL', fiL', z])
  have na_5_1 : ¬ a_5_1 = q := fun e => ga_5_1 (by rw [e]; exact hq.1.1)
  have oa_5_1 : ¬ q = a_5_1 := fun e => na_5_1 e.symm
  have ga_16_11 : ¬ a_16_11 ∈ S.L := fun z => fa_16_11 (by simp [uI_L, uR_L, nwL', fiL', z])
  have na_16_11 : ¬ a_16_11 = q := fun e => ga_16_11 (by rw [e]; exact hq.1.1)
  have oa_16_11 : ¬ q = a_16_11 := fun e => na_16_11 e.symm
  have na_16_11a_5_1 : ¬ a_16_11 = a_5_1 := fun e => fa_16_11 (by rw [e]; simp [uI_L, uR_L, nwL', fiL'])
  have oa_16_11a_5_1 : ¬ a_5_1 = a_16_11 := fun e => na_16_11a_5_1 e.symm
  have ga_29_22 : ¬ a_29_22 ∈ S.L := fun z => fa_29_22 (by simp [uI_L, uR_L, nwL', fiL', z])
  have na_29_22 : ¬ a_29_22 = q := fun e => ga_29_22 (by rw [e]; exact hq.1.1)
  have oa_29_22 : ¬ q = a_29_22 := fun e => na_29_22 e.symm
  have na_29_22a_5_1 : ¬ a_29_22 = a_5_1 := fun e => fa_29_22 (by rw [e]; simp [uI_L, uR_L, nwL', fiL'])
  have oa_29_22a_5_1 : ¬ a_5_1 = a_29_22 := fun e => na_29_22a_5_1 e.symm
  have na_29_22a_16_11 : ¬ a_29_22 = a_16_11 := fun e => fa_29_22 (by rw [e]; simp [uI_L, uR_L, nwL', fiL'])
  have oa_29_22a_16_11 : ¬ a_16_11 = a_29_22 := fun e => na_29_22a_16_11 e.symm
  have ga_35_27 : ¬ a_35_27 ∈ S.L := fun z => fa_35_27 (by simp [uI_L, uR_L, nwL', fiL', z])
  have na_35_27 : ¬ a_35_27 = q := fun e => ga_35_27 (by rw [e]; exact hq.1.1)
  have oa_35_27 : ¬ q = a_35_27 := fun e => na_35_27 e.symm
  have na_35_27a_5_1 : ¬ a_35_27 = a_5_1 := fun e => fa_35_27 (by rw [e]; simp [uI_L, uR_L, nwL', fiL'])
  have oa_35_27a_5_1 : ¬ a_5_1 = a_35_27 := fun e => na_35_27a_5_1 e.symm
  have na_35_27a_16_11 : ¬ a_35_27 = a_16_11 := fun e => fa_35_27 (by rw [e]; simp [uI_L, uR_L, nwL', fiL'])
  have oa_35_27a_16_11 : ¬ a_16_11 = a_35_27 := fun e => na_35_27a_16_11 e.symm
  have na_35_27a_29_22 : ¬ a_35_27 = a_29_22 := fun e => fa_35_27 (by rw [e]; simp [uI_L, uR_L, nwL', fiL'])
  have oa_35_27a_29_22 : ¬ a_29_22 = a_35_27 := fun e => na_35_27a_29_22 e.symm
  have ga_48_41 : ¬ a_48_41 ∈ S.L := fun z => fa_48_41 (by simp [uI_L, uR_L, nwL', fiL', z])
  have na_48_41 : ¬ a_48_41 = q := fun e => ga_48_41 (by rw [e]; exact hq.1.1)
  have oa_48_41 : ¬ q = a_48_41 := fun e => na_48_41 e.symm
  have na_48_41a_5_1 : ¬ a_48_41 = a_5_1 := fun e => fa_48_41 (by rw [e]; simp [uI_L, uR_L, nwL', fiL'])
  have oa_48_41a_5_1 : ¬ a_5_1 = a_48_41 := fun e => na_48_41a_5_1 e.symm
  have na_48_41a_16_11 : ¬ a_48_41 = a_16_11 := fun e => fa_48_41 (by rw [e]; simp [uI_L, uR_L, nwL', fiL'])
  have oa_48_41a_16_11 : ¬ a_16_11 = a_48_41 := fun e => na_48_41a_16_11 e.symm
  have na_48_41a_29_22 : ¬ a_48_41 = a_29_22 := fun e => fa_48_41 (by rw [e]; simp [uI_L, uR_L, nwL', fiL'])
  have oa_48_41a_29_22 : ¬ a_29_22 = a_48_41 := fun e => na_48_41a_29_22 e.symm
  have na_48_41a_35_27 : ¬ a_48_41 = a_35_27 := fun e => fa_48_41 (by rw [e]; simp [uI_L, uR_L, nwL', fiL'])
  have oa_48_41a_35_27 : ¬ a_35_27 = a_48_41 := fun e => na_48_41a_35_27 e.symm
  have hFr : kFr S (((((((((((((((((((((S.nw a_5_1 12 18 0).uI a_5_1 0 0).uR a_5_1 1 (some C.e0.1)).uR q 2 (some a_5_1)).nw a_16_11 12 19 0).uI a_16_11 0 0).uR a_16_11 1 (some C.e0.1)).uR q 3 (some a_16_11)).nw a_29_22 13 43 8).uR q 4 (some a_29_22)).nw a_35_27 12 20 0).uI a_35_27 0 0).uR a_35_27 1 (some C.e0.1)).uR q 5 (some a_35_27)).nw a_48_41 13 44 40).uR q 6 (some a_48_41)).uI q 7 (-1 : Int32)).uI q 8 (-1 : Int32)).uR q 0 (some c)).uR q 1 (some d)).fil a_29_22 8 (-1 : Int32)) (fun b => b = q) := by
    refine ⟨fun b hb => ?_, fun b hb hn => ?_⟩
    · have wa_5_1 : ¬ b = a_5_1 := fun e => ga_5_1 (e ▸ hb)
      have wa_16_11 : ¬ b = a_16_11 := fun e => ga_16_11 (e ▸ hb)
      have wa_29_22 : ¬ b = a_29_22 := fun e => ga_29_22 (e ▸ hb)
      have wa_35_27 : ¬ b = a_35_27 := fun e => ga_35_27 (e ▸ hb)
      have wa_48_41 : ¬ b = a_48_41 := fun e => ga_48_41 (e ▸ hb)
      simp [kS.at_, uI_L, uI_K, uI_O, uI_N, uI_R, uI_I, uR_L, uR_K, uR_O, uR_N, uR_I, uR_R, nwL', nwK', nwO', nwN', nwI', nwR', fiL', fiK', fiO', fiN', fiR', fiI', hb, wa_5_1, wa_16_11, wa_29_22, wa_35_27, wa_48_41]
    · have hn : ¬ b = q := hn
      have wa_5_1 : ¬ b = a_5_1 := fun e => ga_5_1 (e ▸ hb)
      have wa_16_11 : ¬ b = a_16_11 := fun e => ga_16_11 (e ▸ hb)
      have wa_29_22 : ¬ b = a_29_22 := fun e => ga_29_22 (e ▸ hb)
      have wa_35_27 : ¬ b = a_35_27 := fun e => ga_35_27 (e ▸ hb)
      have wa_48_41 : ¬ b = a_48_41 := fun e => ga_48_41 (e ▸ hb)
      simp [kS.at_, uI_L, uI_K, uI_O, uI_N, uI_R, uI_I, uR_L, uR_K, uR_O, uR_N, uR_I, uR_R, nwL', nwK', nwO', nwN', nwI', nwR', fiL', fiK', fiO', fiN', fiR', fiI', hn, wa_5_1, wa_16_11, wa_29_22, wa_35_27, wa_48_41]
  have hBu : kB0 C.e0 (((((((((((((((((((((S.nw a_5_1 12 18 0).uI a_5_1 0 0).uR a_5_1 1 (some C.e0.1)).uR q 2 (some a_5_1)).nw a_16_11 12 19 0).uI a_16_11 0 0).uR a_16_11 1 (some C.e0.1)).uR q 3 (some a_16_11)).nw a_29_22 13 43 8).uR q 4 (some a_29_22)).nw a_35_27 12 20 0).uI a_35_27 0 0).uR a_35_27 1 (some C.e0.1)).uR q 5 (some a_35_27)).nw a_48_41 13 44 40).uR q 6 (some a_48_41)).uI q 7 (-1 : Int32)).uI q 8 (-1 : Int32)).uR q 0 (some c)).uR q 1 (some d)).fil a_29_22 8 (-1 : Int32)) q c d a_5_1 a_16_11 a_29_22 a_35_27 a_48_41 := by
    obtain ⟨hq1, hq2, hq3⟩ := hq
    obtain ⟨hq4, hq5⟩ := hq1
    unfold kB0 kOj
    simp [kS.at_, uI_L, uI_K, uI_O, uI_N, uI_R, uI_I, uR_L, uR_K, uR_O, uR_N, uR_I, uR_R, nwL', nwK', nwO', nwN', nwI', nwR', fiL', fiK', fiO', fiN', fiR', fiI', hq4, hq5, hq2, hq3, na_5_1, oa_5_1, na_16_11, oa_16_11, na_16_11a_5_1, oa_16_11a_5_1, na_29_22, oa_29_22, na_29_22a_5_1, oa_29_22a_5_1, na_29_22a_16_11, oa_29_22a_16_11, na_35_27, oa_35_27, na_35_27a_5_1, oa_35_27a_5_1, na_35_27a_16_11, oa_35_27a_16_11, na_35_27a_29_22, oa_35_27a_29_22, na_48_41, oa_48_41, na_48_41a_5_1, oa_48_41a_5_1, na_48_41a_16_11, oa_48_41a_16_11, na_48_41a_29_22, oa_48_41a_29_22, na_48_41a_35_27, oa_48_41a_35_27]
  exact k_vret X E dX0_init_81 (Nat.le_of_ble_eq_true rfl) (Nat.le_of_ble_eq_true rfl) (⟨a_5_1, a_16_11, a_29_22, a_35_27, a_48_41, hFr, hBu⟩)
set_option maxHeartbeats 1000000 in
set_option maxRecDepth 20000 in
theorem c_X5_init (l : Launch) (e0 : Nat × Nat) (S : kS) (q c : Nat) (hq : kOj S q 5 5 0) : kM l e0 yX5_init cX5_init 2 none ({ frames := 4, cells := 8, slots := 30, locals := 84 } : Room) 8 30 [.ref q, .ref c] S (kQv (fun S9 => ∃ x0 x1 x2 x3 x4 x5 x6 x7, kFr S S9 (fun b => b = q) ∧ kB5 e0 S9 q c x0 x1 x2 x3 x4 x5 x6 x7)) := by
  refine kMetE (by decide +kernel) (Nat.le_of_ble_eq_true rfl) (fun C he hl X E hm => ?_)
  have X : kX C RX5 cX5_init 2 ({ frames := 4, cells := 8, slots := 30, locals := 84 } : Room) := X
  subst he hl
  show kG C 2 S 0 0 0 [(0, .ref q), (1, .ref c)] []
  refine k_aload_n X (q := 0) dX5_init_0 rfl rfl ?_
  refine k_objInit X qmX5_3 (Nat.le_of_ble_eq_true rfl) (Nat.le_of_ble_eq_true rfl) dX5_init_1 ?_
  refine k_aload_n X (q := 0) dX5_init_4 rfl rfl ?_
  refine k_iconst X (v := 0) dX5_init_5 (by decide) ?_
  refine pX5_9 X (S := S) hq.1.1 hq.1.2 dX5_init_6 ?_
  have hat_1 := at_uI (b := q) (j := 1) (v := 0) hq.1
  refine k_aload_n X (q := 0) dX5_init_9 rfl rfl ?_
  refine k_iconst X (v := 4) dX5_init_10 (by decide) ?_
  refine k_newI X (N' := 4) 45 qAI (by decide) (by decide) (by decide) (Nat.le_of_ble_eq_true rfl) (Nat.le_of_ble_eq_true rfl) dX5_init_11 (fun a_11_2 fa_11_2 => ?_)
  have hat_3 := nw_at (κ := 13) (ρ := 45) (n := 4) fa_11_2 hat_1
  have hat_a_11_2 := nw_self (S := (S.uI q 1 0)) (q := a_11_2) (κ := 13) (ρ := 45) (n := 4)
  refine pX5_15 X (S := ((S.uI q 1 0).nw a_11_2 13 45 4)) hat_3.1 hat_3.2 hm (r := (some a_11_2)) dX5_init_13 ?_
  have hat_4 := at_uR (b := q) (j := 2) (v := (some a_11_2)) hat_3
  have hat_5 := at_uR (b := q) (j := 2) (v := (some a_11_2)) hat_a_11_2
  refine k_aload_n X (q := 0) dX5_init_16 rfl rfl ?_
  refine k_iconst X (v := 4) dX5_init_17 (by decide) ?_
  refine k_newI X (N' := 4) 46 qAI (by decide) (by decide) (by decide) (Nat.le_of_ble_eq_true rfl) (Nat.le_of_ble_eq_true rfl) dX5_init_18 (fun a_18_6 fa_18_6 => ?_)
  have hat_7 := nw_at (κ := 13) (ρ := 46) (n := 4) fa_18_6 hat_4
  have hat_8 := nw_at (κ := 13) (ρ := 46) (n := 4) fa_18_6 hat_5
  have hat_a_18_6 := nw_self (S := (((S.uI q 1 0).nw a_11_2 13 45 4).uR q 2 (some a_11_2))) (q := a_18_6) (κ := 13) (ρ := 46) (n := 4)
  refine pX5_19 X (S := ((((S.uI q 1 0).nw a_11_2 13 45 4).uR q 2 (some a_11_2)).nw a_18_6 13 46 4)) hat_7.1 hat_7.2 hm (r := (some a_18_6)) dX5_init_20 ?_
  have hat_9 := at_uR (b := q) (j := 3) (v := (some a_18_6)) hat_7
  have hat_10 := at_uR (b := q) (j := 3) (v := (some a_18_6)) hat_a_18_6
  refine k_aload_n X (q := 0) dX5_init_23 rfl rfl ?_
  refine k_iconst X (v := 4) dX5_init_24 (by decide) ?_
  refine k_newI X (N' := 4) 47 qAI (by decide) (by decide) (by decide) (Nat.le_of_ble_eq_true rfl) (Nat.le_of_ble_eq_true rfl) dX5_init_25 (fun a_25_11 fa_25_11 => ?_)
  have hat_12 := nw_at (κ := 13) (ρ := 47) (n := 4) fa_25_11 hat_9
  have hat_13 := nw_at (κ := 13) (ρ := 47) (n := 4) fa_25_11 hat_10
  have hat_a_25_11 := nw_self (S := (((((S.uI q 1 0).nw a_11_2 13 45 4).uR q 2 (some a_11_2)).nw a_18_6 13 46 4).uR q 3 (some a_18_6))) (q := a_25_11) (κ := 13) (ρ := 47) (n := 4)
  refine pX5_22 X (S := ((((((S.uI q 1 0).nw a_11_2 13 45 4).uR q 2 (some a_11_2)).nw a_18_6 13 46 4).uR q 3 (some a_18_6)).nw a_25_11 13 47 4)) hat_12.1 hat_12.2 hm (r := (some a_25_11)) dX5_init_27 ?_
  have hat_14 := at_uR (b := q) (j := 4) (v := (some a_25_11)) hat_12
  have hat_15 := at_uR (b := q) (j := 4) (v := (some a_25_11)) hat_a_25_11
  refine k_aload_n X (q := 0) dX5_init_30 rfl rfl ?_
  refine k_iconst X (v := 4) dX5_init_31 (by decide) ?_
  refine k_newI X (N' := 4) 48 qAI (by decide) (by decide) (by decide) (Nat.le_of_ble_eq_true rfl) (Nat.le_of_ble_eq_true rfl) dX5_init_32 (fun a_32_16 fa_32_16 => ?_)
  have hat_17 := nw_at (κ := 13) (ρ := 48) (n := 4) fa_32_16 hat_14
  have hat_18 := nw_at (κ := 13) (ρ := 48) (n := 4) fa_32_16 hat_15
  have hat_a_32_16 := nw_self (S := (((((((S.uI q 1 0).nw a_11_2 13 45 4).uR q 2 (some a_11_2)).nw a_18_6 13 46 4).uR q 3 (some a_18_6)).nw a_25_11 13 47 4).uR q 4 (some a_25_11))) (q := a_32_16) (κ := 13) (ρ := 48) (n := 4)
  refine pX5_25 X (S := ((((((((S.uI q 1 0).nw a_11_2 13 45 4).uR q 2 (some a_11_2)).nw a_18_6 13 46 4).uR q 3 (some a_18_6)).nw a_25_11 13 47 4).uR q 4 (some a_25_11)).nw a_32_16 13 48 4)) hat_17.1 hat_17.2 hm (r := (some a_32_16)) dX5_init_34 ?_
  have hat_19 := at_uR (b := q) (j := 5) (v := (some a_32_16)) hat_17
  have hat_20 := at_uR (b := q) (j := 5) (v := (some a_32_16)) hat_a_32_16
  refine k_aload_n X (q := 0) dX5_init_37 rfl rfl ?_
  refine k_iconst X (v := 4) dX5_init_38 (by decide) ?_
  refine k_newI X (N' := 4) 49 qAI (by decide) (by decide) (by decide) (Nat.le_of_ble_eq_true rfl) (Nat.le_of_ble_eq_true rfl) dX5_init_39 (fun a_39_21 fa_39_21 => ?_)
  have hat_22 := nw_at (κ := 13) (ρ := 49) (n := 4) fa_39_21 hat_19
  have hat_23 := nw_at (κ := 13) (ρ := 49) (n := 4) fa_39_21 hat_20
  have hat_a_39_21 := nw_self (S := (((((((((S.uI q 1 0).nw a_11_2 13 45 4).uR q 2 (some a_11_2)).nw a_18_6 13 46 4).uR q 3 (some a_18_6)).nw a_25_11 13 47 4).uR q 4 (some a_25_11)).nw a_32_16 13 48 4).uR q 5 (some a_32_16))) (q := a_39_21) (κ := 13) (ρ := 49) (n := 4)
  refine pX5_28 X (S := ((((((((((S.uI q 1 0).nw a_11_2 13 45 4).uR q 2 (some a_11_2)).nw a_18_6 13 46 4).uR q 3 (some a_18_6)).nw a_25_11 13 47 4).uR q 4 (some a_25_11)).nw a_32_16 13 48 4).uR q 5 (some a_32_16)).nw a_39_21 13 49 4)) hat_22.1 hat_22.2 hm (r := (some a_39_21)) dX5_init_41 ?_
  have hat_24 := at_uR (b := q) (j := 6) (v := (some a_39_21)) hat_22
  have hat_25 := at_uR (b := q) (j := 6) (v := (some a_39_21)) hat_a_39_21
  refine k_aload_n X (q := 0) dX5_init_44 rfl rfl ?_
  refine k_iconst X (v := 4) dX5_init_45 (by decide) ?_
  refine k_newI X (N' := 4) 50 qAI (by decide) (by decide) (by decide) (Nat.le_of_ble_eq_true rfl) (Nat.le_of_ble_eq_true rfl) dX5_init_46 (fun a_46_26 fa_46_26 => ?_)
  have hat_27 := nw_at (κ := 13) (ρ := 50) (n := 4) fa_46_26 hat_24
  have hat_28 := nw_at (κ := 13) (ρ := 50) (n := 4) fa_46_26 hat_25
  have hat_a_46_26 := nw_self (S := (((((((((((S.uI q 1 0).nw a_11_2 13 45 4).uR q 2 (some a_11_2)).nw a_18_6 13 46 4).uR q 3 (some a_18_6)).nw a_25_11 13 47 4).uR q 4 (some a_25_11)).nw a_32_16 13 48 4).uR q 5 (some a_32_16)).nw a_39_21 13 49 4).uR q 6 (some a_39_21))) (q := a_46_26) (κ := 13) (ρ := 50) (n := 4)
  refine pX5_31 X (S := ((((((((((((S.uI q 1 0).nw a_11_2 13 45 4).uR q 2 (some a_11_2)).nw a_18_6 13 46 4).uR q 3 (some a_18_6)).nw a_25_11 13 47 4).uR q 4 (some a_25_11)).nw a_32_16 13 48 4).uR q 5 (some a_32_16)).nw a_39_21 13 49 4).uR q 6 (some a_39_21)).nw a_46_26 13 50 4)) hat_27.1 hat_27.2 hm (r := (some a_46_26)) dX5_init_48 ?_
  have hat_29 := at_uR (b := q) (j := 7) (v := (some a_46_26)) hat_27
  have hat_30 := at_uR (b := q) (j := 7) (v := (some a_46_26)) hat_a_46_26
  refine k_aload_n X (q := 0) dX5_init_51 rfl rfl ?_
  refine nX5_34 X 21 (Nat.le_of_ble_eq_true rfl) (Nat.le_of_ble_eq_true rfl) dX5_init_52 (fun a_52_31 fa_52_31 => ?_)
  have hat_32 := nw_at (κ := 12) (ρ := 21) (n := 0) fa_52_31 hat_29
  have hat_33 := nw_at (κ := 12) (ρ := 21) (n := 0) fa_52_31 hat_30
  have hat_a_52_31 := nw_self (S := (((((((((((((S.uI q 1 0).nw a_11_2 13 45 4).uR q 2 (some a_11_2)).nw a_18_6 13 46 4).uR q 3 (some a_18_6)).nw a_25_11 13 47 4).uR q 4 (some a_25_11)).nw a_32_16 13 48 4).uR q 5 (some a_32_16)).nw a_39_21 13 49 4).uR q 6 (some a_39_21)).nw a_46_26 13 50 4).uR q 7 (some a_46_26))) (q := a_52_31) (κ := 12) (ρ := 21) (n := 0)
  refine k_dup X dX5_init_55 rfl ?_
  refine k_gotV X (vX5_36 X (S := ((((((((((((((S.uI q 1 0).nw a_11_2 13 45 4).uR q 2 (some a_11_2)).nw a_18_6 13 46 4).uR q 3 (some a_18_6)).nw a_25_11 13 47 4).uR q 4 (some a_25_11)).nw a_32_16 13 48 4).uR q 5 (some a_32_16)).nw a_39_21 13 49 4).uR q 6 (some a_39_21)).nw a_46_26 13 50 4).uR q 7 (some a_46_26)).nw a_52_31 12 21 0)) (c_Jx4a65c_init_da8c8 C.l C.e0 ((((((((((((((S.uI q 1 0).nw a_11_2 13 45 4).uR q 2 (some a_11_2)).nw a_18_6 13 46 4).uR q 3 (some a_18_6)).nw a_25_11 13 47 4).uR q 4 (some a_25_11)).nw a_32_16 13 48 4).uR q 5 (some a_32_16)).nw a_39_21 13 49 4).uR q 6 (some a_39_21)).nw a_46_26 13 50 4).uR q 7 (some a_46_26)).nw a_52_31 12 21 0) a_52_31 hat_a_52_31) (As := []) (rest := [.ref a_52_31, .ref q]) rfl rfl rfl rfl ⟨Nat.le_of_ble_eq_true rfl, Nat.le_of_ble_eq_true rfl⟩ (Nat.le_of_ble_eq_true rfl) ⟨Nat.le_of_ble_eq_true rfl, Nat.le_of_ble_eq_true rfl⟩ dX5_init_56) (fun S_56_35 h_56_33 => ?_)
  subst h_56_33
  have hat_36 := at_uI (b := a_52_31) (j := 0) (v := 0) hat_32
  have hat_37 := at_uI (b := a_52_31) (j := 0) (v := 0) hat_a_52_31
  have hat_38 := at_uR (b := a_52_31) (j := 1) (v := some C.e0.1) hat_36
  have hat_39 := at_uR (b := a_52_31) (j := 1) (v := some C.e0.1) hat_37
  refine pX5_37 X (S := ((((((((((((((((S.uI q 1 0).nw a_11_2 13 45 4).uR q 2 (some a_11_2)).nw a_18_6 13 46 4).uR q 3 (some a_18_6)).nw a_25_11 13 47 4).uR q 4 (some a_25_11)).nw a_32_16 13 48 4).uR q 5 (some a_32_16)).nw a_39_21 13 49 4).uR q 6 (some a_39_21)).nw a_46_26 13 50 4).uR q 7 (some a_46_26)).nw a_52_31 12 21 0).uI a_52_31 0 0).uR a_52_31 1 (some C.e0.1))) hat_38.1 hat_38.2 hm (r := (some a_52_31)) dX5_init_59 ?_
  have hat_40 := at_uR (b := q) (j := 8) (v := (some a_52_31)) hat_38
  have hat_41 := at_uR (b := q) (j := 8) (v := (some a_52_31)) hat_39
  refine k_aload_n X (q := 0) dX5_init_62 rfl rfl ?_
  refine nX5_34 X 22 (Nat.le_of_ble_eq_true rfl) (Nat.le_of_ble_eq_true rfl) dX5_init_63 (fun a_63_42 fa_63_42 => ?_)
  have hat_43 := nw_at (κ := 12) (ρ := 22) (n := 0) fa_63_42 hat_40
  have hat_44 := nw_at (κ := 12) (ρ := 22) (n := 0) fa_63_42 hat_41
  have hat_a_63_42 := nw_self (S := (((((((((((((((((S.uI q 1 0).nw a_11_2 13 45 4).uR q 2 (some a_11_2)).nw a_18_6 13 46 4).uR q 3 (some a_18_6)).nw a_25_11 13 47 4).uR q 4 (some a_25_11)).nw a_32_16 13 48 4).uR q 5 (some a_32_16)).nw a_39_21 13 49 4).uR q 6 (some a_39_21)).nw a_46_26 13 50 4).uR q 7 (some a_46_26)).nw a_52_31 12 21 0).uI a_52_31 0 0).uR a_52_31 1 (some C.e0.1)).uR q 8 (some a_52_31))) (q := a_63_42) (κ := 12) (ρ := 22) (n := 0)
  refine k_dup X dX5_init_66 rfl ?_
  refine k_gotV X (vX5_36 X (S := ((((((((((((((((((S.uI q 1 0).nw a_11_2 13 45 4).uR q 2 (some a_11_2)).nw a_18_6 13 46 4).uR q 3 (some a_18_6)).nw a_25_11 13 47 4).uR q 4 (some a_25_11)).nw a_32_16 13 48 4).uR q 5 (some a_32_16)).nw a_39_21 13 49 4).uR q 6 (some a_39_21)).nw a_46_26 13 50 4).uR q 7 (some a_46_26)).nw a_52_31 12 21 0).uI a_52_31 0 0).uR a_52_31 1 (some C.e0.1)).uR q 8 (some a_52_31)).nw a_63_42 12 22 0)) (c_Jx4a65c_init_da8c8 C.l C.e0 ((((((((((((((((((S.uI q 1 0).nw a_11_2 13 45 4).uR q 2 (some a_11_2)).nw a_18_6 13 46 4).uR q 3 (some a_18_6)).nw a_25_11 13 47 4).uR q 4 (some a_25_11)).nw a_32_16 13 48 4).uR q 5 (some a_32_16)).nw a_39_21 13 49 4).uR q 6 (some a_39_21)).nw a_46_26 13 50 4).uR q 7 (some a_46_26)).nw a_52_31 12 21 0).uI a_52_31 0 0).uR a_52_31 1 (some C.e0.1)).uR q 8 (some a_52_31)).nw a_63_42 12 22 0) a_63_42 hat_a_63_42) (As := []) (rest := [.ref a_63_42, .ref q]) rfl rfl rfl rfl ⟨Nat.le_of_ble_eq_true rfl, Nat.le_of_ble_eq_true rfl⟩ (Nat.le_of_ble_eq_true rfl) ⟨Nat.le_of_ble_eq_true rfl, Nat.le_of_ble_eq_true rfl⟩ dX5_init_67) (fun S_67_46 h_67_44 => ?_)
  subst h_67_44
  have hat_47 := at_uI (b := a_63_42) (j := 0) (v := 0) hat_43
  have hat_48 := at_uI (b := a_63_42) (j := 0) (v := 0) hat_a_63_42
  have hat_49 := at_uR (b := a_63_42) (j := 1) (v := some C.e0.1) hat_47
  have hat_50 := at_uR (b := a_63_42) (j := 1) (v := some C.e0.1) hat_48
  refine pX5_41 X (S := ((((((((((((((((((((S.uI q 1 0).nw a_11_2 13 45 4).uR q 2 (some a_11_2)).nw a_18_6 13 46 4).uR q 3 (some a_18_6)).nw a_25_11 13 47 4).uR q 4 (some a_25_11)).nw a_32_16 13 48 4).uR q 5 (some a_32_16)).nw a_39_21 13 49 4).uR q 6 (some a_39_21)).nw a_46_26 13 50 4).uR q 7 (some a_46_26)).nw a_52_31 12 21 0).uI a_52_31 0 0).uR a_52_31 1 (some C.e0.1)).uR q 8 (some a_52_31)).nw a_63_42 12 22 0).uI a_63_42 0 0).uR a_63_42 1 (some C.e0.1))) hat_49.1 hat_49.2 hm (r := (some a_63_42)) dX5_init_70 ?_
  have hat_51 := at_uR (b := q) (j := 9) (v := (some a_63_42)) hat_49
  have hat_52 := at_uR (b := q) (j := 9) (v := (some a_63_42)) hat_50
  refine k_aload_n X (q := 0) dX5_init_73 rfl rfl ?_
  refine k_iconst X (v := (-1)) dX5_init_74 (by decide) ?_
  refine pX5_44 X (S := (((((((((((((((((((((S.uI q 1 0).nw a_11_2 13 45 4).uR q 2 (some a_11_2)).nw a_18_6 13 46 4).uR q 3 (some a_18_6)).nw a_25_11 13 47 4).uR q 4 (some a_25_11)).nw a_32_16 13 48 4).uR q 5 (some a_32_16)).nw a_39_21 13 49 4).uR q 6 (some a_39_21)).nw a_46_26 13 50 4).uR q 7 (some a_46_26)).nw a_52_31 12 21 0).uI a_52_31 0 0).uR a_52_31 1 (some C.e0.1)).uR q 8 (some a_52_31)).nw a_63_42 12 22 0).uI a_63_42 0 0).uR a_63_42 1 (some C.e0.1)).uR q 9 (some a_63_42))) hat_51.1 hat_51.2 dX5_init_75 ?_
  have hat_53 := at_uI (b := q) (j := 10) (v := (-1 : Int32)) hat_51
  have hat_54 := at_uI (b := q) (j := 10) (v := (-1 : Int32)) hat_52
  refine k_aload_n X (q := 0) dX5_init_78 rfl rfl ?_
  refine k_aload_n X (q := 1) dX5_init_79 rfl rfl ?_
  refine pX5_47 X (S := ((((((((((((((((((((((S.uI q 1 0).nw a_11_2 13 45 4).uR q 2 (some a_11_2)).nw a_18_6 13 46 4).uR q 3 (some a_18_6)).nw a_25_11 13 47 4).uR q 4 (some a_25_11)).nw a_32_16 13 48 4).uR q 5 (some a_32_16)).nw a_39_21 13 49 4).uR q 6 (some a_39_21)).nw a_46_26 13 50 4).uR q 7 (some a_46_26)).nw a_52_31 12 21 0).uI a_52_31 0 0).uR a_52_31 1 (some C.e0.1)).uR q 8 (some a_52_31)).nw a_63_42 12 22 0).uI a_63_42 0 0).uR a_63_42 1 (some C.e0.1)).uR q 9 (some a_63_42)).uI q 10 (-1 : Int32))) hat_53.1 hat_53.2 hm (r := (some c)) dX5_init_80 ?_
  have hat_55 := at_uR (b := q) (j := 0) (v := (some c)) hat_53
  have hat_56 := at_uR (b := q) (j := 0) (v := (some c)) hat_54
  have ga_11_2 : ¬ a_11_2 ∈ S.L := fun z => fa_11_2 (by simp [uI_L, uR_L, nwL', fiL', z])
  have na_11_2 : ¬ a_11_2 = q := fun e => ga_11_2 (by rw [e]; exact hq.1.1)
  have oa_11_2 : ¬ q = a_11_2 := fun e => na_11_2 e.symm
  have ga_18_6 : ¬ a_18_6 ∈ S.L := fun z => fa_18_6 (by simp [uI_L, uR_L, nwL', fiL', z])
  have na_18_6 : ¬ a_18_6 = q := fun e => ga_18_6 (by rw [e]; exact hq.1.1)
  have oa_18_6 : ¬ q = a_18_6 := fun e => na_18_6 e.symm
  have na_18_6a_11_2 : ¬ a_18_6 = a_11_2 := fun e => fa_18_6 (by rw [e]; simp [uI_L, uR_L, nwL', fiL'])
  have oa_18_6a_11_2 : ¬ a_11_2 = a_18_6 := fun e => na_18_6a_11_2 e.symm
  have ga_25_11 : ¬ a_25_11 ∈ S.L := fun z => fa_25_11 (by simp [uI_L, uR_L, nwL', fiL', z])
  have na_25_11 : ¬ a_25_11 = q := fun e => ga_25_11 (by rw [e]; exact hq.1.1)
  have oa_25_11 : ¬ q = a_25_11 := fun e => na_25_11 e.symm
  have na_25_11a_11_2 : ¬ a_25_11 = a_11_2 := fun e => fa_25_11 (by rw [e]; simp [uI_L, uR_L, nwL', fiL'])
  have oa_25_11a_11_2 : ¬ a_11_2 = a_25_11 := fun e => na_25_11a_11_2 e.symm
  have na_25_11a_18_6 : ¬ a_25_11 = a_18_6 := fun e => fa_25_11 (by rw [e]; simp [uI_L, uR_L, nwL', fiL'])
  have oa_25_11a_18_6 : ¬ a_18_6 = a_25_11 := fun e => na_25_11a_18_6 e.symm
  have ga_32_16 : ¬ a_32_16 ∈ S.L := fun z => fa_32_16 (by simp [uI_L, uR_L, nwL', fiL', z])
  have na_32_16 : ¬ a_32_16 = q := fun e => ga_32_16 (by rw [e]; exact hq.1.1)
  have oa_32_16 : ¬ q = a_32_16 := fun e => na_32_16 e.symm
  have na_32_16a_11_2 : ¬ a_32_16 = a_11_2 := fun e => fa_32_16 (by rw [e]; simp [uI_L, uR_L, nwL', fiL'])
  have oa_32_16a_11_2 : ¬ a_11_2 = a_32_16 := fun e => na_32_16a_11_2 e.symm
  have na_32_16a_18_6 : ¬ a_32_16 = a_18_6 := fun e => fa_32_16 (by rw [e]; simp [uI_L, uR_L, nwL', fiL'])
  have oa_32_16a_18_6 : ¬ a_18_6 = a_32_16 := fun e => na_32_16a_18_6 e.symm
  have na_32_16a_25_11 : ¬ a_32_16 = a_25_11 := fun e => fa_32_16 (by rw [e]; simp [uI_L, uR_L, nwL', fiL'])
  have oa_32_16a_25_11 : ¬ a_25_11 = a_32_16 := fun e => na_32_16a_25_11 e.symm
  have ga_39_21 : ¬ a_39_21 ∈ S.L := fun z => fa_39_21 (by simp [uI_L, uR_L, nwL', fiL', z])
  have na_39_21 : ¬ a_39_21 = q := fun e => ga_39_21 (by rw [e]; exact hq.1.1)
  have oa_39_21 : ¬ q = a_39_21 := fun e => na_39_21 e.symm
  have na_39_21a_11_2 : ¬ a_39_21 = a_11_2 := fun e => fa_39_21 (by rw [e]; simp [uI_L, uR_L, nwL', fiL'])
  have oa_39_21a_11_2 : ¬ a_11_2 = a_39_21 := fun e => na_39_21a_11_2 e.symm
  have na_39_21a_18_6 : ¬ a_39_21 = a_18_6 := fun e => fa_39_21 (by rw [e]; simp [uI_L, uR_L, nwL', fiL'])
  have oa_39_21a_18_6 : ¬ a_18_6 = a_39_21 := fun e => na_39_21a_18_6 e.symm
  have na_39_21a_25_11 : ¬ a_39_21 = a_25_11 := fun e => fa_39_21 (by rw [e]; simp [uI_L, uR_L, nwL', fiL'])
  have oa_39_21a_25_11 : ¬ a_25_11 = a_39_21 := fun e => na_39_21a_25_11 e.symm
  have na_39_21a_32_16 : ¬ a_39_21 = a_32_16 := fun e => fa_39_21 (by rw [e]; simp [uI_L, uR_L, nwL', fiL'])
  have oa_39_21a_32_16 : ¬ a_32_16 = a_39_21 := fun e => na_39_21a_32_16 e.symm
  have ga_46_26 : ¬ a_46_26 ∈ S.L := fun z => fa_46_26 (by simp [uI_L, uR_L, nwL', fiL', z])
  have na_46_26 : ¬ a_46_26 = q := fun e => ga_46_26 (by rw [e]; exact hq.1.1)
  have oa_46_26 : ¬ q = a_46_26 := fun e => na_46_26 e.symm
  have na_46_26a_11_2 : ¬ a_46_26 = a_11_2 := fun e => fa_46_26 (by rw [e]; simp [uI_L, uR_L, nwL', fiL'])
  have oa_46_26a_11_2 : ¬ a_11_2 = a_46_26 := fun e => na_46_26a_11_2 e.symm
  have na_46_26a_18_6 : ¬ a_46_26 = a_18_6 := fun e => fa_46_26 (by rw [e]; simp [uI_L, uR_L, nwL', fiL'])
  have oa_46_26a_18_6 : ¬ a_18_6 = a_46_26 := fun e => na_46_26a_18_6 e.symm
  have na_46_26a_25_11 : ¬ a_46_26 = a_25_11 := fun e => fa_46_26 (by rw [e]; simp [uI_L, uR_L, nwL', fiL'])
  have oa_46_26a_25_11 : ¬ a_25_11 = a_46_26 := fun e => na_46_26a_25_11 e.symm
  have na_46_26a_32_16 : ¬ a_46_26 = a_32_16 := fun e => fa_46_26 (by rw [e]; simp [uI_L, uR_L, nwL', fiL'])
  have oa_46_26a_32_16 : ¬ a_32_16 = a_46_26 := fun e => na_46_26a_32_16 e.symm
  have na_46_26a_39_21 : ¬ a_46_26 = a_39_21 := fun e => fa_46_26 (by rw [e]; simp [uI_L, uR_L, nwL', fiL'])
  have oa_46_26a_39_21 : ¬ a_39_21 = a_46_26 := fun e => na_46_26a_39_21 e.symm
  have ga_52_31 : ¬ a_52_31 ∈ S.L := fun z => fa_52_31 (by simp [uI_L, uR_L, nwL', fiL', z])
  have na_52_31 : ¬ a_52_31 = q := fun e => ga_52_31 (by rw [e]; exact hq.1.1)
  have oa_52_31 : ¬ q = a_52_31 := fun e => na_52_31 e.symm
  have na_52_31a_11_2 : ¬ a_52_31 = a_11_2 := fun e => fa_52_31 (by rw [e]; simp [uI_L, uR_L, nwL', fiL'])
  have oa_52_31a_11_2 : ¬ a_11_2 = a_52_31 := fun e => na_52_31a_11_2 e.symm
  have na_52_31a_18_6 : ¬ a_52_31 = a_18_6 := fun e => fa_52_31 (by rw [e]; simp [uI_L, uR_L, nwL', fiL'])
  have oa_52_31a_18_6 : ¬ a_18_6 = a_52_31 := fun e => na_52_31a_18_6 e.symm
  have na_52_31a_25_11 : ¬ a_52_31 = a_25_11 := fun e => fa_52_31 (by rw [e]; simp [uI_L, uR_L, nwL', fiL'])
  have oa_52_31a_25_11 : ¬ a_25_11 = a_52_31 := fun e => na_52_31a_25_11 e.symm
  have na_52_31a_32_16 : ¬ a_52_31 = a_32_16 := fun e => fa_52_31 (by rw [e]; simp [uI_L, uR_L, nwL', fiL'])
  have oa_52_31a_32_16 : ¬ a_32_16 = a_52_31 := fun e => na_52_31a_32_16 e.symm
  have na_52_31a_39_21 : ¬ a_52_31 = a_39_21 := fun e => fa_52_31 (by rw [e]; simp [uI_L, uR_L, nwL', fiL'])
  have oa_52_31a_39_21 : ¬ a_39_21 = a_52_31 := fun e => na_52_31a_39_21 e.symm
  have na_52_31a_46_26 : ¬ a_52_31 = a_46_26 := fun e => fa_52_31 (by rw [e]; simp [uI_L, uR_L, nwL', fiL'])
  have oa_52_31a_46_26 : ¬ a_46_26 = a_52_31 := fun e => na_52_31a_46_26 e.symm
  have ga_63_42 : ¬ a_63_42 ∈ S.L := fun z => fa_63_42 (by simp [uI_L, uR_L, nwL', fiL', z])
  have na_63_42 : ¬ a_63_42 = q := fun e => ga_63_42 (by rw [e]; exact hq.1.1)
  have oa_63_42 : ¬ q = a_63_42 := fun e => na_63_42 e.symm
  have na_63_42a_11_2 : ¬ a_63_42 = a_11_2 := fun e => fa_63_42 (by rw [e]; simp [uI_L, uR_L, nwL', fiL'])
  have oa_63_42a_11_2 : ¬ a_11_2 = a_63_42 := fun e => na_63_42a_11_2 e.symm
  have na_63_42a_18_6 : ¬ a_63_42 = a_18_6 := fun e => fa_63_42 (by rw [e]; simp [uI_L, uR_L, nwL', fiL'])
  have oa_63_42a_18_6 : ¬ a_18_6 = a_63_42 := fun e => na_63_42a_18_6 e.symm
  have na_63_42a_25_11 : ¬ a_63_42 = a_25_11 := fun e => fa_63_42 (by rw [e]; simp [uI_L, uR_L, nwL', fiL'])
  have oa_63_42a_25_11 : ¬ a_25_11 = a_63_42 := fun e => na_63_42a_25_11 e.symm
  have na_63_42a_32_16 : ¬ a_63_42 = a_32_16 := fun e => fa_63_42 (by rw [e]; simp [uI_L, uR_L, nwL', fiL'])
  have oa_63_42a_32_16 : ¬ a_32_16 = a_63_42 := fun e => na_63_42a_32_16 e.symm
  have na_63_42a_39_21 : ¬ a_63_42 = a_39_21 := fun e => fa_63_42 (by rw [e]; simp [uI_L, uR_L, nwL', fiL'])
  have oa_63_42a_39_21 : ¬ a_39_21 = a_63_42 := fun e => na_63_42a_39_21 e.symm
  have na_63_42a_46_26 : ¬ a_63_42 = a_46_26 := fun e => fa_63_42 (by rw [e]; simp [uI_L, uR_L, nwL', fiL'])
  have oa_63_42a_46_26 : ¬ a_46_26 = a_63_42 := fun e => na_63_42a_46_26 e.symm
  have na_63_42a_52_31 : ¬ a_63_42 = a_52_31 := fun e => fa_63_42 (by rw [e]; simp [uI_L, uR_L, nwL', fiL'])
  have oa_63_42a_52_31 : ¬ a_52_31 = a_63_42 := fun e => na_63_42a_52_31 e.symm
  have hFr : kFr S (((((((((((((((((((((((S.uI q 1 0).nw a_11_2 13 45 4).uR q 2 (some a_11_2)).nw a_18_6 13 46 4).uR q 3 (some a_18_6)).nw a_25_11 13 47 4).uR q 4 (some a_25_11)).nw a_32_16 13 48 4).uR q 5 (some a_32_16)).nw a_39_21 13 49 4).uR q 6 (some a_39_21)).nw a_46_26 13 50 4).uR q 7 (some a_46_26)).nw a_52_31 12 21 0).uI a_52_31 0 0).uR a_52_31 1 (some C.e0.1)).uR q 8 (some a_52_31)).nw a_63_42 12 22 0).uI a_63_42 0 0).uR a_63_42 1 (some C.e0.1)).uR q 9 (some a_63_42)).uI q 10 (-1 : Int32)).uR q 0 (some c)) (fun b => b = q) := by
    refine ⟨fun b hb => ?_, fun b hb hn => ?_⟩
    · have wa_11_2 : ¬ b = a_11_2 := fun e => ga_11_2 (e ▸ hb)
      have wa_18_6 : ¬ b = a_18_6 := fun e => ga_18_6 (e ▸ hb)
      have wa_25_11 : ¬ b = a_25_11 := fun e => ga_25_11 (e ▸ hb)
      have wa_32_16 : ¬ b = a_32_16 := fun e => ga_32_16 (e ▸ hb)
      have wa_39_21 : ¬ b = a_39_21 := fun e => ga_39_21 (e ▸ hb)
      have wa_46_26 : ¬ b = a_46_26 := fun e => ga_46_26 (e ▸ hb)
      have wa_52_31 : ¬ b = a_52_31 := fun e => ga_52_31 (e ▸ hb)
      have wa_63_42 : ¬ b = a_63_42 := fun e => ga_63_42 (e ▸ hb)
      simp [kS.at_, uI_L, uI_K, uI_O, uI_N, uI_R, uI_I, uR_L, uR_K, uR_O, uR_N, uR_I, uR_R, nwL', nwK', nwO', nwN', nwI', nwR', fiL', fiK', fiO', fiN', fiR', fiI', hb, wa_11_2, wa_18_6, wa_25_11, wa_32_16, wa_39_21, wa_46_26, wa_52_31, wa_63_42]
    · have hn : ¬ b = q := hn
      have wa_11_2 : ¬ b = a_11_2 := fun e => ga_11_2 (e ▸ hb)
      have wa_18_6 : ¬ b = a_18_6 := fun e => ga_18_6 (e ▸ hb)
      have wa_25_11 : ¬ b = a_25_11 := fun e => ga_25_11 (e ▸ hb)
      have wa_32_16 : ¬ b = a_32_16 := fun e => ga_32_16 (e ▸ hb)
      have wa_39_21 : ¬ b = a_39_21 := fun e => ga_39_21 (e ▸ hb)
      have wa_46_26 : ¬ b = a_46_26 := fun e => ga_46_26 (e ▸ hb)
      have wa_52_31 : ¬ b = a_52_31 := fun e => ga_52_31 (e ▸ hb)
      have wa_63_42 : ¬ b = a_63_42 := fun e => ga_63_42 (e ▸ hb)
      simp [kS.at_, uI_L, uI_K, uI_O, uI_N, uI_R, uI_I, uR_L, uR_K, uR_O, uR_N, uR_I, uR_R, nwL', nwK', nwO', nwN', nwI', nwR', fiL', fiK', fiO', fiN', fiR', fiI', hn, wa_11_2, wa_18_6, wa_25_11, wa_32_16, wa_39_21, wa_46_26, wa_52_31, wa_63_42]
  have hBu : kB5 C.e0 (((((((((((((((((((((((S.uI q 1 0).nw a_11_2 13 45 4).uR q 2 (some a_11_2)).nw a_18_6 13 46 4).uR q 3 (some a_18_6)).nw a_25_11 13 47 4).uR q 4 (some a_25_11)).nw a_32_16 13 48 4).uR q 5 (some a_32_16)).nw a_39_21 13 49 4).uR q 6 (some a_39_21)).nw a_46_26 13 50 4).uR q 7 (some a_46_26)).nw a_52_31 12 21 0).uI a_52_31 0 0).uR a_52_31 1 (some C.e0.1)).uR q 8 (some a_52_31)).nw a_63_42 12 22 0).uI a_63_42 0 0).uR a_63_42 1 (some C.e0.1)).uR q 9 (some a_63_42)).uI q 10 (-1 : Int32)).uR q 0 (some c)) q c a_11_2 a_18_6 a_25_11 a_32_16 a_39_21 a_46_26 a_52_31 a_63_42 := by
    obtain ⟨hq1, hq2, hq3⟩ := hq
    obtain ⟨hq4, hq5⟩ := hq1
    unfold kB5 kOj
    simp [kS.at_, uI_L, uI_K, uI_O, uI_N, uI_R, uI_I, uR_L, uR_K, uR_O, uR_N, uR_I, uR_R, nwL', nwK', nwO', nwN', nwI', nwR', fiL', fiK', fiO', fiN', fiR', fiI', hq4, hq5, hq2, hq3, na_11_2, oa_11_2, na_18_6, oa_18_6, na_18_6a_11_2, oa_18_6a_11_2, na_25_11, oa_25_11, na_25_11a_11_2, oa_25_11a_11_2, na_25_11a_18_6, oa_25_11a_18_6, na_32_16, oa_32_16, na_32_16a_11_2, oa_32_16a_11_2, na_32_16a_18_6, oa_32_16a_18_6, na_32_16a_25_11, oa_32_16a_25_11, na_39_21, oa_39_21, na_39_21a_11_2, oa_39_21a_11_2, na_39_21a_18_6, oa_39_21a_18_6, na_39_21a_25_11, oa_39_21a_25_11, na_39_21a_32_16, oa_39_21a_32_16, na_46_26, oa_46_26, na_46_26a_11_2, oa_46_26a_11_2, na_46_26a_18_6, oa_46_26a_18_6, na_46_26a_25_11, oa_46_26a_25_11, na_46_26a_32_16, oa_46_26a_32_16, na_46_26a_39_21, oa_46_26a_39_21, na_52_31, oa_52_31, na_52_31a_11_2, oa_52_31a_11_2, na_52_31a_18_6, oa_52_31a_18_6, na_52_31a_25_11, oa_52_31a_25_11, na_52_31a_32_16, oa_52_31a_32_16, na_52_31a_39_21, oa_52_31a_39_21, na_52_31a_46_26, oa_52_31a_46_26, na_63_42, oa_63_42, na_63_42a_11_2, oa_63_42a_11_2, na_63_42a_18_6, oa_63_42a_18_6, na_63_42a_25_11, oa_63_42a_25_11, na_63_42a_32_16, oa_63_42a_32_16, na_63_42a_39_21, oa_63_42a_39_21, na_63_42a_46_26, oa_63_42a_46_26, na_63_42a_52_31, oa_63_42a_52_31]
  exact k_vret X E dX5_init_83 (Nat.le_of_ble_eq_true rfl) (Nat.le_of_ble_eq_true rfl) (⟨a_11_2, a_18_6, a_25_11, a_32_16, a_39_21, a_46_26, a_52_31, a_63_42, hFr, hBu⟩)
set_option maxHeartbeats 1000000 in
set_option maxRecDepth 20000 in
theorem c_X9_init (l : Launch) (e0 : Nat × Nat) (S : kS) (q c d e : Nat) (hq : kOj S q 9 6 0) : kM l e0 yX9_init cX9_init 4 none ({ frames := 4, cells := 3, slots := 10, locals := 84 } : Room) 3 10 [.ref q, .ref c, .ref d, .ref e] S (kQv (fun S9 => ∃ x0 x1 x2, kFr S S9 (fun b => b = q) ∧ kB9 e0 S9 q c d e x0 x1 x2)) := by
  refine kMetE (by decide +kernel) (Nat.le_of_ble_eq_true rfl) (fun C he hl X E hm => ?_)
  have X : kX C RX9 cX9_init 4 ({ frames := 4, cells := 3, slots := 10, locals := 84 } : Room) := X
  subst he hl
  show kG C 4 S 0 0 0 [(0, .ref q), (1, .ref c), (2, .ref d), (3, .ref e)] []
  refine k_aload_n X (q := 0) dX9_init_0 rfl rfl ?_
  refine k_objInit X qmX9_3 (Nat.le_of_ble_eq_true rfl) (Nat.le_of_ble_eq_true rfl) dX9_init_1 ?_
  refine k_aload_n X (q := 0) dX9_init_4 rfl rfl ?_
  refine nX9_9 X 23 (Nat.le_of_ble_eq_true rfl) (Nat.le_of_ble_eq_true rfl) dX9_init_5 (fun a_5_1 fa_5_1 => ?_)
  have hat_2 := nw_at (κ := 12) (ρ := 23) (n := 0) fa_5_1 hq.1
  have hat_a_5_1 := nw_self (S := S) (q := a_5_1) (κ := 12) (ρ := 23) (n := 0)
  refine k_dup X dX9_init_8 rfl ?_
  refine k_gotV X (vX9_11 X (S := (S.nw a_5_1 12 23 0)) (c_Jx4a65c_init_da8c8 C.l C.e0 (S.nw a_5_1 12 23 0) a_5_1 hat_a_5_1) (As := []) (rest := [.ref a_5_1, .ref q]) rfl rfl rfl rfl ⟨Nat.le_of_ble_eq_true rfl, Nat.le_of_ble_eq_true rfl⟩ (Nat.le_of_ble_eq_true rfl) ⟨Nat.le_of_ble_eq_true rfl, Nat.le_of_ble_eq_true rfl⟩ dX9_init_9) (fun S_9_4 h_9_2 => ?_)
  subst h_9_2
  have hat_5 := at_uI (b := a_5_1) (j := 0) (v := 0) hat_2
  have hat_6 := at_uI (b := a_5_1) (j := 0) (v := 0) hat_a_5_1
  have hat_7 := at_uR (b := a_5_1) (j := 1) (v := some C.e0.1) hat_5
  have hat_8 := at_uR (b := a_5_1) (j := 1) (v := some C.e0.1) hat_6
  refine pX9_12 X (S := (((S.nw a_5_1 12 23 0).uI a_5_1 0 0).uR a_5_1 1 (some C.e0.1))) hat_7.1 hat_7.2 hm (r := (some a_5_1)) dX9_init_12 ?_
  have hat_9 := at_uR (b := q) (j := 3) (v := (some a_5_1)) hat_7
  have hat_10 := at_uR (b := q) (j := 3) (v := (some a_5_1)) hat_8
  refine k_aload_n X (q := 0) dX9_init_15 rfl rfl ?_
  refine nX9_9 X 24 (Nat.le_of_ble_eq_true rfl) (Nat.le_of_ble_eq_true rfl) dX9_init_16 (fun a_16_11 fa_16_11 => ?_)
  have hat_12 := nw_at (κ := 12) (ρ := 24) (n := 0) fa_16_11 hat_9
  have hat_13 := nw_at (κ := 12) (ρ := 24) (n := 0) fa_16_11 hat_10
  have hat_a_16_11 := nw_self (S := ((((S.nw a_5_1 12 23 0).uI a_5_1 0 0).uR a_5_1 1 (some C.e0.1)).uR q 3 (some a_5_1))) (q := a_16_11) (κ := 12) (ρ := 24) (n := 0)
  refine k_dup X dX9_init_19 rfl ?_
  refine k_gotV X (vX9_11 X (S := (((((S.nw a_5_1 12 23 0).uI a_5_1 0 0).uR a_5_1 1 (some C.e0.1)).uR q 3 (some a_5_1)).nw a_16_11 12 24 0)) (c_Jx4a65c_init_da8c8 C.l C.e0 (((((S.nw a_5_1 12 23 0).uI a_5_1 0 0).uR a_5_1 1 (some C.e0.1)).uR q 3 (some a_5_1)).nw a_16_11 12 24 0) a_16_11 hat_a_16_11) (As := []) (rest := [.ref a_16_11, .ref q]) rfl rfl rfl rfl ⟨Nat.le_of_ble_eq_true rfl, Nat.le_of_ble_eq_true rfl⟩ (Nat.le_of_ble_eq_true rfl) ⟨Nat.le_of_ble_eq_true rfl, Nat.le_of_ble_eq_true rfl⟩ dX9_init_20) (fun S_20_15 h_20_13 => ?_)
  subst h_20_13
  have hat_16 := at_uI (b := a_16_11) (j := 0) (v := 0) hat_12
  have hat_17 := at_uI (b := a_16_11) (j := 0) (v := 0) hat_a_16_11
  have hat_18 := at_uR (b := a_16_11) (j := 1) (v := some C.e0.1) hat_16
  have hat_19 := at_uR (b := a_16_11) (j := 1) (v := some C.e0.1) hat_17
  refine pX9_18 X (S := (((((((S.nw a_5_1 12 23 0).uI a_5_1 0 0).uR a_5_1 1 (some C.e0.1)).uR q 3 (some a_5_1)).nw a_16_11 12 24 0).uI a_16_11 0 0).uR a_16_11 1 (some C.e0.1))) hat_18.1 hat_18.2 hm (r := (some a_16_11)) dX9_init_23 ?_
  have hat_20 := at_uR (b := q) (j := 4) (v := (some a_16_11)) hat_18
  have hat_21 := at_uR (b := q) (j := 4) (v := (some a_16_11)) hat_19
  refine k_aload_n X (q := 0) dX9_init_26 rfl rfl ?_
  refine k_iconst X (v := 4) dX9_init_27 (by decide) ?_
  refine k_newI X (N' := 4) 51 qAI (by decide) (by decide) (by decide) (Nat.le_of_ble_eq_true rfl) (Nat.le_of_ble_eq_true rfl) dX9_init_28 (fun a_28_22 fa_28_22 => ?_)
  have hat_23 := nw_at (κ := 13) (ρ := 51) (n := 4) fa_28_22 hat_20
  have hat_24 := nw_at (κ := 13) (ρ := 51) (n := 4) fa_28_22 hat_21
  have hat_a_28_22 := nw_self (S := ((((((((S.nw a_5_1 12 23 0).uI a_5_1 0 0).uR a_5_1 1 (some C.e0.1)).uR q 3 (some a_5_1)).nw a_16_11 12 24 0).uI a_16_11 0 0).uR a_16_11 1 (some C.e0.1)).uR q 4 (some a_16_11))) (q := a_28_22) (κ := 13) (ρ := 51) (n := 4)
  refine pX9_21 X (S := (((((((((S.nw a_5_1 12 23 0).uI a_5_1 0 0).uR a_5_1 1 (some C.e0.1)).uR q 3 (some a_5_1)).nw a_16_11 12 24 0).uI a_16_11 0 0).uR a_16_11 1 (some C.e0.1)).uR q 4 (some a_16_11)).nw a_28_22 13 51 4)) hat_23.1 hat_23.2 hm (r := (some a_28_22)) dX9_init_30 ?_
  have hat_25 := at_uR (b := q) (j := 5) (v := (some a_28_22)) hat_23
  have hat_26 := at_uR (b := q) (j := 5) (v := (some a_28_22)) hat_a_28_22
  refine k_aload_n X (q := 0) dX9_init_33 rfl rfl ?_
  refine k_iconst X (v := (-1)) dX9_init_34 (by decide) ?_
  refine pX9_25 X (S := ((((((((((S.nw a_5_1 12 23 0).uI a_5_1 0 0).uR a_5_1 1 (some C.e0.1)).uR q 3 (some a_5_1)).nw a_16_11 12 24 0).uI a_16_11 0 0).uR a_16_11 1 (some C.e0.1)).uR q 4 (some a_16_11)).nw a_28_22 13 51 4).uR q 5 (some a_28_22))) hat_25.1 hat_25.2 dX9_init_35 ?_
  have hat_27 := at_uI (b := q) (j := 6) (v := (-1 : Int32)) hat_25
  have hat_28 := at_uI (b := q) (j := 6) (v := (-1 : Int32)) hat_26
  refine k_aload_n X (q := 0) dX9_init_38 rfl rfl ?_
  refine k_iconst X (v := (-1)) dX9_init_39 (by decide) ?_
  refine pX9_29 X (S := (((((((((((S.nw a_5_1 12 23 0).uI a_5_1 0 0).uR a_5_1 1 (some C.e0.1)).uR q 3 (some a_5_1)).nw a_16_11 12 24 0).uI a_16_11 0 0).uR a_16_11 1 (some C.e0.1)).uR q 4 (some a_16_11)).nw a_28_22 13 51 4).uR q 5 (some a_28_22)).uI q 6 (-1 : Int32))) hat_27.1 hat_27.2 dX9_init_40 ?_
  have hat_29 := at_uI (b := q) (j := 7) (v := (-1 : Int32)) hat_27
  have hat_30 := at_uI (b := q) (j := 7) (v := (-1 : Int32)) hat_28
  refine k_aload_n X (q := 0) dX9_init_43 rfl rfl ?_
  refine k_aload_n X (q := 1) dX9_init_44 rfl rfl ?_
  refine pX9_32 X (S := ((((((((((((S.nw a_5_1 12 23 0).uI a_5_1 0 0).uR a_5_1 1 (some C.e0.1)).uR q 3 (some a_5_1)).nw a_16_11 12 24 0).uI a_16_11 0 0).uR a_16_11 1 (some C.e0.1)).uR q 4 (some a_16_11)).nw a_28_22 13 51 4).uR q 5 (some a_28_22)).uI q 6 (-1 : Int32)).uI q 7 (-1 : Int32))) hat_29.1 hat_29.2 hm (r := (some c)) dX9_init_45 ?_
  have hat_31 := at_uR (b := q) (j := 0) (v := (some c)) hat_29
  have hat_32 := at_uR (b := q) (j := 0) (v := (some c)) hat_30
  refine k_aload_n X (q := 0) dX9_init_48 rfl rfl ?_
  refine k_aload_n X (q := 2) dX9_init_49 rfl rfl ?_
  refine pX9_36 X (S := (((((((((((((S.nw a_5_1 12 23 0).uI a_5_1 0 0).uR a_5_1 1 (some C.e0.1)).uR q 3 (some a_5_1)).nw a_16_11 12 24 0).uI a_16_11 0 0).uR a_16_11 1 (some C.e0.1)).uR q 4 (some a_16_11)).nw a_28_22 13 51 4).uR q 5 (some a_28_22)).uI q 6 (-1 : Int32)).uI q 7 (-1 : Int32)).uR q 0 (some c))) hat_31.1 hat_31.2 hm (r := (some d)) dX9_init_50 ?_
  have hat_33 := at_uR (b := q) (j := 1) (v := (some d)) hat_31
  have hat_34 := at_uR (b := q) (j := 1) (v := (some d)) hat_32
  refine k_aload_n X (q := 0) dX9_init_53 rfl rfl ?_
  refine k_aload_n X (q := 3) dX9_init_54 rfl rfl ?_
  refine pX9_40 X (S := ((((((((((((((S.nw a_5_1 12 23 0).uI a_5_1 0 0).uR a_5_1 1 (some C.e0.1)).uR q 3 (some a_5_1)).nw a_16_11 12 24 0).uI a_16_11 0 0).uR a_16_11 1 (some C.e0.1)).uR q 4 (some a_16_11)).nw a_28_22 13 51 4).uR q 5 (some a_28_22)).uI q 6 (-1 : Int32)).uI q 7 (-1 : Int32)).uR q 0 (some c)).uR q 1 (some d))) hat_33.1 hat_33.2 hm (r := (some e)) dX9_init_55 ?_
  have hat_35 := at_uR (b := q) (j := 2) (v := (some e)) hat_33
  have hat_36 := at_uR (b := q) (j := 2) (v := (some e)) hat_34
  have ga_5_1 : ¬ a_5_1 ∈ S.L := fun z => fa_5_1 (by simp [uI_L, uR_L, nwL', fiL', z])
  have na_5_1 : ¬ a_5_1 = q := fun e => ga_5_1 (by rw [e]; exact hq.1.1)
  have oa_5_1 : ¬ q = a_5_1 := fun e => na_5_1 e.symm
  have ga_16_11 : ¬ a_16_11 ∈ S.L := fun z => fa_16_11 (by simp [uI_L, uR_L, nwL', fiL', z])
  have na_16_11 : ¬ a_16_11 = q := fun e => ga_16_11 (by rw [e]; exact hq.1.1)
  have oa_16_11 : ¬ q = a_16_11 := fun e => na_16_11 e.symm
  have na_16_11a_5_1 : ¬ a_16_11 = a_5_1 := fun e => fa_16_11 (by rw [e]; simp [uI_L, uR_L, nwL', fiL'])
  have oa_16_11a_5_1 : ¬ a_5_1 = a_16_11 := fun e => na_16_11a_5_1 e.symm
  have ga_28_22 : ¬ a_28_22 ∈ S.L := fun z => fa_28_22 (by simp [uI_L, uR_L, nwL', fiL', z])
  have na_28_22 : ¬ a_28_22 = q := fun e => ga_28_22 (by rw [e]; exact hq.1.1)
  have oa_28_22 : ¬ q = a_28_22 := fun e => na_28_22 e.symm
  have na_28_22a_5_1 : ¬ a_28_22 = a_5_1 := fun e => fa_28_22 (by rw [e]; simp [uI_L, uR_L, nwL', fiL'])
  have oa_28_22a_5_1 : ¬ a_5_1 = a_28_22 := fun e => na_28_22a_5_1 e.symm
  have na_28_22a_16_11 : ¬ a_28_22 = a_16_11 := fun e => fa_28_22 (by rw [e]; simp [uI_L, uR_L, nwL', fiL'])
  have oa_28_22a_16_11 : ¬ a_16_11 = a_28_22 := fun e => na_28_22a_16_11 e.symm
  have hFr : kFr S (((((((((((((((S.nw a_5_1 12 23 0).uI a_5_1 0 0).uR a_5_1 1 (some C.e0.1)).uR q 3 (some a_5_1)).nw a_16_11 12 24 0).uI a_16_11 0 0).uR a_16_11 1 (some C.e0.1)).uR q 4 (some a_16_11)).nw a_28_22 13 51 4).uR q 5 (some a_28_22)).uI q 6 (-1 : Int32)).uI q 7 (-1 : Int32)).uR q 0 (some c)).uR q 1 (some d)).uR q 2 (some e)) (fun b => b = q) := by
    refine ⟨fun b hb => ?_, fun b hb hn => ?_⟩
    · have wa_5_1 : ¬ b = a_5_1 := fun e => ga_5_1 (e ▸ hb)
      have wa_16_11 : ¬ b = a_16_11 := fun e => ga_16_11 (e ▸ hb)
      have wa_28_22 : ¬ b = a_28_22 := fun e => ga_28_22 (e ▸ hb)
      simp [kS.at_, uI_L, uI_K, uI_O, uI_N, uI_R, uI_I, uR_L, uR_K, uR_O, uR_N, uR_I, uR_R, nwL', nwK', nwO', nwN', nwI', nwR', fiL', fiK', fiO', fiN', fiR', fiI', hb, wa_5_1, wa_16_11, wa_28_22]
    · have hn : ¬ b = q := hn
      have wa_5_1 : ¬ b = a_5_1 := fun e => ga_5_1 (e ▸ hb)
      have wa_16_11 : ¬ b = a_16_11 := fun e => ga_16_11 (e ▸ hb)
      have wa_28_22 : ¬ b = a_28_22 := fun e => ga_28_22 (e ▸ hb)
      simp [kS.at_, uI_L, uI_K, uI_O, uI_N, uI_R, uI_I, uR_L, uR_K, uR_O, uR_N, uR_I, uR_R, nwL', nwK', nwO', nwN', nwI', nwR', fiL', fiK', fiO', fiN', fiR', fiI', hn, wa_5_1, wa_16_11, wa_28_22]
  have hBu : kB9 C.e0 (((((((((((((((S.nw a_5_1 12 23 0).uI a_5_1 0 0).uR a_5_1 1 (some C.e0.1)).uR q 3 (some a_5_1)).nw a_16_11 12 24 0).uI a_16_11 0 0).uR a_16_11 1 (some C.e0.1)).uR q 4 (some a_16_11)).nw a_28_22 13 51 4).uR q 5 (some a_28_22)).uI q 6 (-1 : Int32)).uI q 7 (-1 : Int32)).uR q 0 (some c)).uR q 1 (some d)).uR q 2 (some e)) q c d e a_5_1 a_16_11 a_28_22 := by
    obtain ⟨hq1, hq2, hq3⟩ := hq
    obtain ⟨hq4, hq5⟩ := hq1
    unfold kB9 kOj
    simp [kS.at_, uI_L, uI_K, uI_O, uI_N, uI_R, uI_I, uR_L, uR_K, uR_O, uR_N, uR_I, uR_R, nwL', nwK', nwO', nwN', nwI', nwR', fiL', fiK', fiO', fiN', fiR', fiI', hq4, hq5, hq2, hq3, na_5_1, oa_5_1, na_16_11, oa_16_11, na_16_11a_5_1, oa_16_11a_5_1, na_28_22, oa_28_22, na_28_22a_5_1, oa_28_22a_5_1, na_28_22a_16_11, oa_28_22a_16_11]
  exact k_vret X E dX9_init_58 (Nat.le_of_ble_eq_true rfl) (Nat.le_of_ble_eq_true rfl) (⟨a_5_1, a_16_11, a_28_22, hFr, hBu⟩)
