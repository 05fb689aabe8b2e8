/-! ONE NUMBER OF ALL THAT IS ASKED -/
def kdi (q : Nat → Int32) : Nat → Int64 → Int64
  | 0, d => d
  | m + 1, d => kdi q m d * 31 + (q m).toInt64
def kdd (q : Nat → Nat → Int32) (m : Nat) : Nat → Int64 → Int64
  | 0, d => d
  | k + 1, d => kdi (q k) m (kdd q m k d)
theorem kdi_0 {q : Nat → Int32} {d : Int64} : kdi q 0 d = d := rfl
theorem kdi_s {q : Nat → Int32} {d : Int64} {m : Nat} : kdi q (m + 1) d = kdi q m d * 31 + (q m).toInt64 := rfl
theorem kdd_0 {q : Nat → Nat → Int32} {d : Int64} {m : Nat} : kdd q m 0 d = d := rfl
theorem kdd_s {q : Nat → Nat → Int32} {d : Int64} {m k : Nat} : kdd q m (k + 1) d = kdi (q k) m (kdd q m k d) := rfl
theorem kdi_congr {q q' : Nat → Int32} {d : Int64} : ∀ m, (∀ i, i < m → q i = q' i) → kdi q m d = kdi q' m d
  | 0, _ => rfl
  | m + 1, h => by
    show kdi q m d * 31 + (q m).toInt64 = kdi q' m d * 31 + (q' m).toInt64
    rw [kdi_congr m (fun i hi => h i (by omega)), h m (by omega)]
theorem kdd_congr {q q' : Nat → Nat → Int32} {d : Int64} {m : Nat} : ∀ k, (∀ i, i < k → ∀ j, j < m → q i j = q' i j) → kdd q m k d = kdd q' m k d
  | 0, _ => rfl
  | k + 1, h => by
    show kdi (q k) m (kdd q m k d) = kdi (q' k) m (kdd q' m k d)
    rw [kdd_congr k (fun i hi => h i (by omega)), kdi_congr m (h k (by omega))]
def kdo (S : kS) (A : Nat → Nat) (n : Nat) (cz : Nat → Nat) (d : Int64) : Int64 := kdd (kQtribe S A n cz) 5 4 (kdd (kQoffice S A) 4 7 d)
def kdl (S : kS) (A : Nat → Nat) (n : Nat) (cz : Nat → Nat) (L : kLL) (d : Int64) : Int64 := kdd (fun i => kQcit S A (cz i)) 13 n (kdi (fun k => kfor S A cz n (L.xa k)) L.ma (kdd (kQsuit S L) 7 L.ms (kdd (kQdecree S A L) 5 L.md d)))
def kdig (S : kS) (A : Nat → Nat) (n : Nat) (cz : Nat → Nat) (L : kLL) : Int64 := kdl S A n cz L (kdo S A n cz (kdi (fun k => kvat S (A 43) (nI k)) 8 (kdi (kQjury S A L) 7 (kdi (kQmoney S A n cz) 9 (kdi (kQcouncil S A n cz) 5 (kdi (kQcity S A n cz L) 15 58261)))))) * 31 + (1 : Int32).toInt64
theorem le_of_nlt9 {i m : Nat} (c : ¬ nI m < nI i) (h : i < 1000 ∧ m < 1000) : i ≤ m := by
  have h1 := Int32.le_iff_toInt_le.mp (Int32.not_lt.mp c)
  rw [nI_toInt (by omega), nI_toInt (by omega)] at h1
  omega
theorem kcnt_congr {p q : Nat → Bool} : ∀ m, (∀ i, i < m → p i = q i) → kcnt p m = kcnt q m
  | 0, _ => rfl
  | m + 1, h => by
    unfold kcnt
    rw [kcnt_congr m (fun i hi => h i (by omega)), h m (by omega)]
theorem kor_congr {f g : Nat → Int32} : ∀ m, (∀ i, i < m → f i = g i) → kor f m = kor g m
  | 0, _ => rfl
  | m + 1, h => by
    show kor f m ||| f m = kor g m ||| g m
    rw [kor_congr m (fun i hi => h i (by omega)), h m (by omega)]
theorem kff_congr {p q : Nat → Bool} : ∀ m, (∀ i, i < m → p i = q i) → kff p m = kff q m
  | 0, _ => rfl
  | m + 1, h => by
    unfold kff
    rw [kff_congr m (fun i hi => h i (by omega)), h m (by omega)]
section KDV
variable {e0 : Nat × Nat} {A : Nat → Nat} {n : Nat} {cz : Nat → Nat} {T G E : Nat} {S S' : kS} {L : kLL}
theorem v20o (hf : kFr S S' (kRo S 20)) {b ρ : Nat} (hb : b ∈ S.L) (ho : S.O b = ρ) (hr : ¬ ρ = 20 ∧ ¬ ρ = 120) : (∀ j, S'.I b j = S.I b j) ∧ (∀ j, S'.R b j = S.R b j) ∧ S'.N b = S.N b := by
  have h1 := hf.2 b hb (fun z => by unfold kRo at z; omega)
  exact ⟨h1.1, h1.2, (hf.1 b hb).2.2.2⟩
theorem kvat_v (hf : kFr S S' (kRo S 20)) {b ρ : Nat} (hb : b ∈ S.L) (ho : S.O b = ρ) (hr : ¬ ρ = 20 ∧ ¬ ρ = 120) (x : Int32) : kvat S' b x = kvat S b x := by
  obtain ⟨h1, -, h3⟩ := v20o hf hb ho hr
  unfold kvat
  rw [h3, h1]
theorem kpre_v (h : kI e0 A n cz T G E S) (hf : kFr S S' (kRo S 20)) : ∀ i, i < n → kpre S' A cz i = kpre S A cz i := fun i hi => by
  unfold kpre
  rw [fr20_c h hf hi, fr20_c h hf hi, fr20_1 h hf]
theorem kQcity_v (h : kI e0 A n cz T G E S) (hQ : kQL e0 A n cz L S) (hf : kFr S S' (kRo S 20)) (w : Nat) : kQcity S' A n cz L w = kQcity S A n cz L w := by
  have a1 := fr20_1 h hf
  have a7 := (v20o hf (st_7 h.st).1 (so_7 h.st) (by decide)).1
  match w with
  | 0 => exact a1 0
  | 1 => show S'.I (A 1) 0 / 40 = _; rw [a1]; rfl
  | 2 => show krem (S'.I (A 1) 0) 40 / 10 = _; rw [a1]; rfl
  | 3 => exact a7 0
  | 4 => exact a7 1
  | 5 => exact (rfl : nI n = nI n)
  | 6 => exact kfull_c (fun i hi j => fr20_c h hf hi j)
  | 7 => exact a1 2
  | 8 => show (if S'.I (A 1) 1 = 0 then (0 : Int32) else 1) = _; rw [a1]; rfl
  | 9 => 
    show knum S' (if L.mr = 0 then none else some (L.xr 0)) = knum S (if L.mr = 0 then none else some (L.xr 0))
    by_cases g : L.mr = 0
    · rw [if_pos g]; rfl
    · rw [if_neg g]
      obtain ⟨j, h1, h2⟩ := hQ.2.2.2.2.2.2 0 (by omega)
      show S'.I (L.xr 0) 0 = S.I (L.xr 0) 0
      rw [h2]; exact fr20_c h hf h1 0
  | 10 => exact a1 9
  | 11 => exact (rfl : nI L.ma = nI L.ma)
  | 12 => exact (rfl : nI L.md = nI L.md)
  | 13 => exact a1 8
  | w + 14 => exact congrArg nI (kcnt_congr n (kpre_v h hf))
theorem kQcouncil_v (h : kI e0 A n cz T G E S) (hf : kFr S S' (kRo S 20)) (w : Nat) : kQcouncil S' A n cz w = kQcouncil S A n cz w := by
  have a1 := fr20_1 h hf
  have hk := kvat_v hf (st_41 h.st).1 (so_41 h.st) (by decide)
  match w with
  | 0 => exact ksum_congr n (fun i hi => by rw [fr20_c h hf hi])
  | 1 => exact ksum_congr n (fun i hi => by rw [fr20_c h hf hi, fr20_c h hf hi, a1, hk])
  | 2 =>
    show knum S' (S'.R (A 1) 10) = knum S (S.R (A 1) 10)
    rw [(v20o hf (st_1 h.st).1 (so_1 h.st) (by decide)).2.1]
    cases hc : S.R (A 1) 10 with
    | none => rfl
    | some c =>
      obtain ⟨i, h1, h2, -⟩ := h.ch c hc
      show S'.I c 0 = S.I c 0
      rw [h2]; exact fr20_c h hf h1 0
  | 3 => show kvat S' (A 41) (krem (S'.I (A 1) 0) 40 / 10) = _; rw [a1, hk]; rfl
  | w + 4 => exact kor_congr n (fun i hi => by rw [fr20_c h hf hi, fr20_c h hf hi])
theorem kQmoney_v (h : kI e0 A n cz T G E S) (hf : kFr S S' (kRo S 20)) (w : Nat) : kQmoney S' A n cz w = kQmoney S A n cz w := by
  have a1 := fr20_1 h hf
  have a5 := (v20o hf (st_5 h.st).1 (so_5 h.st) (by decide)).1
  obtain ⟨a40, -, n40⟩ := v20o hf (st_40 h.st).1 (so_40 h.st) (by decide)
  match w with
  | 0 => exact a1 3
  | 1 => exact a1 7
  | 2 => exact a1 6
  | 3 => show ksum (S'.I (A 40)) (S'.N (A 40)) = _; rw [n40]; exact ksum_congr _ (fun i _ => a40 i)
  | 4 => show ksum (fun i => kvat S' (A 45) (nI i)) (S'.I (A 5) 1).toNatClampNeg = _; rw [a5]; exact ksum_congr _ (fun i _ => kvat_v hf (st_45 h.st).1 (so_45 h.st) (by decide) _)
  | 5 => exact a5 1
  | 6 => exact ksum_congr n (fun i hi => fr20_c h hf hi 5)
  | 7 => exact a1 4
  | w + 8 => exact a1 5
theorem kQjury_v (h : kI e0 A n cz T G E S) (hQ : kQL e0 A n cz L S) (hf : kFr S S' (kRo S 20)) (w : Nat) : kQjury S' A L w = kQjury S A L w := by
  have a3 := (v20o hf (st_3 h.st).1 (so_3 h.st) (by decide)).1
  match w with
  | 0 => rfl
  | 1 => exact a3 4
  | 2 => exact kor_congr _ (fun i hi => by
      obtain ⟨j, h1, h2⟩ := hQ.2.2.2.1.2.2 i hi
      unfold ktbs
      rw [h2, fr20_c h hf h1])
  | 3 => exact a3 5
  | 4 => exact a3 6
  | 5 => exact a3 7
  | w + 6 => rfl
theorem kQoffice_v (h : kI e0 A n cz T G E S) (hf : kFr S S' (kRo S 20)) {k : Nat} (hk : k < 7) (w : Nat) : kQoffice S' A k w = kQoffice S A k w := by
  have a1 := fr20_1 h hf
  have hl := kLs.el h.hO hk
  obtain ⟨ak, rk, -⟩ := v20o hf hl.1 (h.oo k hk) (by omega)
  match w with
  | 0 =>
    show knum S' (S'.R (kof A k) 1) = knum S (S.R (kof A k) 1)
    rw [rk]
    cases hc : S.R (kof A k) 1 with
    | none => rfl
    | some c =>
      obtain ⟨i, h1, h2, -⟩ := h.ho.1 k hk c hc
      show S'.I c 0 = S.I c 0
      rw [h2]; exact fr20_c h hf h1 0
  | 1 => exact (v20o hf (st_sta h.st hk).1.1 (st_sta h.st hk).2.1 (by omega)).1 2
  | 2 => show (match S'.R (kof A k) 1 with | none => -1 | some _ => S'.I (kof A k) 2) = _; rw [rk, ak]; rfl
  | w + 3 => show (match S'.R (kof A k) 1 with | none => 0 | some _ => if S'.I (kof A k) 0 = 1 then S'.I (A 1) 4 + S'.I (A 1) 5 - S'.I (kof A k) 3 else S'.I (A 1) 0 - S'.I (kof A k) 2) = _; rw [rk, ak, ak, ak, a1, a1, a1]; rfl
theorem kQtribe_v (h : kI e0 A n cz T G E S) (hf : kFr S S' (kRo S 20)) (t w : Nat) : kQtribe S' A n cz t w = kQtribe S A n cz t w := by
  match w with
  | 0 => exact ksum_congr n (fun i hi => by rw [fr20_c h hf hi, fr20_c h hf hi, fr20_c h hf hi])
  | 1 => exact ksum_congr n (fun i hi => by rw [fr20_c h hf hi, fr20_c h hf hi, fr20_c h hf hi, fr20_c h hf hi])
  | 2 => exact kvat_v hf (st_47 h.st).1 (so_47 h.st) (by decide) _
  | 3 => exact kvat_v hf (st_48 h.st).1 (so_48 h.st) (by decide) _
  | w + 4 => exact kvat_v hf (st_51 h.st).1 (so_51 h.st) (by decide) _
theorem kval_v (h : kI e0 A n cz T G E S) (hQ : kQL e0 A n cz L S) (hf : kFr S S' (kRo S 20)) {k : Nat} (hk : k < L.md) : kval S' A L.ms L.xs (L.xd k) = kval S A L.ms L.xs (L.xd k) := by
  have hd := hQ.2.1.2.2 k hk
  have ad := (v20o hf hd.1.1 hd.2.1 (by omega)).1
  have h43 := kvat_v hf (st_43 h.st).1 (so_43 h.st) (by decide)
  unfold kval
  rw [ad, ad, ad, h43, kff_congr (q := fun i => decide (S.R (L.xs i) 5 = some (L.xd k))) L.ms (fun i hi => by
    have hs := hQ.2.2.1.2.2 i hi
    rw [(v20o hf hs.1.1 hs.2.1 (by omega)).2.1])]
theorem khol_v2 (h : kI e0 A n cz T G E S) (hQ : kQL e0 A n cz L S) (hf : kFr S S' (kRo S 20)) {k : Nat} (hk : k < L.md) : khol S' A L.ms L.xs L.md L.xd k = khol S A L.ms L.xs L.md L.xd k := by
  have ad := fun i hi => (v20o hf (hQ.2.1.2.2 i hi).1.1 (hQ.2.1.2.2 i hi).2.1 (by omega)).1
  unfold khol
  rw [kval_v h hQ hf hk, kff_congr (q := fun i => decide (k < i) && decide (S.I (L.xd i) 2 = S.I (L.xd k) 2) && kval S A L.ms L.xs (L.xd i)) L.md (fun i hi => by rw [ad i hi, ad k hk, kval_v h hQ hf hi])]
theorem kQdecree_v (h : kI e0 A n cz T G E S) (hQ : kQL e0 A n cz L S) (hf : kFr S S' (kRo S 20)) {k : Nat} (hk : k < L.md) (w : Nat) : kQdecree S' A L k w = kQdecree S A L k w := by
  have hd := hQ.2.1.2.2 k hk
  obtain ⟨ad, rd, -⟩ := v20o hf hd.1.1 hd.2.1 (by omega)
  match w with
  | 0 =>
    obtain ⟨j, h1, h2⟩ := hd.2.2.1
    show knum S' (S'.R (L.xd k) 0) = knum S (S.R (L.xd k) 0)
    rw [rd, h2]
    exact fr20_c h hf h1 0
  | 1 => exact ad 2
  | 2 => exact ad 3
  | 3 => exact ad 5
  | w + 4 => show (if kb (khol S' A L.ms L.xs L.md L.xd k) = 0 then (0 : Int32) else 1) = _; rw [khol_v2 h hQ hf hk]; rfl
theorem kQsuit_v (h : kI e0 A n cz T G E S) (hQ : kQL e0 A n cz L S) (hf : kFr S S' (kRo S 20)) {k : Nat} (hk : k < L.ms) (w : Nat) : kQsuit S' L k w = kQsuit S L k w := by
  have hd := hQ.2.2.1.2.2 k hk
  obtain ⟨ad, rd, -⟩ := v20o hf hd.1.1 hd.2.1 (by omega)
  match w with
  | 0 =>
    obtain ⟨j, h1, h2⟩ := hd.2.2.1
    show knum S' (S'.R (L.xs k) 0) = knum S (S.R (L.xs k) 0)
    rw [rd, h2]
    exact fr20_c h hf h1 0
  | 1 =>
    obtain ⟨j, h1, h2⟩ := hd.2.2.2.1
    show knum S' (S'.R (L.xs k) 1) = knum S (S.R (L.xs k) 1)
    rw [rd, h2]
    exact fr20_c h hf h1 0
  | 2 => exact ad 2
  | 3 => exact ad 3
  | 4 => exact ad 4
  | 5 => show (if S'.I (L.xs k) 2 = 0 then 4 + S'.I (L.xs k) 3 / 10 else 20) = _; rw [ad, ad]; rfl
  | w + 6 => show (if S'.I (L.xs k) 6 = 0 then (0 : Int32) else 1) = _; rw [ad]; rfl
theorem kQcit_v (h : kI e0 A n cz T G E S) (hf : kFr S S' (kRo S 20)) {k : Nat} (hk : k < n) (w : Nat) : kQcit S' A (cz k) w = kQcit S A (cz k) w := by
  have ac := fr20_c h hf hk
  match w with
  | 0 => exact ac 1
  | 1 => show S'.I (cz k) 1 - S'.I (cz k) 1 / 4 * 4 = _; rw [ac]; rfl
  | 2 => exact ac 3
  | 3 => exact ac 2
  | 4 => exact ac 4
  | 5 => show kwc (S'.I (cz k) 4) = _; rw [ac]; rfl
  | 6 => exact ac 6
  | 7 => exact ac 5
  | 8 => exact ac 7
  | 9 => exact ac 8
  | 10 => exact congrArg kidx (kff_congr 7 (fun i hi => by rw [(v20o hf (kLs.el h.hO hi).1 (h.oo i hi) (by omega)).2.1]))
  | 11 => show (if S'.I (cz k) 9 = 0 then (0 : Int32) else 1) = _; rw [ac]; rfl
  | w + 12 => exact ac 12
theorem kfor_v (h : kI e0 A n cz T G E S) (hQ : kQL e0 A n cz L S) (hf : kFr S S' (kRo S 20)) {k : Nat} (hk : k < L.ma) : kfor S' A cz n (L.xa k) = kfor S A cz n (L.xa k) := by
  have hd := hQ.1.2.2 k hk
  have ad := (v20o hf hd.1.1 hd.2.1 (by omega)).1
  have hc := kcnt_congr n (kpre_v h hf)
  have hv : ∀ x, kvot S' A cz n x = kvot S A cz n x := fun x => ksum_congr n (fun i hi => by rw [kpre_v h hf i hi, fr20_c h hf hi])
  unfold kfor
  rw [ad, ad, hc, hv, kfull_c (fun i hi j => fr20_c h hf hi j)]
theorem kcof_v (h : kI e0 A n cz T G E S) (hf : kFr S S' (kRo S 20)) (x y z : Int32) : kcof S' cz n x y z = kcof S cz n x y z := ksum_congr n (fun i hi => by rw [fr20_c h hf hi, fr20_c h hf hi, fr20_c h hf hi])
theorem kdo_v (h : kI e0 A n cz T G E S) (hf : kFr S S' (kRo S 20)) (d : Int64) : kdo S' A n cz d = kdo S A n cz d := by
  unfold kdo
  rw [kdd_congr (q := kQoffice S' A) (q' := kQoffice S A) 7 (fun i hi j _ => kQoffice_v h hf hi j)]
  exact kdd_congr 4 (fun i hi j _ => kQtribe_v h hf i j)
theorem kdl_v (h : kI e0 A n cz T G E S) (hQ : kQL e0 A n cz L S) (hf : kFr S S' (kRo S 20)) (d : Int64) : kdl S' A n cz L d = kdl S A n cz L d := by
  unfold kdl
  rw [kdd_congr (q := kQdecree S' A L) (q' := kQdecree S A L) L.md (fun i hi j _ => kQdecree_v h hQ hf hi j), kdd_congr (q := kQsuit S' L) (q' := kQsuit S L) L.ms (fun i hi j _ => kQsuit_v h hQ hf hi j), kdi_congr (q' := fun k => kfor S A cz n (L.xa k)) L.ma (fun i hi => kfor_v h hQ hf hi)]
  exact kdd_congr n (fun i hi j _ => kQcit_v h hf hi j)
end KDV
set_option maxHeartbeats 1000000 in
set_option maxRecDepth 20000 in
theorem c_X11_digestOfOffices (l : Launch) (e0 : Nat × Nat) (S : kS)   (A : Nat → Nat) (n : Nat) (cz : Nat → Nat) (T G Z : Nat) (h : kI e0 A n cz T G Z S) (L : kLL) (hQ : kQL e0 A n cz L S) (d : Int64) : kM l e0 yX11_digestOfOffices cX11_digestOfOffices 7 (Option.some Jvm.ClassFile.FieldType.long) ({ frames := 5, cells := 0, slots := 0, locals := 113 } : Room) 0 0 [.ref (A 0), .long (d)] S (kQl (fun v S9 => S = S9 ∧ v = kdo S A n cz d)) := by
  refine kMetE (by decide +kernel) (Nat.le_of_ble_eq_true rfl) (fun C he hl X E hm => ?_)
  have X : kX C RX11 cX11_digestOfOffices 7 ({ frames := 5, cells := 0, slots := 0, locals := 113 } : Room) := X
  subst he hl
  show kG C 7 S 0 0 0 [(0, .ref (A 0)), (1, .long (d))] []
  have hn := h.n40
  have hq1 := hQ.1.2.1
  have hq2 := hQ.2.1.2.1
  have hq3 := hQ.2.2.1.2.1
  have hq4 := hQ.2.2.2.1.2.1
  have hq5 := hQ.2.2.2.2.2.1
  refine k_lload_n X (q := 1) dX11_digestOfOffices_0 rfl rfl ?_
  refine k_lstore_n X [(3, .long (d)), (0, .ref (A 0)), (1, .long (d))] dX11_digestOfOffices_1 rfl (by decide) rfl ?_
  refine k_iconst X (v := 0) dX11_digestOfOffices_2 (by decide) ?_
  refine k_istore X [(5, .int 0), (3, .long (d)), (0, .ref (A 0)), (1, .long (d))] dX11_digestOfOffices_3 (by decide) rfl ?_
  have L_5 : ∀ (N : Nat) (k : Nat) (x : Int32) (y : Int64), 7 - k = N → x = nI k → y = (kdd (kQoffice S A) 4 k d) → k ≤ 7 → kG C 7 S 0 0 5 [(5, .int x), (3, .long y), (0, .ref (A 0)), (1, .long (d))] [] := by
    intro N
    induction N using Nat.strongRecOn with
    | _ N ih =>
    intro k x y hMs h5_0 h5_1 h5_2
    subst h5_0 h5_1
    refine k_iload X (q := 0) dX11_digestOfOffices_5 rfl ?_
    refine k_aload_n X (q := 2) dX11_digestOfOffices_7 rfl rfl ?_
    refine gX11_10s X (S := S) (st_0 h.st).1 (st_0 h.st).2 (sr_0_0 h.st) dX11_digestOfOffices_8 ?_
    refine gX11_245s X (S := S) (st_1 h.st).1 (st_1 h.st).2 (sr_1_13 h.st) dX11_digestOfOffices_11 ?_
    refine k_gotI X (vX11_76 X (S := S) ⟨(st_11 h.st).1, (st_11 h.st).2⟩ (c_Jx4a65c_size_8abf5 C.l C.e0 S (A 11) (st_11 h.st)) (As := []) (rest := [.int (nI k)]) rfl rfl rfl rfl ⟨Nat.le_of_ble_eq_true rfl, Nat.le_of_ble_eq_true rfl⟩ (Nat.le_of_ble_eq_true rfl) ⟨Nat.le_of_ble_eq_true rfl, Nat.le_of_ble_eq_true rfl⟩ dX11_digestOfOffices_14) (fun v_14_2 S_14_3 h_14_0 => ?_)
    obtain ⟨rfl, ev_14_2⟩ := h_14_0
    have hz_v_14_2 : nI 7 = v_14_2 := by rw [ev_14_2]; exact (h.hO).2.1.symm
    subst hz_v_14_2
    refine k_icmp_ge (tgt := 57) X dX11_digestOfOffices_17 (by decide) (fun c_17 => ?_) (fun c_17 => ?_)
    · skip
      have hin : 7 = k := by have := ge_of_le (m := 7) c_17 (by omega); omega
      subst hin
      refine k_iconst X (v := 0) dX11_digestOfOffices_57 (by decide) ?_
      refine k_istore X [(5, .int 0), (3, .long (kdd (kQoffice S A) 4 7 d)), (0, .ref (A 0)), (1, .long (d))] dX11_digestOfOffices_58 (by decide) rfl ?_
      have L_60 : ∀ (N : Nat) (k : Nat) (x : Int32) (y : Int64), 4 - k = N → x = nI k → y = (kdd (kQtribe S A n cz) 5 k (kdd (kQoffice S A) 4 7 d)) → k ≤ 4 → kG C 7 S 0 0 60 [(5, .int x), (3, .long y), (0, .ref (A 0)), (1, .long (d))] [] := by
        intro N
        induction N using Nat.strongRecOn with
        | _ N ih60 =>
        intro k x y hMs h60_0 h60_1 h60_2
        subst h60_0 h60_1
        refine k_iload X (q := 0) dX11_digestOfOffices_60 rfl ?_
        refine k_iconst X (v := 4) dX11_digestOfOffices_62 (by decide) ?_
        refine k_icmp_ge (tgt := 103) X dX11_digestOfOffices_63 (by decide) (fun c_63 => ?_) (fun c_63 => ?_)
        · skip
          have hin : 4 = k := by have := ge_of_le (m := 4) c_63 (by omega); omega
          subst hin
          refine k_lload_n X (q := 1) dX11_digestOfOffices_103 rfl rfl ?_
          exact k_lret X E dX11_digestOfOffices_104 (Nat.le_of_ble_eq_true rfl) (Nat.le_of_ble_eq_true rfl) (⟨rfl, rfl⟩)
        · skip
          have hltk : k < 4 := lt_of_nle (m := 4) c_63 (by omega)
          refine k_iconst X (v := 0) dX11_digestOfOffices_66 (by decide) ?_
          refine k_istore X [(6, .int 0), (5, .int (nI k)), (3, .long (kdd (kQtribe S A n cz) 5 k (kdd (kQoffice S A) 4 7 d))), (0, .ref (A 0)), (1, .long (d))] dX11_digestOfOffices_67 (by decide) rfl ?_
          have L_69 : ∀ (N : Nat) (j : Nat) (z : Int32) (u : Int64), 5 - j = N → z = nI j → u = (kdi (kQtribe S A n cz k) j (kdd (kQtribe S A n cz) 5 k (kdd (kQoffice S A) 4 7 d))) → j ≤ 5 → kG C 7 S 0 0 69 [(6, .int z), (3, .long u), (5, .int (nI k)), (0, .ref (A 0)), (1, .long (d))] [] := by
            intro N
            induction N using Nat.strongRecOn with
            | _ N ih69 =>
            intro j z u hMs h69_0 h69_1 h69_2
            subst h69_0 h69_1
            refine k_iload X (q := 0) dX11_digestOfOffices_69 rfl ?_
            refine k_iconst X (v := 4) dX11_digestOfOffices_71 (by decide) ?_
            refine k_icmp_gt (tgt := 97) X dX11_digestOfOffices_72 (by decide) (fun c_72 => ?_) (fun c_72 => ?_)
            · skip
              have hin : 5 = j := by have := lt_of_lt9 (i := 4) (m := j) c_72 (by omega); omega
              subst hin
              obtain ⟨v_97_4, ev_97_4⟩ : ∃ z : Int32, z = (nI k) + 1 := ⟨_, rfl⟩
              refine k_iinc X (q := 2) (v := v_97_4) [(5, .int v_97_4), (6, .int (nI 5)), (3, .long (kdi (kQtribe S A n cz k) 5 (kdd (kQtribe S A n cz) 5 k (kdd (kQoffice S A) 4 7 d)))), (0, .ref (A 0)), (1, .long (d))] dX11_digestOfOffices_97 rfl (by rw [ev_97_4]; rfl) (by decide) rfl ?_
              refine k_goto (tgt := 60) X dX11_digestOfOffices_100 (by decide) ?_
              refine k_lv [0, 2, 3, 4] _ rfl ?_
              exact ih60 (4 - (k + 1)) (by omega) (k + 1) _ _ rfl (by rw [ev_97_4, nI_1]) (kdd_s (q := (kQtribe S A n cz))).symm (by omega)
            · skip
              have hltj : j < 5 := by have := le_of_nlt9 (m := 4) c_72 (by omega); omega
              refine k_lload_n X (q := 1) dX11_digestOfOffices_75 rfl rfl ?_
              refine k_ldc2 X qkX11_541 dX11_digestOfOffices_76 ?_
              refine k_lmul X dX11_digestOfOffices_79 (fun v_79_5 ev_79_5 => ?_)
              refine k_aload_n X (q := 3) dX11_digestOfOffices_80 rfl rfl ?_
              refine k_iload X (q := 2) dX11_digestOfOffices_81 rfl ?_
              refine k_iload X (q := 0) dX11_digestOfOffices_83 rfl ?_
              refine k_gotI X (vX11_568 X (S := S) ⟨(st_0 h.st).1, (st_0 h.st).2⟩ (c_X11_ofTribe C.l C.e0 S   A n cz _ _ _ h L hQ k (by omega) j (by omega)) (As := [.int (nI k), .int (nI j)]) (rest := [.long v_79_5]) rfl rfl rfl rfl ⟨Nat.le_of_ble_eq_true rfl, Nat.le_of_ble_eq_true rfl⟩ (Nat.le_of_ble_eq_true rfl) ⟨Nat.le_of_ble_eq_true rfl, Nat.le_of_ble_eq_true rfl⟩ dX11_digestOfOffices_85) (fun v_85_7 S_85_8 h_85_5 => ?_)
              obtain ⟨rfl, ev_85_7⟩ := h_85_5
              refine k_i2l X dX11_digestOfOffices_88 (fun v_88_9 ev_88_9 => ?_)
              refine k_ladd X dX11_digestOfOffices_89 (fun v_89_10 ev_89_10 => ?_)
              refine k_lstore_n X [(3, .long v_89_10), (6, .int (nI j)), (5, .int (nI k)), (0, .ref (A 0)), (1, .long (d))] dX11_digestOfOffices_90 rfl (by decide) rfl ?_
              obtain ⟨v_91_11, ev_91_11⟩ : ∃ z : Int32, z = (nI j) + 1 := ⟨_, rfl⟩
              refine k_iinc X (q := 1) (v := v_91_11) [(6, .int v_91_11), (3, .long v_89_10), (5, .int (nI k)), (0, .ref (A 0)), (1, .long (d))] dX11_digestOfOffices_91 rfl (by rw [ev_91_11]; rfl) (by decide) rfl ?_
              refine k_goto (tgt := 69) X dX11_digestOfOffices_94 (by decide) ?_
              refine k_lv [0, 1, 2, 3, 4] _ rfl ?_
              exact ih69 (5 - (j + 1)) (by omega) (j + 1) _ _ rfl (by rw [ev_91_11, nI_1]) (by rw [ev_89_10, ev_79_5, ev_88_9, ev_85_7]; exact kdi_s.symm) (by omega)
          refine k_lv [0, 2, 1, 3, 4] _ rfl ?_
          exact L_69 _ 0 0 _ rfl nI_0.symm kdi_0.symm (Nat.zero_le _)
      refine k_lv [0, 1, 2, 3] _ rfl ?_
      exact L_60 _ 0 0 _ rfl nI_0.symm kdd_0.symm (Nat.zero_le _)
    · skip
      have hltk : k < 7 := lt_of_nle (m := 7) c_17 (by omega)
      refine k_iconst X (v := 0) dX11_digestOfOffices_20 (by decide) ?_
      refine k_istore X [(6, .int 0), (5, .int (nI k)), (3, .long (kdd (kQoffice S A) 4 k d)), (0, .ref (A 0)), (1, .long (d))] dX11_digestOfOffices_21 (by decide) rfl ?_
      have L_23 : ∀ (N : Nat) (j : Nat) (z : Int32) (u : Int64), 4 - j = N → z = nI j → u = (kdi (kQoffice S A k) j (kdd (kQoffice S A) 4 k d)) → j ≤ 4 → kG C 7 S 0 0 23 [(6, .int z), (3, .long u), (5, .int (nI k)), (0, .ref (A 0)), (1, .long (d))] [] := by
        intro N
        induction N using Nat.strongRecOn with
        | _ N ih23 =>
        intro j z u hMs h23_0 h23_1 h23_2
        subst h23_0 h23_1
        refine k_iload X (q := 0) dX11_digestOfOffices_23 rfl ?_
        refine k_iconst X (v := 3) dX11_digestOfOffices_25 (by decide) ?_
        refine k_icmp_gt (tgt := 51) X dX11_digestOfOffices_26 (by decide) (fun c_26 => ?_) (fun c_26 => ?_)
        · skip
          have hin : 4 = j := by have := lt_of_lt9 (i := 3) (m := j) c_26 (by omega); omega
          subst hin
          obtain ⟨v_51_12, ev_51_12⟩ : ∃ z : Int32, z = (nI k) + 1 := ⟨_, rfl⟩
          refine k_iinc X (q := 2) (v := v_51_12) [(5, .int v_51_12), (6, .int (nI 4)), (3, .long (kdi (kQoffice S A k) 4 (kdd (kQoffice S A) 4 k d))), (0, .ref (A 0)), (1, .long (d))] dX11_digestOfOffices_51 rfl (by rw [ev_51_12]; rfl) (by decide) rfl ?_
          refine k_goto (tgt := 5) X dX11_digestOfOffices_54 (by decide) ?_
          refine k_lv [0, 2, 3, 4] _ rfl ?_
          exact ih (7 - (k + 1)) (by omega) (k + 1) _ _ rfl (by rw [ev_51_12, nI_1]) (kdd_s (q := (kQoffice S A))).symm (by omega)
        · skip
          have hltj : j < 4 := by have := le_of_nlt9 (m := 3) c_26 (by omega); omega
          refine k_lload_n X (q := 1) dX11_digestOfOffices_29 rfl rfl ?_
          refine k_ldc2 X qkX11_541 dX11_digestOfOffices_30 ?_
          refine k_lmul X dX11_digestOfOffices_33 (fun v_33_13 ev_33_13 => ?_)
          refine k_aload_n X (q := 3) dX11_digestOfOffices_34 rfl rfl ?_
          refine k_iload X (q := 2) dX11_digestOfOffices_35 rfl ?_
          refine k_iload X (q := 0) dX11_digestOfOffices_37 rfl ?_
          refine k_gotI X (vX11_565 X (S := S) ⟨(st_0 h.st).1, (st_0 h.st).2⟩ (c_X11_ofOffice C.l C.e0 S   A n cz _ _ _ h L hQ k (by omega) j (by omega)) (As := [.int (nI k), .int (nI j)]) (rest := [.long v_33_13]) rfl rfl rfl rfl ⟨Nat.le_of_ble_eq_true rfl, Nat.le_of_ble_eq_true rfl⟩ (Nat.le_of_ble_eq_true rfl) ⟨Nat.le_of_ble_eq_true rfl, Nat.le_of_ble_eq_true rfl⟩ dX11_digestOfOffices_39) (fun v_39_15 S_39_16 h_39_13 => ?_)
          obtain ⟨rfl, ev_39_15⟩ := h_39_13
          refine k_i2l X dX11_digestOfOffices_42 (fun v_42_17 ev_42_17 => ?_)
          refine k_ladd X dX11_digestOfOffices_43 (fun v_43_18 ev_43_18 => ?_)
          refine k_lstore_n X [(3, .long v_43_18), (6, .int (nI j)), (5, .int (nI k)), (0, .ref (A 0)), (1, .long (d))] dX11_digestOfOffices_44 rfl (by decide) rfl ?_
          obtain ⟨v_45_19, ev_45_19⟩ : ∃ z : Int32, z = (nI j) + 1 := ⟨_, rfl⟩
          refine k_iinc X (q := 1) (v := v_45_19) [(6, .int v_45_19), (3, .long v_43_18), (5, .int (nI k)), (0, .ref (A 0)), (1, .long (d))] dX11_digestOfOffices_45 rfl (by rw [ev_45_19]; rfl) (by decide) rfl ?_
          refine k_goto (tgt := 23) X dX11_digestOfOffices_48 (by decide) ?_
          refine k_lv [0, 1, 2, 3, 4] _ rfl ?_
          exact ih23 (4 - (j + 1)) (by omega) (j + 1) _ _ rfl (by rw [ev_45_19, nI_1]) (by rw [ev_43_18, ev_33_13, ev_42_17, ev_39_15]; exact kdi_s.symm) (by omega)
      refine k_lv [0, 2, 1, 3, 4] _ rfl ?_
      exact L_23 _ 0 0 _ rfl nI_0.symm kdi_0.symm (Nat.zero_le _)
  refine k_lv [0, 1, 2, 3] _ rfl ?_
  exact L_5 _ 0 0 _ rfl nI_0.symm kdd_0.symm (Nat.zero_le _)
set_option maxHeartbeats 1000000 in
set_option maxRecDepth 20000 in
theorem c_X11_digestOfLists (l : Launch) (e0 : Nat × Nat) (S : kS)  (A : Nat → Nat) (n : Nat) (cz : Nat → Nat) (T G Z : Nat) (h : kI e0 A n cz T G Z S) (L : kLL) (hQ : kQL e0 A n cz L S) (d : Int64) (hb : T + 0 ≤ 900000 ∧ G + 0 ≤ 60000 ∧ Z + 0 ≤ 150000) : kM l e0 yX11_digestOfLists cX11_digestOfLists 7 (Option.some Jvm.ClassFile.FieldType.long) ({ frames := 10, cells := 72, slots := 2424, locals := 256 } : Room) 72 2424 [.ref (A 0), .long (d)] S (kQl (fun v S9 => kI e0 A n cz (T + 0) (G + 0) (Z + 0) S9 ∧ kKe A S S9 ∧ kFr S S9 (kRo S 20) ∧ v = kdl S A n cz L d)) := by
  refine kMetE (by decide +kernel) (Nat.le_of_ble_eq_true rfl) (fun C he hl X E hm => ?_)
  have X : kX C RX11 cX11_digestOfLists 7 ({ frames := 10, cells := 72, slots := 2424, locals := 256 } : Room) := X
  subst he hl
  show kG C 7 S 0 0 0 [(0, .ref (A 0)), (1, .long (d))] []
  have hn := h.n40
  have hq1 := hQ.1.2.1
  have hq2 := hQ.2.1.2.1
  have hq3 := hQ.2.2.1.2.1
  have hq4 := hQ.2.2.2.1.2.1
  have hq5 := hQ.2.2.2.2.2.1
  refine k_lload_n X (q := 1) dX11_digestOfLists_0 rfl rfl ?_
  refine k_lstore_n X [(3, .long (d)), (0, .ref (A 0)), (1, .long (d))] dX11_digestOfLists_1 rfl (by decide) rfl ?_
  refine k_iconst X (v := 0) dX11_digestOfLists_2 (by decide) ?_
  refine k_istore X [(5, .int 0), (3, .long (d)), (0, .ref (A 0)), (1, .long (d))] dX11_digestOfLists_3 (by decide) rfl ?_
  have L_5 : ∀ (N : Nat) (k : Nat) (x : Int32) (y : Int64), L.md - k = N → x = nI k → y = (kdd (kQdecree S A L) 5 k d) → k ≤ L.md → kG C 7 S 0 0 5 [(5, .int x), (3, .long y), (0, .ref (A 0)), (1, .long (d))] [] := by
    intro N
    induction N using Nat.strongRecOn with
    | _ N ih =>
    intro k x y hMs h5_0 h5_1 h5_2
    subst h5_0 h5_1
    refine k_iload X (q := 0) dX11_digestOfLists_5 rfl ?_
    refine k_aload_n X (q := 2) dX11_digestOfLists_7 rfl rfl ?_
    refine gX11_37s X (S := S) (st_0 h.st).1 (st_0 h.st).2 (sr_0_3 h.st) dX11_digestOfLists_8 ?_
    refine gX11_222s X (S := S) (st_4 h.st).1 (st_4 h.st).2 (sr_4_3 h.st) dX11_digestOfLists_11 ?_
    refine k_gotI X (vX11_76 X (S := S) ⟨(st_19 h.st).1, (st_19 h.st).2⟩ (c_Jx4a65c_size_8abf5 C.l C.e0 S (A 19) (st_19 h.st)) (As := []) (rest := [.int (nI k)]) rfl rfl rfl rfl ⟨Nat.le_of_ble_eq_true rfl, Nat.le_of_ble_eq_true rfl⟩ (Nat.le_of_ble_eq_true rfl) ⟨(by show _ ≤ 72; omega), (by show _ ≤ 2424; omega)⟩ dX11_digestOfLists_14) (fun v_14_2 S_14_3 h_14_0 => ?_)
    obtain ⟨rfl, ev_14_2⟩ := h_14_0
    have hz_v_14_2 : nI L.md = v_14_2 := by rw [ev_14_2]; exact (hQ.2.1.1).2.1.symm
    subst hz_v_14_2
    refine k_icmp_ge (tgt := 57) X dX11_digestOfLists_17 (by decide) (fun c_17 => ?_) (fun c_17 => ?_)
    · skip
      have hin : L.md = k := by have := ge_of_le c_17 (by omega); omega
      subst hin
      refine k_iconst X (v := 0) dX11_digestOfLists_57 (by decide) ?_
      refine k_istore X [(5, .int 0), (3, .long (kdd (kQdecree S A L) 5 L.md d)), (0, .ref (A 0)), (1, .long (d))] dX11_digestOfLists_58 (by decide) rfl ?_
      have L_60 : ∀ (N : Nat) (k : Nat) (x : Int32) (y : Int64), L.ms - k = N → x = nI k → y = (kdd (kQsuit S L) 7 k (kdd (kQdecree S A L) 5 L.md d)) → k ≤ L.ms → kG C 7 S 0 0 60 [(5, .int x), (3, .long y), (0, .ref (A 0)), (1, .long (d))] [] := by
        intro N
        induction N using Nat.strongRecOn with
        | _ N ih60 =>
        intro k x y hMs h60_0 h60_1 h60_2
        subst h60_0 h60_1
        refine k_iload X (q := 0) dX11_digestOfLists_60 rfl ?_
        refine k_aload_n X (q := 2) dX11_digestOfLists_62 rfl rfl ?_
        refine gX11_28s X (S := S) (st_0 h.st).1 (st_0 h.st).2 (sr_0_2 h.st) dX11_digestOfLists_63 ?_
        refine gX11_279s X (S := S) (st_3 h.st).1 (st_3 h.st).2 (sr_3_1 h.st) dX11_digestOfLists_66 ?_
        refine k_gotI X (vX11_76 X (S := S) ⟨(st_15 h.st).1, (st_15 h.st).2⟩ (c_Jx4a65c_size_8abf5 C.l C.e0 S (A 15) (st_15 h.st)) (As := []) (rest := [.int (nI k)]) rfl rfl rfl rfl ⟨Nat.le_of_ble_eq_true rfl, Nat.le_of_ble_eq_true rfl⟩ (Nat.le_of_ble_eq_true rfl) ⟨(by show _ ≤ 72; omega), (by show _ ≤ 2424; omega)⟩ dX11_digestOfLists_69) (fun v_69_5 S_69_6 h_69_3 => ?_)
        obtain ⟨rfl, ev_69_5⟩ := h_69_3
        have hz_v_69_5 : nI L.ms = v_69_5 := by rw [ev_69_5]; exact (hQ.2.2.1.1).2.1.symm
        subst hz_v_69_5
        refine k_icmp_ge (tgt := 113) X dX11_digestOfLists_72 (by decide) (fun c_72 => ?_) (fun c_72 => ?_)
        · skip
          have hin : L.ms = k := by have := ge_of_le c_72 (by omega); omega
          subst hin
          refine k_iconst X (v := 0) dX11_digestOfLists_113 (by decide) ?_
          refine k_istore X [(5, .int 0), (3, .long (kdd (kQsuit S L) 7 L.ms (kdd (kQdecree S A L) 5 L.md d))), (0, .ref (A 0)), (1, .long (d))] dX11_digestOfLists_114 (by decide) rfl ?_
          refine k_room (k' := 0 + 6 * 0) (n' := 0 + 202 * 0) (by omega) (by omega) ?_
          have L_116 : ∀ (N : Nat) (i : Nat) (x : Int32) (Si : kS) (y : Int64), L.ma - i = N → x = nI i → (i ≤ L.ma ∧ kI C.e0 A n cz T G Z Si ∧ kKe A S Si ∧ kFr S Si (kRo S 20) ∧ y = kdi (fun k => kfor S A cz n (L.xa k)) i (kdd (kQsuit S L) 7 L.ms (kdd (kQdecree S A L) 5 L.md d))) → kG C 7 Si (0 + 6 * i) (0 + 202 * i) 116 [(5, .int x), (3, .long y), (0, .ref (A 0)), (1, .long (d))] [] := by
            intro N
            induction N using Nat.strongRecOn with
            | _ N ih116 =>
            intro i x Si y hMs h116_0 h116_1
            subst h116_0
            obtain ⟨hBi, hIi, hKi, hfi, hyi⟩ := h116_1
            subst hyi
            have hQi := hQ.fr h.st hfi
            refine k_iload X (q := 0) dX11_digestOfLists_116 rfl ?_
            refine k_aload_n X (q := 2) dX11_digestOfLists_118 rfl rfl ?_
            refine gX11_37s X (S := Si) (st_0 hIi.st).1 (st_0 hIi.st).2 (sr_0_3 hIi.st) dX11_digestOfLists_119 ?_
            refine gX11_189s X (S := Si) (st_4 hIi.st).1 (st_4 hIi.st).2 (sr_4_2 hIi.st) dX11_digestOfLists_122 ?_
            refine k_gotI X (vX11_76 X (S := Si) ⟨(st_18 hIi.st).1, (st_18 hIi.st).2⟩ (c_Jx4a65c_size_8abf5 C.l C.e0 Si (A 18) (st_18 hIi.st)) (As := []) (rest := [.int (nI i)]) rfl rfl rfl rfl ⟨Nat.le_of_ble_eq_true rfl, Nat.le_of_ble_eq_true rfl⟩ (Nat.le_of_ble_eq_true rfl) ⟨(by show _ ≤ 72; omega), (by show _ ≤ 2424; omega)⟩ dX11_digestOfLists_125) (fun v_125_8 S_125_9 h_125_6 => ?_)
            obtain ⟨rfl, ev_125_8⟩ := h_125_6
            have hz_v_125_8 : nI L.ma = v_125_8 := by rw [ev_125_8]; exact (hQi.1.1).2.1.symm
            subst hz_v_125_8
            refine k_icmp_ge (tgt := 151) X dX11_digestOfLists_128 (by decide) (fun c_128 => ?_) (fun c_128 => ?_)
            · skip
              have hin : L.ma = i := by have := ge_of_le c_128 (by omega); omega
              subst hin
              refine k_iconst X (v := 0) dX11_digestOfLists_151 (by decide) ?_
              refine k_istore X [(5, .int 0), (3, .long (kdi (fun k => kfor S A cz n (L.xa k)) L.ma (kdd (kQsuit S L) 7 L.ms (kdd (kQdecree S A L) 5 L.md d)))), (0, .ref (A 0)), (1, .long (d))] dX11_digestOfLists_152 (by decide) rfl ?_
              have L_154 : ∀ (N : Nat) (k : Nat) (x : Int32) (y : Int64), n - k = N → x = nI k → y = (kdd (fun i => kQcit S A (cz i)) 13 k (kdi (fun k => kfor S A cz n (L.xa k)) L.ma (kdd (kQsuit S L) 7 L.ms (kdd (kQdecree S A L) 5 L.md d)))) → k ≤ n → kG C 7 Si ((0 + 6 * L.ma) + 0) ((0 + 202 * L.ma) + 0) 154 [(5, .int x), (3, .long y), (0, .ref (A 0)), (1, .long (d))] [] := by
                intro N
                induction N using Nat.strongRecOn with
                | _ N ih154 =>
                intro k x y hMs h154_0 h154_1 h154_2
                subst h154_0 h154_1
                refine k_iload X (q := 0) dX11_digestOfLists_154 rfl ?_
                refine k_aload_n X (q := 2) dX11_digestOfLists_156 rfl rfl ?_
                refine gX11_10s X (S := Si) (st_0 hIi.st).1 (st_0 hIi.st).2 (sr_0_0 hIi.st) dX11_digestOfLists_157 ?_
                refine gX11_72s X (S := Si) (st_1 hIi.st).1 (st_1 hIi.st).2 (sr_1_12 hIi.st) dX11_digestOfLists_160 ?_
                refine k_gotI X (vX11_76 X (S := Si) ⟨(st_10 hIi.st).1, (st_10 hIi.st).2⟩ (c_Jx4a65c_size_8abf5 C.l C.e0 Si (A 10) (st_10 hIi.st)) (As := []) (rest := [.int (nI k)]) rfl rfl rfl rfl ⟨Nat.le_of_ble_eq_true rfl, Nat.le_of_ble_eq_true rfl⟩ (Nat.le_of_ble_eq_true rfl) ⟨(by show _ ≤ 72; omega), (by show _ ≤ 2424; omega)⟩ dX11_digestOfLists_163) (fun v_163_11 S_163_12 h_163_9 => ?_)
                obtain ⟨rfl, ev_163_11⟩ := h_163_9
                have hz_v_163_11 : nI n = v_163_11 := by rw [ev_163_11]; exact (hIi.hC).2.1.symm
                subst hz_v_163_11
                refine k_icmp_ge (tgt := 207) X dX11_digestOfLists_166 (by decide) (fun c_166 => ?_) (fun c_166 => ?_)
                · skip
                  have hin : n = k := by have := ge_of_le c_166 (by omega); omega
                  subst hin
                  refine k_lload_n X (q := 1) dX11_digestOfLists_207 rfl rfl ?_
                  exact k_lret X E dX11_digestOfLists_208 (by show _ ≤ 72; omega) (by show _ ≤ 2424; omega) (⟨hIi.mono (by omega) (by omega) (by omega), hKi, hfi, rfl⟩)
                · skip
                  have hltk : k < n := lt_of_nle c_166 (by omega)
                  refine k_iconst X (v := 0) dX11_digestOfLists_169 (by decide) ?_
                  refine k_istore X [(6, .int 0), (5, .int (nI k)), (3, .long (kdd (fun i => kQcit S A (cz i)) 13 k (kdi (fun k => kfor S A cz n (L.xa k)) L.ma (kdd (kQsuit S L) 7 L.ms (kdd (kQdecree S A L) 5 L.md d))))), (0, .ref (A 0)), (1, .long (d))] dX11_digestOfLists_170 (by decide) rfl ?_
                  have L_172 : ∀ (N : Nat) (j : Nat) (z : Int32) (u : Int64), 13 - j = N → z = nI j → u = (kdi (kQcit S A (cz k)) j (kdd (fun i => kQcit S A (cz i)) 13 k (kdi (fun k => kfor S A cz n (L.xa k)) L.ma (kdd (kQsuit S L) 7 L.ms (kdd (kQdecree S A L) 5 L.md d))))) → j ≤ 13 → kG C 7 Si ((0 + 6 * L.ma) + 0 + 0) ((0 + 202 * L.ma) + 0 + 0) 172 [(6, .int z), (3, .long u), (5, .int (nI k)), (0, .ref (A 0)), (1, .long (d))] [] := by
                    intro N
                    induction N using Nat.strongRecOn with
                    | _ N ih172 =>
                    intro j z u hMs h172_0 h172_1 h172_2
                    subst h172_0 h172_1
                    refine k_iload X (q := 0) dX11_digestOfLists_172 rfl ?_
                    refine k_bipush X (v := 12) dX11_digestOfLists_174 (by decide) ?_
                    refine k_icmp_gt (tgt := 201) X dX11_digestOfLists_176 (by decide) (fun c_176 => ?_) (fun c_176 => ?_)
                    · skip
                      have hin : 13 = j := by have := lt_of_lt9 (i := 12) (m := j) c_176 (by omega); omega
                      subst hin
                      obtain ⟨v_201_13, ev_201_13⟩ : ∃ z : Int32, z = (nI k) + 1 := ⟨_, rfl⟩
                      refine k_iinc X (q := 2) (v := v_201_13) [(5, .int v_201_13), (6, .int (nI 13)), (3, .long (kdi (kQcit S A (cz k)) 13 (kdd (fun i => kQcit S A (cz i)) 13 k (kdi (fun k => kfor S A cz n (L.xa k)) L.ma (kdd (kQsuit S L) 7 L.ms (kdd (kQdecree S A L) 5 L.md d)))))), (0, .ref (A 0)), (1, .long (d))] dX11_digestOfLists_201 rfl (by rw [ev_201_13]; rfl) (by decide) rfl ?_
                      refine k_goto (tgt := 154) X dX11_digestOfLists_204 (by decide) ?_
                      refine k_lv [0, 2, 3, 4] _ rfl ?_
                      exact ih154 (n - (k + 1)) (by omega) (k + 1) _ _ rfl (by rw [ev_201_13, nI_1]) (kdd_s (q := (fun i => kQcit S A (cz i)))).symm (by omega)
                    · skip
                      have hltj : j < 13 := by have := le_of_nlt9 (m := 12) c_176 (by omega); omega
                      refine k_lload_n X (q := 1) dX11_digestOfLists_179 rfl rfl ?_
                      refine k_ldc2 X qkX11_541 dX11_digestOfLists_180 ?_
                      refine k_lmul X dX11_digestOfLists_183 (fun v_183_14 ev_183_14 => ?_)
                      refine k_aload_n X (q := 3) dX11_digestOfLists_184 rfl rfl ?_
                      refine k_iload X (q := 2) dX11_digestOfLists_185 rfl ?_
                      refine k_iload X (q := 0) dX11_digestOfLists_187 rfl ?_
                      refine k_gotI X (vX11_580 X (S := Si) ⟨(st_0 hIi.st).1, (st_0 hIi.st).2⟩ (c_X11_ofCitizen C.l C.e0 Si   A n cz _ _ _ hIi L hQi k (by omega) j (by omega)) (As := [.int (nI k), .int (nI j)]) (rest := [.long v_183_14]) rfl rfl rfl rfl ⟨Nat.le_of_ble_eq_true rfl, Nat.le_of_ble_eq_true rfl⟩ (Nat.le_of_ble_eq_true rfl) ⟨(by show _ ≤ 72; omega), (by show _ ≤ 2424; omega)⟩ dX11_digestOfLists_189) (fun v_189_16 S_189_17 h_189_14 => ?_)
                      obtain ⟨rfl, ev_189_16⟩ := h_189_14
                      replace ev_189_16 := ev_189_16.trans (kQcit_v h hfi (by omega) _)
                      refine k_i2l X dX11_digestOfLists_192 (fun v_192_18 ev_192_18 => ?_)
                      refine k_ladd X dX11_digestOfLists_193 (fun v_193_19 ev_193_19 => ?_)
                      refine k_lstore_n X [(3, .long v_193_19), (6, .int (nI j)), (5, .int (nI k)), (0, .ref (A 0)), (1, .long (d))] dX11_digestOfLists_194 rfl (by decide) rfl ?_
                      obtain ⟨v_195_20, ev_195_20⟩ : ∃ z : Int32, z = (nI j) + 1 := ⟨_, rfl⟩
                      refine k_iinc X (q := 1) (v := v_195_20) [(6, .int v_195_20), (3, .long v_193_19), (5, .int (nI k)), (0, .ref (A 0)), (1, .long (d))] dX11_digestOfLists_195 rfl (by rw [ev_195_20]; rfl) (by decide) rfl ?_
                      refine k_goto (tgt := 172) X dX11_digestOfLists_198 (by decide) ?_
                      refine k_lv [0, 1, 2, 3, 4] _ rfl ?_
                      exact ih172 (13 - (j + 1)) (by omega) (j + 1) _ _ rfl (by rw [ev_195_20, nI_1]) (by rw [ev_193_19, ev_183_14, ev_192_18, ev_189_16]; exact kdi_s.symm) (by omega)
                  refine k_lv [0, 2, 1, 3, 4] _ rfl ?_
                  exact L_172 _ 0 0 _ rfl nI_0.symm kdi_0.symm (Nat.zero_le _)
              refine k_lv [0, 1, 2, 3] _ rfl ?_
              exact L_154 _ 0 0 _ rfl nI_0.symm kdd_0.symm (Nat.zero_le _)
            · skip
              have hlti : i < L.ma := lt_of_nle c_128 (by omega)
              refine k_lload_n X (q := 1) dX11_digestOfLists_131 rfl rfl ?_
              refine k_ldc2 X qkX11_541 dX11_digestOfLists_132 ?_
              refine k_lmul X dX11_digestOfLists_135 (fun v_135_21 ev_135_21 => ?_)
              refine k_aload_n X (q := 2) dX11_digestOfLists_136 rfl rfl ?_
              refine k_iload X (q := 0) dX11_digestOfLists_137 rfl ?_
              refine k_gotI X (vX11_577 X (S := Si) ⟨(st_0 hIi.st).1, (st_0 hIi.st).2⟩ (c_X11_would C.l C.e0 Si  A n cz _ _ _ hIi L hQi i (by omega) (by omega)) (As := [.int (nI i)]) (rest := [.long v_135_21]) rfl rfl rfl rfl ⟨Nat.le_of_ble_eq_true rfl, Nat.le_of_ble_eq_true rfl⟩ (Nat.le_of_ble_eq_true rfl) ⟨(by show _ ≤ 72; omega), (by show _ ≤ 2424; omega)⟩ dX11_digestOfLists_139) (fun v_139_23 S_139_24 h_139_21 => ?_)
              obtain ⟨hI_25, hx_25, hm_25⟩ := h_139_21
              have hK_25 := (hKi).tr hx_25
              obtain ⟨hg_25, ev_139_23⟩ := hm_25
              have hf_25 := hfi.trR hg_25
              replace ev_139_23 := ev_139_23.trans (kfor_v h hQ hfi (by omega))
              have hQ_25 := hQ.fr h.st hf_25
              refine k_i2l X dX11_digestOfLists_142 (fun v_142_26 ev_142_26 => ?_)
              refine k_ladd X dX11_digestOfLists_143 (fun v_143_27 ev_143_27 => ?_)
              refine k_lstore_n X [(3, .long v_143_27), (5, .int (nI i)), (0, .ref (A 0)), (1, .long (d))] dX11_digestOfLists_144 rfl (by decide) rfl ?_
              obtain ⟨v_145_28, ev_145_28⟩ : ∃ z : Int32, z = (nI i) + 1 := ⟨_, rfl⟩
              refine k_iinc X (q := 1) (v := v_145_28) [(5, .int v_145_28), (3, .long v_143_27), (0, .ref (A 0)), (1, .long (d))] dX11_digestOfLists_145 rfl (by rw [ev_145_28]; rfl) (by decide) rfl ?_
              refine k_goto (tgt := 116) X dX11_digestOfLists_148 (by decide) ?_
              refine k_lv [0, 1, 2, 3] _ rfl ?_
              refine k_room (k' := 0 + 6 * (i + 1)) (n' := 0 + 202 * (i + 1)) (by omega) (by omega) ?_
              exact ih116 (L.ma - (i + 1)) (by omega) (i + 1) _ _ _ rfl (by rw [ev_145_28, nI_1]) ⟨by omega, hI_25.mono (by omega) (by omega) (by omega), hK_25, hf_25, (by rw [ev_143_27, ev_135_21, ev_142_26, ev_139_23]; exact kdi_s.symm)⟩
          refine k_lv [0, 1, 2, 3] _ rfl ?_
          exact L_116 _ 0 0 _ _ rfl nI_0.symm ⟨by omega, h.mono (by omega) (by omega) (by omega), kKe.rf, kFr.rf _ _, kdi_0.symm⟩
        · skip
          have hltk : k < L.ms := lt_of_nle c_72 (by omega)
          refine k_iconst X (v := 0) dX11_digestOfLists_75 (by decide) ?_
          refine k_istore X [(6, .int 0), (5, .int (nI k)), (3, .long (kdd (kQsuit S L) 7 k (kdd (kQdecree S A L) 5 L.md d))), (0, .ref (A 0)), (1, .long (d))] dX11_digestOfLists_76 (by decide) rfl ?_
          have L_78 : ∀ (N : Nat) (j : Nat) (z : Int32) (u : Int64), 7 - j = N → z = nI j → u = (kdi (kQsuit S L k) j (kdd (kQsuit S L) 7 k (kdd (kQdecree S A L) 5 L.md d))) → j ≤ 7 → kG C 7 S 0 0 78 [(6, .int z), (3, .long u), (5, .int (nI k)), (0, .ref (A 0)), (1, .long (d))] [] := by
            intro N
            induction N using Nat.strongRecOn with
            | _ N ih78 =>
            intro j z u hMs h78_0 h78_1 h78_2
            subst h78_0 h78_1
            refine k_iload X (q := 0) dX11_digestOfLists_78 rfl ?_
            refine k_bipush X (v := 6) dX11_digestOfLists_80 (by decide) ?_
            refine k_icmp_gt (tgt := 107) X dX11_digestOfLists_82 (by decide) (fun c_82 => ?_) (fun c_82 => ?_)
            · skip
              have hin : 7 = j := by have := lt_of_lt9 (i := 6) (m := j) c_82 (by omega); omega
              subst hin
              obtain ⟨v_107_29, ev_107_29⟩ : ∃ z : Int32, z = (nI k) + 1 := ⟨_, rfl⟩
              refine k_iinc X (q := 2) (v := v_107_29) [(5, .int v_107_29), (6, .int (nI 7)), (3, .long (kdi (kQsuit S L k) 7 (kdd (kQsuit S L) 7 k (kdd (kQdecree S A L) 5 L.md d)))), (0, .ref (A 0)), (1, .long (d))] dX11_digestOfLists_107 rfl (by rw [ev_107_29]; rfl) (by decide) rfl ?_
              refine k_goto (tgt := 60) X dX11_digestOfLists_110 (by decide) ?_
              refine k_lv [0, 2, 3, 4] _ rfl ?_
              exact ih60 (L.ms - (k + 1)) (by omega) (k + 1) _ _ rfl (by rw [ev_107_29, nI_1]) (kdd_s (q := (kQsuit S L))).symm (by omega)
            · skip
              have hltj : j < 7 := by have := le_of_nlt9 (m := 6) c_82 (by omega); omega
              refine k_lload_n X (q := 1) dX11_digestOfLists_85 rfl rfl ?_
              refine k_ldc2 X qkX11_541 dX11_digestOfLists_86 ?_
              refine k_lmul X dX11_digestOfLists_89 (fun v_89_30 ev_89_30 => ?_)
              refine k_aload_n X (q := 3) dX11_digestOfLists_90 rfl rfl ?_
              refine k_iload X (q := 2) dX11_digestOfLists_91 rfl ?_
              refine k_iload X (q := 0) dX11_digestOfLists_93 rfl ?_
              refine k_gotI X (vX11_574 X (S := S) ⟨(st_0 h.st).1, (st_0 h.st).2⟩ (c_X11_ofSuit C.l C.e0 S   A n cz _ _ _ h L hQ k (by omega) j (by omega)) (As := [.int (nI k), .int (nI j)]) (rest := [.long v_89_30]) rfl rfl rfl rfl ⟨Nat.le_of_ble_eq_true rfl, Nat.le_of_ble_eq_true rfl⟩ (Nat.le_of_ble_eq_true rfl) ⟨(by show _ ≤ 72; omega), (by show _ ≤ 2424; omega)⟩ dX11_digestOfLists_95) (fun v_95_32 S_95_33 h_95_30 => ?_)
              obtain ⟨rfl, ev_95_32⟩ := h_95_30
              refine k_i2l X dX11_digestOfLists_98 (fun v_98_34 ev_98_34 => ?_)
              refine k_ladd X dX11_digestOfLists_99 (fun v_99_35 ev_99_35 => ?_)
              refine k_lstore_n X [(3, .long v_99_35), (6, .int (nI j)), (5, .int (nI k)), (0, .ref (A 0)), (1, .long (d))] dX11_digestOfLists_100 rfl (by decide) rfl ?_
              obtain ⟨v_101_36, ev_101_36⟩ : ∃ z : Int32, z = (nI j) + 1 := ⟨_, rfl⟩
              refine k_iinc X (q := 1) (v := v_101_36) [(6, .int v_101_36), (3, .long v_99_35), (5, .int (nI k)), (0, .ref (A 0)), (1, .long (d))] dX11_digestOfLists_101 rfl (by rw [ev_101_36]; rfl) (by decide) rfl ?_
              refine k_goto (tgt := 78) X dX11_digestOfLists_104 (by decide) ?_
              refine k_lv [0, 1, 2, 3, 4] _ rfl ?_
              exact ih78 (7 - (j + 1)) (by omega) (j + 1) _ _ rfl (by rw [ev_101_36, nI_1]) (by rw [ev_99_35, ev_89_30, ev_98_34, ev_95_32]; exact kdi_s.symm) (by omega)
          refine k_lv [0, 2, 1, 3, 4] _ rfl ?_
          exact L_78 _ 0 0 _ rfl nI_0.symm kdi_0.symm (Nat.zero_le _)
      refine k_lv [0, 1, 2, 3] _ rfl ?_
      exact L_60 _ 0 0 _ rfl nI_0.symm kdd_0.symm (Nat.zero_le _)
    · skip
      have hltk : k < L.md := lt_of_nle c_17 (by omega)
      refine k_iconst X (v := 0) dX11_digestOfLists_20 (by decide) ?_
      refine k_istore X [(6, .int 0), (5, .int (nI k)), (3, .long (kdd (kQdecree S A L) 5 k d)), (0, .ref (A 0)), (1, .long (d))] dX11_digestOfLists_21 (by decide) rfl ?_
      have L_23 : ∀ (N : Nat) (j : Nat) (z : Int32) (u : Int64), 5 - j = N → z = nI j → u = (kdi (kQdecree S A L k) j (kdd (kQdecree S A L) 5 k d)) → j ≤ 5 → kG C 7 S 0 0 23 [(6, .int z), (3, .long u), (5, .int (nI k)), (0, .ref (A 0)), (1, .long (d))] [] := by
        intro N
        induction N using Nat.strongRecOn with
        | _ N ih23 =>
        intro j z u hMs h23_0 h23_1 h23_2
        subst h23_0 h23_1
        refine k_iload X (q := 0) dX11_digestOfLists_23 rfl ?_
        refine k_iconst X (v := 4) dX11_digestOfLists_25 (by decide) ?_
        refine k_icmp_gt (tgt := 51) X dX11_digestOfLists_26 (by decide) (fun c_26 => ?_) (fun c_26 => ?_)
        · skip
          have hin : 5 = j := by have := lt_of_lt9 (i := 4) (m := j) c_26 (by omega); omega
          subst hin
          obtain ⟨v_51_37, ev_51_37⟩ : ∃ z : Int32, z = (nI k) + 1 := ⟨_, rfl⟩
          refine k_iinc X (q := 2) (v := v_51_37) [(5, .int v_51_37), (6, .int (nI 5)), (3, .long (kdi (kQdecree S A L k) 5 (kdd (kQdecree S A L) 5 k d))), (0, .ref (A 0)), (1, .long (d))] dX11_digestOfLists_51 rfl (by rw [ev_51_37]; rfl) (by decide) rfl ?_
          refine k_goto (tgt := 5) X dX11_digestOfLists_54 (by decide) ?_
          refine k_lv [0, 2, 3, 4] _ rfl ?_
          exact ih (L.md - (k + 1)) (by omega) (k + 1) _ _ rfl (by rw [ev_51_37, nI_1]) (kdd_s (q := (kQdecree S A L))).symm (by omega)
        · skip
          have hltj : j < 5 := by have := le_of_nlt9 (m := 4) c_26 (by omega); omega
          refine k_lload_n X (q := 1) dX11_digestOfLists_29 rfl rfl ?_
          refine k_ldc2 X qkX11_541 dX11_digestOfLists_30 ?_
          refine k_lmul X dX11_digestOfLists_33 (fun v_33_38 ev_33_38 => ?_)
          refine k_aload_n X (q := 3) dX11_digestOfLists_34 rfl rfl ?_
          refine k_iload X (q := 2) dX11_digestOfLists_35 rfl ?_
          refine k_iload X (q := 0) dX11_digestOfLists_37 rfl ?_
          refine k_gotI X (vX11_571 X (S := S) ⟨(st_0 h.st).1, (st_0 h.st).2⟩ (c_X11_ofDecree C.l C.e0 S   A n cz _ _ _ h L hQ k (by omega) j (by omega)) (As := [.int (nI k), .int (nI j)]) (rest := [.long v_33_38]) rfl rfl rfl rfl ⟨Nat.le_of_ble_eq_true rfl, Nat.le_of_ble_eq_true rfl⟩ (Nat.le_of_ble_eq_true rfl) ⟨(by show _ ≤ 72; omega), (by show _ ≤ 2424; omega)⟩ dX11_digestOfLists_39) (fun v_39_40 S_39_41 h_39_38 => ?_)
          obtain ⟨rfl, ev_39_40⟩ := h_39_38
          refine k_i2l X dX11_digestOfLists_42 (fun v_42_42 ev_42_42 => ?_)
          refine k_ladd X dX11_digestOfLists_43 (fun v_43_43 ev_43_43 => ?_)
          refine k_lstore_n X [(3, .long v_43_43), (6, .int (nI j)), (5, .int (nI k)), (0, .ref (A 0)), (1, .long (d))] dX11_digestOfLists_44 rfl (by decide) rfl ?_
          obtain ⟨v_45_44, ev_45_44⟩ : ∃ z : Int32, z = (nI j) + 1 := ⟨_, rfl⟩
          refine k_iinc X (q := 1) (v := v_45_44) [(6, .int v_45_44), (3, .long v_43_43), (5, .int (nI k)), (0, .ref (A 0)), (1, .long (d))] dX11_digestOfLists_45 rfl (by rw [ev_45_44]; rfl) (by decide) rfl ?_
          refine k_goto (tgt := 23) X dX11_digestOfLists_48 (by decide) ?_
          refine k_lv [0, 1, 2, 3, 4] _ rfl ?_
          exact ih23 (5 - (j + 1)) (by omega) (j + 1) _ _ rfl (by rw [ev_45_44, nI_1]) (by rw [ev_43_43, ev_33_38, ev_42_42, ev_39_40]; exact kdi_s.symm) (by omega)
      refine k_lv [0, 2, 1, 3, 4] _ rfl ?_
      exact L_23 _ 0 0 _ rfl nI_0.symm kdi_0.symm (Nat.zero_le _)
  refine k_lv [0, 1, 2, 3] _ rfl ?_
  exact L_5 _ 0 0 _ rfl nI_0.symm kdd_0.symm (Nat.zero_le _)
set_option maxHeartbeats 1000000 in
set_option maxRecDepth 20000 in
theorem c_X11_digest (l : Launch) (e0 : Nat × Nat) (S : kS)  (A : Nat → Nat) (n : Nat) (cz : Nat → Nat) (T G Z : Nat) (h : kI e0 A n cz T G Z S) (L : kLL) (hQ : kQL e0 A n cz L S) (hp : kPr A S) (hZ9 : Z ≤ 1000000) (hb : T + 0 ≤ 900000 ∧ G + 0 ≤ 60000 ∧ Z + 0 ≤ 150000) : kM l e0 yX11_digest cX11_digest 4 (Option.some Jvm.ClassFile.FieldType.long) ({ frames := 11, cells := 162, slots := 5454, locals := 282 } : Room) 162 5454 [.ref (A 0)] S (kQl (fun v S9 => kI e0 A n cz (T + 0) (G + 0) (Z + 0) S9 ∧ kKe A S S9 ∧ kFr S S9 (kRo S 20) ∧ v = kdig S A n cz L)) := by
  refine kMetE (by decide +kernel) (Nat.le_of_ble_eq_true rfl) (fun C he hl X E hm => ?_)
  have X : kX C RX11 cX11_digest 4 ({ frames := 11, cells := 162, slots := 5454, locals := 282 } : Room) := X
  subst he hl
  show kG C 4 S 0 0 0 [(0, .ref (A 0))] []
  have hn := h.n40
  have hq1 := hQ.1.2.1
  have hq2 := hQ.2.1.2.1
  have hq3 := hQ.2.2.1.2.1
  have hq4 := hQ.2.2.2.1.2.1
  have hq5 := hQ.2.2.2.2.2.1
  refine k_ldc2 X qkX11_539 dX11_digest_0 ?_
  refine k_lstore_n X [(1, .long 58261), (0, .ref (A 0))] dX11_digest_3 rfl (by decide) rfl ?_
  refine k_iconst X (v := 0) dX11_digest_4 (by decide) ?_
  refine k_istore_n X [(3, .int 0), (1, .long 58261), (0, .ref (A 0))] dX11_digest_5 rfl (by decide) rfl ?_
  refine k_room (k' := 0 + 6 * 0) (n' := 0 + 202 * 0) (by omega) (by omega) ?_
  have L_6 : ∀ (N : Nat) (i : Nat) (x : Int32) (Si : kS) (y : Int64), 15 - i = N → x = nI i → (i ≤ 15 ∧ kI C.e0 A n cz T G Z Si ∧ kKe A S Si ∧ kFr S Si (kRo S 20) ∧ y = kdi (kQcity S A n cz L) i 58261) → kG C 4 Si (0 + 6 * i) (0 + 202 * i) 6 [(3, .int x), (1, .long y), (0, .ref (A 0))] [] := by
    intro N
    induction N using Nat.strongRecOn with
    | _ N ih =>
    intro i x Si y hMs h6_0 h6_1
    subst h6_0
    obtain ⟨hBi, hIi, hKi, hfi, hyi⟩ := h6_1
    subst hyi
    have hQi := hQ.fr h.st hfi
    refine k_iload_n X (q := 0) dX11_digest_6 rfl rfl ?_
    refine k_bipush X (v := 14) dX11_digest_7 (by decide) ?_
    refine k_icmp_gt (tgt := 31) X dX11_digest_9 (by decide) (fun c_9 => ?_) (fun c_9 => ?_)
    · skip
      have hin : 15 = i := by have := lt_of_lt9 (i := 14) (m := i) c_9 (by omega); omega
      subst hin
      refine k_iconst X (v := 0) dX11_digest_31 (by decide) ?_
      refine k_istore_n X [(3, .int 0), (1, .long (kdi (kQcity S A n cz L) 15 58261)), (0, .ref (A 0))] dX11_digest_32 rfl (by decide) rfl ?_
      have L_33 : ∀ (N : Nat) (j : Nat) (x : Int32) (y : Int64), 5 - j = N → x = nI j → y = (kdi (kQcouncil S A n cz) j (kdi (kQcity S A n cz L) 15 58261)) → j ≤ 5 → kG C 4 Si (0 + 6 * 15) (0 + 202 * 15) 33 [(3, .int x), (1, .long y), (0, .ref (A 0))] [] := by
        intro N
        induction N using Nat.strongRecOn with
        | _ N ih33 =>
        intro j x y hMs h33_0 h33_1 h33_2
        subst h33_0 h33_1
        refine k_iload_n X (q := 0) dX11_digest_33 rfl rfl ?_
        refine k_iconst X (v := 4) dX11_digest_34 (by decide) ?_
        refine k_icmp_gt (tgt := 57) X dX11_digest_35 (by decide) (fun c_35 => ?_) (fun c_35 => ?_)
        · skip
          have hin : 5 = j := by have := lt_of_lt9 (i := 4) (m := j) c_35 (by omega); omega
          subst hin
          refine k_iconst X (v := 0) dX11_digest_57 (by decide) ?_
          refine k_istore_n X [(3, .int 0), (1, .long (kdi (kQcouncil S A n cz) 5 (kdi (kQcity S A n cz L) 15 58261))), (0, .ref (A 0))] dX11_digest_58 rfl (by decide) rfl ?_
          have L_59 : ∀ (N : Nat) (j : Nat) (x : Int32) (y : Int64), 9 - j = N → x = nI j → y = (kdi (kQmoney S A n cz) j (kdi (kQcouncil S A n cz) 5 (kdi (kQcity S A n cz L) 15 58261))) → j ≤ 9 → kG C 4 Si (0 + 6 * 15) (0 + 202 * 15) 59 [(3, .int x), (1, .long y), (0, .ref (A 0))] [] := by
            intro N
            induction N using Nat.strongRecOn with
            | _ N ih59 =>
            intro j x y hMs h59_0 h59_1 h59_2
            subst h59_0 h59_1
            refine k_iload_n X (q := 0) dX11_digest_59 rfl rfl ?_
            refine k_bipush X (v := 8) dX11_digest_60 (by decide) ?_
            refine k_icmp_gt (tgt := 84) X dX11_digest_62 (by decide) (fun c_62 => ?_) (fun c_62 => ?_)
            · skip
              have hin : 9 = j := by have := lt_of_lt9 (i := 8) (m := j) c_62 (by omega); omega
              subst hin
              refine k_iconst X (v := 0) dX11_digest_84 (by decide) ?_
              refine k_istore_n X [(3, .int 0), (1, .long (kdi (kQmoney S A n cz) 9 (kdi (kQcouncil S A n cz) 5 (kdi (kQcity S A n cz L) 15 58261)))), (0, .ref (A 0))] dX11_digest_85 rfl (by decide) rfl ?_
              have L_86 : ∀ (N : Nat) (j : Nat) (x : Int32) (y : Int64), 7 - j = N → x = nI j → y = (kdi (kQjury S A L) j (kdi (kQmoney S A n cz) 9 (kdi (kQcouncil S A n cz) 5 (kdi (kQcity S A n cz L) 15 58261)))) → j ≤ 7 → kG C 4 Si (0 + 6 * 15) (0 + 202 * 15) 86 [(3, .int x), (1, .long y), (0, .ref (A 0))] [] := by
                intro N
                induction N using Nat.strongRecOn with
                | _ N ih86 =>
                intro j x y hMs h86_0 h86_1 h86_2
                subst h86_0 h86_1
                refine k_iload_n X (q := 0) dX11_digest_86 rfl rfl ?_
                refine k_bipush X (v := 6) dX11_digest_87 (by decide) ?_
                refine k_icmp_gt (tgt := 111) X dX11_digest_89 (by decide) (fun c_89 => ?_) (fun c_89 => ?_)
                · skip
                  have hin : 7 = j := by have := lt_of_lt9 (i := 6) (m := j) c_89 (by omega); omega
                  subst hin
                  refine k_iconst X (v := 0) dX11_digest_111 (by decide) ?_
                  refine k_istore_n X [(3, .int 0), (1, .long (kdi (kQjury S A L) 7 (kdi (kQmoney S A n cz) 9 (kdi (kQcouncil S A n cz) 5 (kdi (kQcity S A n cz L) 15 58261))))), (0, .ref (A 0))] dX11_digest_112 rfl (by decide) rfl ?_
                  have L_113 : ∀ (N : Nat) (j : Nat) (x : Int32) (y : Int64), 8 - j = N → x = nI j → y = (kdi (fun k => kvat S (A 43) (nI k)) j (kdi (kQjury S A L) 7 (kdi (kQmoney S A n cz) 9 (kdi (kQcouncil S A n cz) 5 (kdi (kQcity S A n cz L) 15 58261))))) → j ≤ 8 → kG C 4 Si (0 + 6 * 15) (0 + 202 * 15) 113 [(3, .int x), (1, .long y), (0, .ref (A 0))] [] := by
                    intro N
                    induction N using Nat.strongRecOn with
                    | _ N ih113 =>
                    intro j x y hMs h113_0 h113_1 h113_2
                    subst h113_0 h113_1
                    refine k_iload_n X (q := 0) dX11_digest_113 rfl rfl ?_
                    refine k_bipush X (v := 8) dX11_digest_114 (by decide) ?_
                    refine k_icmp_ge (tgt := 138) X dX11_digest_116 (by decide) (fun c_116 => ?_) (fun c_116 => ?_)
                    · skip
                      have hin : 8 = j := by have := ge_of_le (m := 8) c_116 (by omega); omega
                      subst hin
                      refine k_aload_n X (q := 2) dX11_digest_138 rfl rfl ?_
                      refine k_aload_n X (q := 2) dX11_digest_139 rfl rfl ?_
                      refine k_lload_n X (q := 1) dX11_digest_140 rfl rfl ?_
                      refine k_gotL X (vX11_555 X (S := Si) ⟨(st_0 hIi.st).1, (st_0 hIi.st).2⟩ (c_X11_digestOfOffices C.l C.e0 Si   A n cz _ _ _ hIi L hQi (kdi (fun k => kvat S (A 43) (nI k)) 8 (kdi (kQjury S A L) 7 (kdi (kQmoney S A n cz) 9 (kdi (kQcouncil S A n cz) 5 (kdi (kQcity S A n cz L) 15 58261)))))) (As := [.long (kdi (fun k => kvat S (A 43) (nI k)) 8 (kdi (kQjury S A L) 7 (kdi (kQmoney S A n cz) 9 (kdi (kQcouncil S A n cz) 5 (kdi (kQcity S A n cz L) 15 58261)))))]) (rest := [.ref (A 0)]) rfl rfl rfl rfl ⟨Nat.le_of_ble_eq_true rfl, Nat.le_of_ble_eq_true rfl⟩ (Nat.le_of_ble_eq_true rfl) ⟨(by show _ ≤ 162; omega), (by show _ ≤ 5454; omega)⟩ dX11_digest_141) (fun v_141_2 S_141_3 h_141_0 => ?_)
                      obtain ⟨rfl, ev_141_2⟩ := h_141_0
                      replace ev_141_2 := ev_141_2.trans (kdo_v h hfi _)
                      refine k_gotL X (vX11_559 X (S := Si) ⟨(st_0 hIi.st).1, (st_0 hIi.st).2⟩ (c_X11_digestOfLists C.l C.e0 Si  A n cz _ _ _ hIi L hQi v_141_2 (by omega)) (As := [.long v_141_2]) (rest := []) rfl rfl rfl rfl ⟨Nat.le_of_ble_eq_true rfl, Nat.le_of_ble_eq_true rfl⟩ (Nat.le_of_ble_eq_true rfl) ⟨(by show _ ≤ 162; omega), (by show _ ≤ 5454; omega)⟩ dX11_digest_144) (fun v_144_5 S_144_6 h_144_3 => ?_)
                      obtain ⟨hI_7, hx_7, hm_7⟩ := h_144_3
                      have hK_7 := (hKi).tr hx_7
                      obtain ⟨hg_7, ev_144_5⟩ := hm_7
                      have hf_7 := hfi.trR hg_7
                      replace ev_144_5 := ev_144_5.trans (kdl_v h hQ hfi _)
                      have hQ_7 := hQ.fr h.st hf_7
                      refine k_lstore_n X [(1, .long v_144_5), (3, .int (nI 8)), (0, .ref (A 0))] dX11_digest_147 rfl (by decide) rfl ?_
                      refine k_lload_n X (q := 0) dX11_digest_148 rfl rfl ?_
                      refine k_ldc2 X qkX11_541 dX11_digest_149 ?_
                      refine k_lmul X dX11_digest_152 (fun v_152_8 ev_152_8 => ?_)
                      refine k_aload_n X (q := 2) dX11_digest_153 rfl rfl ?_
                      refine k_gotI X (vX11_562 X (S := S_144_6) ⟨(st_0 hI_7.st).1, (st_0 hI_7.st).2⟩ (c_X11_isSound C.l C.e0 S_144_6   A n cz _ _ _ hI_7 L hQ_7 (hp.ke h hI_7 hK_7) (by omega)) (As := []) (rest := [.long v_152_8]) rfl rfl rfl rfl ⟨Nat.le_of_ble_eq_true rfl, Nat.le_of_ble_eq_true rfl⟩ (Nat.le_of_ble_eq_true rfl) ⟨(by show _ ≤ 162; omega), (by show _ ≤ 5454; omega)⟩ dX11_digest_154) (fun v_154_10 S_154_11 h_154_8 => ?_)
                      obtain ⟨rfl, ev_154_10⟩ := h_154_8
                      refine k_gotI X (vX11_154 X (S := S_144_6) (c_X11_asNumber C.l C.e0 S_144_6 v_154_10 ) (As := [.int v_154_10]) (rest := [.long v_152_8]) rfl rfl rfl rfl ⟨Nat.le_of_ble_eq_true rfl, Nat.le_of_ble_eq_true rfl⟩ (Nat.le_of_ble_eq_true rfl) ⟨(by show _ ≤ 162; omega), (by show _ ≤ 5454; omega)⟩ dX11_digest_157) (fun v_157_13 S_157_14 h_157_11 => ?_)
                      obtain ⟨rfl, ev_157_13⟩ := h_157_11
                      refine k_i2l X dX11_digest_160 (fun v_160_15 ev_160_15 => ?_)
                      refine k_ladd X dX11_digest_161 (fun v_161_16 ev_161_16 => ?_)
                      exact k_lret X E dX11_digest_162 (by show _ ≤ 162; omega) (by show _ ≤ 5454; omega) (⟨hI_7.mono (by omega) (by omega) (by omega), hK_7, hf_7, (by rw [ev_161_16, ev_152_8, ev_160_15, ev_157_13, ev_154_10, if_neg (by decide), ev_144_5, ev_141_2]; unfold kdig; first | done | rfl)⟩)
                    · skip
                      have hltj : j < 8 := lt_of_nle (m := 8) c_116 (by omega)
                      refine k_lload_n X (q := 1) dX11_digest_119 rfl rfl ?_
                      refine k_ldc2 X qkX11_541 dX11_digest_120 ?_
                      refine k_lmul X dX11_digest_123 (fun v_123_17 ev_123_17 => ?_)
                      refine k_aload_n X (q := 2) dX11_digest_124 rfl rfl ?_
                      refine k_iload_n X (q := 0) dX11_digest_125 rfl rfl ?_
                      refine k_gotI X (vX11_552 X (S := Si) ⟨(st_0 hIi.st).1, (st_0 hIi.st).2⟩ (c_X11_law C.l C.e0 Si   A n cz _ _ _ hIi L hQi j (by omega)) (As := [.int (nI j)]) (rest := [.long v_123_17]) rfl rfl rfl rfl ⟨Nat.le_of_ble_eq_true rfl, Nat.le_of_ble_eq_true rfl⟩ (Nat.le_of_ble_eq_true rfl) ⟨(by show _ ≤ 162; omega), (by show _ ≤ 5454; omega)⟩ dX11_digest_126) (fun v_126_19 S_126_20 h_126_17 => ?_)
                      obtain ⟨rfl, ev_126_19⟩ := h_126_17
                      replace ev_126_19 := ev_126_19.trans (kvat_v hfi (st_43 h.st).1 (so_43 h.st) (by decide) _)
                      refine k_i2l X dX11_digest_129 (fun v_129_21 ev_129_21 => ?_)
                      refine k_ladd X dX11_digest_130 (fun v_130_22 ev_130_22 => ?_)
                      refine k_lstore_n X [(1, .long v_130_22), (3, .int (nI j)), (0, .ref (A 0))] dX11_digest_131 rfl (by decide) rfl ?_
                      obtain ⟨v_132_23, ev_132_23⟩ : ∃ z : Int32, z = (nI j) + 1 := ⟨_, rfl⟩
                      refine k_iinc X (q := 1) (v := v_132_23) [(3, .int v_132_23), (1, .long v_130_22), (0, .ref (A 0))] dX11_digest_132 rfl (by rw [ev_132_23]; rfl) (by decide) rfl ?_
                      refine k_goto (tgt := 113) X dX11_digest_135 (by decide) ?_
                      refine k_lv [0, 1, 2] _ rfl ?_
                      exact ih113 (8 - (j + 1)) (by omega) (j + 1) _ _ rfl (by rw [ev_132_23, nI_1]) (by rw [ev_130_22, ev_123_17, ev_129_21, ev_126_19]; exact kdi_s.symm) (by omega)
                  refine k_lv [0, 1, 2] _ rfl ?_
                  exact L_113 _ 0 0 _ rfl nI_0.symm kdi_0.symm (Nat.zero_le _)
                · skip
                  have hltj : j < 7 := by have := le_of_nlt9 (m := 6) c_89 (by omega); omega
                  refine k_lload_n X (q := 1) dX11_digest_92 rfl rfl ?_
                  refine k_ldc2 X qkX11_541 dX11_digest_93 ?_
                  refine k_lmul X dX11_digest_96 (fun v_96_24 ev_96_24 => ?_)
                  refine k_aload_n X (q := 2) dX11_digest_97 rfl rfl ?_
                  refine k_iload_n X (q := 0) dX11_digest_98 rfl rfl ?_
                  refine k_gotI X (vX11_550 X (S := Si) ⟨(st_0 hIi.st).1, (st_0 hIi.st).2⟩ (c_X11_jury C.l C.e0 Si   A n cz _ _ _ hIi L hQi j (by omega)) (As := [.int (nI j)]) (rest := [.long v_96_24]) rfl rfl rfl rfl ⟨Nat.le_of_ble_eq_true rfl, Nat.le_of_ble_eq_true rfl⟩ (Nat.le_of_ble_eq_true rfl) ⟨(by show _ ≤ 162; omega), (by show _ ≤ 5454; omega)⟩ dX11_digest_99) (fun v_99_26 S_99_27 h_99_24 => ?_)
                  obtain ⟨rfl, ev_99_26⟩ := h_99_24
                  replace ev_99_26 := ev_99_26.trans (kQjury_v h hQ hfi _)
                  refine k_i2l X dX11_digest_102 (fun v_102_28 ev_102_28 => ?_)
                  refine k_ladd X dX11_digest_103 (fun v_103_29 ev_103_29 => ?_)
                  refine k_lstore_n X [(1, .long v_103_29), (3, .int (nI j)), (0, .ref (A 0))] dX11_digest_104 rfl (by decide) rfl ?_
                  obtain ⟨v_105_30, ev_105_30⟩ : ∃ z : Int32, z = (nI j) + 1 := ⟨_, rfl⟩
                  refine k_iinc X (q := 1) (v := v_105_30) [(3, .int v_105_30), (1, .long v_103_29), (0, .ref (A 0))] dX11_digest_105 rfl (by rw [ev_105_30]; rfl) (by decide) rfl ?_
                  refine k_goto (tgt := 86) X dX11_digest_108 (by decide) ?_
                  refine k_lv [0, 1, 2] _ rfl ?_
                  exact ih86 (7 - (j + 1)) (by omega) (j + 1) _ _ rfl (by rw [ev_105_30, nI_1]) (by rw [ev_103_29, ev_96_24, ev_102_28, ev_99_26]; exact kdi_s.symm) (by omega)
              refine k_lv [0, 1, 2] _ rfl ?_
              exact L_86 _ 0 0 _ rfl nI_0.symm kdi_0.symm (Nat.zero_le _)
            · skip
              have hltj : j < 9 := by have := le_of_nlt9 (m := 8) c_62 (by omega); omega
              refine k_lload_n X (q := 1) dX11_digest_65 rfl rfl ?_
              refine k_ldc2 X qkX11_541 dX11_digest_66 ?_
              refine k_lmul X dX11_digest_69 (fun v_69_31 ev_69_31 => ?_)
              refine k_aload_n X (q := 2) dX11_digest_70 rfl rfl ?_
              refine k_iload_n X (q := 0) dX11_digest_71 rfl rfl ?_
              refine k_gotI X (vX11_547 X (S := Si) ⟨(st_0 hIi.st).1, (st_0 hIi.st).2⟩ (c_X11_money C.l C.e0 Si   A n cz _ _ _ hIi L hQi j (by omega)) (As := [.int (nI j)]) (rest := [.long v_69_31]) rfl rfl rfl rfl ⟨Nat.le_of_ble_eq_true rfl, Nat.le_of_ble_eq_true rfl⟩ (Nat.le_of_ble_eq_true rfl) ⟨(by show _ ≤ 162; omega), (by show _ ≤ 5454; omega)⟩ dX11_digest_72) (fun v_72_33 S_72_34 h_72_31 => ?_)
              obtain ⟨rfl, ev_72_33⟩ := h_72_31
              replace ev_72_33 := ev_72_33.trans (kQmoney_v h hfi _)
              refine k_i2l X dX11_digest_75 (fun v_75_35 ev_75_35 => ?_)
              refine k_ladd X dX11_digest_76 (fun v_76_36 ev_76_36 => ?_)
              refine k_lstore_n X [(1, .long v_76_36), (3, .int (nI j)), (0, .ref (A 0))] dX11_digest_77 rfl (by decide) rfl ?_
              obtain ⟨v_78_37, ev_78_37⟩ : ∃ z : Int32, z = (nI j) + 1 := ⟨_, rfl⟩
              refine k_iinc X (q := 1) (v := v_78_37) [(3, .int v_78_37), (1, .long v_76_36), (0, .ref (A 0))] dX11_digest_78 rfl (by rw [ev_78_37]; rfl) (by decide) rfl ?_
              refine k_goto (tgt := 59) X dX11_digest_81 (by decide) ?_
              refine k_lv [0, 1, 2] _ rfl ?_
              exact ih59 (9 - (j + 1)) (by omega) (j + 1) _ _ rfl (by rw [ev_78_37, nI_1]) (by rw [ev_76_36, ev_69_31, ev_75_35, ev_72_33]; exact kdi_s.symm) (by omega)
          refine k_lv [0, 1, 2] _ rfl ?_
          exact L_59 _ 0 0 _ rfl nI_0.symm kdi_0.symm (Nat.zero_le _)
        · skip
          have hltj : j < 5 := by have := le_of_nlt9 (m := 4) c_35 (by omega); omega
          refine k_lload_n X (q := 1) dX11_digest_38 rfl rfl ?_
          refine k_ldc2 X qkX11_541 dX11_digest_39 ?_
          refine k_lmul X dX11_digest_42 (fun v_42_38 ev_42_38 => ?_)
          refine k_aload_n X (q := 2) dX11_digest_43 rfl rfl ?_
          refine k_iload_n X (q := 0) dX11_digest_44 rfl rfl ?_
          refine k_gotI X (vX11_545 X (S := Si) ⟨(st_0 hIi.st).1, (st_0 hIi.st).2⟩ (c_X11_council C.l C.e0 Si   A n cz _ _ _ hIi L hQi j (by omega)) (As := [.int (nI j)]) (rest := [.long v_42_38]) rfl rfl rfl rfl ⟨Nat.le_of_ble_eq_true rfl, Nat.le_of_ble_eq_true rfl⟩ (Nat.le_of_ble_eq_true rfl) ⟨(by show _ ≤ 162; omega), (by show _ ≤ 5454; omega)⟩ dX11_digest_45) (fun v_45_40 S_45_41 h_45_38 => ?_)
          obtain ⟨rfl, ev_45_40⟩ := h_45_38
          replace ev_45_40 := ev_45_40.trans (kQcouncil_v h hfi _)
          refine k_i2l X dX11_digest_48 (fun v_48_42 ev_48_42 => ?_)
          refine k_ladd X dX11_digest_49 (fun v_49_43 ev_49_43 => ?_)
          refine k_lstore_n X [(1, .long v_49_43), (3, .int (nI j)), (0, .ref (A 0))] dX11_digest_50 rfl (by decide) rfl ?_
          obtain ⟨v_51_44, ev_51_44⟩ : ∃ z : Int32, z = (nI j) + 1 := ⟨_, rfl⟩
          refine k_iinc X (q := 1) (v := v_51_44) [(3, .int v_51_44), (1, .long v_49_43), (0, .ref (A 0))] dX11_digest_51 rfl (by rw [ev_51_44]; rfl) (by decide) rfl ?_
          refine k_goto (tgt := 33) X dX11_digest_54 (by decide) ?_
          refine k_lv [0, 1, 2] _ rfl ?_
          exact ih33 (5 - (j + 1)) (by omega) (j + 1) _ _ rfl (by rw [ev_51_44, nI_1]) (by rw [ev_49_43, ev_42_38, ev_48_42, ev_45_40]; exact kdi_s.symm) (by omega)
      refine k_lv [0, 1, 2] _ rfl ?_
      exact L_33 _ 0 0 _ rfl nI_0.symm kdi_0.symm (Nat.zero_le _)
    · skip
      have hlti : i < 15 := by have := le_of_nlt9 (m := 14) c_9 (by omega); omega
      refine k_lload_n X (q := 1) dX11_digest_12 rfl rfl ?_
      refine k_ldc2 X qkX11_541 dX11_digest_13 ?_
      refine k_lmul X dX11_digest_16 (fun v_16_45 ev_16_45 => ?_)
      refine k_aload_n X (q := 2) dX11_digest_17 rfl rfl ?_
      refine k_iload_n X (q := 0) dX11_digest_18 rfl rfl ?_
      refine k_gotI X (vX11_543 X (S := Si) ⟨(st_0 hIi.st).1, (st_0 hIi.st).2⟩ (c_X11_city C.l C.e0 Si  A n cz _ _ _ hIi L hQi i (by omega) (by omega)) (As := [.int (nI i)]) (rest := [.long v_16_45]) rfl rfl rfl rfl ⟨Nat.le_of_ble_eq_true rfl, Nat.le_of_ble_eq_true rfl⟩ (Nat.le_of_ble_eq_true rfl) ⟨(by show _ ≤ 162; omega), (by show _ ≤ 5454; omega)⟩ dX11_digest_19) (fun v_19_47 S_19_48 h_19_45 => ?_)
      obtain ⟨hI_49, hx_49, hm_49⟩ := h_19_45
      have hK_49 := (hKi).tr hx_49
      obtain ⟨hg_49, ev_19_47⟩ := hm_49
      have hf_49 := hfi.trR hg_49
      replace ev_19_47 := ev_19_47.trans (kQcity_v h hQ hfi _)
      have hQ_49 := hQ.fr h.st hf_49
      refine k_i2l X dX11_digest_22 (fun v_22_50 ev_22_50 => ?_)
      refine k_ladd X dX11_digest_23 (fun v_23_51 ev_23_51 => ?_)
      refine k_lstore_n X [(1, .long v_23_51), (3, .int (nI i)), (0, .ref (A 0))] dX11_digest_24 rfl (by decide) rfl ?_
      obtain ⟨v_25_52, ev_25_52⟩ : ∃ z : Int32, z = (nI i) + 1 := ⟨_, rfl⟩
      refine k_iinc X (q := 1) (v := v_25_52) [(3, .int v_25_52), (1, .long v_23_51), (0, .ref (A 0))] dX11_digest_25 rfl (by rw [ev_25_52]; rfl) (by decide) rfl ?_
      refine k_goto (tgt := 6) X dX11_digest_28 (by decide) ?_
      refine k_lv [0, 1, 2] _ rfl ?_
      refine k_room (k' := 0 + 6 * (i + 1)) (n' := 0 + 202 * (i + 1)) (by omega) (by omega) ?_
      exact ih (15 - (i + 1)) (by omega) (i + 1) _ _ _ rfl (by rw [ev_25_52, nI_1]) ⟨by omega, hI_49.mono (by omega) (by omega) (by omega), hK_49, hf_49, (by rw [ev_23_51, ev_16_45, ev_22_50, ev_19_47]; exact kdi_s.symm)⟩
  refine k_lv [0, 1, 2] _ rfl ?_
  exact L_6 _ 0 0 _ _ rfl nI_0.symm ⟨by omega, h.mono (by omega) (by omega) (by omega), kKe.rf, kFr.rf _ _, kdi_0.symm⟩
