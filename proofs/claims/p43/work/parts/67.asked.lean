/-! WHAT IS ASKED: the answers as functions of the state -/
/-- the lists that questions walk -/
abbrev kLL : Type := Nat × (Nat → Nat) × Nat × (Nat → Nat) × Nat × (Nat → Nat) × Nat × (Nat → Nat) × Nat × (Nat → Nat)
def kLL.ma (L : kLL) : Nat := L.1
def kLL.xa (L : kLL) : Nat → Nat := L.2.1
def kLL.md (L : kLL) : Nat := L.2.2.1
def kLL.xd (L : kLL) : Nat → Nat := L.2.2.2.1
def kLL.ms (L : kLL) : Nat := L.2.2.2.2.1
def kLL.xs (L : kLL) : Nat → Nat := L.2.2.2.2.2.1
def kLL.mj (L : kLL) : Nat := L.2.2.2.2.2.2.1
def kLL.xj (L : kLL) : Nat → Nat := L.2.2.2.2.2.2.2.1
def kLL.mr (L : kLL) : Nat := L.2.2.2.2.2.2.2.2.1
def kLL.xr (L : kLL) : Nat → Nat := L.2.2.2.2.2.2.2.2.2
def kQL (e0 : Nat × Nat) (A : Nat → Nat) (n : Nat) (cz : Nat → Nat) (L : kLL) (S : kS) : Prop :=
  (kLs e0 S (A 18) 7 L.ma L.xa ∧ L.ma ≤ 12 ∧ ∀ t, t < L.ma → kMo S n cz (L.xa t)) ∧ (kLs e0 S (A 19) 7 L.md L.xd ∧ L.md ≤ 12 ∧ ∀ t, t < L.md → kMo S n cz (L.xd t)) ∧ (kLs e0 S (A 15) 10 L.ms L.xs ∧ L.ms ≤ 8 ∧ ∀ t, t < L.ms → kSu S n cz (L.xs t)) ∧ (kLs e0 S (A 16) 1 L.mj L.xj ∧ L.mj ≤ 40 ∧ ∀ t, t < L.mj → ∃ j, j < n ∧ L.xj t = cz j) ∧ (kLs e0 S (A 23) 1 L.mr L.xr ∧ L.mr ≤ 40 ∧ ∀ t, t < L.mr → ∃ j, j < n ∧ L.xr t = cz j)
def knum (S : kS) (o : Option Nat) : Int32 := match o with
  | none => -1
  | some x => S.I x 0
def kQcity (S : kS) (A : Nat → Nat) (n : Nat) (cz : Nat → Nat) (L : kLL) : Nat → Int32
  | 0 => S.I (A 1) 0
  | 1 => S.I (A 1) 0 / 40
  | 2 => krem (S.I (A 1) 0) 40 / 10
  | 3 => S.I (A 7) 0
  | 4 => S.I (A 7) 1
  | 5 => nI n
  | 6 => kfull S cz n
  | 7 => S.I (A 1) 2
  | 8 => (if S.I (A 1) 1 = 0 then 0 else 1)
  | 9 => knum S (if L.mr = 0 then none else some (L.xr 0))
  | 10 => S.I (A 1) 9
  | 11 => nI L.ma
  | 12 => nI L.md
  | 13 => S.I (A 1) 8
  | _ => nI (kcnt (kpre S A cz) n)
def kQcouncil (S : kS) (A : Nat → Nat) (n : Nat) (cz : Nat → Nat) : Nat → Int32
  | 0 => kcou S cz n
  | 1 => ksum (fun i => kb (!decide (S.I (cz i) 9 = 0) && decide (S.I (cz i) 1 - S.I (cz i) 1 / 4 * 4 = kvat S (A 41) (krem (S.I (A 1) 0) 40 / 10)))) n
  | 2 => knum S (S.R (A 1) 10)
  | 3 => kvat S (A 41) (krem (S.I (A 1) 0) 40 / 10)
  | _ => kor (fun i => (if S.I (cz i) 9 = 0 then 0 else (1 : Int32) <<< ((S.I (cz i) 1 - S.I (cz i) 1 / 4 * 4) &&& 31))) n
def kQmoney (S : kS) (A : Nat → Nat) (n : Nat) (cz : Nat → Nat) : Nat → Int32
  | 0 => S.I (A 1) 3
  | 1 => S.I (A 1) 7
  | 2 => S.I (A 1) 6
  | 3 => ksum (S.I (A 40)) (S.N (A 40))
  | 4 => ksum (fun i => kvat S (A 45) (nI i)) (S.I (A 5) 1).toNatClampNeg
  | 5 => S.I (A 5) 1
  | 6 => ksum (fun i => S.I (cz i) 5) n
  | 7 => S.I (A 1) 4
  | _ => S.I (A 1) 5
def ktbs (S : kS) (xs : Nat → Nat) : Nat → Int32 := fun i => (1 : Int32) <<< ((S.I (xs i) 1 - S.I (xs i) 1 / 4 * 4) &&& 31)
def kQjury (S : kS) (A : Nat → Nat) (L : kLL) : Nat → Int32
  | 0 => nI L.mj
  | 1 => S.I (A 3) 4
  | 2 => kor (ktbs S L.xj) L.mj
  | 3 => S.I (A 3) 5
  | 4 => S.I (A 3) 6
  | 5 => S.I (A 3) 7
  | _ => nI L.ms
def kQoffice (S : kS) (A : Nat → Nat) (k : Nat) : Nat → Int32
  | 0 => knum S (S.R (kof A k) 1)
  | 1 => S.I (A (25 + k)) 2
  | 2 => (match S.R (kof A k) 1 with | none => -1 | some _ => S.I (kof A k) 2)
  | _ => (match S.R (kof A k) 1 with | none => 0 | some _ => if S.I (kof A k) 0 = 1 then S.I (A 1) 4 + S.I (A 1) 5 - S.I (kof A k) 3 else S.I (A 1) 0 - S.I (kof A k) 2)
def kcof (S : kS) (cz : Nat → Nat) (n : Nat) (x y z : Int32) : Int32 := ksum (fun i => kb (decide (S.I (cz i) 6 = x) && decide (y ≤ S.I (cz i) 3) && (decide (z = -1) || decide (S.I (cz i) 1 - S.I (cz i) 1 / 4 * 4 = z)))) n
def kQtribe (S : kS) (A : Nat → Nat) (n : Nat) (cz : Nat → Nat) (t : Nat) : Nat → Int32
  | 0 => kcof S cz n 1 0 (nI t)
  | 1 => ksum (fun i => kb (decide (S.I (cz i) 1 - S.I (cz i) 1 / 4 * 4 = nI t) && ((decide (S.I (cz i) 6 = 1) || decide (S.I (cz i) 6 = 2)) && !decide (S.I (cz i) 12 = 0) && decide (S.I (cz i) 13 = 0)))) n
  | 2 => kvat S (A 47) (nI t)
  | 3 => kvat S (A 48) (nI t)
  | _ => kvat S (A 51) (nI t)
def kQdecree (S : kS) (A : Nat → Nat) (L : kLL) (k : Nat) : Nat → Int32
  | 0 => knum S (S.R (L.xd k) 0)
  | 1 => S.I (L.xd k) 2
  | 2 => S.I (L.xd k) 3
  | 3 => S.I (L.xd k) 5
  | _ => (if kb (khol S A L.ms L.xs L.md L.xd k) = 0 then 0 else 1)
def kQsuit (S : kS) (L : kLL) (k : Nat) : Nat → Int32
  | 0 => knum S (S.R (L.xs k) 0)
  | 1 => knum S (S.R (L.xs k) 1)
  | 2 => S.I (L.xs k) 2
  | 3 => S.I (L.xs k) 3
  | 4 => S.I (L.xs k) 4
  | 5 => (if S.I (L.xs k) 2 = 0 then 4 + S.I (L.xs k) 3 / 10 else 20)
  | _ => (if S.I (L.xs k) 6 = 0 then 0 else 1)
def kQcit (S : kS) (A : Nat → Nat) (c : Nat) : Nat → Int32
  | 0 => S.I c 1
  | 1 => S.I c 1 - S.I c 1 / 4 * 4
  | 2 => S.I c 3
  | 3 => S.I c 2
  | 4 => S.I c 4
  | 5 => kwc (S.I c 4)
  | 6 => S.I c 6
  | 7 => S.I c 5
  | 8 => S.I c 7
  | 9 => S.I c 8
  | 10 => kidx (kff (fun i => decide (S.R (kof A i) 1 = some c)) 7)
  | 11 => (if S.I c 9 = 0 then 0 else 1)
  | _ => S.I c 12
theorem kfr_ok {k m : Nat} {v w : Int32} (hv : v = nI m - w) (hw : w = 1) (hk : k < m) (hm : m ≤ 1000) : ¬ kb (decide ((0 : Int32) ≤ nI k) && decide (nI k ≤ v)) = 0 := by
  have g1 : (0 : Int32) ≤ nI k := nI_le (a := 0) (by omega) (by omega)
  have g2 : nI k ≤ v := by rw [hv, hw, show (1 : Int32) = nI 1 from rfl, pk_sub (by omega)]; exact nI_le (by omega) (by omega)
  simp [kb, g1, g2]
theorem kfr_ok2 {k m : Nat} {v : Int32} (hv : v = nI m) (hk : k ≤ m) (hm : m ≤ 1000) : ¬ kb (decide ((0 : Int32) ≤ nI k) && decide (nI k ≤ v)) = 0 := by
  have g1 : (0 : Int32) ≤ nI k := nI_le (a := 0) (by omega) (by omega)
  have g2 : nI k ≤ v := by rw [hv]; exact nI_le (by omega) (by omega)
  simp [kb, g1, g2]
theorem kff_uniq {p : Nat → Bool} {k n : Nat} (hp : p k = true) (hk : k < n) (hu : ∀ i, i < n → p i = true → i = k) : kff p n = some k := kff_hit (kff_low k (fun t ht => by
  cases g : p t
  · rfl
  · have := hu t (by omega) g; omega)) hp hk
section KQU
variable {e0 : Nat × Nat} {A : Nat → Nat} {n : Nat} {cz : Nat → Nat} {T G E : Nat} {S S' : kS} {L : kLL}
theorem kI.ql (h : kI e0 A n cz T G E S) : ∃ L, kQL e0 A n cz L S := by
  obtain ⟨ma, xa, a1, a2, a3⟩ := h.ml.1
  obtain ⟨md, xd, d1, d2, d3⟩ := h.ml.2
  obtain ⟨ms, xs, s1, s2, s3⟩ := h.sl
  obtain ⟨mj, xj, j1, j2, j3⟩ := h.cl (r := 16) (by unfold clR; omega)
  obtain ⟨mr, xr, r1, r2, r3⟩ := h.cl (r := 23) (by unfold clR; omega)
  exact ⟨⟨ma, xa, md, xd, ms, xs, mj, xj, mr, xr⟩, ⟨a1, a2, a3⟩, ⟨d1, d2, d3⟩, ⟨s1, s2, s3⟩, ⟨j1, j2, j3⟩, ⟨r1, r2, r3⟩⟩
theorem kQL.fr (hQ : kQL e0 A n cz L S) (h : kSt A S) (hf : kFr S S' (kRo S 20)) : kQL e0 A n cz L S' := by
  obtain ⟨⟨a1, a2, a3⟩, ⟨d1, d2, d3⟩, ⟨s1, s2, s3⟩, ⟨j1, j2, j3⟩, ⟨r1, r2, r3⟩⟩ := hQ
  have hg := hf.go (W := fun ρ _ => ρ = 20 ∨ ρ = 120) (fun b hb z j => z)
  exact ⟨⟨a1.frR (so_18 h) hf (by decide) (by decide) (by decide), a2, fun t ht => (a3 t ht).go hg (fun j z => by omega)⟩, ⟨d1.frR (so_19 h) hf (by decide) (by decide) (by decide), d2, fun t ht => (d3 t ht).go hg (fun j z => by omega)⟩, ⟨s1.frR (so_15 h) hf (by decide) (by decide) (by decide), s2, fun t ht => (s3 t ht).go hg (fun j z => by omega)⟩, ⟨j1.frR (so_16 h) hf (by decide) (by decide) (by decide), j2, j3⟩, ⟨r1.frR (so_23 h) hf (by decide) (by decide) (by decide), r2, r3⟩⟩
theorem kI.snd1 (h : kI e0 A n cz T G E S) (hE : E ≤ 1000000) : S.I (A 1) 3 = 300 + S.I (A 1) 4 - S.I (A 1) 5 := by
  obtain ⟨m1, m2, m3, m4, m5⟩ := h.my
  have hw := (kWe_ge (cz := cz) (S := S) n (fun i hi => (h.ci hi).2.1)).1
  have t300 : (300 : Int32).toInt = 300 := rfl
  apply Int32.toInt_inj.mp
  rw [i_sub (by rw [i_add (by rw [t300]; omega) (by rw [t300]; omega), t300]; omega) (by rw [i_add (by rw [t300]; omega) (by rw [t300]; omega), t300]; omega), i_add (by rw [t300]; omega) (by rw [t300]; omega), t300]
  exact m1
theorem kI.snd2 (h : kI e0 A n cz T G E S) : ∀ i, i < n → (S.I (cz i) 6 = 1 → S.I (cz i) 5 = 0) ∧ (S.I (cz i) 9 = 0 ∨ S.I (cz i) 6 = 1) := fun i hi => by
  obtain ⟨a1, a2, a3, a4, a5, a6⟩ := h.ci hi
  exact ⟨fun z => a4 (Or.inl z), by rcases a5 with z | z; exact Or.inl z; exact Or.inr z.2⟩
theorem kI.snd3 (h : kI e0 A n cz T G E S) (hp : kPr A S) : ∀ c, S.R (A 1) 10 = some c → S.at c 1 ∧ S.I c 9 = 1 ∧ S.I c 1 - S.I c 1 / 4 * 4 = kvat S (A 41) (krem (S.I (A 1) 0) 40 / 10) := fun c hc => by
  obtain ⟨i, h1, h2, h3⟩ := h.ch c hc
  exact ⟨by rw [h2]; exact h.at h1, h3, hp c hc⟩
theorem kI.snd4 (h : kI e0 A n cz T G E S) : ∀ k, k < 7 → ∀ c, S.R (kof A k) 1 = some c → S.at c 1 ∧ (S.I c 6 = 1 ∨ S.I c 6 = 2) ∧ kidx (kff (fun i => decide (S.R (kof A i) 1 = some c)) 7) = nI k := fun k hk c hc => by
  obtain ⟨i, h1, h2, h3, -⟩ := h.ho.1 k hk c hc
  refine ⟨by rw [h2]; exact h.at h1, h3, ?_⟩
  rw [kff_uniq (k := k) (decide_eq_true hc) hk (fun i hi hp => h.ho.2 i k hi hk c (of_decide_eq_true hp) hc)]
  rfl
end KQU
set_option maxHeartbeats 1000000 in
set_option maxRecDepth 20000 in
theorem c_X11_tribesOf (l : Launch) (e0 : Nat × Nat) (S : kS) (a : Nat)  (m : Nat) (xs : Nat → Nat) (hL : kLs e0 S a 1 m xs) (hm9 : m ≤ 100) : kM l e0 yX11_tribesOf cX11_tribesOf 3 (Option.some Jvm.ClassFile.FieldType.int) ({ frames := 3, cells := 0, slots := 0, locals := 64 } : Room) 0 0 [.ref a] S (kQi (fun v S9 => S = S9 ∧ v = kor (ktbs S xs) m)) := by
  refine kMetE (by decide +kernel) (Nat.le_of_ble_eq_true rfl) (fun C he hl X E hm => ?_)
  have X : kX C RX11 cX11_tribesOf 3 ({ frames := 3, cells := 0, slots := 0, locals := 64 } : Room) := X
  subst he hl
  show kG C 3 S 0 0 0 [(0, .ref a)] []
  refine k_iconst X (v := 0) dX11_tribesOf_0 (by decide) ?_
  refine k_istore_n X [(1, .int 0), (0, .ref a)] dX11_tribesOf_1 rfl (by decide) rfl ?_
  refine k_iconst X (v := 0) dX11_tribesOf_2 (by decide) ?_
  refine k_istore_n X [(2, .int 0), (1, .int 0), (0, .ref a)] dX11_tribesOf_3 rfl (by decide) rfl ?_
  have L_4 : ∀ (N : Nat) (i : Nat) (x y : Int32), m - i = N → x = nI i → y = kor (ktbs S xs) i → i ≤ m → kG C 3 S 0 0 4 [(2, .int x), (1, .int y), (0, .ref a)] [] := by
    intro N
    induction N using Nat.strongRecOn with
    | _ N ih =>
    intro i x y hMs h4_0 h4_1 h4_2
    subst h4_0 h4_1
    refine k_iload_n X (q := 0) dX11_tribesOf_4 rfl rfl ?_
    refine k_aload_n X (q := 2) dX11_tribesOf_5 rfl rfl ?_
    refine k_gotI X (vX11_76 X (S := S) ⟨(hL).1.1, (hL).1.2⟩ (c_Jx4a65c_size_8abf5 C.l C.e0 S a (hL).1) (As := []) (rest := [.int (nI i)]) rfl rfl rfl rfl ⟨Nat.le_of_ble_eq_true rfl, Nat.le_of_ble_eq_true rfl⟩ (Nat.le_of_ble_eq_true rfl) ⟨Nat.le_of_ble_eq_true rfl, Nat.le_of_ble_eq_true rfl⟩ dX11_tribesOf_6) (fun v_6_2 S_6_3 h_6_0 => ?_)
    obtain ⟨rfl, ev_6_2⟩ := h_6_0
    have hz_v_6_2 : nI m = v_6_2 := by rw [ev_6_2]; exact (hL).2.1.symm
    subst hz_v_6_2
    refine k_icmp_ge (tgt := 34) X dX11_tribesOf_9 (by decide) (fun c_9 => ?_) (fun c_9 => ?_)
    · skip
      have hin : m = i := by have := ge_of_le c_9 (by omega); omega
      subst hin
      refine k_iload_n X (q := 1) dX11_tribesOf_34 rfl rfl ?_
      exact k_iret X E dX11_tribesOf_35 (Nat.le_of_ble_eq_true rfl) (Nat.le_of_ble_eq_true rfl) (⟨rfl, rfl⟩)
    · skip
      have hlt : i < m := lt_of_nle c_9 (by omega)
      refine k_iload_n X (q := 1) dX11_tribesOf_12 rfl rfl ?_
      refine k_iconst X (v := 1) dX11_tribesOf_13 (by decide) ?_
      refine k_aload_n X (q := 2) dX11_tribesOf_14 rfl rfl ?_
      refine k_iload_n X (q := 0) dX11_tribesOf_15 rfl rfl ?_
      refine k_gotQ X (vX11_202 X (S := S) ⟨(hL).1.1, (hL).1.2⟩ (c_Jx4a65c_get_915e3 C.l C.e0 S a 1 m i xs (hL) hlt) (As := [.int (nI i)]) (rest := [.int 1, .int (kor (ktbs S xs) i)]) rfl rfl rfl rfl ⟨Nat.le_of_ble_eq_true rfl, Nat.le_of_ble_eq_true rfl⟩ (Nat.le_of_ble_eq_true rfl) ⟨Nat.le_of_ble_eq_true rfl, Nat.le_of_ble_eq_true rfl⟩ dX11_tribesOf_16) (fun r_16_5 S_16_6 h_16_3 => ?_)
      obtain ⟨rfl, er_16_5⟩ := h_16_3
      subst er_16_5
      refine tX11_89 X (S := S) ⟨(kLs.el (hL) hlt).1, (kLs.el (hL) hlt).2⟩ dX11_tribesOf_19 ?_
      refine k_gotI X (vX11_124 X (S := S) ⟨(kLs.el (hL) hlt).1, (kLs.el (hL) hlt).2⟩ (c_X1_tribe C.l C.e0 S (xs i) (kLs.el (hL) hlt)) (As := []) (rest := [.int 1, .int (kor (ktbs S xs) i)]) rfl rfl rfl rfl ⟨Nat.le_of_ble_eq_true rfl, Nat.le_of_ble_eq_true rfl⟩ (Nat.le_of_ble_eq_true rfl) ⟨Nat.le_of_ble_eq_true rfl, Nat.le_of_ble_eq_true rfl⟩ dX11_tribesOf_22) (fun v_22_8 S_22_9 h_22_6 => ?_)
      obtain ⟨rfl, ev_22_8⟩ := h_22_6
      refine k_ishl X dX11_tribesOf_25 (fun v_25_10 ev_25_10 => ?_)
      refine k_ior X dX11_tribesOf_26 (fun v_26_11 ev_26_11 => ?_)
      refine k_istore_n X [(1, .int v_26_11), (2, .int (nI i)), (0, .ref a)] dX11_tribesOf_27 rfl (by decide) rfl ?_
      obtain ⟨v_28_12, ev_28_12⟩ : ∃ z : Int32, z = (nI i) + 1 := ⟨_, rfl⟩
      refine k_iinc X (q := 1) (v := v_28_12) [(2, .int v_28_12), (1, .int v_26_11), (0, .ref a)] dX11_tribesOf_28 rfl (by rw [ev_28_12]; rfl) (by decide) rfl ?_
      refine k_goto (tgt := 4) X dX11_tribesOf_31 (by decide) ?_
      refine k_lv [0, 1, 2] _ rfl ?_
      exact ih (m - (i + 1)) (by omega) (i + 1) _ _ rfl (by rw [ev_28_12, nI_1]) (by rw [ev_26_11]; show _ = kor (ktbs S xs) i ||| ktbs S xs i; (try subst_vars); rfl) (by omega)
  refine k_lv [0, 1, 2] _ rfl ?_
  exact L_4 _ 0 0 0 rfl nI_0.symm rfl (Nat.zero_le _)
set_option maxHeartbeats 1000000 in
set_option maxRecDepth 20000 in
theorem c_X11_city (l : Launch) (e0 : Nat × Nat) (S : kS)  (A : Nat → Nat) (n : Nat) (cz : Nat → Nat) (T G Z : Nat) (h : kI e0 A n cz T G Z S) (L : kLL) (hQ : kQL e0 A n cz L S) (w : Nat) (hw : w ≤ 14) (hb : T + 0 ≤ 900000 ∧ G + 0 ≤ 60000 ∧ Z + 0 ≤ 150000) : kM l e0 yX11_city cX11_city 2 (Option.some Jvm.ClassFile.FieldType.int) ({ frames := 9, cells := 6, slots := 202, locals := 233 } : Room) 6 202 [.ref (A 0), .int (nI w)] S (kQi (fun v S9 => kI e0 A n cz (T + 0) (G + 0) (Z + 0) S9 ∧ kKe A S S9 ∧ kFr S S9 (kRo S 20) ∧ v = kQcity S A n cz L w)) := by
  refine kMetE (by decide +kernel) (Nat.le_of_ble_eq_true rfl) (fun C he hl X E hm => ?_)
  have X : kX C RX11 cX11_city 2 ({ frames := 9, cells := 6, slots := 202, locals := 233 } : Room) := X
  subst he hl
  show kG C 2 S 0 0 0 [(0, .ref (A 0)), (1, .int (nI w))] []
  have hn := h.n40
  have hq1 := hQ.1.2.1
  have hq2 := hQ.2.1.2.1
  have hq3 := hQ.2.2.1.2.1
  have hq4 := hQ.2.2.2.1.2.1
  have hq5 := hQ.2.2.2.2.2.1
  refine k_iload_n X (q := 1) dX11_city_0 rfl rfl ?_
  by_cases q_1_0 : (nI w) = 0
  · skip
    rw [q_1_0]
    refine k_tableIn (x := 0) (off := 75) (tgt := 76) X dX11_city_1 (by decide) (by decide) rfl (by decide) ?_
    have hw9 : w = 0 := nI_inj (by omega) (by omega) (show nI w = nI 0 from q_1_0)
    subst hw9
    refine k_aload_n X (q := 0) dX11_city_76 rfl rfl ?_
    refine gX11_10s X (S := S) (st_0 h.st).1 (st_0 h.st).2 (sr_0_0 h.st) dX11_city_77 ?_
    refine gX11_216 X (S := S) (st_1 h.st).1 (st_1 h.st).2 dX11_city_80 (fun v_80_1 ev_80_1 => ?_)
    exact k_iret X E dX11_city_83 (by show _ ≤ 6; omega) (by show _ ≤ 202; omega) (⟨h.mono (by omega) (by omega) (by omega), kKe.rf, kFr.rf _ _, by (try subst_vars); rfl⟩)
  · skip
    by_cases q_1_1 : (nI w) = 1
    · skip
      rw [q_1_1]
      refine k_tableIn (x := 1) (off := 83) (tgt := 84) X dX11_city_1 (by decide) (by decide) rfl (by decide) ?_
      have hw9 : w = 1 := nI_inj (by omega) (by omega) (show nI w = nI 1 from q_1_1)
      subst hw9
      refine k_aload_n X (q := 0) dX11_city_84 rfl rfl ?_
      refine gX11_10s X (S := S) (st_0 h.st).1 (st_0 h.st).2 (sr_0_0 h.st) dX11_city_85 ?_
      refine k_gotI X (vX11_419 X (S := S) ⟨(st_1 h.st).1, (st_1 h.st).2⟩ (c_X2_year C.l C.e0 S  A h.st ) (As := []) (rest := []) rfl rfl rfl rfl ⟨Nat.le_of_ble_eq_true rfl, Nat.le_of_ble_eq_true rfl⟩ (Nat.le_of_ble_eq_true rfl) ⟨(by show _ ≤ 6; omega), (by show _ ≤ 202; omega)⟩ dX11_city_88) (fun v_88_3 S_88_4 h_88_1 => ?_)
      obtain ⟨rfl, ev_88_3⟩ := h_88_1
      exact k_iret X E dX11_city_91 (by show _ ≤ 6; omega) (by show _ ≤ 202; omega) (⟨h.mono (by omega) (by omega) (by omega), kKe.rf, kFr.rf _ _, by (try subst_vars); rfl⟩)
    · skip
      by_cases q_1_2 : (nI w) = 2
      · skip
        rw [q_1_2]
        refine k_tableIn (x := 2) (off := 91) (tgt := 92) X dX11_city_1 (by decide) (by decide) rfl (by decide) ?_
        have hw9 : w = 2 := nI_inj (by omega) (by omega) (show nI w = nI 2 from q_1_2)
        subst hw9
        refine k_aload_n X (q := 0) dX11_city_92 rfl rfl ?_
        refine gX11_10s X (S := S) (st_0 h.st).1 (st_0 h.st).2 (sr_0_0 h.st) dX11_city_93 ?_
        refine k_gotI X (vX11_450 X (S := S) ⟨(st_1 h.st).1, (st_1 h.st).2⟩ (c_X2_prytany C.l C.e0 S  A h.st ) (As := []) (rest := []) rfl rfl rfl rfl ⟨Nat.le_of_ble_eq_true rfl, Nat.le_of_ble_eq_true rfl⟩ (Nat.le_of_ble_eq_true rfl) ⟨(by show _ ≤ 6; omega), (by show _ ≤ 202; omega)⟩ dX11_city_96) (fun v_96_6 S_96_7 h_96_4 => ?_)
        obtain ⟨rfl, ev_96_6⟩ := h_96_4
        exact k_iret X E dX11_city_99 (by show _ ≤ 6; omega) (by show _ ≤ 202; omega) (⟨h.mono (by omega) (by omega) (by omega), kKe.rf, kFr.rf _ _, by (try subst_vars); rfl⟩)
      · skip
        by_cases q_1_3 : (nI w) = 3
        · skip
          rw [q_1_3]
          refine k_tableIn (x := 3) (off := 99) (tgt := 100) X dX11_city_1 (by decide) (by decide) rfl (by decide) ?_
          have hw9 : w = 3 := nI_inj (by omega) (by omega) (show nI w = nI 3 from q_1_3)
          subst hw9
          refine k_aload_n X (q := 0) dX11_city_100 rfl rfl ?_
          refine gX11_10s X (S := S) (st_0 h.st).1 (st_0 h.st).2 (sr_0_0 h.st) dX11_city_101 ?_
          refine gX11_473s X (S := S) (st_1 h.st).1 (st_1 h.st).2 (sr_1_11 h.st) dX11_city_104 ?_
          refine gX11_477 X (S := S) (st_7 h.st).1 (st_7 h.st).2 dX11_city_107 (fun v_107_8 ev_107_8 => ?_)
          exact k_iret X E dX11_city_110 (by show _ ≤ 6; omega) (by show _ ≤ 202; omega) (⟨h.mono (by omega) (by omega) (by omega), kKe.rf, kFr.rf _ _, by (try subst_vars); rfl⟩)
        · skip
          by_cases q_1_4 : (nI w) = 4
          · skip
            rw [q_1_4]
            refine k_tableIn (x := 4) (off := 110) (tgt := 111) X dX11_city_1 (by decide) (by decide) rfl (by decide) ?_
            have hw9 : w = 4 := nI_inj (by omega) (by omega) (show nI w = nI 4 from q_1_4)
            subst hw9
            refine k_aload_n X (q := 0) dX11_city_111 rfl rfl ?_
            refine gX11_10s X (S := S) (st_0 h.st).1 (st_0 h.st).2 (sr_0_0 h.st) dX11_city_112 ?_
            refine gX11_473s X (S := S) (st_1 h.st).1 (st_1 h.st).2 (sr_1_11 h.st) dX11_city_115 ?_
            refine gX11_482 X (S := S) (st_7 h.st).1 (st_7 h.st).2 dX11_city_118 (fun v_118_9 ev_118_9 => ?_)
            exact k_iret X E dX11_city_121 (by show _ ≤ 6; omega) (by show _ ≤ 202; omega) (⟨h.mono (by omega) (by omega) (by omega), kKe.rf, kFr.rf _ _, by (try subst_vars); rfl⟩)
          · skip
            by_cases q_1_5 : (nI w) = 5
            · skip
              rw [q_1_5]
              refine k_tableIn (x := 5) (off := 121) (tgt := 122) X dX11_city_1 (by decide) (by decide) rfl (by decide) ?_
              have hw9 : w = 5 := nI_inj (by omega) (by omega) (show nI w = nI 5 from q_1_5)
              subst hw9
              refine k_aload_n X (q := 0) dX11_city_122 rfl rfl ?_
              refine gX11_10s X (S := S) (st_0 h.st).1 (st_0 h.st).2 (sr_0_0 h.st) dX11_city_123 ?_
              refine gX11_72s X (S := S) (st_1 h.st).1 (st_1 h.st).2 (sr_1_12 h.st) dX11_city_126 ?_
              refine k_gotI X (vX11_76 X (S := S) ⟨(st_10 h.st).1, (st_10 h.st).2⟩ (c_Jx4a65c_size_8abf5 C.l C.e0 S (A 10) (st_10 h.st)) (As := []) (rest := []) rfl rfl rfl rfl ⟨Nat.le_of_ble_eq_true rfl, Nat.le_of_ble_eq_true rfl⟩ (Nat.le_of_ble_eq_true rfl) ⟨(by show _ ≤ 6; omega), (by show _ ≤ 202; omega)⟩ dX11_city_129) (fun v_129_11 S_129_12 h_129_9 => ?_)
              obtain ⟨rfl, ev_129_11⟩ := h_129_9
              have hz_v_129_11 : nI n = v_129_11 := by rw [ev_129_11]; exact (h.hC).2.1.symm
              subst hz_v_129_11
              exact k_iret X E dX11_city_132 (by show _ ≤ 6; omega) (by show _ ≤ 202; omega) (⟨h.mono (by omega) (by omega) (by omega), kKe.rf, kFr.rf _ _, by (try subst_vars); rfl⟩)
            · skip
              by_cases q_1_6 : (nI w) = 6
              · skip
                rw [q_1_6]
                refine k_tableIn (x := 6) (off := 132) (tgt := 133) X dX11_city_1 (by decide) (by decide) rfl (by decide) ?_
                have hw9 : w = 6 := nI_inj (by omega) (by omega) (show nI w = nI 6 from q_1_6)
                subst hw9
                refine k_aload_n X (q := 0) dX11_city_133 rfl rfl ?_
                refine gX11_10s X (S := S) (st_0 h.st).1 (st_0 h.st).2 (sr_0_0 h.st) dX11_city_134 ?_
                refine k_gotI X (vX11_425 X (S := S) ⟨(st_1 h.st).1, (st_1 h.st).2⟩ (c_X2_full C.l C.e0 S  A n cz h.st h.hC hn ) (As := []) (rest := []) rfl rfl rfl rfl ⟨Nat.le_of_ble_eq_true rfl, Nat.le_of_ble_eq_true rfl⟩ (Nat.le_of_ble_eq_true rfl) ⟨(by show _ ≤ 6; omega), (by show _ ≤ 202; omega)⟩ dX11_city_137) (fun v_137_14 S_137_15 h_137_12 => ?_)
                obtain ⟨rfl, ev_137_14⟩ := h_137_12
                exact k_iret X E dX11_city_140 (by show _ ≤ 6; omega) (by show _ ≤ 202; omega) (⟨h.mono (by omega) (by omega) (by omega), kKe.rf, kFr.rf _ _, by (try subst_vars); rfl⟩)
              · skip
                by_cases q_1_7 : (nI w) = 7
                · skip
                  rw [q_1_7]
                  refine k_tableIn (x := 7) (off := 140) (tgt := 141) X dX11_city_1 (by decide) (by decide) rfl (by decide) ?_
                  have hw9 : w = 7 := nI_inj (by omega) (by omega) (show nI w = nI 7 from q_1_7)
                  subst hw9
                  refine k_aload_n X (q := 0) dX11_city_141 rfl rfl ?_
                  refine gX11_10s X (S := S) (st_0 h.st).1 (st_0 h.st).2 (sr_0_0 h.st) dX11_city_142 ?_
                  refine gX11_485 X (S := S) (st_1 h.st).1 (st_1 h.st).2 dX11_city_145 (fun v_145_16 ev_145_16 => ?_)
                  exact k_iret X E dX11_city_148 (by show _ ≤ 6; omega) (by show _ ≤ 202; omega) (⟨h.mono (by omega) (by omega) (by omega), kKe.rf, kFr.rf _ _, by (try subst_vars); rfl⟩)
                · skip
                  by_cases q_1_8 : (nI w) = 8
                  · skip
                    rw [q_1_8]
                    refine k_tableIn (x := 8) (off := 148) (tgt := 149) X dX11_city_1 (by decide) (by decide) rfl (by decide) ?_
                    have hw9 : w = 8 := nI_inj (by omega) (by omega) (show nI w = nI 8 from q_1_8)
                    subst hw9
                    refine k_aload_n X (q := 0) dX11_city_149 rfl rfl ?_
                    refine gX11_10s X (S := S) (st_0 h.st).1 (st_0 h.st).2 (sr_0_0 h.st) dX11_city_150 ?_
                    refine gX11_109 X (S := S) (st_1 h.st).1 (st_1 h.st).2 dX11_city_153 (fun v_153_17 ev_153_17 => ?_)
                    refine k_gotI X (vX11_154 X (S := S) (c_X11_asNumber C.l C.e0 S v_153_17 ) (As := [.int v_153_17]) (rest := []) rfl rfl rfl rfl ⟨Nat.le_of_ble_eq_true rfl, Nat.le_of_ble_eq_true rfl⟩ (Nat.le_of_ble_eq_true rfl) ⟨(by show _ ≤ 6; omega), (by show _ ≤ 202; omega)⟩ dX11_city_156) (fun v_156_19 S_156_20 h_156_17 => ?_)
                    obtain ⟨rfl, ev_156_19⟩ := h_156_17
                    exact k_iret X E dX11_city_159 (by show _ ≤ 6; omega) (by show _ ≤ 202; omega) (⟨h.mono (by omega) (by omega) (by omega), kKe.rf, kFr.rf _ _, by (try subst_vars); rfl⟩)
                  · skip
                    by_cases q_1_9 : (nI w) = 9
                    · skip
                      rw [q_1_9]
                      refine k_tableIn (x := 9) (off := 159) (tgt := 160) X dX11_city_1 (by decide) (by decide) rfl (by decide) ?_
                      have hw9 : w = 9 := nI_inj (by omega) (by omega) (show nI w = nI 9 from q_1_9)
                      subst hw9
                      refine k_aload_n X (q := 0) dX11_city_160 rfl rfl ?_
                      refine gX11_53s X (S := S) (st_0 h.st).1 (st_0 h.st).2 (sr_0_5 h.st) dX11_city_161 ?_
                      refine k_gotQ X (vX11_488 X (S := S) ⟨(st_6 h.st).1, (st_6 h.st).2⟩ (c_X9_firstRuler C.l C.e0 S  A h.st L.mr L.xr (hQ.2.2.2.2.1) (by omega)) (As := []) (rest := []) rfl rfl rfl rfl ⟨Nat.le_of_ble_eq_true rfl, Nat.le_of_ble_eq_true rfl⟩ (Nat.le_of_ble_eq_true rfl) ⟨(by show _ ≤ 6; omega), (by show _ ≤ 202; omega)⟩ dX11_city_164) (fun r_164_22 S_164_23 h_164_20 => ?_)
                      obtain ⟨rfl, er_164_22⟩ := h_164_20
                      refine k_gotI X (vX11_175 X (S := S) (c_X11_numberOf C.l C.e0 S r_164_22 (fun x hx => by rw [er_164_22] at hx; by_cases g : L.mr = 0; rw [if_pos g] at hx; cases hx; rw [if_neg g] at hx; cases hx; obtain ⟨j, h1, h2⟩ := hQ.2.2.2.2.2.2 0 (by omega); rw [h2]; exact h.at h1)) (As := [va_rf r_164_22]) (rest := []) rfl rfl rfl rfl ⟨Nat.le_of_ble_eq_true rfl, Nat.le_of_ble_eq_true rfl⟩ (Nat.le_of_ble_eq_true rfl) ⟨(by show _ ≤ 6; omega), (by show _ ≤ 202; omega)⟩ dX11_city_167) (fun v_167_25 S_167_26 h_167_23 => ?_)
                      obtain ⟨rfl, ev_167_25⟩ := h_167_23
                      replace ev_167_25 : v_167_25 = knum S r_164_22 := by
                        refine ev_167_25.trans ?_
                        cases r_164_22 <;> rfl
                      exact k_iret X E dX11_city_170 (by show _ ≤ 6; omega) (by show _ ≤ 202; omega) (⟨h.mono (by omega) (by omega) (by omega), kKe.rf, kFr.rf _ _, by (try subst_vars); rfl⟩)
                    · skip
                      by_cases q_1_10 : (nI w) = 10
                      · skip
                        rw [q_1_10]
                        refine k_tableIn (x := 10) (off := 170) (tgt := 171) X dX11_city_1 (by decide) (by decide) rfl (by decide) ?_
                        have hw9 : w = 10 := nI_inj (by omega) (by omega) (show nI w = nI 10 from q_1_10)
                        subst hw9
                        refine k_aload_n X (q := 0) dX11_city_171 rfl rfl ?_
                        refine gX11_10s X (S := S) (st_0 h.st).1 (st_0 h.st).2 (sr_0_0 h.st) dX11_city_172 ?_
                        refine gX11_457 X (S := S) (st_1 h.st).1 (st_1 h.st).2 dX11_city_175 (fun v_175_27 ev_175_27 => ?_)
                        exact k_iret X E dX11_city_178 (by show _ ≤ 6; omega) (by show _ ≤ 202; omega) (⟨h.mono (by omega) (by omega) (by omega), kKe.rf, kFr.rf _ _, by (try subst_vars); rfl⟩)
                      · skip
                        by_cases q_1_11 : (nI w) = 11
                        · skip
                          rw [q_1_11]
                          refine k_tableIn (x := 11) (off := 178) (tgt := 179) X dX11_city_1 (by decide) (by decide) rfl (by decide) ?_
                          have hw9 : w = 11 := nI_inj (by omega) (by omega) (show nI w = nI 11 from q_1_11)
                          subst hw9
                          refine k_aload_n X (q := 0) dX11_city_179 rfl rfl ?_
                          refine gX11_37s X (S := S) (st_0 h.st).1 (st_0 h.st).2 (sr_0_3 h.st) dX11_city_180 ?_
                          refine gX11_189s X (S := S) (st_4 h.st).1 (st_4 h.st).2 (sr_4_2 h.st) dX11_city_183 ?_
                          refine k_gotI X (vX11_76 X (S := S) ⟨(st_18 h.st).1, (st_18 h.st).2⟩ (c_Jx4a65c_size_8abf5 C.l C.e0 S (A 18) (st_18 h.st)) (As := []) (rest := []) rfl rfl rfl rfl ⟨Nat.le_of_ble_eq_true rfl, Nat.le_of_ble_eq_true rfl⟩ (Nat.le_of_ble_eq_true rfl) ⟨(by show _ ≤ 6; omega), (by show _ ≤ 202; omega)⟩ dX11_city_186) (fun v_186_29 S_186_30 h_186_27 => ?_)
                          obtain ⟨rfl, ev_186_29⟩ := h_186_27
                          have hz_v_186_29 : nI L.ma = v_186_29 := by rw [ev_186_29]; exact (hQ.1.1).2.1.symm
                          subst hz_v_186_29
                          exact k_iret X E dX11_city_189 (by show _ ≤ 6; omega) (by show _ ≤ 202; omega) (⟨h.mono (by omega) (by omega) (by omega), kKe.rf, kFr.rf _ _, by (try subst_vars); rfl⟩)
                        · skip
                          by_cases q_1_12 : (nI w) = 12
                          · skip
                            rw [q_1_12]
                            refine k_tableIn (x := 12) (off := 189) (tgt := 190) X dX11_city_1 (by decide) (by decide) rfl (by decide) ?_
                            have hw9 : w = 12 := nI_inj (by omega) (by omega) (show nI w = nI 12 from q_1_12)
                            subst hw9
                            refine k_aload_n X (q := 0) dX11_city_190 rfl rfl ?_
                            refine gX11_37s X (S := S) (st_0 h.st).1 (st_0 h.st).2 (sr_0_3 h.st) dX11_city_191 ?_
                            refine gX11_222s X (S := S) (st_4 h.st).1 (st_4 h.st).2 (sr_4_3 h.st) dX11_city_194 ?_
                            refine k_gotI X (vX11_76 X (S := S) ⟨(st_19 h.st).1, (st_19 h.st).2⟩ (c_Jx4a65c_size_8abf5 C.l C.e0 S (A 19) (st_19 h.st)) (As := []) (rest := []) rfl rfl rfl rfl ⟨Nat.le_of_ble_eq_true rfl, Nat.le_of_ble_eq_true rfl⟩ (Nat.le_of_ble_eq_true rfl) ⟨(by show _ ≤ 6; omega), (by show _ ≤ 202; omega)⟩ dX11_city_197) (fun v_197_32 S_197_33 h_197_30 => ?_)
                            obtain ⟨rfl, ev_197_32⟩ := h_197_30
                            have hz_v_197_32 : nI L.md = v_197_32 := by rw [ev_197_32]; exact (hQ.2.1.1).2.1.symm
                            subst hz_v_197_32
                            exact k_iret X E dX11_city_200 (by show _ ≤ 6; omega) (by show _ ≤ 202; omega) (⟨h.mono (by omega) (by omega) (by omega), kKe.rf, kFr.rf _ _, by (try subst_vars); rfl⟩)
                          · skip
                            by_cases q_1_13 : (nI w) = 13
                            · skip
                              rw [q_1_13]
                              refine k_tableIn (x := 13) (off := 200) (tgt := 201) X dX11_city_1 (by decide) (by decide) rfl (by decide) ?_
                              have hw9 : w = 13 := nI_inj (by omega) (by omega) (show nI w = nI 13 from q_1_13)
                              subst hw9
                              refine k_aload_n X (q := 0) dX11_city_201 rfl rfl ?_
                              refine gX11_10s X (S := S) (st_0 h.st).1 (st_0 h.st).2 (sr_0_0 h.st) dX11_city_202 ?_
                              refine gX11_491 X (S := S) (st_1 h.st).1 (st_1 h.st).2 dX11_city_205 (fun v_205_34 ev_205_34 => ?_)
                              exact k_iret X E dX11_city_208 (by show _ ≤ 6; omega) (by show _ ≤ 202; omega) (⟨h.mono (by omega) (by omega) (by omega), kKe.rf, kFr.rf _ _, by (try subst_vars); rfl⟩)
                            · skip
                              by_cases q_1_14 : (nI w) = 14
                              · skip
                                rw [q_1_14]
                                refine k_tableIn (x := 14) (off := 208) (tgt := 209) X dX11_city_1 (by decide) (by decide) rfl (by decide) ?_
                                have hw9 : w = 14 := nI_inj (by omega) (by omega) (show nI w = nI 14 from q_1_14)
                                subst hw9
                                refine k_aload_n X (q := 0) dX11_city_209 rfl rfl ?_
                                refine gX11_37s X (S := S) (st_0 h.st).1 (st_0 h.st).2 (sr_0_3 h.st) dX11_city_210 ?_
                                refine k_gotI X (vX11_494 X (S := S) ⟨(st_4 h.st).1, (st_4 h.st).2⟩ (c_X0_countPresent C.l C.e0 S  A n cz _ _ _ h  (by omega)) (As := []) (rest := []) rfl rfl rfl rfl ⟨Nat.le_of_ble_eq_true rfl, Nat.le_of_ble_eq_true rfl⟩ (Nat.le_of_ble_eq_true rfl) ⟨(by show _ ≤ 6; omega), (by show _ ≤ 202; omega)⟩ dX11_city_213) (fun v_213_36 S_213_37 h_213_34 => ?_)
                                obtain ⟨hI_38, hx_38, hm_38⟩ := h_213_34
                                have hK_38 := (kKe.rf).tr hx_38
                                exact k_iret X E dX11_city_216 (by show _ ≤ 6; omega) (by show _ ≤ 202; omega) (⟨hI_38.mono (by omega) (by omega) (by omega), hK_38, hm_38⟩)
                              · skip
                                refine k_tableOut (tgt := 217) X dX11_city_1 (ktsw (N := 14) (by omega) (fun k hk => by
                                  rcases (show k = 0 ∨ k = 1 ∨ k = 2 ∨ k = 3 ∨ k = 4 ∨ k = 5 ∨ k = 6 ∨ k = 7 ∨ k = 8 ∨ k = 9 ∨ k = 10 ∨ k = 11 ∨ k = 12 ∨ k = 13 ∨ k = 14 by omega) with rfl | rfl | rfl | rfl | rfl | rfl | rfl | rfl | rfl | rfl | rfl | rfl | rfl | rfl | rfl
                                  · exact q_1_0
                                  · exact q_1_1
                                  · exact q_1_2
                                  · exact q_1_3
                                  · exact q_1_4
                                  · exact q_1_5
                                  · exact q_1_6
                                  · exact q_1_7
                                  · exact q_1_8
                                  · exact q_1_9
                                  · exact q_1_10
                                  · exact q_1_11
                                  · exact q_1_12
                                  · exact q_1_13
                                  · exact q_1_14)) (by decide) ?_
                                rcases (show w = 0 ∨ w = 1 ∨ w = 2 ∨ w = 3 ∨ w = 4 ∨ w = 5 ∨ w = 6 ∨ w = 7 ∨ w = 8 ∨ w = 9 ∨ w = 10 ∨ w = 11 ∨ w = 12 ∨ w = 13 ∨ w = 14 by omega) with rfl | rfl | rfl | rfl | rfl | rfl | rfl | rfl | rfl | rfl | rfl | rfl | rfl | rfl | rfl
                                · exact absurd rfl q_1_0
                                · exact absurd rfl q_1_1
                                · exact absurd rfl q_1_2
                                · exact absurd rfl q_1_3
                                · exact absurd rfl q_1_4
                                · exact absurd rfl q_1_5
                                · exact absurd rfl q_1_6
                                · exact absurd rfl q_1_7
                                · exact absurd rfl q_1_8
                                · exact absurd rfl q_1_9
                                · exact absurd rfl q_1_10
                                · exact absurd rfl q_1_11
                                · exact absurd rfl q_1_12
                                · exact absurd rfl q_1_13
                                · exact absurd rfl q_1_14
set_option maxHeartbeats 1000000 in
set_option maxRecDepth 20000 in
theorem c_X11_council (l : Launch) (e0 : Nat × Nat) (S : kS)   (A : Nat → Nat) (n : Nat) (cz : Nat → Nat) (T G Z : Nat) (h : kI e0 A n cz T G Z S) (L : kLL) (hQ : kQL e0 A n cz L S) (w : Nat) (hw : w ≤ 4) : kM l e0 yX11_council cX11_council 2 (Option.some Jvm.ClassFile.FieldType.int) ({ frames := 5, cells := 0, slots := 0, locals := 106 } : Room) 0 0 [.ref (A 0), .int (nI w)] S (kQi (fun v S9 => S = S9 ∧ v = kQcouncil S A n cz w)) := by
  refine kMetE (by decide +kernel) (Nat.le_of_ble_eq_true rfl) (fun C he hl X E hm => ?_)
  have X : kX C RX11 cX11_council 2 ({ frames := 5, cells := 0, slots := 0, locals := 106 } : Room) := X
  subst he hl
  show kG C 2 S 0 0 0 [(0, .ref (A 0)), (1, .int (nI w))] []
  have hn := h.n40
  have hq1 := hQ.1.2.1
  have hq2 := hQ.2.1.2.1
  have hq3 := hQ.2.2.1.2.1
  have hq4 := hQ.2.2.2.1.2.1
  have hq5 := hQ.2.2.2.2.2.1
  refine k_iload_n X (q := 1) dX11_council_0 rfl rfl ?_
  by_cases q_1_0 : (nI w) = 0
  · skip
    rw [q_1_0]
    refine k_tableIn (x := 0) (off := 35) (tgt := 36) X dX11_council_1 (by decide) (by decide) rfl (by decide) ?_
    have hw9 : w = 0 := nI_inj (by omega) (by omega) (show nI w = nI 0 from q_1_0)
    subst hw9
    refine k_aload_n X (q := 0) dX11_council_36 rfl rfl ?_
    refine gX11_21s X (S := S) (st_0 h.st).1 (st_0 h.st).2 (sr_0_1 h.st) dX11_council_37 ?_
    refine k_gotI X (vX11_161 X (S := S) ⟨(st_2 h.st).1, (st_2 h.st).2⟩ (c_X3_size C.l C.e0 S  A n cz h.st h.hC hn ) (As := []) (rest := []) rfl rfl rfl rfl ⟨Nat.le_of_ble_eq_true rfl, Nat.le_of_ble_eq_true rfl⟩ (Nat.le_of_ble_eq_true rfl) ⟨Nat.le_of_ble_eq_true rfl, Nat.le_of_ble_eq_true rfl⟩ dX11_council_40) (fun v_40_2 S_40_3 h_40_0 => ?_)
    obtain ⟨rfl, ev_40_2⟩ := h_40_0
    exact k_iret X E dX11_council_43 (Nat.le_of_ble_eq_true rfl) (Nat.le_of_ble_eq_true rfl) (⟨rfl, by (try subst_vars); rfl⟩)
  · skip
    by_cases q_1_1 : (nI w) = 1
    · skip
      rw [q_1_1]
      refine k_tableIn (x := 1) (off := 43) (tgt := 44) X dX11_council_1 (by decide) (by decide) rfl (by decide) ?_
      have hw9 : w = 1 := nI_inj (by omega) (by omega) (show nI w = nI 1 from q_1_1)
      subst hw9
      refine k_aload_n X (q := 0) dX11_council_44 rfl rfl ?_
      refine gX11_21s X (S := S) (st_0 h.st).1 (st_0 h.st).2 (sr_0_1 h.st) dX11_council_45 ?_
      refine k_gotI X (vX11_168 X (S := S) ⟨(st_2 h.st).1, (st_2 h.st).2⟩ (c_X3_prytanes C.l C.e0 S  A n cz h.st h.hC hn ) (As := []) (rest := []) rfl rfl rfl rfl ⟨Nat.le_of_ble_eq_true rfl, Nat.le_of_ble_eq_true rfl⟩ (Nat.le_of_ble_eq_true rfl) ⟨Nat.le_of_ble_eq_true rfl, Nat.le_of_ble_eq_true rfl⟩ dX11_council_48) (fun v_48_5 S_48_6 h_48_3 => ?_)
      obtain ⟨rfl, ev_48_5⟩ := h_48_3
      exact k_iret X E dX11_council_51 (Nat.le_of_ble_eq_true rfl) (Nat.le_of_ble_eq_true rfl) (⟨rfl, by (try subst_vars); rfl⟩)
    · skip
      by_cases q_1_2 : (nI w) = 2
      · skip
        rw [q_1_2]
        refine k_tableIn (x := 2) (off := 51) (tgt := 52) X dX11_council_1 (by decide) (by decide) rfl (by decide) ?_
        have hw9 : w = 2 := nI_inj (by omega) (by omega) (show nI w = nI 2 from q_1_2)
        subst hw9
        refine k_aload_n X (q := 0) dX11_council_52 rfl rfl ?_
        refine gX11_10s X (S := S) (st_0 h.st).1 (st_0 h.st).2 (sr_0_0 h.st) dX11_council_53 ?_
        refine gX11_171 X (S := S) (st_1 h.st).1 (st_1 h.st).2 dX11_council_56 (fun r_56_7 er_56_7 => ?_)
        refine k_gotI X (vX11_175 X (S := S) (c_X11_numberOf C.l C.e0 S r_56_7 (fun x hx => by obtain ⟨i, h1, h2, -⟩ := h.ch x (er_56_7.symm.trans hx); rw [h2]; exact h.at h1)) (As := [va_rf r_56_7]) (rest := []) rfl rfl rfl rfl ⟨Nat.le_of_ble_eq_true rfl, Nat.le_of_ble_eq_true rfl⟩ (Nat.le_of_ble_eq_true rfl) ⟨Nat.le_of_ble_eq_true rfl, Nat.le_of_ble_eq_true rfl⟩ dX11_council_59) (fun v_59_9 S_59_10 h_59_7 => ?_)
        obtain ⟨rfl, ev_59_9⟩ := h_59_7
        replace ev_59_9 : v_59_9 = knum S r_56_7 := by
          refine ev_59_9.trans ?_
          cases r_56_7 <;> rfl
        exact k_iret X E dX11_council_62 (Nat.le_of_ble_eq_true rfl) (Nat.le_of_ble_eq_true rfl) (⟨rfl, by (try subst_vars); rfl⟩)
      · skip
        by_cases q_1_3 : (nI w) = 3
        · skip
          rw [q_1_3]
          refine k_tableIn (x := 3) (off := 62) (tgt := 63) X dX11_council_1 (by decide) (by decide) rfl (by decide) ?_
          have hw9 : w = 3 := nI_inj (by omega) (by omega) (show nI w = nI 3 from q_1_3)
          subst hw9
          refine k_aload_n X (q := 0) dX11_council_63 rfl rfl ?_
          refine gX11_21s X (S := S) (st_0 h.st).1 (st_0 h.st).2 (sr_0_1 h.st) dX11_council_64 ?_
          refine k_gotI X (vX11_178 X (S := S) ⟨(st_2 h.st).1, (st_2 h.st).2⟩ (c_X3_prytanyTribe C.l C.e0 S  A h.st ) (As := []) (rest := []) rfl rfl rfl rfl ⟨Nat.le_of_ble_eq_true rfl, Nat.le_of_ble_eq_true rfl⟩ (Nat.le_of_ble_eq_true rfl) ⟨Nat.le_of_ble_eq_true rfl, Nat.le_of_ble_eq_true rfl⟩ dX11_council_67) (fun v_67_12 S_67_13 h_67_10 => ?_)
          obtain ⟨rfl, ev_67_12⟩ := h_67_10
          exact k_iret X E dX11_council_70 (Nat.le_of_ble_eq_true rfl) (Nat.le_of_ble_eq_true rfl) (⟨rfl, by (try subst_vars); rfl⟩)
        · skip
          by_cases q_1_4 : (nI w) = 4
          · skip
            rw [q_1_4]
            refine k_tableIn (x := 4) (off := 70) (tgt := 71) X dX11_council_1 (by decide) (by decide) rfl (by decide) ?_
            have hw9 : w = 4 := nI_inj (by omega) (by omega) (show nI w = nI 4 from q_1_4)
            subst hw9
            refine k_aload_n X (q := 0) dX11_council_71 rfl rfl ?_
            refine gX11_21s X (S := S) (st_0 h.st).1 (st_0 h.st).2 (sr_0_1 h.st) dX11_council_72 ?_
            refine k_gotI X (vX11_181 X (S := S) ⟨(st_2 h.st).1, (st_2 h.st).2⟩ (c_X3_tribes C.l C.e0 S  A n cz h.st h.hC hn ) (As := []) (rest := []) rfl rfl rfl rfl ⟨Nat.le_of_ble_eq_true rfl, Nat.le_of_ble_eq_true rfl⟩ (Nat.le_of_ble_eq_true rfl) ⟨Nat.le_of_ble_eq_true rfl, Nat.le_of_ble_eq_true rfl⟩ dX11_council_75) (fun v_75_15 S_75_16 h_75_13 => ?_)
            obtain ⟨rfl, ev_75_15⟩ := h_75_13
            exact k_iret X E dX11_council_78 (Nat.le_of_ble_eq_true rfl) (Nat.le_of_ble_eq_true rfl) (⟨rfl, by (try subst_vars); rfl⟩)
          · skip
            refine k_tableOut (tgt := 79) X dX11_council_1 (ktsw (N := 4) (by omega) (fun k hk => by
              rcases (show k = 0 ∨ k = 1 ∨ k = 2 ∨ k = 3 ∨ k = 4 by omega) with rfl | rfl | rfl | rfl | rfl
              · exact q_1_0
              · exact q_1_1
              · exact q_1_2
              · exact q_1_3
              · exact q_1_4)) (by decide) ?_
            rcases (show w = 0 ∨ w = 1 ∨ w = 2 ∨ w = 3 ∨ w = 4 by omega) with rfl | rfl | rfl | rfl | rfl
            · exact absurd rfl q_1_0
            · exact absurd rfl q_1_1
            · exact absurd rfl q_1_2
            · exact absurd rfl q_1_3
            · exact absurd rfl q_1_4
set_option maxHeartbeats 1000000 in
set_option maxRecDepth 20000 in
theorem c_X11_money (l : Launch) (e0 : Nat × Nat) (S : kS)   (A : Nat → Nat) (n : Nat) (cz : Nat → Nat) (T G Z : Nat) (h : kI e0 A n cz T G Z S) (L : kLL) (hQ : kQL e0 A n cz L S) (w : Nat) (hw : w ≤ 8) : kM l e0 yX11_money cX11_money 2 (Option.some Jvm.ClassFile.FieldType.int) ({ frames := 4, cells := 0, slots := 0, locals := 86 } : Room) 0 0 [.ref (A 0), .int (nI w)] S (kQi (fun v S9 => S = S9 ∧ v = kQmoney S A n cz w)) := by
  refine kMetE (by decide +kernel) (Nat.le_of_ble_eq_true rfl) (fun C he hl X E hm => ?_)
  have X : kX C RX11 cX11_money 2 ({ frames := 4, cells := 0, slots := 0, locals := 86 } : Room) := X
  subst he hl
  show kG C 2 S 0 0 0 [(0, .ref (A 0)), (1, .int (nI w))] []
  have hn := h.n40
  have hq1 := hQ.1.2.1
  have hq2 := hQ.2.1.2.1
  have hq3 := hQ.2.2.1.2.1
  have hq4 := hQ.2.2.2.1.2.1
  have hq5 := hQ.2.2.2.2.2.1
  refine k_iload_n X (q := 1) dX11_money_0 rfl rfl ?_
  by_cases q_1_0 : (nI w) = 0
  · skip
    rw [q_1_0]
    refine k_tableIn (x := 0) (off := 51) (tgt := 52) X dX11_money_1 (by decide) (by decide) rfl (by decide) ?_
    have hw9 : w = 0 := nI_inj (by omega) (by omega) (show nI w = nI 0 from q_1_0)
    subst hw9
    refine k_aload_n X (q := 0) dX11_money_52 rfl rfl ?_
    refine gX11_10s X (S := S) (st_0 h.st).1 (st_0 h.st).2 (sr_0_0 h.st) dX11_money_53 ?_
    refine gX11_375 X (S := S) (st_1 h.st).1 (st_1 h.st).2 dX11_money_56 (fun v_56_1 ev_56_1 => ?_)
    exact k_iret X E dX11_money_59 (Nat.le_of_ble_eq_true rfl) (Nat.le_of_ble_eq_true rfl) (⟨rfl, by (try subst_vars); rfl⟩)
  · skip
    by_cases q_1_1 : (nI w) = 1
    · skip
      rw [q_1_1]
      refine k_tableIn (x := 1) (off := 59) (tgt := 60) X dX11_money_1 (by decide) (by decide) rfl (by decide) ?_
      have hw9 : w = 1 := nI_inj (by omega) (by omega) (show nI w = nI 1 from q_1_1)
      subst hw9
      refine k_aload_n X (q := 0) dX11_money_60 rfl rfl ?_
      refine gX11_10s X (S := S) (st_0 h.st).1 (st_0 h.st).2 (sr_0_0 h.st) dX11_money_61 ?_
      refine gX11_378 X (S := S) (st_1 h.st).1 (st_1 h.st).2 dX11_money_64 (fun v_64_2 ev_64_2 => ?_)
      exact k_iret X E dX11_money_67 (Nat.le_of_ble_eq_true rfl) (Nat.le_of_ble_eq_true rfl) (⟨rfl, by (try subst_vars); rfl⟩)
    · skip
      by_cases q_1_2 : (nI w) = 2
      · skip
        rw [q_1_2]
        refine k_tableIn (x := 2) (off := 67) (tgt := 68) X dX11_money_1 (by decide) (by decide) rfl (by decide) ?_
        have hw9 : w = 2 := nI_inj (by omega) (by omega) (show nI w = nI 2 from q_1_2)
        subst hw9
        refine k_aload_n X (q := 0) dX11_money_68 rfl rfl ?_
        refine gX11_10s X (S := S) (st_0 h.st).1 (st_0 h.st).2 (sr_0_0 h.st) dX11_money_69 ?_
        refine gX11_381 X (S := S) (st_1 h.st).1 (st_1 h.st).2 dX11_money_72 (fun v_72_3 ev_72_3 => ?_)
        exact k_iret X E dX11_money_75 (Nat.le_of_ble_eq_true rfl) (Nat.le_of_ble_eq_true rfl) (⟨rfl, by (try subst_vars); rfl⟩)
      · skip
        by_cases q_1_3 : (nI w) = 3
        · skip
          rw [q_1_3]
          refine k_tableIn (x := 3) (off := 75) (tgt := 76) X dX11_money_1 (by decide) (by decide) rfl (by decide) ?_
          have hw9 : w = 3 := nI_inj (by omega) (by omega) (show nI w = nI 3 from q_1_3)
          subst hw9
          refine k_aload_n X (q := 0) dX11_money_76 rfl rfl ?_
          refine gX11_10s X (S := S) (st_0 h.st).1 (st_0 h.st).2 (sr_0_0 h.st) dX11_money_77 ?_
          refine gX11_354s X (S := S) (st_1 h.st).1 (st_1 h.st).2 (sr_1_15 h.st) dX11_money_80 ?_
          refine k_gotI X (vX11_384 X (S := S) (c_X11_sumOf C.l C.e0 S (A 40) (st_40 h.st) (sm_40 h.st)) (As := [.ref (A 40)]) (rest := []) rfl rfl rfl rfl ⟨Nat.le_of_ble_eq_true rfl, Nat.le_of_ble_eq_true rfl⟩ (Nat.le_of_ble_eq_true rfl) ⟨Nat.le_of_ble_eq_true rfl, Nat.le_of_ble_eq_true rfl⟩ dX11_money_83) (fun v_83_5 S_83_6 h_83_3 => ?_)
          obtain ⟨rfl, ev_83_5⟩ := h_83_3
          exact k_iret X E dX11_money_86 (Nat.le_of_ble_eq_true rfl) (Nat.le_of_ble_eq_true rfl) (⟨rfl, by (try subst_vars); rfl⟩)
        · skip
          by_cases q_1_4 : (nI w) = 4
          · skip
            rw [q_1_4]
            refine k_tableIn (x := 4) (off := 86) (tgt := 87) X dX11_money_1 (by decide) (by decide) rfl (by decide) ?_
            have hw9 : w = 4 := nI_inj (by omega) (by omega) (show nI w = nI 4 from q_1_4)
            subst hw9
            obtain ⟨a, ha4, hal⟩ := h.ms.2.2.2.2.1
            refine k_aload_n X (q := 0) dX11_money_87 rfl rfl ?_
            refine gX11_44s X (S := S) (st_0 h.st).1 (st_0 h.st).2 (sr_0_4 h.st) dX11_money_88 ?_
            refine k_gotI X (vX11_388 X (S := S) ⟨(st_5 h.st).1, (st_5 h.st).2⟩ (c_X5_allTribute C.l C.e0 S  A h.st a ha4 hal) (As := []) (rest := []) rfl rfl rfl rfl ⟨Nat.le_of_ble_eq_true rfl, Nat.le_of_ble_eq_true rfl⟩ (Nat.le_of_ble_eq_true rfl) ⟨Nat.le_of_ble_eq_true rfl, Nat.le_of_ble_eq_true rfl⟩ dX11_money_91) (fun v_91_8 S_91_9 h_91_6 => ?_)
            obtain ⟨rfl, ev_91_8⟩ := h_91_6
            exact k_iret X E dX11_money_94 (Nat.le_of_ble_eq_true rfl) (Nat.le_of_ble_eq_true rfl) (⟨rfl, by rw [ev_91_8]; show _ = ksum _ (S.I (A 5) 1).toNatClampNeg; rw [hal, nI_clamp (by omega)]⟩)
          · skip
            by_cases q_1_5 : (nI w) = 5
            · skip
              rw [q_1_5]
              refine k_tableIn (x := 5) (off := 94) (tgt := 95) X dX11_money_1 (by decide) (by decide) rfl (by decide) ?_
              have hw9 : w = 5 := nI_inj (by omega) (by omega) (show nI w = nI 5 from q_1_5)
              subst hw9
              refine k_aload_n X (q := 0) dX11_money_95 rfl rfl ?_
              refine gX11_44s X (S := S) (st_0 h.st).1 (st_0 h.st).2 (sr_0_4 h.st) dX11_money_96 ?_
              refine gX11_369 X (S := S) (st_5 h.st).1 (st_5 h.st).2 dX11_money_99 (fun v_99_10 ev_99_10 => ?_)
              exact k_iret X E dX11_money_102 (Nat.le_of_ble_eq_true rfl) (Nat.le_of_ble_eq_true rfl) (⟨rfl, by (try subst_vars); rfl⟩)
            · skip
              by_cases q_1_6 : (nI w) = 6
              · skip
                rw [q_1_6]
                refine k_tableIn (x := 6) (off := 102) (tgt := 103) X dX11_money_1 (by decide) (by decide) rfl (by decide) ?_
                have hw9 : w = 6 := nI_inj (by omega) (by omega) (show nI w = nI 6 from q_1_6)
                subst hw9
                refine k_aload_n X (q := 0) dX11_money_103 rfl rfl ?_
                refine gX11_10s X (S := S) (st_0 h.st).1 (st_0 h.st).2 (sr_0_0 h.st) dX11_money_104 ?_
                refine k_gotI X (vX11_391 X (S := S) ⟨(st_1 h.st).1, (st_1 h.st).2⟩ (c_X2_allDebts C.l C.e0 S  A n cz h.st h.hC hn ) (As := []) (rest := []) rfl rfl rfl rfl ⟨Nat.le_of_ble_eq_true rfl, Nat.le_of_ble_eq_true rfl⟩ (Nat.le_of_ble_eq_true rfl) ⟨Nat.le_of_ble_eq_true rfl, Nat.le_of_ble_eq_true rfl⟩ dX11_money_107) (fun v_107_12 S_107_13 h_107_10 => ?_)
                obtain ⟨rfl, ev_107_12⟩ := h_107_10
                exact k_iret X E dX11_money_110 (Nat.le_of_ble_eq_true rfl) (Nat.le_of_ble_eq_true rfl) (⟨rfl, by (try subst_vars); rfl⟩)
              · skip
                by_cases q_1_7 : (nI w) = 7
                · skip
                  rw [q_1_7]
                  refine k_tableIn (x := 7) (off := 110) (tgt := 111) X dX11_money_1 (by decide) (by decide) rfl (by decide) ?_
                  have hw9 : w = 7 := nI_inj (by omega) (by omega) (show nI w = nI 7 from q_1_7)
                  subst hw9
                  refine k_aload_n X (q := 0) dX11_money_111 rfl rfl ?_
                  refine gX11_10s X (S := S) (st_0 h.st).1 (st_0 h.st).2 (sr_0_0 h.st) dX11_money_112 ?_
                  refine gX11_394 X (S := S) (st_1 h.st).1 (st_1 h.st).2 dX11_money_115 (fun v_115_14 ev_115_14 => ?_)
                  exact k_iret X E dX11_money_118 (Nat.le_of_ble_eq_true rfl) (Nat.le_of_ble_eq_true rfl) (⟨rfl, by (try subst_vars); rfl⟩)
                · skip
                  by_cases q_1_8 : (nI w) = 8
                  · skip
                    rw [q_1_8]
                    refine k_tableIn (x := 8) (off := 118) (tgt := 119) X dX11_money_1 (by decide) (by decide) rfl (by decide) ?_
                    have hw9 : w = 8 := nI_inj (by omega) (by omega) (show nI w = nI 8 from q_1_8)
                    subst hw9
                    refine k_aload_n X (q := 0) dX11_money_119 rfl rfl ?_
                    refine gX11_10s X (S := S) (st_0 h.st).1 (st_0 h.st).2 (sr_0_0 h.st) dX11_money_120 ?_
                    refine gX11_397 X (S := S) (st_1 h.st).1 (st_1 h.st).2 dX11_money_123 (fun v_123_15 ev_123_15 => ?_)
                    exact k_iret X E dX11_money_126 (Nat.le_of_ble_eq_true rfl) (Nat.le_of_ble_eq_true rfl) (⟨rfl, by (try subst_vars); rfl⟩)
                  · skip
                    refine k_tableOut (tgt := 127) X dX11_money_1 (ktsw (N := 8) (by omega) (fun k hk => by
                      rcases (show k = 0 ∨ k = 1 ∨ k = 2 ∨ k = 3 ∨ k = 4 ∨ k = 5 ∨ k = 6 ∨ k = 7 ∨ k = 8 by omega) with rfl | rfl | rfl | rfl | rfl | rfl | rfl | rfl | rfl
                      · exact q_1_0
                      · exact q_1_1
                      · exact q_1_2
                      · exact q_1_3
                      · exact q_1_4
                      · exact q_1_5
                      · exact q_1_6
                      · exact q_1_7
                      · exact q_1_8)) (by decide) ?_
                    rcases (show w = 0 ∨ w = 1 ∨ w = 2 ∨ w = 3 ∨ w = 4 ∨ w = 5 ∨ w = 6 ∨ w = 7 ∨ w = 8 by omega) with rfl | rfl | rfl | rfl | rfl | rfl | rfl | rfl | rfl
                    · exact absurd rfl q_1_0
                    · exact absurd rfl q_1_1
                    · exact absurd rfl q_1_2
                    · exact absurd rfl q_1_3
                    · exact absurd rfl q_1_4
                    · exact absurd rfl q_1_5
                    · exact absurd rfl q_1_6
                    · exact absurd rfl q_1_7
                    · exact absurd rfl q_1_8
set_option maxHeartbeats 1000000 in
set_option maxRecDepth 20000 in
theorem c_X11_jury (l : Launch) (e0 : Nat × Nat) (S : kS)   (A : Nat → Nat) (n : Nat) (cz : Nat → Nat) (T G Z : Nat) (h : kI e0 A n cz T G Z S) (L : kLL) (hQ : kQL e0 A n cz L S) (w : Nat) (hw : w ≤ 6) : kM l e0 yX11_jury cX11_jury 2 (Option.some Jvm.ClassFile.FieldType.int) ({ frames := 4, cells := 0, slots := 0, locals := 86 } : Room) 0 0 [.ref (A 0), .int (nI w)] S (kQi (fun v S9 => S = S9 ∧ v = kQjury S A L w)) := by
  refine kMetE (by decide +kernel) (Nat.le_of_ble_eq_true rfl) (fun C he hl X E hm => ?_)
  have X : kX C RX11 cX11_jury 2 ({ frames := 4, cells := 0, slots := 0, locals := 86 } : Room) := X
  subst he hl
  show kG C 2 S 0 0 0 [(0, .ref (A 0)), (1, .int (nI w))] []
  have hn := h.n40
  have hq1 := hQ.1.2.1
  have hq2 := hQ.2.1.2.1
  have hq3 := hQ.2.2.1.2.1
  have hq4 := hQ.2.2.2.1.2.1
  have hq5 := hQ.2.2.2.2.2.1
  refine k_iload_n X (q := 1) dX11_jury_0 rfl rfl ?_
  by_cases q_1_0 : (nI w) = 0
  · skip
    rw [q_1_0]
    refine k_tableIn (x := 0) (off := 43) (tgt := 44) X dX11_jury_1 (by decide) (by decide) rfl (by decide) ?_
    have hw9 : w = 0 := nI_inj (by omega) (by omega) (show nI w = nI 0 from q_1_0)
    subst hw9
    refine k_aload_n X (q := 0) dX11_jury_44 rfl rfl ?_
    refine gX11_28s X (S := S) (st_0 h.st).1 (st_0 h.st).2 (sr_0_2 h.st) dX11_jury_45 ?_
    refine gX11_335s X (S := S) (st_3 h.st).1 (st_3 h.st).2 (sr_3_2 h.st) dX11_jury_48 ?_
    refine k_gotI X (vX11_76 X (S := S) ⟨(st_16 h.st).1, (st_16 h.st).2⟩ (c_Jx4a65c_size_8abf5 C.l C.e0 S (A 16) (st_16 h.st)) (As := []) (rest := []) rfl rfl rfl rfl ⟨Nat.le_of_ble_eq_true rfl, Nat.le_of_ble_eq_true rfl⟩ (Nat.le_of_ble_eq_true rfl) ⟨Nat.le_of_ble_eq_true rfl, Nat.le_of_ble_eq_true rfl⟩ dX11_jury_51) (fun v_51_2 S_51_3 h_51_0 => ?_)
    obtain ⟨rfl, ev_51_2⟩ := h_51_0
    have hz_v_51_2 : nI L.mj = v_51_2 := by rw [ev_51_2]; exact (hQ.2.2.2.1.1).2.1.symm
    subst hz_v_51_2
    exact k_iret X E dX11_jury_54 (Nat.le_of_ble_eq_true rfl) (Nat.le_of_ble_eq_true rfl) (⟨rfl, by (try subst_vars); rfl⟩)
  · skip
    by_cases q_1_1 : (nI w) = 1
    · skip
      rw [q_1_1]
      refine k_tableIn (x := 1) (off := 54) (tgt := 55) X dX11_jury_1 (by decide) (by decide) rfl (by decide) ?_
      have hw9 : w = 1 := nI_inj (by omega) (by omega) (show nI w = nI 1 from q_1_1)
      subst hw9
      refine k_aload_n X (q := 0) dX11_jury_55 rfl rfl ?_
      refine gX11_28s X (S := S) (st_0 h.st).1 (st_0 h.st).2 (sr_0_2 h.st) dX11_jury_56 ?_
      refine gX11_338 X (S := S) (st_3 h.st).1 (st_3 h.st).2 dX11_jury_59 (fun v_59_4 ev_59_4 => ?_)
      exact k_iret X E dX11_jury_62 (Nat.le_of_ble_eq_true rfl) (Nat.le_of_ble_eq_true rfl) (⟨rfl, by (try subst_vars); rfl⟩)
    · skip
      by_cases q_1_2 : (nI w) = 2
      · skip
        rw [q_1_2]
        refine k_tableIn (x := 2) (off := 62) (tgt := 63) X dX11_jury_1 (by decide) (by decide) rfl (by decide) ?_
        have hw9 : w = 2 := nI_inj (by omega) (by omega) (show nI w = nI 2 from q_1_2)
        subst hw9
        refine k_aload_n X (q := 0) dX11_jury_63 rfl rfl ?_
        refine gX11_28s X (S := S) (st_0 h.st).1 (st_0 h.st).2 (sr_0_2 h.st) dX11_jury_64 ?_
        refine gX11_335s X (S := S) (st_3 h.st).1 (st_3 h.st).2 (sr_3_2 h.st) dX11_jury_67 ?_
        refine k_gotI X (vX11_341 X (S := S) (c_X11_tribesOf C.l C.e0 S (A 16)  L.mj L.xj (hQ.2.2.2.1.1) (by omega)) (As := [.ref (A 16)]) (rest := []) rfl rfl rfl rfl ⟨Nat.le_of_ble_eq_true rfl, Nat.le_of_ble_eq_true rfl⟩ (Nat.le_of_ble_eq_true rfl) ⟨Nat.le_of_ble_eq_true rfl, Nat.le_of_ble_eq_true rfl⟩ dX11_jury_70) (fun v_70_6 S_70_7 h_70_4 => ?_)
        obtain ⟨rfl, ev_70_6⟩ := h_70_4
        exact k_iret X E dX11_jury_73 (Nat.le_of_ble_eq_true rfl) (Nat.le_of_ble_eq_true rfl) (⟨rfl, by (try subst_vars); rfl⟩)
      · skip
        by_cases q_1_3 : (nI w) = 3
        · skip
          rw [q_1_3]
          refine k_tableIn (x := 3) (off := 73) (tgt := 74) X dX11_jury_1 (by decide) (by decide) rfl (by decide) ?_
          have hw9 : w = 3 := nI_inj (by omega) (by omega) (show nI w = nI 3 from q_1_3)
          subst hw9
          refine k_aload_n X (q := 0) dX11_jury_74 rfl rfl ?_
          refine gX11_28s X (S := S) (st_0 h.st).1 (st_0 h.st).2 (sr_0_2 h.st) dX11_jury_75 ?_
          refine gX11_345 X (S := S) (st_3 h.st).1 (st_3 h.st).2 dX11_jury_78 (fun v_78_8 ev_78_8 => ?_)
          exact k_iret X E dX11_jury_81 (Nat.le_of_ble_eq_true rfl) (Nat.le_of_ble_eq_true rfl) (⟨rfl, by (try subst_vars); rfl⟩)
        · skip
          by_cases q_1_4 : (nI w) = 4
          · skip
            rw [q_1_4]
            refine k_tableIn (x := 4) (off := 81) (tgt := 82) X dX11_jury_1 (by decide) (by decide) rfl (by decide) ?_
            have hw9 : w = 4 := nI_inj (by omega) (by omega) (show nI w = nI 4 from q_1_4)
            subst hw9
            refine k_aload_n X (q := 0) dX11_jury_82 rfl rfl ?_
            refine gX11_28s X (S := S) (st_0 h.st).1 (st_0 h.st).2 (sr_0_2 h.st) dX11_jury_83 ?_
            refine gX11_348 X (S := S) (st_3 h.st).1 (st_3 h.st).2 dX11_jury_86 (fun v_86_9 ev_86_9 => ?_)
            exact k_iret X E dX11_jury_89 (Nat.le_of_ble_eq_true rfl) (Nat.le_of_ble_eq_true rfl) (⟨rfl, by (try subst_vars); rfl⟩)
          · skip
            by_cases q_1_5 : (nI w) = 5
            · skip
              rw [q_1_5]
              refine k_tableIn (x := 5) (off := 89) (tgt := 90) X dX11_jury_1 (by decide) (by decide) rfl (by decide) ?_
              have hw9 : w = 5 := nI_inj (by omega) (by omega) (show nI w = nI 5 from q_1_5)
              subst hw9
              refine k_aload_n X (q := 0) dX11_jury_90 rfl rfl ?_
              refine gX11_28s X (S := S) (st_0 h.st).1 (st_0 h.st).2 (sr_0_2 h.st) dX11_jury_91 ?_
              refine gX11_351 X (S := S) (st_3 h.st).1 (st_3 h.st).2 dX11_jury_94 (fun v_94_10 ev_94_10 => ?_)
              exact k_iret X E dX11_jury_97 (Nat.le_of_ble_eq_true rfl) (Nat.le_of_ble_eq_true rfl) (⟨rfl, by (try subst_vars); rfl⟩)
            · skip
              by_cases q_1_6 : (nI w) = 6
              · skip
                rw [q_1_6]
                refine k_tableIn (x := 6) (off := 97) (tgt := 98) X dX11_jury_1 (by decide) (by decide) rfl (by decide) ?_
                have hw9 : w = 6 := nI_inj (by omega) (by omega) (show nI w = nI 6 from q_1_6)
                subst hw9
                refine k_aload_n X (q := 0) dX11_jury_98 rfl rfl ?_
                refine gX11_28s X (S := S) (st_0 h.st).1 (st_0 h.st).2 (sr_0_2 h.st) dX11_jury_99 ?_
                refine gX11_279s X (S := S) (st_3 h.st).1 (st_3 h.st).2 (sr_3_1 h.st) dX11_jury_102 ?_
                refine k_gotI X (vX11_76 X (S := S) ⟨(st_15 h.st).1, (st_15 h.st).2⟩ (c_Jx4a65c_size_8abf5 C.l C.e0 S (A 15) (st_15 h.st)) (As := []) (rest := []) rfl rfl rfl rfl ⟨Nat.le_of_ble_eq_true rfl, Nat.le_of_ble_eq_true rfl⟩ (Nat.le_of_ble_eq_true rfl) ⟨Nat.le_of_ble_eq_true rfl, Nat.le_of_ble_eq_true rfl⟩ dX11_jury_105) (fun v_105_12 S_105_13 h_105_10 => ?_)
                obtain ⟨rfl, ev_105_12⟩ := h_105_10
                have hz_v_105_12 : nI L.ms = v_105_12 := by rw [ev_105_12]; exact (hQ.2.2.1.1).2.1.symm
                subst hz_v_105_12
                exact k_iret X E dX11_jury_108 (Nat.le_of_ble_eq_true rfl) (Nat.le_of_ble_eq_true rfl) (⟨rfl, by (try subst_vars); rfl⟩)
              · skip
                refine k_tableOut (tgt := 109) X dX11_jury_1 (ktsw (N := 6) (by omega) (fun k hk => by
                  rcases (show k = 0 ∨ k = 1 ∨ k = 2 ∨ k = 3 ∨ k = 4 ∨ k = 5 ∨ k = 6 by omega) with rfl | rfl | rfl | rfl | rfl | rfl | rfl
                  · exact q_1_0
                  · exact q_1_1
                  · exact q_1_2
                  · exact q_1_3
                  · exact q_1_4
                  · exact q_1_5
                  · exact q_1_6)) (by decide) ?_
                rcases (show w = 0 ∨ w = 1 ∨ w = 2 ∨ w = 3 ∨ w = 4 ∨ w = 5 ∨ w = 6 by omega) with rfl | rfl | rfl | rfl | rfl | rfl | rfl
                · exact absurd rfl q_1_0
                · exact absurd rfl q_1_1
                · exact absurd rfl q_1_2
                · exact absurd rfl q_1_3
                · exact absurd rfl q_1_4
                · exact absurd rfl q_1_5
                · exact absurd rfl q_1_6
set_option maxHeartbeats 1000000 in
set_option maxRecDepth 20000 in
theorem c_X11_law (l : Launch) (e0 : Nat × Nat) (S : kS)   (A : Nat → Nat) (n : Nat) (cz : Nat → Nat) (T G Z : Nat) (h : kI e0 A n cz T G Z S) (L : kLL) (hQ : kQL e0 A n cz L S) (k : Nat) (hk : k < 8) : kM l e0 yX11_law cX11_law 2 (Option.some Jvm.ClassFile.FieldType.int) ({ frames := 2, cells := 0, slots := 0, locals := 42 } : Room) 0 0 [.ref (A 0), .int (nI k)] S (kQi (fun v S9 => S = S9 ∧ v = kvat S (A 43) (nI k))) := by
  refine kMetE (by decide +kernel) (Nat.le_of_ble_eq_true rfl) (fun C he hl X E hm => ?_)
  have X : kX C RX11 cX11_law 2 ({ frames := 2, cells := 0, slots := 0, locals := 42 } : Room) := X
  subst he hl
  show kG C 2 S 0 0 0 [(0, .ref (A 0)), (1, .int (nI k))] []
  have hn := h.n40
  have hq1 := hQ.1.2.1
  have hq2 := hQ.2.1.2.1
  have hq3 := hQ.2.2.1.2.1
  have hq4 := hQ.2.2.2.1.2.1
  have hq5 := hQ.2.2.2.2.2.1
  refine k_iload_n X (q := 1) dX11_law_0 rfl rfl ?_
  refine k_iconst X (v := 0) dX11_law_1 (by decide) ?_
  refine k_bipush X (v := 7) dX11_law_2 (by decide) ?_
  refine k_gotI X (vX11_61 X (S := S) (c_X11_isFrom C.l C.e0 S (nI k) 0 7 ) (As := [.int (nI k), .int 0, .int 7]) (rest := []) rfl rfl rfl rfl ⟨Nat.le_of_ble_eq_true rfl, Nat.le_of_ble_eq_true rfl⟩ (Nat.le_of_ble_eq_true rfl) ⟨Nat.le_of_ble_eq_true rfl, Nat.le_of_ble_eq_true rfl⟩ dX11_law_4) (fun v_4_2 S_4_3 h_4_0 => ?_)
  obtain ⟨rfl, ev_4_2⟩ := h_4_0
  refine k_if_ne (tgt := 18) X dX11_law_7 (by decide) (fun c_7 => ?_) (fun c_7 => ?_)
  · skip
    rw [ev_4_2] at c_7
    refine k_aload_n X (q := 0) dX11_law_18 rfl rfl ?_
    refine gX11_37s X (S := S) (st_0 h.st).1 (st_0 h.st).2 (sr_0_3 h.st) dX11_law_19 ?_
    refine k_iload_n X (q := 1) dX11_law_22 rfl rfl ?_
    refine k_gotI X (vX11_238 X (S := S) ⟨(st_4 h.st).1, (st_4 h.st).2⟩ (c_X0_lawOn C.l C.e0 S (nI k) A h.st ) (As := [.int (nI k)]) (rest := []) rfl rfl rfl rfl ⟨Nat.le_of_ble_eq_true rfl, Nat.le_of_ble_eq_true rfl⟩ (Nat.le_of_ble_eq_true rfl) ⟨Nat.le_of_ble_eq_true rfl, Nat.le_of_ble_eq_true rfl⟩ dX11_law_23) (fun v_23_5 S_23_6 h_23_3 => ?_)
    obtain ⟨rfl, ev_23_5⟩ := h_23_3
    exact k_iret X E dX11_law_26 (Nat.le_of_ble_eq_true rfl) (Nat.le_of_ble_eq_true rfl) (⟨rfl, by (try subst_vars); rfl⟩)
  · skip
    rw [ev_4_2] at c_7
    exact absurd c_7 (kfr_ok2 (m := 7) rfl (by omega) (by omega))
set_option maxHeartbeats 1000000 in
set_option maxRecDepth 20000 in
theorem c_X11_would (l : Launch) (e0 : Nat × Nat) (S : kS)  (A : Nat → Nat) (n : Nat) (cz : Nat → Nat) (T G Z : Nat) (h : kI e0 A n cz T G Z S) (L : kLL) (hQ : kQL e0 A n cz L S) (k : Nat) (hk : k < L.ma) (hb : T + 0 ≤ 900000 ∧ G + 0 ≤ 60000 ∧ Z + 0 ≤ 150000) : kM l e0 yX11_would cX11_would 2 (Option.some Jvm.ClassFile.FieldType.int) ({ frames := 9, cells := 6, slots := 202, locals := 235 } : Room) 6 202 [.ref (A 0), .int (nI k)] S (kQi (fun v S9 => kI e0 A n cz (T + 0) (G + 0) (Z + 0) S9 ∧ kKe A S S9 ∧ kFr S S9 (kRo S 20) ∧ v = kfor S A cz n (L.xa k))) := by
  refine kMetE (by decide +kernel) (Nat.le_of_ble_eq_true rfl) (fun C he hl X E hm => ?_)
  have X : kX C RX11 cX11_would 2 ({ frames := 9, cells := 6, slots := 202, locals := 235 } : Room) := X
  subst he hl
  show kG C 2 S 0 0 0 [(0, .ref (A 0)), (1, .int (nI k))] []
  have hn := h.n40
  have hq1 := hQ.1.2.1
  have hq2 := hQ.2.1.2.1
  have hq3 := hQ.2.2.1.2.1
  have hq4 := hQ.2.2.2.1.2.1
  have hq5 := hQ.2.2.2.2.2.1
  refine k_iload_n X (q := 1) dX11_would_0 rfl rfl ?_
  refine k_iconst X (v := 0) dX11_would_1 (by decide) ?_
  refine k_aload_n X (q := 0) dX11_would_2 rfl rfl ?_
  refine gX11_37s X (S := S) (st_0 h.st).1 (st_0 h.st).2 (sr_0_3 h.st) dX11_would_3 ?_
  refine gX11_189s X (S := S) (st_4 h.st).1 (st_4 h.st).2 (sr_4_2 h.st) dX11_would_6 ?_
  refine k_gotI X (vX11_76 X (S := S) ⟨(st_18 h.st).1, (st_18 h.st).2⟩ (c_Jx4a65c_size_8abf5 C.l C.e0 S (A 18) (st_18 h.st)) (As := []) (rest := [.int 0, .int (nI k)]) rfl rfl rfl rfl ⟨Nat.le_of_ble_eq_true rfl, Nat.le_of_ble_eq_true rfl⟩ (Nat.le_of_ble_eq_true rfl) ⟨(by show _ ≤ 6; omega), (by show _ ≤ 202; omega)⟩ dX11_would_9) (fun v_9_2 S_9_3 h_9_0 => ?_)
  obtain ⟨rfl, ev_9_2⟩ := h_9_0
  have hz_v_9_2 : nI L.ma = v_9_2 := by rw [ev_9_2]; exact (hQ.1.1).2.1.symm
  subst hz_v_9_2
  refine k_iconst X (v := 1) dX11_would_12 (by decide) ?_
  refine k_isub X dX11_would_13 (fun v_13_4 ev_13_4 => ?_)
  refine k_gotI X (vX11_61 X (S := S) (c_X11_isFrom C.l C.e0 S (nI k) 0 v_13_4 ) (As := [.int (nI k), .int 0, .int v_13_4]) (rest := []) rfl rfl rfl rfl ⟨Nat.le_of_ble_eq_true rfl, Nat.le_of_ble_eq_true rfl⟩ (Nat.le_of_ble_eq_true rfl) ⟨(by show _ ≤ 6; omega), (by show _ ≤ 202; omega)⟩ dX11_would_14) (fun v_14_6 S_14_7 h_14_4 => ?_)
  obtain ⟨rfl, ev_14_6⟩ := h_14_4
  refine k_if_ne (tgt := 28) X dX11_would_17 (by decide) (fun c_17 => ?_) (fun c_17 => ?_)
  · skip
    rw [ev_14_6] at c_17
    refine k_aload_n X (q := 0) dX11_would_28 rfl rfl ?_
    refine gX11_37s X (S := S) (st_0 h.st).1 (st_0 h.st).2 (sr_0_3 h.st) dX11_would_29 ?_
    refine k_aload_n X (q := 0) dX11_would_32 rfl rfl ?_
    refine gX11_37s X (S := S) (st_0 h.st).1 (st_0 h.st).2 (sr_0_3 h.st) dX11_would_33 ?_
    refine gX11_189s X (S := S) (st_4 h.st).1 (st_4 h.st).2 (sr_4_2 h.st) dX11_would_36 ?_
    refine k_iload_n X (q := 1) dX11_would_39 rfl rfl ?_
    refine k_gotQ X (vX11_202 X (S := S) ⟨(st_18 h.st).1, (st_18 h.st).2⟩ (c_Jx4a65c_get_915e3 C.l C.e0 S (A 18) 7 L.ma k L.xa (hQ.1.1) hk) (As := [.int (nI k)]) (rest := [.ref (A 4)]) rfl rfl rfl rfl ⟨Nat.le_of_ble_eq_true rfl, Nat.le_of_ble_eq_true rfl⟩ (Nat.le_of_ble_eq_true rfl) ⟨(by show _ ≤ 6; omega), (by show _ ≤ 202; omega)⟩ dX11_would_40) (fun r_40_9 S_40_10 h_40_7 => ?_)
    obtain ⟨rfl, er_40_9⟩ := h_40_7
    subst er_40_9
    refine tX11_184 X (S := S) ⟨(kLs.el (hQ.1.1) hk).1, (kLs.el (hQ.1.1) hk).2⟩ dX11_would_43 ?_
    refine k_gotI X (vX11_241 X (S := S) ⟨(st_4 h.st).1, (st_4 h.st).2⟩ (c_X0_foretell C.l C.e0 S (L.xa k) A n cz _ _ _ h (hQ.1.2.2 k hk) (by omega)) (As := [.ref (L.xa k)]) (rest := []) rfl rfl rfl rfl ⟨Nat.le_of_ble_eq_true rfl, Nat.le_of_ble_eq_true rfl⟩ (Nat.le_of_ble_eq_true rfl) ⟨(by show _ ≤ 6; omega), (by show _ ≤ 202; omega)⟩ dX11_would_46) (fun v_46_12 S_46_13 h_46_10 => ?_)
    obtain ⟨hI_14, hx_14, hm_14⟩ := h_46_10
    have hK_14 := (kKe.rf).tr hx_14
    exact k_iret X E dX11_would_49 (by show _ ≤ 6; omega) (by show _ ≤ 202; omega) (⟨hI_14.mono (by omega) (by omega) (by omega), hK_14, hm_14⟩)
  · skip
    rw [ev_14_6] at c_17
    exact absurd c_17 (kfr_ok ev_13_4 rfl hk (by omega))
set_option maxHeartbeats 1000000 in
set_option maxRecDepth 20000 in
theorem c_X11_ofOffice (l : Launch) (e0 : Nat × Nat) (S : kS)   (A : Nat → Nat) (n : Nat) (cz : Nat → Nat) (T G Z : Nat) (h : kI e0 A n cz T G Z S) (L : kLL) (hQ : kQL e0 A n cz L S) (k : Nat) (hk : k < 7) (w : Nat) (hw : w ≤ 3) : kM l e0 yX11_ofOffice cX11_ofOffice 4 (Option.some Jvm.ClassFile.FieldType.int) ({ frames := 3, cells := 0, slots := 0, locals := 64 } : Room) 0 0 [.ref (A 0), .int (nI k), .int (nI w)] S (kQi (fun v S9 => S = S9 ∧ v = kQoffice S A k w)) := by
  refine kMetE (by decide +kernel) (Nat.le_of_ble_eq_true rfl) (fun C he hl X E hm => ?_)
  have X : kX C RX11 cX11_ofOffice 4 ({ frames := 3, cells := 0, slots := 0, locals := 64 } : Room) := X
  subst he hl
  show kG C 4 S 0 0 0 [(0, .ref (A 0)), (1, .int (nI k)), (2, .int (nI w))] []
  have hn := h.n40
  have hq1 := hQ.1.2.1
  have hq2 := hQ.2.1.2.1
  have hq3 := hQ.2.2.1.2.1
  have hq4 := hQ.2.2.2.1.2.1
  have hq5 := hQ.2.2.2.2.2.1
  refine k_iload_n X (q := 1) dX11_ofOffice_0 rfl rfl ?_
  refine k_iconst X (v := 0) dX11_ofOffice_1 (by decide) ?_
  refine k_aload_n X (q := 0) dX11_ofOffice_2 rfl rfl ?_
  refine gX11_10s X (S := S) (st_0 h.st).1 (st_0 h.st).2 (sr_0_0 h.st) dX11_ofOffice_3 ?_
  refine gX11_245s X (S := S) (st_1 h.st).1 (st_1 h.st).2 (sr_1_13 h.st) dX11_ofOffice_6 ?_
  refine k_gotI X (vX11_76 X (S := S) ⟨(st_11 h.st).1, (st_11 h.st).2⟩ (c_Jx4a65c_size_8abf5 C.l C.e0 S (A 11) (st_11 h.st)) (As := []) (rest := [.int 0, .int (nI k)]) rfl rfl rfl rfl ⟨Nat.le_of_ble_eq_true rfl, Nat.le_of_ble_eq_true rfl⟩ (Nat.le_of_ble_eq_true rfl) ⟨Nat.le_of_ble_eq_true rfl, Nat.le_of_ble_eq_true rfl⟩ dX11_ofOffice_9) (fun v_9_2 S_9_3 h_9_0 => ?_)
  obtain ⟨rfl, ev_9_2⟩ := h_9_0
  have hz_v_9_2 : nI 7 = v_9_2 := by rw [ev_9_2]; exact (h.hO).2.1.symm
  subst hz_v_9_2
  refine k_iconst X (v := 1) dX11_ofOffice_12 (by decide) ?_
  refine k_isub X dX11_ofOffice_13 (fun v_13_4 ev_13_4 => ?_)
  refine k_gotI X (vX11_61 X (S := S) (c_X11_isFrom C.l C.e0 S (nI k) 0 v_13_4 ) (As := [.int (nI k), .int 0, .int v_13_4]) (rest := []) rfl rfl rfl rfl ⟨Nat.le_of_ble_eq_true rfl, Nat.le_of_ble_eq_true rfl⟩ (Nat.le_of_ble_eq_true rfl) ⟨Nat.le_of_ble_eq_true rfl, Nat.le_of_ble_eq_true rfl⟩ dX11_ofOffice_14) (fun v_14_6 S_14_7 h_14_4 => ?_)
  obtain ⟨rfl, ev_14_6⟩ := h_14_4
  refine k_if_ne (tgt := 28) X dX11_ofOffice_17 (by decide) (fun c_17 => ?_) (fun c_17 => ?_)
  · skip
    rw [ev_14_6] at c_17
    refine k_aload_n X (q := 0) dX11_ofOffice_28 rfl rfl ?_
    refine gX11_10s X (S := S) (st_0 h.st).1 (st_0 h.st).2 (sr_0_0 h.st) dX11_ofOffice_29 ?_
    refine gX11_245s X (S := S) (st_1 h.st).1 (st_1 h.st).2 (sr_1_13 h.st) dX11_ofOffice_32 ?_
    refine k_iload_n X (q := 1) dX11_ofOffice_35 rfl rfl ?_
    refine k_gotQ X (vX11_202 X (S := S) ⟨(st_11 h.st).1, (st_11 h.st).2⟩ (c_Jx4a65c_get_915e3 C.l C.e0 S (A 11) 8 7 k (kof A) (h.hO) hk) (As := [.int (nI k)]) (rest := []) rfl rfl rfl rfl ⟨Nat.le_of_ble_eq_true rfl, Nat.le_of_ble_eq_true rfl⟩ (Nat.le_of_ble_eq_true rfl) ⟨Nat.le_of_ble_eq_true rfl, Nat.le_of_ble_eq_true rfl⟩ dX11_ofOffice_36) (fun r_36_9 S_36_10 h_36_7 => ?_)
    obtain ⟨rfl, er_36_9⟩ := h_36_7
    subst er_36_9
    refine tX11_248 X (S := S) ⟨(kLs.el (h.hO) hk).1, (kLs.el (h.hO) hk).2⟩ dX11_ofOffice_39 ?_
    refine k_astore_n X [(3, .ref (kof A k)), (0, .ref (A 0)), (1, .int (nI k)), (2, .int (nI w))] dX11_ofOffice_42 rfl (by decide) rfl ?_
    refine k_iload_n X (q := 3) dX11_ofOffice_43 rfl rfl ?_
    by_cases q_44_0 : (nI w) = 0
    · skip
      rw [q_44_0]
      refine k_tableIn (x := 0) (off := 32) (tgt := 76) X dX11_ofOffice_44 (by decide) (by decide) rfl (by decide) ?_
      have hw9 : w = 0 := nI_inj (by omega) (by omega) (show nI w = nI 0 from q_44_0)
      subst hw9
      refine k_aload_n X (q := 0) dX11_ofOffice_76 rfl rfl ?_
      refine gX11_260 X (S := S) (kLs.el (h.hO) hk).1 (kLs.el (h.hO) hk).2 dX11_ofOffice_77 (fun r_77_11 er_77_11 => ?_)
      refine k_gotI X (vX11_175 X (S := S) (c_X11_numberOf C.l C.e0 S r_77_11 (fun x hx => by obtain ⟨i, h1, h2, -⟩ := h.ho.1 k hk x (er_77_11.symm.trans hx); rw [h2]; exact h.at h1)) (As := [va_rf r_77_11]) (rest := []) rfl rfl rfl rfl ⟨Nat.le_of_ble_eq_true rfl, Nat.le_of_ble_eq_true rfl⟩ (Nat.le_of_ble_eq_true rfl) ⟨Nat.le_of_ble_eq_true rfl, Nat.le_of_ble_eq_true rfl⟩ dX11_ofOffice_80) (fun v_80_13 S_80_14 h_80_11 => ?_)
      obtain ⟨rfl, ev_80_13⟩ := h_80_11
      replace ev_80_13 : v_80_13 = knum S r_77_11 := by
        refine ev_80_13.trans ?_
        cases r_77_11 <;> rfl
      exact k_iret X E dX11_ofOffice_83 (Nat.le_of_ble_eq_true rfl) (Nat.le_of_ble_eq_true rfl) (⟨rfl, by (try subst_vars); rfl⟩)
    · skip
      by_cases q_44_1 : (nI w) = 1
      · skip
        rw [q_44_1]
        refine k_tableIn (x := 1) (off := 40) (tgt := 84) X dX11_ofOffice_44 (by decide) (by decide) rfl (by decide) ?_
        have hw9 : w = 1 := nI_inj (by omega) (by omega) (show nI w = nI 1 from q_44_1)
        subst hw9
        refine k_aload_n X (q := 0) dX11_ofOffice_84 rfl rfl ?_
        refine gX11_257s X (S := S) (kLs.el (h.hO) hk).1 (kLs.el (h.hO) hk).2 ((st_sta h.st hk).2.2.1) dX11_ofOffice_85 ?_
        refine k_gotI X (vX11_76 X (S := S) ⟨(st_sta h.st hk).1.1, (st_sta h.st hk).1.2⟩ (c_Jx4a65c_size_8abf5 C.l C.e0 S (A (25 + k)) (st_sta h.st hk).1) (As := []) (rest := []) rfl rfl rfl rfl ⟨Nat.le_of_ble_eq_true rfl, Nat.le_of_ble_eq_true rfl⟩ (Nat.le_of_ble_eq_true rfl) ⟨Nat.le_of_ble_eq_true rfl, Nat.le_of_ble_eq_true rfl⟩ dX11_ofOffice_88) (fun v_88_16 S_88_17 h_88_14 => ?_)
        obtain ⟨rfl, ev_88_16⟩ := h_88_14
        exact k_iret X E dX11_ofOffice_91 (Nat.le_of_ble_eq_true rfl) (Nat.le_of_ble_eq_true rfl) (⟨rfl, by (try subst_vars); rfl⟩)
      · skip
        by_cases q_44_2 : (nI w) = 2
        · skip
          rw [q_44_2]
          refine k_tableIn (x := 2) (off := 48) (tgt := 92) X dX11_ofOffice_44 (by decide) (by decide) rfl (by decide) ?_
          have hw9 : w = 2 := nI_inj (by omega) (by omega) (show nI w = nI 2 from q_44_2)
          subst hw9
          refine k_aload_n X (q := 0) dX11_ofOffice_92 rfl rfl ?_
          refine gX11_260 X (S := S) (kLs.el (h.hO) hk).1 (kLs.el (h.hO) hk).2 dX11_ofOffice_93 (fun r_93_18 er_93_18 => ?_)
          refine k_ifnonnull (tgt := 103) X dX11_ofOffice_96 (by decide) (fun a_96_19 c_96 => ?_) (fun c_96 => ?_)
          · skip
            subst c_96
            refine k_aload_n X (q := 0) dX11_ofOffice_103 rfl rfl ?_
            refine gX11_266 X (S := S) (kLs.el (h.hO) hk).1 (kLs.el (h.hO) hk).2 dX11_ofOffice_104 (fun v_104_20 ev_104_20 => ?_)
            exact k_iret X E dX11_ofOffice_107 (Nat.le_of_ble_eq_true rfl) (Nat.le_of_ble_eq_true rfl) (⟨rfl, by show _ = (match S.R (kof A k) 1 with | none => -1 | some _ => S.I (kof A k) 2); rw [← er_93_18]; try exact ev_104_20⟩)
          · skip
            subst c_96
            refine k_iconst X (v := (-1)) dX11_ofOffice_99 (by decide) ?_
            refine k_goto (tgt := 107) X dX11_ofOffice_100 (by decide) ?_
            exact k_iret X E dX11_ofOffice_107 (Nat.le_of_ble_eq_true rfl) (Nat.le_of_ble_eq_true rfl) (⟨rfl, by show _ = (match S.R (kof A k) 1 with | none => -1 | some _ => S.I (kof A k) 2); rw [← er_93_18]; try rfl⟩)
        · skip
          by_cases q_44_3 : (nI w) = 3
          · skip
            rw [q_44_3]
            refine k_tableIn (x := 3) (off := 64) (tgt := 108) X dX11_ofOffice_44 (by decide) (by decide) rfl (by decide) ?_
            have hw9 : w = 3 := nI_inj (by omega) (by omega) (show nI w = nI 3 from q_44_3)
            subst hw9
            refine k_aload_n X (q := 0) dX11_ofOffice_108 rfl rfl ?_
            refine k_aload_n X (q := 1) dX11_ofOffice_109 rfl rfl ?_
            refine gX11_10s X (S := S) (st_0 h.st).1 (st_0 h.st).2 (sr_0_0 h.st) dX11_ofOffice_110 ?_
            refine k_gotI X (vX11_269 X (S := S) ⟨(kLs.el (h.hO) hk).1, (kLs.el (h.hO) hk).2⟩ (c_X8_handled C.l C.e0 S (kof A k) A h.st ⟨(kLs.el (h.hO) hk).1, (kLs.el (h.hO) hk).2⟩) (As := [.ref (A 1)]) (rest := []) rfl rfl rfl rfl ⟨Nat.le_of_ble_eq_true rfl, Nat.le_of_ble_eq_true rfl⟩ (Nat.le_of_ble_eq_true rfl) ⟨Nat.le_of_ble_eq_true rfl, Nat.le_of_ble_eq_true rfl⟩ dX11_ofOffice_113) (fun v_113_22 S_113_23 h_113_20 => ?_)
            obtain ⟨rfl, ev_113_22⟩ := h_113_20
            exact k_iret X E dX11_ofOffice_116 (Nat.le_of_ble_eq_true rfl) (Nat.le_of_ble_eq_true rfl) (⟨rfl, by (try subst_vars); rfl⟩)
          · skip
            refine k_tableOut (tgt := 117) X dX11_ofOffice_44 (ktsw (N := 3) (by omega) (fun k hk => by
              rcases (show k = 0 ∨ k = 1 ∨ k = 2 ∨ k = 3 by omega) with rfl | rfl | rfl | rfl
              · exact q_44_0
              · exact q_44_1
              · exact q_44_2
              · exact q_44_3)) (by decide) ?_
            rcases (show w = 0 ∨ w = 1 ∨ w = 2 ∨ w = 3 by omega) with rfl | rfl | rfl | rfl
            · exact absurd rfl q_44_0
            · exact absurd rfl q_44_1
            · exact absurd rfl q_44_2
            · exact absurd rfl q_44_3
  · skip
    rw [ev_14_6] at c_17
    exact absurd c_17 (kfr_ok ev_13_4 rfl hk (by omega))
set_option maxHeartbeats 1000000 in
set_option maxRecDepth 20000 in
theorem c_X11_ofTribe (l : Launch) (e0 : Nat × Nat) (S : kS)   (A : Nat → Nat) (n : Nat) (cz : Nat → Nat) (T G Z : Nat) (h : kI e0 A n cz T G Z S) (L : kLL) (hQ : kQL e0 A n cz L S) (k : Nat) (hk : k < 4) (w : Nat) (hw : w ≤ 4) : kM l e0 yX11_ofTribe cX11_ofTribe 3 (Option.some Jvm.ClassFile.FieldType.int) ({ frames := 4, cells := 0, slots := 0, locals := 91 } : Room) 0 0 [.ref (A 0), .int (nI k), .int (nI w)] S (kQi (fun v S9 => S = S9 ∧ v = kQtribe S A n cz k w)) := by
  refine kMetE (by decide +kernel) (Nat.le_of_ble_eq_true rfl) (fun C he hl X E hm => ?_)
  have X : kX C RX11 cX11_ofTribe 3 ({ frames := 4, cells := 0, slots := 0, locals := 91 } : Room) := X
  subst he hl
  show kG C 3 S 0 0 0 [(0, .ref (A 0)), (1, .int (nI k)), (2, .int (nI w))] []
  have hn := h.n40
  have hq1 := hQ.1.2.1
  have hq2 := hQ.2.1.2.1
  have hq3 := hQ.2.2.1.2.1
  have hq4 := hQ.2.2.2.1.2.1
  have hq5 := hQ.2.2.2.2.2.1
  refine k_iload_n X (q := 1) dX11_ofTribe_0 rfl rfl ?_
  refine k_iconst X (v := 0) dX11_ofTribe_1 (by decide) ?_
  refine k_iconst X (v := 3) dX11_ofTribe_2 (by decide) ?_
  refine k_gotI X (vX11_61 X (S := S) (c_X11_isFrom C.l C.e0 S (nI k) 0 3 ) (As := [.int (nI k), .int 0, .int 3]) (rest := []) rfl rfl rfl rfl ⟨Nat.le_of_ble_eq_true rfl, Nat.le_of_ble_eq_true rfl⟩ (Nat.le_of_ble_eq_true rfl) ⟨Nat.le_of_ble_eq_true rfl, Nat.le_of_ble_eq_true rfl⟩ dX11_ofTribe_3) (fun v_3_2 S_3_3 h_3_0 => ?_)
  obtain ⟨rfl, ev_3_2⟩ := h_3_0
  refine k_if_ne (tgt := 17) X dX11_ofTribe_6 (by decide) (fun c_6 => ?_) (fun c_6 => ?_)
  · skip
    rw [ev_3_2] at c_6
    refine k_iload_n X (q := 2) dX11_ofTribe_17 rfl rfl ?_
    by_cases q_18_0 : (nI w) = 0
    · skip
      rw [q_18_0]
      refine k_tableIn (x := 0) (off := 34) (tgt := 52) X dX11_ofTribe_18 (by decide) (by decide) rfl (by decide) ?_
      have hw9 : w = 0 := nI_inj (by omega) (by omega) (show nI w = nI 0 from q_18_0)
      subst hw9
      refine k_aload_n X (q := 0) dX11_ofTribe_52 rfl rfl ?_
      refine gX11_10s X (S := S) (st_0 h.st).1 (st_0 h.st).2 (sr_0_0 h.st) dX11_ofTribe_53 ?_
      refine k_iconst X (v := 1) dX11_ofTribe_56 (by decide) ?_
      refine k_iconst X (v := 0) dX11_ofTribe_57 (by decide) ?_
      refine k_iload_n X (q := 1) dX11_ofTribe_58 rfl rfl ?_
      refine k_gotI X (vX11_431 X (S := S) ⟨(st_1 h.st).1, (st_1 h.st).2⟩ (c_X2_countOf C.l C.e0 S 1 0 (nI k) A n cz h.st h.hC hn ) (As := [.int 1, .int 0, .int (nI k)]) (rest := []) rfl rfl rfl rfl ⟨Nat.le_of_ble_eq_true rfl, Nat.le_of_ble_eq_true rfl⟩ (Nat.le_of_ble_eq_true rfl) ⟨Nat.le_of_ble_eq_true rfl, Nat.le_of_ble_eq_true rfl⟩ dX11_ofTribe_59) (fun v_59_5 S_59_6 h_59_3 => ?_)
      obtain ⟨rfl, ev_59_5⟩ := h_59_3
      exact k_iret X E dX11_ofTribe_62 (Nat.le_of_ble_eq_true rfl) (Nat.le_of_ble_eq_true rfl) (⟨rfl, by (try subst_vars); rfl⟩)
    · skip
      by_cases q_18_1 : (nI w) = 1
      · skip
        rw [q_18_1]
        refine k_tableIn (x := 1) (off := 45) (tgt := 63) X dX11_ofTribe_18 (by decide) (by decide) rfl (by decide) ?_
        have hw9 : w = 1 := nI_inj (by omega) (by omega) (show nI w = nI 1 from q_18_1)
        subst hw9
        refine k_aload_n X (q := 0) dX11_ofTribe_63 rfl rfl ?_
        refine gX11_44s X (S := S) (st_0 h.st).1 (st_0 h.st).2 (sr_0_4 h.st) dX11_ofTribe_64 ?_
        refine k_iload_n X (q := 1) dX11_ofTribe_67 rfl rfl ?_
        refine k_gotI X (vX11_435 X (S := S) ⟨(st_5 h.st).1, (st_5 h.st).2⟩ (c_X5_toBearIn C.l C.e0 S (nI k) A n cz h.st h.hC hn ) (As := [.int (nI k)]) (rest := []) rfl rfl rfl rfl ⟨Nat.le_of_ble_eq_true rfl, Nat.le_of_ble_eq_true rfl⟩ (Nat.le_of_ble_eq_true rfl) ⟨Nat.le_of_ble_eq_true rfl, Nat.le_of_ble_eq_true rfl⟩ dX11_ofTribe_68) (fun v_68_8 S_68_9 h_68_6 => ?_)
        obtain ⟨rfl, ev_68_8⟩ := h_68_6
        exact k_iret X E dX11_ofTribe_71 (Nat.le_of_ble_eq_true rfl) (Nat.le_of_ble_eq_true rfl) (⟨rfl, by (try subst_vars); rfl⟩)
      · skip
        by_cases q_18_2 : (nI w) = 2
        · skip
          rw [q_18_2]
          refine k_tableIn (x := 2) (off := 54) (tgt := 72) X dX11_ofTribe_18 (by decide) (by decide) rfl (by decide) ?_
          have hw9 : w = 2 := nI_inj (by omega) (by omega) (show nI w = nI 2 from q_18_2)
          subst hw9
          refine k_aload_n X (q := 0) dX11_ofTribe_72 rfl rfl ?_
          refine gX11_44s X (S := S) (st_0 h.st).1 (st_0 h.st).2 (sr_0_4 h.st) dX11_ofTribe_73 ?_
          refine gX11_438s X (S := S) (st_5 h.st).1 (st_5 h.st).2 (sr_5_4 h.st) dX11_ofTribe_76 ?_
          refine k_iload_n X (q := 1) dX11_ofTribe_79 rfl rfl ?_
          refine k_gotI X (vX11_358 X (S := S) (c_X11_valueAt C.l C.e0 S (A 47) (nI k) (st_47 h.st) (sm_47 h.st)) (As := [.ref (A 47), .int (nI k)]) (rest := []) rfl rfl rfl rfl ⟨Nat.le_of_ble_eq_true rfl, Nat.le_of_ble_eq_true rfl⟩ (Nat.le_of_ble_eq_true rfl) ⟨Nat.le_of_ble_eq_true rfl, Nat.le_of_ble_eq_true rfl⟩ dX11_ofTribe_80) (fun v_80_11 S_80_12 h_80_9 => ?_)
          obtain ⟨rfl, ev_80_11⟩ := h_80_9
          exact k_iret X E dX11_ofTribe_83 (Nat.le_of_ble_eq_true rfl) (Nat.le_of_ble_eq_true rfl) (⟨rfl, by (try subst_vars); rfl⟩)
        · skip
          by_cases q_18_3 : (nI w) = 3
          · skip
            rw [q_18_3]
            refine k_tableIn (x := 3) (off := 66) (tgt := 84) X dX11_ofTribe_18 (by decide) (by decide) rfl (by decide) ?_
            have hw9 : w = 3 := nI_inj (by omega) (by omega) (show nI w = nI 3 from q_18_3)
            subst hw9
            refine k_aload_n X (q := 0) dX11_ofTribe_84 rfl rfl ?_
            refine gX11_44s X (S := S) (st_0 h.st).1 (st_0 h.st).2 (sr_0_4 h.st) dX11_ofTribe_85 ?_
            refine gX11_441s X (S := S) (st_5 h.st).1 (st_5 h.st).2 (sr_5_5 h.st) dX11_ofTribe_88 ?_
            refine k_iload_n X (q := 1) dX11_ofTribe_91 rfl rfl ?_
            refine k_gotI X (vX11_358 X (S := S) (c_X11_valueAt C.l C.e0 S (A 48) (nI k) (st_48 h.st) (sm_48 h.st)) (As := [.ref (A 48), .int (nI k)]) (rest := []) rfl rfl rfl rfl ⟨Nat.le_of_ble_eq_true rfl, Nat.le_of_ble_eq_true rfl⟩ (Nat.le_of_ble_eq_true rfl) ⟨Nat.le_of_ble_eq_true rfl, Nat.le_of_ble_eq_true rfl⟩ dX11_ofTribe_92) (fun v_92_14 S_92_15 h_92_12 => ?_)
            obtain ⟨rfl, ev_92_14⟩ := h_92_12
            exact k_iret X E dX11_ofTribe_95 (Nat.le_of_ble_eq_true rfl) (Nat.le_of_ble_eq_true rfl) (⟨rfl, by (try subst_vars); rfl⟩)
          · skip
            by_cases q_18_4 : (nI w) = 4
            · skip
              rw [q_18_4]
              refine k_tableIn (x := 4) (off := 78) (tgt := 96) X dX11_ofTribe_18 (by decide) (by decide) rfl (by decide) ?_
              have hw9 : w = 4 := nI_inj (by omega) (by omega) (show nI w = nI 4 from q_18_4)
              subst hw9
              refine k_aload_n X (q := 0) dX11_ofTribe_96 rfl rfl ?_
              refine gX11_53s X (S := S) (st_0 h.st).1 (st_0 h.st).2 (sr_0_5 h.st) dX11_ofTribe_97 ?_
              refine gX11_444s X (S := S) (st_6 h.st).1 (st_6 h.st).2 (sr_6_5 h.st) dX11_ofTribe_100 ?_
              refine k_iload_n X (q := 1) dX11_ofTribe_103 rfl rfl ?_
              refine k_gotI X (vX11_358 X (S := S) (c_X11_valueAt C.l C.e0 S (A 51) (nI k) (st_51 h.st) (sm_51 h.st)) (As := [.ref (A 51), .int (nI k)]) (rest := []) rfl rfl rfl rfl ⟨Nat.le_of_ble_eq_true rfl, Nat.le_of_ble_eq_true rfl⟩ (Nat.le_of_ble_eq_true rfl) ⟨Nat.le_of_ble_eq_true rfl, Nat.le_of_ble_eq_true rfl⟩ dX11_ofTribe_104) (fun v_104_17 S_104_18 h_104_15 => ?_)
              obtain ⟨rfl, ev_104_17⟩ := h_104_15
              exact k_iret X E dX11_ofTribe_107 (Nat.le_of_ble_eq_true rfl) (Nat.le_of_ble_eq_true rfl) (⟨rfl, by (try subst_vars); rfl⟩)
            · skip
              refine k_tableOut (tgt := 108) X dX11_ofTribe_18 (ktsw (N := 4) (by omega) (fun k hk => by
                rcases (show k = 0 ∨ k = 1 ∨ k = 2 ∨ k = 3 ∨ k = 4 by omega) with rfl | rfl | rfl | rfl | rfl
                · exact q_18_0
                · exact q_18_1
                · exact q_18_2
                · exact q_18_3
                · exact q_18_4)) (by decide) ?_
              rcases (show w = 0 ∨ w = 1 ∨ w = 2 ∨ w = 3 ∨ w = 4 by omega) with rfl | rfl | rfl | rfl | rfl
              · exact absurd rfl q_18_0
              · exact absurd rfl q_18_1
              · exact absurd rfl q_18_2
              · exact absurd rfl q_18_3
              · exact absurd rfl q_18_4
  · skip
    rw [ev_3_2] at c_6
    exact absurd c_6 (kfr_ok2 (m := 3) rfl (by omega) (by omega))
set_option maxHeartbeats 1000000 in
set_option maxRecDepth 20000 in
theorem c_X11_ofDecree (l : Launch) (e0 : Nat × Nat) (S : kS)   (A : Nat → Nat) (n : Nat) (cz : Nat → Nat) (T G Z : Nat) (h : kI e0 A n cz T G Z S) (L : kLL) (hQ : kQL e0 A n cz L S) (k : Nat) (hk : k < L.md) (w : Nat) (hw : w ≤ 4) : kM l e0 yX11_ofDecree cX11_ofDecree 4 (Option.some Jvm.ClassFile.FieldType.int) ({ frames := 6, cells := 0, slots := 0, locals := 131 } : Room) 0 0 [.ref (A 0), .int (nI k), .int (nI w)] S (kQi (fun v S9 => S = S9 ∧ v = kQdecree S A L k w)) := by
  refine kMetE (by decide +kernel) (Nat.le_of_ble_eq_true rfl) (fun C he hl X E hm => ?_)
  have X : kX C RX11 cX11_ofDecree 4 ({ frames := 6, cells := 0, slots := 0, locals := 131 } : Room) := X
  subst he hl
  show kG C 4 S 0 0 0 [(0, .ref (A 0)), (1, .int (nI k)), (2, .int (nI w))] []
  have hn := h.n40
  have hq1 := hQ.1.2.1
  have hq2 := hQ.2.1.2.1
  have hq3 := hQ.2.2.1.2.1
  have hq4 := hQ.2.2.2.1.2.1
  have hq5 := hQ.2.2.2.2.2.1
  refine k_iload_n X (q := 1) dX11_ofDecree_0 rfl rfl ?_
  refine k_iconst X (v := 0) dX11_ofDecree_1 (by decide) ?_
  refine k_aload_n X (q := 0) dX11_ofDecree_2 rfl rfl ?_
  refine gX11_37s X (S := S) (st_0 h.st).1 (st_0 h.st).2 (sr_0_3 h.st) dX11_ofDecree_3 ?_
  refine gX11_222s X (S := S) (st_4 h.st).1 (st_4 h.st).2 (sr_4_3 h.st) dX11_ofDecree_6 ?_
  refine k_gotI X (vX11_76 X (S := S) ⟨(st_19 h.st).1, (st_19 h.st).2⟩ (c_Jx4a65c_size_8abf5 C.l C.e0 S (A 19) (st_19 h.st)) (As := []) (rest := [.int 0, .int (nI k)]) rfl rfl rfl rfl ⟨Nat.le_of_ble_eq_true rfl, Nat.le_of_ble_eq_true rfl⟩ (Nat.le_of_ble_eq_true rfl) ⟨Nat.le_of_ble_eq_true rfl, Nat.le_of_ble_eq_true rfl⟩ dX11_ofDecree_9) (fun v_9_2 S_9_3 h_9_0 => ?_)
  obtain ⟨rfl, ev_9_2⟩ := h_9_0
  have hz_v_9_2 : nI L.md = v_9_2 := by rw [ev_9_2]; exact (hQ.2.1.1).2.1.symm
  subst hz_v_9_2
  refine k_iconst X (v := 1) dX11_ofDecree_12 (by decide) ?_
  refine k_isub X dX11_ofDecree_13 (fun v_13_4 ev_13_4 => ?_)
  refine k_gotI X (vX11_61 X (S := S) (c_X11_isFrom C.l C.e0 S (nI k) 0 v_13_4 ) (As := [.int (nI k), .int 0, .int v_13_4]) (rest := []) rfl rfl rfl rfl ⟨Nat.le_of_ble_eq_true rfl, Nat.le_of_ble_eq_true rfl⟩ (Nat.le_of_ble_eq_true rfl) ⟨Nat.le_of_ble_eq_true rfl, Nat.le_of_ble_eq_true rfl⟩ dX11_ofDecree_14) (fun v_14_6 S_14_7 h_14_4 => ?_)
  obtain ⟨rfl, ev_14_6⟩ := h_14_4
  refine k_if_ne (tgt := 28) X dX11_ofDecree_17 (by decide) (fun c_17 => ?_) (fun c_17 => ?_)
  · skip
    rw [ev_14_6] at c_17
    refine k_aload_n X (q := 0) dX11_ofDecree_28 rfl rfl ?_
    refine gX11_37s X (S := S) (st_0 h.st).1 (st_0 h.st).2 (sr_0_3 h.st) dX11_ofDecree_29 ?_
    refine gX11_222s X (S := S) (st_4 h.st).1 (st_4 h.st).2 (sr_4_3 h.st) dX11_ofDecree_32 ?_
    refine k_iload_n X (q := 1) dX11_ofDecree_35 rfl rfl ?_
    refine k_gotQ X (vX11_202 X (S := S) ⟨(st_19 h.st).1, (st_19 h.st).2⟩ (c_Jx4a65c_get_915e3 C.l C.e0 S (A 19) 7 L.md k L.xd (hQ.2.1.1) hk) (As := [.int (nI k)]) (rest := []) rfl rfl rfl rfl ⟨Nat.le_of_ble_eq_true rfl, Nat.le_of_ble_eq_true rfl⟩ (Nat.le_of_ble_eq_true rfl) ⟨Nat.le_of_ble_eq_true rfl, Nat.le_of_ble_eq_true rfl⟩ dX11_ofDecree_36) (fun r_36_9 S_36_10 h_36_7 => ?_)
    obtain ⟨rfl, er_36_9⟩ := h_36_7
    subst er_36_9
    refine tX11_184 X (S := S) ⟨(kLs.el (hQ.2.1.1) hk).1, (kLs.el (hQ.2.1.1) hk).2⟩ dX11_ofDecree_39 ?_
    refine k_astore_n X [(3, .ref (L.xd k)), (0, .ref (A 0)), (1, .int (nI k)), (2, .int (nI w))] dX11_ofDecree_42 rfl (by decide) rfl ?_
    have hmo := hQ.2.1.2.2 k hk
    obtain ⟨j, hj, hjm⟩ := hmo.2.2.1
    refine k_iload_n X (q := 3) dX11_ofDecree_43 rfl rfl ?_
    by_cases q_44_0 : (nI w) = 0
    · skip
      rw [q_44_0]
      refine k_tableIn (x := 0) (off := 36) (tgt := 80) X dX11_ofDecree_44 (by decide) (by decide) rfl (by decide) ?_
      have hw9 : w = 0 := nI_inj (by omega) (by omega) (show nI w = nI 0 from q_44_0)
      subst hw9
      refine k_aload_n X (q := 0) dX11_ofDecree_80 rfl rfl ?_
      refine gX11_225s X (S := S) hmo.1.1 hmo.1.2 hjm dX11_ofDecree_81 ?_
      refine gX11_228 X (S := S) (h.at hj).1 (h.at hj).2 dX11_ofDecree_84 (fun v_84_11 ev_84_11 => ?_)
      exact k_iret X E dX11_ofDecree_87 (Nat.le_of_ble_eq_true rfl) (Nat.le_of_ble_eq_true rfl) (⟨rfl, by show _ = knum S (S.R (L.xd k) 0); rw [hjm]; exact ev_84_11⟩)
    · skip
      by_cases q_44_1 : (nI w) = 1
      · skip
        rw [q_44_1]
        refine k_tableIn (x := 1) (off := 44) (tgt := 88) X dX11_ofDecree_44 (by decide) (by decide) rfl (by decide) ?_
        have hw9 : w = 1 := nI_inj (by omega) (by omega) (show nI w = nI 1 from q_44_1)
        subst hw9
        refine k_aload_n X (q := 0) dX11_ofDecree_88 rfl rfl ?_
        refine gX11_231 X (S := S) hmo.1.1 hmo.1.2 dX11_ofDecree_89 (fun v_89_12 ev_89_12 => ?_)
        exact k_iret X E dX11_ofDecree_92 (Nat.le_of_ble_eq_true rfl) (Nat.le_of_ble_eq_true rfl) (⟨rfl, by (try subst_vars); rfl⟩)
      · skip
        by_cases q_44_2 : (nI w) = 2
        · skip
          rw [q_44_2]
          refine k_tableIn (x := 2) (off := 49) (tgt := 93) X dX11_ofDecree_44 (by decide) (by decide) rfl (by decide) ?_
          have hw9 : w = 2 := nI_inj (by omega) (by omega) (show nI w = nI 2 from q_44_2)
          subst hw9
          refine k_aload_n X (q := 0) dX11_ofDecree_93 rfl rfl ?_
          refine gX11_206 X (S := S) hmo.1.1 hmo.1.2 dX11_ofDecree_94 (fun v_94_13 ev_94_13 => ?_)
          exact k_iret X E dX11_ofDecree_97 (Nat.le_of_ble_eq_true rfl) (Nat.le_of_ble_eq_true rfl) (⟨rfl, by (try subst_vars); rfl⟩)
        · skip
          by_cases q_44_3 : (nI w) = 3
          · skip
            rw [q_44_3]
            refine k_tableIn (x := 3) (off := 54) (tgt := 98) X dX11_ofDecree_44 (by decide) (by decide) rfl (by decide) ?_
            have hw9 : w = 3 := nI_inj (by omega) (by omega) (show nI w = nI 3 from q_44_3)
            subst hw9
            refine k_aload_n X (q := 0) dX11_ofDecree_98 rfl rfl ?_
            refine gX11_234 X (S := S) hmo.1.1 hmo.1.2 dX11_ofDecree_99 (fun v_99_14 ev_99_14 => ?_)
            exact k_iret X E dX11_ofDecree_102 (Nat.le_of_ble_eq_true rfl) (Nat.le_of_ble_eq_true rfl) (⟨rfl, by (try subst_vars); rfl⟩)
          · skip
            by_cases q_44_4 : (nI w) = 4
            · skip
              rw [q_44_4]
              refine k_tableIn (x := 4) (off := 59) (tgt := 103) X dX11_ofDecree_44 (by decide) (by decide) rfl (by decide) ?_
              have hw9 : w = 4 := nI_inj (by omega) (by omega) (show nI w = nI 4 from q_44_4)
              subst hw9
              refine k_aload_n X (q := 1) dX11_ofDecree_103 rfl rfl ?_
              refine gX11_37s X (S := S) (st_0 h.st).1 (st_0 h.st).2 (sr_0_3 h.st) dX11_ofDecree_104 ?_
              refine k_iload_n X (q := 2) dX11_ofDecree_107 rfl rfl ?_
              refine k_gotI X (vX11_235 X (S := S) ⟨(st_4 h.st).1, (st_4 h.st).2⟩ (c_X0_isHolding C.l C.e0 S  A h.st L.ms L.xs (hQ.2.2.1.1) (by omega) L.md L.xd (hQ.2.1.1) (by omega) k hk) (As := [.int (nI k)]) (rest := []) rfl rfl rfl rfl ⟨Nat.le_of_ble_eq_true rfl, Nat.le_of_ble_eq_true rfl⟩ (Nat.le_of_ble_eq_true rfl) ⟨Nat.le_of_ble_eq_true rfl, Nat.le_of_ble_eq_true rfl⟩ dX11_ofDecree_108) (fun v_108_16 S_108_17 h_108_14 => ?_)
              obtain ⟨rfl, ev_108_16⟩ := h_108_14
              refine k_gotI X (vX11_154 X (S := S) (c_X11_asNumber C.l C.e0 S v_108_16 ) (As := [.int v_108_16]) (rest := []) rfl rfl rfl rfl ⟨Nat.le_of_ble_eq_true rfl, Nat.le_of_ble_eq_true rfl⟩ (Nat.le_of_ble_eq_true rfl) ⟨Nat.le_of_ble_eq_true rfl, Nat.le_of_ble_eq_true rfl⟩ dX11_ofDecree_111) (fun v_111_19 S_111_20 h_111_17 => ?_)
              obtain ⟨rfl, ev_111_19⟩ := h_111_17
              exact k_iret X E dX11_ofDecree_114 (Nat.le_of_ble_eq_true rfl) (Nat.le_of_ble_eq_true rfl) (⟨rfl, by (try subst_vars); rfl⟩)
            · skip
              refine k_tableOut (tgt := 115) X dX11_ofDecree_44 (ktsw (N := 4) (by omega) (fun k hk => by
                rcases (show k = 0 ∨ k = 1 ∨ k = 2 ∨ k = 3 ∨ k = 4 by omega) with rfl | rfl | rfl | rfl | rfl
                · exact q_44_0
                · exact q_44_1
                · exact q_44_2
                · exact q_44_3
                · exact q_44_4)) (by decide) ?_
              rcases (show w = 0 ∨ w = 1 ∨ w = 2 ∨ w = 3 ∨ w = 4 by omega) with rfl | rfl | rfl | rfl | rfl
              · exact absurd rfl q_44_0
              · exact absurd rfl q_44_1
              · exact absurd rfl q_44_2
              · exact absurd rfl q_44_3
              · exact absurd rfl q_44_4
  · skip
    rw [ev_14_6] at c_17
    exact absurd c_17 (kfr_ok ev_13_4 rfl hk (by omega))
set_option maxHeartbeats 1000000 in
set_option maxRecDepth 20000 in
theorem c_X11_ofSuit (l : Launch) (e0 : Nat × Nat) (S : kS)   (A : Nat → Nat) (n : Nat) (cz : Nat → Nat) (T G Z : Nat) (h : kI e0 A n cz T G Z S) (L : kLL) (hQ : kQL e0 A n cz L S) (k : Nat) (hk : k < L.ms) (w : Nat) (hw : w ≤ 6) : kM l e0 yX11_ofSuit cX11_ofSuit 4 (Option.some Jvm.ClassFile.FieldType.int) ({ frames := 3, cells := 0, slots := 0, locals := 64 } : Room) 0 0 [.ref (A 0), .int (nI k), .int (nI w)] S (kQi (fun v S9 => S = S9 ∧ v = kQsuit S L k w)) := by
  refine kMetE (by decide +kernel) (Nat.le_of_ble_eq_true rfl) (fun C he hl X E hm => ?_)
  have X : kX C RX11 cX11_ofSuit 4 ({ frames := 3, cells := 0, slots := 0, locals := 64 } : Room) := X
  subst he hl
  show kG C 4 S 0 0 0 [(0, .ref (A 0)), (1, .int (nI k)), (2, .int (nI w))] []
  have hn := h.n40
  have hq1 := hQ.1.2.1
  have hq2 := hQ.2.1.2.1
  have hq3 := hQ.2.2.1.2.1
  have hq4 := hQ.2.2.2.1.2.1
  have hq5 := hQ.2.2.2.2.2.1
  refine k_iload_n X (q := 1) dX11_ofSuit_0 rfl rfl ?_
  refine k_iconst X (v := 0) dX11_ofSuit_1 (by decide) ?_
  refine k_aload_n X (q := 0) dX11_ofSuit_2 rfl rfl ?_
  refine gX11_28s X (S := S) (st_0 h.st).1 (st_0 h.st).2 (sr_0_2 h.st) dX11_ofSuit_3 ?_
  refine gX11_279s X (S := S) (st_3 h.st).1 (st_3 h.st).2 (sr_3_1 h.st) dX11_ofSuit_6 ?_
  refine k_gotI X (vX11_76 X (S := S) ⟨(st_15 h.st).1, (st_15 h.st).2⟩ (c_Jx4a65c_size_8abf5 C.l C.e0 S (A 15) (st_15 h.st)) (As := []) (rest := [.int 0, .int (nI k)]) rfl rfl rfl rfl ⟨Nat.le_of_ble_eq_true rfl, Nat.le_of_ble_eq_true rfl⟩ (Nat.le_of_ble_eq_true rfl) ⟨Nat.le_of_ble_eq_true rfl, Nat.le_of_ble_eq_true rfl⟩ dX11_ofSuit_9) (fun v_9_2 S_9_3 h_9_0 => ?_)
  obtain ⟨rfl, ev_9_2⟩ := h_9_0
  have hz_v_9_2 : nI L.ms = v_9_2 := by rw [ev_9_2]; exact (hQ.2.2.1.1).2.1.symm
  subst hz_v_9_2
  refine k_iconst X (v := 1) dX11_ofSuit_12 (by decide) ?_
  refine k_isub X dX11_ofSuit_13 (fun v_13_4 ev_13_4 => ?_)
  refine k_gotI X (vX11_61 X (S := S) (c_X11_isFrom C.l C.e0 S (nI k) 0 v_13_4 ) (As := [.int (nI k), .int 0, .int v_13_4]) (rest := []) rfl rfl rfl rfl ⟨Nat.le_of_ble_eq_true rfl, Nat.le_of_ble_eq_true rfl⟩ (Nat.le_of_ble_eq_true rfl) ⟨Nat.le_of_ble_eq_true rfl, Nat.le_of_ble_eq_true rfl⟩ dX11_ofSuit_14) (fun v_14_6 S_14_7 h_14_4 => ?_)
  obtain ⟨rfl, ev_14_6⟩ := h_14_4
  refine k_if_ne (tgt := 28) X dX11_ofSuit_17 (by decide) (fun c_17 => ?_) (fun c_17 => ?_)
  · skip
    rw [ev_14_6] at c_17
    refine k_aload_n X (q := 0) dX11_ofSuit_28 rfl rfl ?_
    refine gX11_28s X (S := S) (st_0 h.st).1 (st_0 h.st).2 (sr_0_2 h.st) dX11_ofSuit_29 ?_
    refine gX11_279s X (S := S) (st_3 h.st).1 (st_3 h.st).2 (sr_3_1 h.st) dX11_ofSuit_32 ?_
    refine k_iload_n X (q := 1) dX11_ofSuit_35 rfl rfl ?_
    refine k_gotQ X (vX11_202 X (S := S) ⟨(st_15 h.st).1, (st_15 h.st).2⟩ (c_Jx4a65c_get_915e3 C.l C.e0 S (A 15) 10 L.ms k L.xs (hQ.2.2.1.1) hk) (As := [.int (nI k)]) (rest := []) rfl rfl rfl rfl ⟨Nat.le_of_ble_eq_true rfl, Nat.le_of_ble_eq_true rfl⟩ (Nat.le_of_ble_eq_true rfl) ⟨Nat.le_of_ble_eq_true rfl, Nat.le_of_ble_eq_true rfl⟩ dX11_ofSuit_36) (fun r_36_9 S_36_10 h_36_7 => ?_)
    obtain ⟨rfl, er_36_9⟩ := h_36_7
    subst er_36_9
    refine tX11_273 X (S := S) ⟨(kLs.el (hQ.2.2.1.1) hk).1, (kLs.el (hQ.2.2.1.1) hk).2⟩ dX11_ofSuit_39 ?_
    refine k_astore_n X [(3, .ref (L.xs k)), (0, .ref (A 0)), (1, .int (nI k)), (2, .int (nI w))] dX11_ofSuit_42 rfl (by decide) rfl ?_
    obtain ⟨i, j, t, hsv, hi, hj, hij9⟩ := (hQ.2.2.1.2.2 k hk).sv
    refine k_iload_n X (q := 3) dX11_ofSuit_43 rfl rfl ?_
    by_cases q_44_0 : (nI w) = 0
    · skip
      rw [q_44_0]
      refine k_tableIn (x := 0) (off := 44) (tgt := 88) X dX11_ofSuit_44 (by decide) (by decide) rfl (by decide) ?_
      have hw9 : w = 0 := nI_inj (by omega) (by omega) (show nI w = nI 0 from q_44_0)
      subst hw9
      refine k_aload_n X (q := 0) dX11_ofSuit_88 rfl rfl ?_
      refine gX11_314s X (S := S) hsv.1.1 hsv.1.2 hsv.2.2.1 dX11_ofSuit_89 ?_
      refine gX11_228 X (S := S) (h.at hi).1 (h.at hi).2 dX11_ofSuit_92 (fun v_92_11 ev_92_11 => ?_)
      exact k_iret X E dX11_ofSuit_95 (Nat.le_of_ble_eq_true rfl) (Nat.le_of_ble_eq_true rfl) (⟨rfl, by show _ = knum S (S.R (L.xs k) 0); rw [hsv.2.2.1]; exact ev_92_11⟩)
    · skip
      by_cases q_44_1 : (nI w) = 1
      · skip
        rw [q_44_1]
        refine k_tableIn (x := 1) (off := 52) (tgt := 96) X dX11_ofSuit_44 (by decide) (by decide) rfl (by decide) ?_
        have hw9 : w = 1 := nI_inj (by omega) (by omega) (show nI w = nI 1 from q_44_1)
        subst hw9
        refine k_aload_n X (q := 0) dX11_ofSuit_96 rfl rfl ?_
        refine gX11_317s X (S := S) hsv.1.1 hsv.1.2 hsv.2.2.2.1 dX11_ofSuit_97 ?_
        refine gX11_228 X (S := S) (h.at hj).1 (h.at hj).2 dX11_ofSuit_100 (fun v_100_12 ev_100_12 => ?_)
        exact k_iret X E dX11_ofSuit_103 (Nat.le_of_ble_eq_true rfl) (Nat.le_of_ble_eq_true rfl) (⟨rfl, by show _ = knum S (S.R (L.xs k) 1); rw [hsv.2.2.2.1]; exact ev_100_12⟩)
      · skip
        by_cases q_44_2 : (nI w) = 2
        · skip
          rw [q_44_2]
          refine k_tableIn (x := 2) (off := 60) (tgt := 104) X dX11_ofSuit_44 (by decide) (by decide) rfl (by decide) ?_
          have hw9 : w = 2 := nI_inj (by omega) (by omega) (show nI w = nI 2 from q_44_2)
          subst hw9
          refine k_aload_n X (q := 0) dX11_ofSuit_104 rfl rfl ?_
          refine gX11_320 X (S := S) hsv.1.1 hsv.1.2 dX11_ofSuit_105 (fun v_105_13 ev_105_13 => ?_)
          exact k_iret X E dX11_ofSuit_108 (Nat.le_of_ble_eq_true rfl) (Nat.le_of_ble_eq_true rfl) (⟨rfl, by (try subst_vars); rfl⟩)
        · skip
          by_cases q_44_3 : (nI w) = 3
          · skip
            rw [q_44_3]
            refine k_tableIn (x := 3) (off := 65) (tgt := 109) X dX11_ofSuit_44 (by decide) (by decide) rfl (by decide) ?_
            have hw9 : w = 3 := nI_inj (by omega) (by omega) (show nI w = nI 3 from q_44_3)
            subst hw9
            refine k_aload_n X (q := 0) dX11_ofSuit_109 rfl rfl ?_
            refine gX11_323 X (S := S) hsv.1.1 hsv.1.2 dX11_ofSuit_110 (fun v_110_14 ev_110_14 => ?_)
            exact k_iret X E dX11_ofSuit_113 (Nat.le_of_ble_eq_true rfl) (Nat.le_of_ble_eq_true rfl) (⟨rfl, by (try subst_vars); rfl⟩)
          · skip
            by_cases q_44_4 : (nI w) = 4
            · skip
              rw [q_44_4]
              refine k_tableIn (x := 4) (off := 70) (tgt := 114) X dX11_ofSuit_44 (by decide) (by decide) rfl (by decide) ?_
              have hw9 : w = 4 := nI_inj (by omega) (by omega) (show nI w = nI 4 from q_44_4)
              subst hw9
              refine k_aload_n X (q := 0) dX11_ofSuit_114 rfl rfl ?_
              refine gX11_326 X (S := S) hsv.1.1 hsv.1.2 dX11_ofSuit_115 (fun v_115_15 ev_115_15 => ?_)
              exact k_iret X E dX11_ofSuit_118 (Nat.le_of_ble_eq_true rfl) (Nat.le_of_ble_eq_true rfl) (⟨rfl, by (try subst_vars); rfl⟩)
            · skip
              by_cases q_44_5 : (nI w) = 5
              · skip
                rw [q_44_5]
                refine k_tableIn (x := 5) (off := 75) (tgt := 119) X dX11_ofSuit_44 (by decide) (by decide) rfl (by decide) ?_
                have hw9 : w = 5 := nI_inj (by omega) (by omega) (show nI w = nI 5 from q_44_5)
                subst hw9
                refine k_aload_n X (q := 0) dX11_ofSuit_119 rfl rfl ?_
                refine k_gotI X (vX11_329 X (S := S) ⟨hsv.1.1, hsv.1.2⟩ (c_X10_water C.l C.e0 S (L.xs k)  ⟨hsv.1.1, hsv.1.2⟩) (As := []) (rest := []) rfl rfl rfl rfl ⟨Nat.le_of_ble_eq_true rfl, Nat.le_of_ble_eq_true rfl⟩ (Nat.le_of_ble_eq_true rfl) ⟨Nat.le_of_ble_eq_true rfl, Nat.le_of_ble_eq_true rfl⟩ dX11_ofSuit_120) (fun v_120_17 S_120_18 h_120_15 => ?_)
                obtain ⟨rfl, ev_120_17⟩ := h_120_15
                exact k_iret X E dX11_ofSuit_123 (Nat.le_of_ble_eq_true rfl) (Nat.le_of_ble_eq_true rfl) (⟨rfl, by (try subst_vars); rfl⟩)
              · skip
                by_cases q_44_6 : (nI w) = 6
                · skip
                  rw [q_44_6]
                  refine k_tableIn (x := 6) (off := 80) (tgt := 124) X dX11_ofSuit_44 (by decide) (by decide) rfl (by decide) ?_
                  have hw9 : w = 6 := nI_inj (by omega) (by omega) (show nI w = nI 6 from q_44_6)
                  subst hw9
                  refine k_aload_n X (q := 0) dX11_ofSuit_124 rfl rfl ?_
                  refine gX11_332 X (S := S) hsv.1.1 hsv.1.2 dX11_ofSuit_125 (fun v_125_19 ev_125_19 => ?_)
                  refine k_gotI X (vX11_154 X (S := S) (c_X11_asNumber C.l C.e0 S v_125_19 ) (As := [.int v_125_19]) (rest := []) rfl rfl rfl rfl ⟨Nat.le_of_ble_eq_true rfl, Nat.le_of_ble_eq_true rfl⟩ (Nat.le_of_ble_eq_true rfl) ⟨Nat.le_of_ble_eq_true rfl, Nat.le_of_ble_eq_true rfl⟩ dX11_ofSuit_128) (fun v_128_21 S_128_22 h_128_19 => ?_)
                  obtain ⟨rfl, ev_128_21⟩ := h_128_19
                  exact k_iret X E dX11_ofSuit_131 (Nat.le_of_ble_eq_true rfl) (Nat.le_of_ble_eq_true rfl) (⟨rfl, by (try subst_vars); rfl⟩)
                · skip
                  refine k_tableOut (tgt := 132) X dX11_ofSuit_44 (ktsw (N := 6) (by omega) (fun k hk => by
                    rcases (show k = 0 ∨ k = 1 ∨ k = 2 ∨ k = 3 ∨ k = 4 ∨ k = 5 ∨ k = 6 by omega) with rfl | rfl | rfl | rfl | rfl | rfl | rfl
                    · exact q_44_0
                    · exact q_44_1
                    · exact q_44_2
                    · exact q_44_3
                    · exact q_44_4
                    · exact q_44_5
                    · exact q_44_6)) (by decide) ?_
                  rcases (show w = 0 ∨ w = 1 ∨ w = 2 ∨ w = 3 ∨ w = 4 ∨ w = 5 ∨ w = 6 by omega) with rfl | rfl | rfl | rfl | rfl | rfl | rfl
                  · exact absurd rfl q_44_0
                  · exact absurd rfl q_44_1
                  · exact absurd rfl q_44_2
                  · exact absurd rfl q_44_3
                  · exact absurd rfl q_44_4
                  · exact absurd rfl q_44_5
                  · exact absurd rfl q_44_6
  · skip
    rw [ev_14_6] at c_17
    exact absurd c_17 (kfr_ok ev_13_4 rfl hk (by omega))
set_option maxHeartbeats 1000000 in
set_option maxRecDepth 20000 in
theorem c_X11_ofCitizen (l : Launch) (e0 : Nat × Nat) (S : kS)   (A : Nat → Nat) (n : Nat) (cz : Nat → Nat) (T G Z : Nat) (h : kI e0 A n cz T G Z S) (L : kLL) (hQ : kQL e0 A n cz L S) (k : Nat) (hk : k < n) (w : Nat) (hw : w ≤ 12) : kM l e0 yX11_ofCitizen cX11_ofCitizen 4 (Option.some Jvm.ClassFile.FieldType.int) ({ frames := 4, cells := 0, slots := 0, locals := 86 } : Room) 0 0 [.ref (A 0), .int (nI k), .int (nI w)] S (kQi (fun v S9 => S = S9 ∧ v = kQcit S A (cz k) w)) := by
  refine kMetE (by decide +kernel) (Nat.le_of_ble_eq_true rfl) (fun C he hl X E hm => ?_)
  have X : kX C RX11 cX11_ofCitizen 4 ({ frames := 4, cells := 0, slots := 0, locals := 86 } : Room) := X
  subst he hl
  show kG C 4 S 0 0 0 [(0, .ref (A 0)), (1, .int (nI k)), (2, .int (nI w))] []
  have hn := h.n40
  have hq1 := hQ.1.2.1
  have hq2 := hQ.2.1.2.1
  have hq3 := hQ.2.2.1.2.1
  have hq4 := hQ.2.2.2.1.2.1
  have hq5 := hQ.2.2.2.2.2.1
  refine k_aload_n X (q := 0) dX11_ofCitizen_0 rfl rfl ?_
  refine gX11_10s X (S := S) (st_0 h.st).1 (st_0 h.st).2 (sr_0_0 h.st) dX11_ofCitizen_1 ?_
  refine k_iload_n X (q := 1) dX11_ofCitizen_4 rfl rfl ?_
  refine k_gotQ X (vX11_102 X (S := S) ⟨(st_1 h.st).1, (st_1 h.st).2⟩ (c_X2_numbered C.l C.e0 S (nI k) A n cz h.st h.hC hn (by have := h.who.1; omega)) (As := [.int (nI k)]) (rest := []) rfl rfl rfl rfl ⟨Nat.le_of_ble_eq_true rfl, Nat.le_of_ble_eq_true rfl⟩ (Nat.le_of_ble_eq_true rfl) ⟨Nat.le_of_ble_eq_true rfl, Nat.le_of_ble_eq_true rfl⟩ dX11_ofCitizen_5) (fun r_5_2 S_5_3 h_5_0 => ?_)
  obtain ⟨rfl, hnj_5, hnq_5⟩ := h_5_0
  refine k_astore_nQ X [(3, va_rf r_5_2), (0, .ref (A 0)), (1, .int (nI k)), (2, .int (nI w))] dX11_ofCitizen_8 rfl (by decide) rfl ?_
  refine k_aload_nQ X (q := 0) dX11_ofCitizen_9 rfl rfl ?_
  refine k_ifnonnull (tgt := 21) X dX11_ofCitizen_10 (by decide) (fun a_10_4 c_10 => ?_) (fun c_10 => ?_)
  · skip
    subst c_10
    have hx9 := Option.some.inj (hnj_5 k hk rfl)
    subst hx9
    refine k_iload_n X (q := 3) dX11_ofCitizen_21 rfl rfl ?_
    by_cases q_22_0 : (nI w) = 0
    · skip
      rw [q_22_0]
      refine k_tableIn (x := 0) (off := 66) (tgt := 88) X dX11_ofCitizen_22 (by decide) (by decide) rfl (by decide) ?_
      have hw9 : w = 0 := nI_inj (by omega) (by omega) (show nI w = nI 0 from q_22_0)
      subst hw9
      refine k_aload_n X (q := 0) dX11_ofCitizen_88 rfl rfl ?_
      refine gX11_121 X (S := S) (h.at hk).1 (h.at hk).2 dX11_ofCitizen_89 (fun v_89_5 ev_89_5 => ?_)
      exact k_iret X E dX11_ofCitizen_92 (Nat.le_of_ble_eq_true rfl) (Nat.le_of_ble_eq_true rfl) (⟨rfl, by (try subst_vars); rfl⟩)
    · skip
      by_cases q_22_1 : (nI w) = 1
      · skip
        rw [q_22_1]
        refine k_tableIn (x := 1) (off := 71) (tgt := 93) X dX11_ofCitizen_22 (by decide) (by decide) rfl (by decide) ?_
        have hw9 : w = 1 := nI_inj (by omega) (by omega) (show nI w = nI 1 from q_22_1)
        subst hw9
        refine k_aload_n X (q := 0) dX11_ofCitizen_93 rfl rfl ?_
        refine k_gotI X (vX11_124 X (S := S) ⟨(h.at hk).1, (h.at hk).2⟩ (c_X1_tribe C.l C.e0 S (cz k) (h.at hk)) (As := []) (rest := []) rfl rfl rfl rfl ⟨Nat.le_of_ble_eq_true rfl, Nat.le_of_ble_eq_true rfl⟩ (Nat.le_of_ble_eq_true rfl) ⟨Nat.le_of_ble_eq_true rfl, Nat.le_of_ble_eq_true rfl⟩ dX11_ofCitizen_94) (fun v_94_7 S_94_8 h_94_5 => ?_)
        obtain ⟨rfl, ev_94_7⟩ := h_94_5
        exact k_iret X E dX11_ofCitizen_97 (Nat.le_of_ble_eq_true rfl) (Nat.le_of_ble_eq_true rfl) (⟨rfl, by (try subst_vars); rfl⟩)
      · skip
        by_cases q_22_2 : (nI w) = 2
        · skip
          rw [q_22_2]
          refine k_tableIn (x := 2) (off := 76) (tgt := 98) X dX11_ofCitizen_22 (by decide) (by decide) rfl (by decide) ?_
          have hw9 : w = 2 := nI_inj (by omega) (by omega) (show nI w = nI 2 from q_22_2)
          subst hw9
          refine k_aload_n X (q := 0) dX11_ofCitizen_98 rfl rfl ?_
          refine gX11_127 X (S := S) (h.at hk).1 (h.at hk).2 dX11_ofCitizen_99 (fun v_99_9 ev_99_9 => ?_)
          exact k_iret X E dX11_ofCitizen_102 (Nat.le_of_ble_eq_true rfl) (Nat.le_of_ble_eq_true rfl) (⟨rfl, by (try subst_vars); rfl⟩)
        · skip
          by_cases q_22_3 : (nI w) = 3
          · skip
            rw [q_22_3]
            refine k_tableIn (x := 3) (off := 81) (tgt := 103) X dX11_ofCitizen_22 (by decide) (by decide) rfl (by decide) ?_
            have hw9 : w = 3 := nI_inj (by omega) (by omega) (show nI w = nI 3 from q_22_3)
            subst hw9
            refine k_aload_n X (q := 0) dX11_ofCitizen_103 rfl rfl ?_
            refine gX11_130 X (S := S) (h.at hk).1 (h.at hk).2 dX11_ofCitizen_104 (fun v_104_10 ev_104_10 => ?_)
            exact k_iret X E dX11_ofCitizen_107 (Nat.le_of_ble_eq_true rfl) (Nat.le_of_ble_eq_true rfl) (⟨rfl, by (try subst_vars); rfl⟩)
          · skip
            by_cases q_22_4 : (nI w) = 4
            · skip
              rw [q_22_4]
              refine k_tableIn (x := 4) (off := 86) (tgt := 108) X dX11_ofCitizen_22 (by decide) (by decide) rfl (by decide) ?_
              have hw9 : w = 4 := nI_inj (by omega) (by omega) (show nI w = nI 4 from q_22_4)
              subst hw9
              refine k_aload_n X (q := 0) dX11_ofCitizen_108 rfl rfl ?_
              refine gX11_133 X (S := S) (h.at hk).1 (h.at hk).2 dX11_ofCitizen_109 (fun v_109_11 ev_109_11 => ?_)
              exact k_iret X E dX11_ofCitizen_112 (Nat.le_of_ble_eq_true rfl) (Nat.le_of_ble_eq_true rfl) (⟨rfl, by (try subst_vars); rfl⟩)
            · skip
              by_cases q_22_5 : (nI w) = 5
              · skip
                rw [q_22_5]
                refine k_tableIn (x := 5) (off := 91) (tgt := 113) X dX11_ofCitizen_22 (by decide) (by decide) rfl (by decide) ?_
                have hw9 : w = 5 := nI_inj (by omega) (by omega) (show nI w = nI 5 from q_22_5)
                subst hw9
                refine k_aload_n X (q := 0) dX11_ofCitizen_113 rfl rfl ?_
                refine k_gotI X (vX11_136 X (S := S) ⟨(h.at hk).1, (h.at hk).2⟩ (c_X1_wealthClass C.l C.e0 S (cz k) (h.at hk)) (As := []) (rest := []) rfl rfl rfl rfl ⟨Nat.le_of_ble_eq_true rfl, Nat.le_of_ble_eq_true rfl⟩ (Nat.le_of_ble_eq_true rfl) ⟨Nat.le_of_ble_eq_true rfl, Nat.le_of_ble_eq_true rfl⟩ dX11_ofCitizen_114) (fun v_114_13 S_114_14 h_114_11 => ?_)
                obtain ⟨rfl, ev_114_13⟩ := h_114_11
                exact k_iret X E dX11_ofCitizen_117 (Nat.le_of_ble_eq_true rfl) (Nat.le_of_ble_eq_true rfl) (⟨rfl, by (try subst_vars); rfl⟩)
              · skip
                by_cases q_22_6 : (nI w) = 6
                · skip
                  rw [q_22_6]
                  refine k_tableIn (x := 6) (off := 96) (tgt := 118) X dX11_ofCitizen_22 (by decide) (by decide) rfl (by decide) ?_
                  have hw9 : w = 6 := nI_inj (by omega) (by omega) (show nI w = nI 6 from q_22_6)
                  subst hw9
                  refine k_aload_n X (q := 0) dX11_ofCitizen_118 rfl rfl ?_
                  refine gX11_106 X (S := S) (h.at hk).1 (h.at hk).2 dX11_ofCitizen_119 (fun v_119_15 ev_119_15 => ?_)
                  exact k_iret X E dX11_ofCitizen_122 (Nat.le_of_ble_eq_true rfl) (Nat.le_of_ble_eq_true rfl) (⟨rfl, by (try subst_vars); rfl⟩)
                · skip
                  by_cases q_22_7 : (nI w) = 7
                  · skip
                    rw [q_22_7]
                    refine k_tableIn (x := 7) (off := 101) (tgt := 123) X dX11_ofCitizen_22 (by decide) (by decide) rfl (by decide) ?_
                    have hw9 : w = 7 := nI_inj (by omega) (by omega) (show nI w = nI 7 from q_22_7)
                    subst hw9
                    refine k_aload_n X (q := 0) dX11_ofCitizen_123 rfl rfl ?_
                    refine gX11_139 X (S := S) (h.at hk).1 (h.at hk).2 dX11_ofCitizen_124 (fun v_124_16 ev_124_16 => ?_)
                    exact k_iret X E dX11_ofCitizen_127 (Nat.le_of_ble_eq_true rfl) (Nat.le_of_ble_eq_true rfl) (⟨rfl, by (try subst_vars); rfl⟩)
                  · skip
                    by_cases q_22_8 : (nI w) = 8
                    · skip
                      rw [q_22_8]
                      refine k_tableIn (x := 8) (off := 106) (tgt := 128) X dX11_ofCitizen_22 (by decide) (by decide) rfl (by decide) ?_
                      have hw9 : w = 8 := nI_inj (by omega) (by omega) (show nI w = nI 8 from q_22_8)
                      subst hw9
                      refine k_aload_n X (q := 0) dX11_ofCitizen_128 rfl rfl ?_
                      refine gX11_142 X (S := S) (h.at hk).1 (h.at hk).2 dX11_ofCitizen_129 (fun v_129_17 ev_129_17 => ?_)
                      exact k_iret X E dX11_ofCitizen_132 (Nat.le_of_ble_eq_true rfl) (Nat.le_of_ble_eq_true rfl) (⟨rfl, by (try subst_vars); rfl⟩)
                    · skip
                      by_cases q_22_9 : (nI w) = 9
                      · skip
                        rw [q_22_9]
                        refine k_tableIn (x := 9) (off := 111) (tgt := 133) X dX11_ofCitizen_22 (by decide) (by decide) rfl (by decide) ?_
                        have hw9 : w = 9 := nI_inj (by omega) (by omega) (show nI w = nI 9 from q_22_9)
                        subst hw9
                        refine k_aload_n X (q := 0) dX11_ofCitizen_133 rfl rfl ?_
                        refine gX11_145 X (S := S) (h.at hk).1 (h.at hk).2 dX11_ofCitizen_134 (fun v_134_18 ev_134_18 => ?_)
                        exact k_iret X E dX11_ofCitizen_137 (Nat.le_of_ble_eq_true rfl) (Nat.le_of_ble_eq_true rfl) (⟨rfl, by (try subst_vars); rfl⟩)
                      · skip
                        by_cases q_22_10 : (nI w) = 10
                        · skip
                          rw [q_22_10]
                          refine k_tableIn (x := 10) (off := 116) (tgt := 138) X dX11_ofCitizen_22 (by decide) (by decide) rfl (by decide) ?_
                          have hw9 : w = 10 := nI_inj (by omega) (by omega) (show nI w = nI 10 from q_22_10)
                          subst hw9
                          refine k_aload_n X (q := 1) dX11_ofCitizen_138 rfl rfl ?_
                          refine gX11_10s X (S := S) (st_0 h.st).1 (st_0 h.st).2 (sr_0_0 h.st) dX11_ofCitizen_139 ?_
                          refine k_aload_n X (q := 0) dX11_ofCitizen_142 rfl rfl ?_
                          refine k_gotI X (vX11_148 X (S := S) ⟨(st_1 h.st).1, (st_1 h.st).2⟩ (c_X2_officeOf C.l C.e0 S (cz k) A h.st h.hO) (As := [.ref (cz k)]) (rest := []) rfl rfl rfl rfl ⟨Nat.le_of_ble_eq_true rfl, Nat.le_of_ble_eq_true rfl⟩ (Nat.le_of_ble_eq_true rfl) ⟨Nat.le_of_ble_eq_true rfl, Nat.le_of_ble_eq_true rfl⟩ dX11_ofCitizen_143) (fun v_143_20 S_143_21 h_143_18 => ?_)
                          obtain ⟨rfl, ev_143_20⟩ := h_143_18
                          exact k_iret X E dX11_ofCitizen_146 (Nat.le_of_ble_eq_true rfl) (Nat.le_of_ble_eq_true rfl) (⟨rfl, by (try subst_vars); rfl⟩)
                        · skip
                          by_cases q_22_11 : (nI w) = 11
                          · skip
                            rw [q_22_11]
                            refine k_tableIn (x := 11) (off := 125) (tgt := 147) X dX11_ofCitizen_22 (by decide) (by decide) rfl (by decide) ?_
                            have hw9 : w = 11 := nI_inj (by omega) (by omega) (show nI w = nI 11 from q_22_11)
                            subst hw9
                            refine k_aload_n X (q := 0) dX11_ofCitizen_147 rfl rfl ?_
                            refine gX11_151 X (S := S) (h.at hk).1 (h.at hk).2 dX11_ofCitizen_148 (fun v_148_22 ev_148_22 => ?_)
                            refine k_gotI X (vX11_154 X (S := S) (c_X11_asNumber C.l C.e0 S v_148_22 ) (As := [.int v_148_22]) (rest := []) rfl rfl rfl rfl ⟨Nat.le_of_ble_eq_true rfl, Nat.le_of_ble_eq_true rfl⟩ (Nat.le_of_ble_eq_true rfl) ⟨Nat.le_of_ble_eq_true rfl, Nat.le_of_ble_eq_true rfl⟩ dX11_ofCitizen_151) (fun v_151_24 S_151_25 h_151_22 => ?_)
                            obtain ⟨rfl, ev_151_24⟩ := h_151_22
                            exact k_iret X E dX11_ofCitizen_154 (Nat.le_of_ble_eq_true rfl) (Nat.le_of_ble_eq_true rfl) (⟨rfl, by (try subst_vars); rfl⟩)
                          · skip
                            by_cases q_22_12 : (nI w) = 12
                            · skip
                              rw [q_22_12]
                              refine k_tableIn (x := 12) (off := 133) (tgt := 155) X dX11_ofCitizen_22 (by decide) (by decide) rfl (by decide) ?_
                              have hw9 : w = 12 := nI_inj (by omega) (by omega) (show nI w = nI 12 from q_22_12)
                              subst hw9
                              refine k_aload_n X (q := 0) dX11_ofCitizen_155 rfl rfl ?_
                              refine gX11_158 X (S := S) (h.at hk).1 (h.at hk).2 dX11_ofCitizen_156 (fun v_156_26 ev_156_26 => ?_)
                              exact k_iret X E dX11_ofCitizen_159 (Nat.le_of_ble_eq_true rfl) (Nat.le_of_ble_eq_true rfl) (⟨rfl, by (try subst_vars); rfl⟩)
                            · skip
                              refine k_tableOut (tgt := 160) X dX11_ofCitizen_22 (ktsw (N := 12) (by omega) (fun k hk => by
                                rcases (show k = 0 ∨ k = 1 ∨ k = 2 ∨ k = 3 ∨ k = 4 ∨ k = 5 ∨ k = 6 ∨ k = 7 ∨ k = 8 ∨ k = 9 ∨ k = 10 ∨ k = 11 ∨ k = 12 by omega) with rfl | rfl | rfl | rfl | rfl | rfl | rfl | rfl | rfl | rfl | rfl | rfl | rfl
                                · exact q_22_0
                                · exact q_22_1
                                · exact q_22_2
                                · exact q_22_3
                                · exact q_22_4
                                · exact q_22_5
                                · exact q_22_6
                                · exact q_22_7
                                · exact q_22_8
                                · exact q_22_9
                                · exact q_22_10
                                · exact q_22_11
                                · exact q_22_12)) (by decide) ?_
                              rcases (show w = 0 ∨ w = 1 ∨ w = 2 ∨ w = 3 ∨ w = 4 ∨ w = 5 ∨ w = 6 ∨ w = 7 ∨ w = 8 ∨ w = 9 ∨ w = 10 ∨ w = 11 ∨ w = 12 by omega) with rfl | rfl | rfl | rfl | rfl | rfl | rfl | rfl | rfl | rfl | rfl | rfl | rfl
                              · exact absurd rfl q_22_0
                              · exact absurd rfl q_22_1
                              · exact absurd rfl q_22_2
                              · exact absurd rfl q_22_3
                              · exact absurd rfl q_22_4
                              · exact absurd rfl q_22_5
                              · exact absurd rfl q_22_6
                              · exact absurd rfl q_22_7
                              · exact absurd rfl q_22_8
                              · exact absurd rfl q_22_9
                              · exact absurd rfl q_22_10
                              · exact absurd rfl q_22_11
                              · exact absurd rfl q_22_12
  · skip
    subst c_10
    exact absurd (hnj_5 k hk rfl) (by simp)
set_option maxHeartbeats 1000000 in
set_option maxRecDepth 20000 in
theorem c_X11_roll (l : Launch) (e0 : Nat × Nat) (S : kS)   (A : Nat → Nat) (n : Nat) (cz : Nat → Nat) (T G Z : Nat) (h : kI e0 A n cz T G Z S) (L : kLL) (hQ : kQL e0 A n cz L S) (k : Nat) (hk : k ≤ 5) : kM l e0 yX11_roll cX11_roll 4 (Option.some Jvm.ClassFile.FieldType.int) ({ frames := 4, cells := 0, slots := 0, locals := 91 } : Room) 0 0 [.ref (A 0), .int (nI k), .int (0 : Int32), .int (-1 : Int32)] S (kQi (fun v S9 => S = S9 ∧ v = kcof S cz n (nI k) 0 (-1))) := by
  refine kMetE (by decide +kernel) (Nat.le_of_ble_eq_true rfl) (fun C he hl X E hm => ?_)
  have X : kX C RX11 cX11_roll 4 ({ frames := 4, cells := 0, slots := 0, locals := 91 } : Room) := X
  subst he hl
  show kG C 4 S 0 0 0 [(0, .ref (A 0)), (1, .int (nI k)), (2, .int (0 : Int32)), (3, .int (-1 : Int32))] []
  have hn := h.n40
  have hq1 := hQ.1.2.1
  have hq2 := hQ.2.1.2.1
  have hq3 := hQ.2.2.1.2.1
  have hq4 := hQ.2.2.2.1.2.1
  have hq5 := hQ.2.2.2.2.2.1
  refine k_iload_n X (q := 3) dX11_roll_0 rfl rfl ?_
  refine k_iconst X (v := (-1)) dX11_roll_1 (by decide) ?_
  refine k_iconst X (v := 3) dX11_roll_2 (by decide) ?_
  refine k_gotI X (vX11_61 X (S := S) (c_X11_isFrom C.l C.e0 S (-1 : Int32) (-1 : Int32) 3 ) (As := [.int (-1 : Int32), .int (-1 : Int32), .int 3]) (rest := []) rfl rfl rfl rfl ⟨Nat.le_of_ble_eq_true rfl, Nat.le_of_ble_eq_true rfl⟩ (Nat.le_of_ble_eq_true rfl) ⟨Nat.le_of_ble_eq_true rfl, Nat.le_of_ble_eq_true rfl⟩ dX11_roll_3) (fun v_3_2 S_3_3 h_3_0 => ?_)
  obtain ⟨rfl, ev_3_2⟩ := h_3_0
  refine k_if_ne (tgt := 17) X dX11_roll_6 (by decide) (fun c_6 => ?_) (fun c_6 => ?_)
  · skip
    rw [ev_3_2] at c_6
    refine k_iload_n X (q := 1) dX11_roll_17 rfl rfl ?_
    refine k_iconst X (v := 0) dX11_roll_18 (by decide) ?_
    refine k_iconst X (v := 5) dX11_roll_19 (by decide) ?_
    refine k_gotI X (vX11_61 X (S := S) (c_X11_isFrom C.l C.e0 S (nI k) 0 5 ) (As := [.int (nI k), .int 0, .int 5]) (rest := []) rfl rfl rfl rfl ⟨Nat.le_of_ble_eq_true rfl, Nat.le_of_ble_eq_true rfl⟩ (Nat.le_of_ble_eq_true rfl) ⟨Nat.le_of_ble_eq_true rfl, Nat.le_of_ble_eq_true rfl⟩ dX11_roll_20) (fun v_20_5 S_20_6 h_20_3 => ?_)
    obtain ⟨rfl, ev_20_5⟩ := h_20_3
    refine k_if_eq (tgt := 36) X dX11_roll_23 (by decide) (fun c_23 => ?_) (fun c_23 => ?_)
    · skip
      rw [ev_20_5] at c_23
      exact absurd c_23 (kfr_ok2 (m := 5) rfl (by omega) (by omega))
    · skip
      rw [ev_20_5] at c_23
      refine k_iload_n X (q := 2) dX11_roll_26 rfl rfl ?_
      refine k_iconst X (v := 0) dX11_roll_27 (by decide) ?_
      refine k_bipush X (v := 99) dX11_roll_28 (by decide) ?_
      refine k_gotI X (vX11_61 X (S := S) (c_X11_isFrom C.l C.e0 S (0 : Int32) 0 99 ) (As := [.int (0 : Int32), .int 0, .int 99]) (rest := []) rfl rfl rfl rfl ⟨Nat.le_of_ble_eq_true rfl, Nat.le_of_ble_eq_true rfl⟩ (Nat.le_of_ble_eq_true rfl) ⟨Nat.le_of_ble_eq_true rfl, Nat.le_of_ble_eq_true rfl⟩ dX11_roll_30) (fun v_30_8 S_30_9 h_30_6 => ?_)
      obtain ⟨rfl, ev_30_8⟩ := h_30_6
      refine k_if_ne (tgt := 44) X dX11_roll_33 (by decide) (fun c_33 => ?_) (fun c_33 => ?_)
      · skip
        rw [ev_30_8] at c_33
        refine k_aload_n X (q := 0) dX11_roll_44 rfl rfl ?_
        refine gX11_10s X (S := S) (st_0 h.st).1 (st_0 h.st).2 (sr_0_0 h.st) dX11_roll_45 ?_
        refine k_iload_n X (q := 1) dX11_roll_48 rfl rfl ?_
        refine k_iload_n X (q := 2) dX11_roll_49 rfl rfl ?_
        refine k_iload_n X (q := 3) dX11_roll_50 rfl rfl ?_
        refine k_gotI X (vX11_431 X (S := S) ⟨(st_1 h.st).1, (st_1 h.st).2⟩ (c_X2_countOf C.l C.e0 S (nI k) (0 : Int32) (-1 : Int32) A n cz h.st h.hC hn ) (As := [.int (nI k), .int (0 : Int32), .int (-1 : Int32)]) (rest := []) rfl rfl rfl rfl ⟨Nat.le_of_ble_eq_true rfl, Nat.le_of_ble_eq_true rfl⟩ (Nat.le_of_ble_eq_true rfl) ⟨Nat.le_of_ble_eq_true rfl, Nat.le_of_ble_eq_true rfl⟩ dX11_roll_51) (fun v_51_11 S_51_12 h_51_9 => ?_)
        obtain ⟨rfl, ev_51_11⟩ := h_51_9
        exact k_iret X E dX11_roll_54 (Nat.le_of_ble_eq_true rfl) (Nat.le_of_ble_eq_true rfl) (⟨rfl, by (try subst_vars); rfl⟩)
      · skip
        rw [ev_30_8] at c_33
        exact absurd c_33 (by decide)
  · skip
    rw [ev_3_2] at c_6
    exact absurd c_6 (by decide)
set_option maxHeartbeats 1000000 in
set_option maxRecDepth 20000 in
theorem c_X11_isSound (l : Launch) (e0 : Nat × Nat) (S : kS)   (A : Nat → Nat) (n : Nat) (cz : Nat → Nat) (T G Z : Nat) (h : kI e0 A n cz T G Z S) (L : kLL) (hQ : kQL e0 A n cz L S) (hp : kPr A S) (hZ9 : Z ≤ 1000000) : kM l e0 yX11_isSound cX11_isSound 1 (Option.some Jvm.ClassFile.FieldType.boolean) ({ frames := 7, cells := 0, slots := 0, locals := 155 } : Room) 0 0 [.ref (A 0)] S (kQi (fun v S9 => S = S9 ∧ v = 1)) := by
  refine kMetE (by decide +kernel) (Nat.le_of_ble_eq_true rfl) (fun C he hl X E hm => ?_)
  have X : kX C RX11 cX11_isSound 1 ({ frames := 7, cells := 0, slots := 0, locals := 155 } : Room) := X
  subst he hl
  show kG C 1 S 0 0 0 [(0, .ref (A 0))] []
  have hn := h.n40
  have hq1 := hQ.1.2.1
  have hq2 := hQ.2.1.2.1
  have hq3 := hQ.2.2.1.2.1
  have hq4 := hQ.2.2.2.1.2.1
  have hq5 := hQ.2.2.2.2.2.1
  refine k_aload_n X (q := 0) dX11_isSound_0 rfl rfl ?_
  refine gX11_10s X (S := S) (st_0 h.st).1 (st_0 h.st).2 (sr_0_0 h.st) dX11_isSound_1 ?_
  refine k_gotI X (vX11_497 X (S := S) ⟨(st_1 h.st).1, (st_1 h.st).2⟩ (c_X2_areCitizensSound C.l C.e0 S  A n cz h.st h.hC hn h.snd2) (As := []) (rest := []) rfl rfl rfl rfl ⟨Nat.le_of_ble_eq_true rfl, Nat.le_of_ble_eq_true rfl⟩ (Nat.le_of_ble_eq_true rfl) ⟨Nat.le_of_ble_eq_true rfl, Nat.le_of_ble_eq_true rfl⟩ dX11_isSound_4) (fun v_4_2 S_4_3 h_4_0 => ?_)
  obtain ⟨rfl, ev_4_2⟩ := h_4_0
  refine k_if_eq (tgt := 54) X dX11_isSound_7 (by decide) (fun c_7 => ?_) (fun c_7 => ?_)
  · skip
    rw [ev_4_2] at c_7
    exact absurd c_7 (by decide)
  · skip
    rw [ev_4_2] at c_7
    refine k_aload_n X (q := 0) dX11_isSound_10 rfl rfl ?_
    refine gX11_21s X (S := S) (st_0 h.st).1 (st_0 h.st).2 (sr_0_1 h.st) dX11_isSound_11 ?_
    refine k_gotI X (vX11_500 X (S := S) ⟨(st_2 h.st).1, (st_2 h.st).2⟩ (c_X3_isChairSound C.l C.e0 S  A h.st (h.snd3 hp)) (As := []) (rest := []) rfl rfl rfl rfl ⟨Nat.le_of_ble_eq_true rfl, Nat.le_of_ble_eq_true rfl⟩ (Nat.le_of_ble_eq_true rfl) ⟨Nat.le_of_ble_eq_true rfl, Nat.le_of_ble_eq_true rfl⟩ dX11_isSound_14) (fun v_14_5 S_14_6 h_14_3 => ?_)
    obtain ⟨rfl, ev_14_5⟩ := h_14_3
    refine k_if_eq (tgt := 54) X dX11_isSound_17 (by decide) (fun c_17 => ?_) (fun c_17 => ?_)
    · skip
      rw [ev_14_5] at c_17
      exact absurd c_17 (by decide)
    · skip
      rw [ev_14_5] at c_17
      refine k_aload_n X (q := 0) dX11_isSound_20 rfl rfl ?_
      refine gX11_10s X (S := S) (st_0 h.st).1 (st_0 h.st).2 (sr_0_0 h.st) dX11_isSound_21 ?_
      refine k_gotI X (vX11_503 X (S := S) ⟨(st_1 h.st).1, (st_1 h.st).2⟩ (c_X2_areOfficesSound C.l C.e0 S  A h.st h.hO h.snd4) (As := []) (rest := []) rfl rfl rfl rfl ⟨Nat.le_of_ble_eq_true rfl, Nat.le_of_ble_eq_true rfl⟩ (Nat.le_of_ble_eq_true rfl) ⟨Nat.le_of_ble_eq_true rfl, Nat.le_of_ble_eq_true rfl⟩ dX11_isSound_24) (fun v_24_8 S_24_9 h_24_6 => ?_)
      obtain ⟨rfl, ev_24_8⟩ := h_24_6
      refine k_if_eq (tgt := 54) X dX11_isSound_27 (by decide) (fun c_27 => ?_) (fun c_27 => ?_)
      · skip
        rw [ev_24_8] at c_27
        exact absurd c_27 (by decide)
      · skip
        rw [ev_24_8] at c_27
        refine k_aload_n X (q := 0) dX11_isSound_30 rfl rfl ?_
        refine gX11_37s X (S := S) (st_0 h.st).1 (st_0 h.st).2 (sr_0_3 h.st) dX11_isSound_31 ?_
        refine k_gotI X (vX11_506 X (S := S) ⟨(st_4 h.st).1, (st_4 h.st).2⟩ (c_X0_areDecreesSound C.l C.e0 S  A h.st L.ms L.xs (hQ.2.2.1.1) (by omega) L.md L.xd (hQ.2.1.1) (by omega)) (As := []) (rest := []) rfl rfl rfl rfl ⟨Nat.le_of_ble_eq_true rfl, Nat.le_of_ble_eq_true rfl⟩ (Nat.le_of_ble_eq_true rfl) ⟨Nat.le_of_ble_eq_true rfl, Nat.le_of_ble_eq_true rfl⟩ dX11_isSound_34) (fun v_34_11 S_34_12 h_34_9 => ?_)
        obtain ⟨rfl, ev_34_11⟩ := h_34_9
        refine k_if_eq (tgt := 54) X dX11_isSound_37 (by decide) (fun c_37 => ?_) (fun c_37 => ?_)
        · skip
          rw [ev_34_11] at c_37
          exact absurd c_37 (by decide)
        · skip
          rw [ev_34_11] at c_37
          refine k_aload_n X (q := 0) dX11_isSound_40 rfl rfl ?_
          refine gX11_10s X (S := S) (st_0 h.st).1 (st_0 h.st).2 (sr_0_0 h.st) dX11_isSound_41 ?_
          refine k_gotI X (vX11_509 X (S := S) ⟨(st_1 h.st).1, (st_1 h.st).2⟩ (c_X2_isTreasurySound C.l C.e0 S  A h.st ) (As := []) (rest := []) rfl rfl rfl rfl ⟨Nat.le_of_ble_eq_true rfl, Nat.le_of_ble_eq_true rfl⟩ (Nat.le_of_ble_eq_true rfl) ⟨Nat.le_of_ble_eq_true rfl, Nat.le_of_ble_eq_true rfl⟩ dX11_isSound_44) (fun v_44_14 S_44_15 h_44_12 => ?_)
          obtain ⟨rfl, ev_44_14⟩ := h_44_12
          refine k_if_eq (tgt := 54) X dX11_isSound_47 (by decide) (fun c_47 => ?_) (fun c_47 => ?_)
          · skip
            rw [ev_44_14] at c_47
            exact absurd c_47 (by rw [h.snd1 hZ9]; simp [kb])
          · skip
            rw [ev_44_14] at c_47
            refine k_iconst X (v := 1) dX11_isSound_50 (by decide) ?_
            refine k_goto (tgt := 55) X dX11_isSound_51 (by decide) ?_
            exact k_zret X E (Or.inr rfl) dX11_isSound_55 (Nat.le_of_ble_eq_true rfl) (Nat.le_of_ble_eq_true rfl) (⟨rfl, rfl⟩)
