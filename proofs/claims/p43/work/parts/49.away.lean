section KAC
variable {C : kC} {own : String} {cc : ByteArray} {nL : Nat} {rm : Room} {S : kS} {k n pc idx : Nat} {lv : List (Nat × Value)} {st : List Value}
theorem k_aastC (X : kX C own cc nL rm) {a v : Nat} {i : Int32} (hA : S.at a 14) (hv : S.at v 1) (hin : vp_in i (S.N a)) (hdg : decode cc pc = .ok (.aastore, 1)) (kk : kG C nL (S.uR a i.toNatClampNeg (some v)) k n (pc + 1) lv st) : kG C nL S k n pc lv (.ref v :: .int i :: .ref a :: st) := by
  intro H locs ls hP hD hS h
  obtain ⟨q0, hq⟩ := kW_get (cy := C.cy) hA.1
  have hq0 := hq
  unfold kF at hq
  rw [hA.2] at hq
  obtain ⟨q1, hq1⟩ := kW_get (cy := C.cy) hv.1
  have he : (kW C.cy S)[q1]? = some (v, .inr (kci 1, kfs 1 (S.I v) (S.R v))) := by rw [hq1]; unfold kF; rw [hv.2]; rfl
  refine va_astq X.1.1 X.1.2.1 X.2.1 hP hD hS q0 1 q1 (kci 1) (r := (RX1, TX1, 16)) hq rfl he rfl hin hdg (fun H1 locs1 hP1 hD1 hS1 => ?_)
  have hset : (kW C.cy S).set q0 (a, .inl (C.cy 1, S.N a, .inr (.inr (.inr (.inr (va_up (S.R a) i.toNatClampNeg (some v))))))) = kW C.cy (S.uR a i.toNatClampNeg (some v)) := by
    refine kW_set hD hA.1 hq0 rfl (fun b => ?_)
    unfold va_up kF
    by_cases hb : b = a
    · subst hb
      rw [if_pos rfl, uR_K, uR_N, hA.2]
      have e9 : va_up (S.R b) i.toNatClampNeg (some v) = (S.uR b i.toNatClampNeg (some v)).R b := funext fun j => by simp [va_up, uR_R]
      unfold va_up at e9
      rw [e9]
      rfl
    · rw [if_neg hb, uR_K, uR_N, (uR_o b hb).2, uR_I]
  rw [hset] at hP1 hD1
  exact kk H1 locs1 ls hP1 hD1 hS1 h
end KAC
theorem nI_inj {a b : Nat} (ha : a < 2 ^ 31) (hb : b < 2 ^ 31) (h : nI a = nI b) : a = b := by
  have h2 := congrArg Int32.toInt h
  rw [nI_toInt ha, nI_toInt hb] at h2
  omega
theorem stR_14 : ∀ q ∈ stR, ¬ stSh q.1 = 14 := by decide +kernel
def kfree (S : kS) (A : Nat → Nat) (k : Nat) : kS := (S.uR (A 52) k none).uI (A 40) k 0
theorem kfree_st {S : kS} {A : Nat → Nat} {k : Nat} (h : kSt A S) : kSt A (kfree S A k) := kSt.uI (kSt.uRg h (κ := 14) ⟨(st_52 h).1, (st_52 h).2⟩ (fun q hq z => stR_14 q hq z.1))
section KSD
variable {e0 : Nat × Nat} {A : Nat → Nat} {n : Nat} {cz : Nat → Nat} {T G E : Nat} {S S' Si : kS}
/-- somebody is being sent away: k offices and l leases are done -/
def kSd (A : Nat → Nat) (n : Nat) (cz : Nat → Nat) (i : Nat) (s : Int32) (S : kS) (k l : Nat) (Si : kS) : Prop := kGo S Si wCit ∧ (∀ j, j < n → ¬ j = i → ∀ f, Si.I (cz j) f = S.I (cz j) f) ∧ (Si.I (cz i) 6 = s ∧ Si.I (cz i) 9 = 0 ∧ Si.I (cz i) 3 = S.I (cz i) 3 ∧ Si.I (cz i) 4 = S.I (cz i) 4) ∧ (∀ j, Si.I (A 1) j = S.I (A 1) j) ∧ (Si.R (A 1) 10 = none ∨ (Si.R (A 1) 10 = S.R (A 1) 10 ∧ ¬ S.R (A 1) 10 = some (cz i))) ∧ (∀ k', k' < 7 → (k' < k → Si.R (kof A k') 1 = none ∨ (Si.R (kof A k') 1 = S.R (kof A k') 1 ∧ ¬ S.R (kof A k') 1 = some (cz i))) ∧ (k ≤ k' → Si.R (kof A k') 1 = S.R (kof A k') 1)) ∧ (∀ l', l' < 3 → (l' < l → Si.R (A 52) l' = none ∨ (Si.R (A 52) l' = S.R (A 52) l' ∧ ¬ S.R (A 52) l' = some (cz i))) ∧ (l ≤ l' → Si.R (A 52) l' = S.R (A 52) l')) ∧ ∀ l', l' < 3 → Si.I (A 40) l' = 0 ∨ Si.I (A 40) l' = S.I (A 40) l'
theorem kI.sd0 (h : kI e0 A n cz T G E S) {i : Nat} {s : Int32} (hi : i < n) : kSd A n cz i s S 0 0 (kleave (S.uI (cz i) 6 s) A (cz i)) := by
  have hinj := h.who.2.2
  have hne := h.one hi
  refine ⟨(kGo.rf.uI (fun _ => by rw [h.oc i hi]; unfold wCit; omega)).tr (kleave_go (S := S.uI (cz i) 6 s) (kSt.uI h.st) (h.oc i hi)), fun j hj hn f => ?_, ⟨?_, ?_, ?_, ?_⟩, fun j => ?_, ?_, fun k' hk' => ⟨fun z => absurd z (by omega), fun _ => ?_⟩, fun l' hl' => ⟨fun z => absurd z (by omega), fun _ => ?_⟩, fun l' hl' => Or.inr ?_⟩
  · have hz : ¬ cz j = cz i := fun z => hn (hinj j i hj hi z)
    rw [kleave_I, if_neg (fun z => hz z.1), uI_I, if_neg (fun z => hz z.1)]
  · rw [kleave_I, if_neg (by omega), uI_I, if_pos ⟨rfl, rfl⟩]
  · rw [kleave_I, if_pos ⟨rfl, rfl⟩]
  · rw [kleave_I, if_neg (by omega), uI_I, if_neg (by omega)]
  · rw [kleave_I, if_neg (by omega), uI_I, if_neg (by omega)]
  · rw [kleave_I, if_neg (fun z => hne z.1.symm), uI_I, if_neg (fun z => hne z.1.symm)]
  · rw [kleave_R]
    by_cases e : A 1 = A 1 ∧ 10 = 10 ∧ (S.uI (cz i) 6 s).R (A 1) 10 = some (cz i)
    · rw [if_pos e]; exact Or.inl rfl
    · rw [if_neg e]; exact Or.inr ⟨rfl, fun z => e ⟨rfl, rfl, z⟩⟩
  · rw [kleave_R, if_neg (by omega)]; rfl
  · have h52 : ¬ A 52 = A 1 := h.st.ne (r := 52) (r' := 1) (κ := 14) (κ' := 2) (by decide) (by decide) (by decide)
    rw [kleave_R, if_neg (fun z => h52 z.1)]; rfl
  · rw [kleave_I, if_neg (fun z => (h.n40' hi 0).1 z.1), uI_I, if_neg (fun z => (h.n40' hi 0).1 z.1)]
theorem kI.kofj (h : kI e0 A n cz T G E S) {k k' : Nat} (hk : k < 7) (hk' : k' < 7) (e : kof A k = kof A k') : k = k' := by
  have h1 := h.oo k hk
  rw [e, h.oo k' hk'] at h1
  omega
theorem kI.kofa (h : kI e0 A n cz T G E S) {k r : Nat} (hk : k < 7) (hr : (∃ κ, (r, κ) ∈ stK) ∧ (r < 60 ∨ 67 ≤ r)) : ¬ kof A k = A r := fun e => by
  obtain ⟨⟨κ, hκ⟩, hr2⟩ := hr
  have h1 := (h.st.1 _ hκ).2
  have h2 := h.oo k hk
  rw [e] at h2
  have h3 : S.O (A r) = r := h1
  omega
theorem kSd.hit {i k l : Nat} {s : Int32} (h : kI e0 A n cz T G E S) (hd : kSd A n cz i s S k l Si) (hk : k < 7) : kSd A n cz i s S (k + 1) l (Si.uR (kof A k) 1 none) := by
  obtain ⟨h1, h2, h3, h4, h5, h6, h7, h8⟩ := hd
  refine ⟨h1.uR (fun _ => by rw [h.oo k hk]; unfold wCit; omega), h2, h3, h4, ?_, fun k' hk' => ⟨fun z => ?_, fun z => ?_⟩, fun l' hl' => ?_, h8⟩
  · rw [uR_R, if_neg (by omega)]; exact h5
  · rw [uR_R]
    by_cases e : kof A k' = kof A k ∧ 1 = 1
    · rw [if_pos e]; exact Or.inl rfl
    · rw [if_neg e]
      exact (h6 k' hk').1 (by
        rcases Nat.lt_or_ge k' k with g | g
        · exact g
        · exact absurd ⟨by rw [show k' = k by omega], rfl⟩ e)
  · rw [uR_R, if_neg (fun e => by have := h.kofj hk' hk e.1; omega)]
    exact (h6 k' hk').2 (by omega)
  · rw [uR_R, if_neg (fun e => h.kofa hk ⟨⟨14, by decide⟩, by omega⟩ e.1.symm)]
    exact h7 l' hl'
theorem kSd.miss {i k l : Nat} {s : Int32} (hd : kSd A n cz i s S k l Si) (hk : k < 7) (hm : ¬ Si.R (kof A k) 1 = some (cz i)) : kSd A n cz i s S (k + 1) l Si := by
  obtain ⟨h1, h2, h3, h4, h5, h6, h7, h8⟩ := hd
  refine ⟨h1, h2, h3, h4, h5, fun k' hk' => ⟨fun z => ?_, fun z => (h6 k' hk').2 (by omega)⟩, h7, h8⟩
  rcases Nat.lt_or_ge k' k with g | g
  · exact (h6 k' hk').1 g
  · have e : k' = k := by omega
    subst e
    have e2 := (h6 k' hk').2 (by omega)
    exact Or.inr ⟨e2, by rw [← e2]; exact hm⟩
theorem kSd.lhit {i k l : Nat} {s : Int32} (h : kI e0 A n cz T G E S) (hd : kSd A n cz i s S k l Si) (hi : i < n) (hl : l < 3) : kSd A n cz i s S k (l + 1) (kfree Si A l) := by
  obtain ⟨h1, h2, h3, h4, h5, h6, h7, h8⟩ := hd
  have n52 : ¬ A 1 = A 52 := h.st.ne (r := 1) (r' := 52) (κ := 2) (κ' := 14) (by decide) (by decide) (by decide)
  have n40 : ¬ A 1 = A 40 := h.st.ne (r := 1) (r' := 40) (κ := 2) (κ' := 13) (by decide) (by decide) (by decide)
  have c40 : ∀ j, j < n → ¬ cz j = A 40 := fun j hj => h.cne hj (r := 40) ⟨⟨13, by decide⟩, by omega⟩
  unfold kfree
  refine ⟨(h1.uR (fun _ => by rw [so_52 h.st]; unfold wCit; omega)).uI (a := A 40) (fun _ => by rw [so_40 h.st]; unfold wCit; omega), fun j hj hn f => ?_, ⟨?_, ?_, ?_, ?_⟩, fun j => ?_, ?_, fun k' hk' => ?_, fun l' hl' => ⟨fun z => ?_, fun z => ?_⟩, fun l' hl' => ?_⟩
  · rw [uI_I, if_neg (fun z => c40 j hj z.1)]; exact h2 j hj hn f
  · rw [uI_I, if_neg (fun z => c40 i hi z.1)]; exact h3.1
  · rw [uI_I, if_neg (fun z => c40 i hi z.1)]; exact h3.2.1
  · rw [uI_I, if_neg (fun z => c40 i hi z.1)]; exact h3.2.2.1
  · rw [uI_I, if_neg (fun z => c40 i hi z.1)]; exact h3.2.2.2
  · rw [uI_I, if_neg (fun z => n40 z.1)]; exact h4 j
  · rw [uI_R, uR_R, if_neg (fun z => n52 z.1)]; exact h5
  · rw [uI_R, uR_R, if_neg (fun z => h.kofa hk' ⟨⟨14, by decide⟩, by omega⟩ z.1)]; exact h6 k' hk'
  · rw [uI_R, uR_R]
    by_cases e : A 52 = A 52 ∧ l' = l
    · rw [if_pos e]; exact Or.inl rfl
    · rw [if_neg e]
      exact (h7 l' hl').1 (by
        rcases Nat.lt_or_ge l' l with g | g
        · exact g
        · exact absurd ⟨rfl, by omega⟩ e)
  · rw [uI_R, uR_R, if_neg (by omega)]
    exact (h7 l' hl').2 (by omega)
  · rw [uI_I]
    by_cases e : A 40 = A 40 ∧ l' = l
    · rw [if_pos e]; exact Or.inl rfl
    · rw [if_neg e]; exact h8 l' hl'
theorem kSd.lmiss {i k l : Nat} {s : Int32} (hd : kSd A n cz i s S k l Si) (hl : l < 3) (hm : ¬ Si.R (A 52) l = some (cz i)) : kSd A n cz i s S k (l + 1) Si := by
  obtain ⟨h1, h2, h3, h4, h5, h6, h7, h8⟩ := hd
  refine ⟨h1, h2, h3, h4, h5, h6, fun l' hl' => ⟨fun z => ?_, fun z => (h7 l' hl').2 (by omega)⟩, h8⟩
  rcases Nat.lt_or_ge l' l with g | g
  · exact (h7 l' hl').1 g
  · have e : l' = l := by omega
    subst e
    have e2 := (h7 l' hl').2 (by omega)
    exact Or.inr ⟨e2, by rw [← e2]; exact hm⟩
theorem kSd.fin {i : Nat} {s : Int32} (h : kI e0 A n cz T G E S) (hd : kSd A n cz i s S 7 3 Si) (hi : i < n) : kSend A n cz i s S ((((Si.uI (cz i) 12 0).uI (cz i) 13 0).uI (cz i) 5 0).uI (cz i) 11 (-1)) := by
  obtain ⟨h1, h2, h3, h4, h5, h6, h7, h8⟩ := hd
  have hinj := h.who.2.2
  have hne := h.one hi
  have hO : Si.O (cz i) = 200 := by rw [(h1.1 _ (h.at hi).1).2.2.1]; exact h.oc i hi
  refine ⟨(((h1.uI (fun _ => by rw [h.oc i hi]; unfold wCit; omega)).uI (a := cz i) (fun _ => by rw [h.oc i hi]; unfold wCit; omega)).uI (a := cz i) (fun _ => by rw [h.oc i hi]; unfold wCit; omega)).uI (a := cz i) (fun _ => by rw [h.oc i hi]; unfold wCit; omega), fun j hj hn f => ?_, ⟨?_, ?_, ?_, ?_, ?_⟩, fun j => ?_, h5, fun k hk => (h6 k hk).1 hk, fun l hl => (h7 l hl).1 hl, fun l hl => ?_⟩
  · have hz : ¬ cz j = cz i := fun z => hn (hinj j i hj hi z)
    simp only [uI_I, hz, false_and, if_false]
    exact h2 j hj hn f
  · simp [uI_I]; exact h3.1
  · simp [uI_I]; exact h3.2.1
  · simp [uI_I]
  · simp [uI_I]; exact h3.2.2.1
  · simp [uI_I]; exact h3.2.2.2
  · have hz : ¬ A 1 = cz i := fun z => hne z.symm
    simp only [uI_I, hz, false_and, if_false]
    exact h4 j
  · have hz := (h.n40' hi 0).1
    simp only [uI_I, hz, false_and, if_false]
    exact h8 l hl
end KSD
set_option maxHeartbeats 1000000 in
set_option maxRecDepth 20000 in
theorem c_X2_letLease (l : Launch) (e0 : Nat × Nat) (S : kS) (c : Option Nat) (x : Int32) (A : Nat → Nat) (hst : kSt A S) (k : Nat) (hk : k < 3) (hc : c = none ∨ ∃ y, c = some y ∧ S.at y 1) : kM l e0 yX2_letLease cX2_letLease 5 (Option.some (Jvm.ClassFile.FieldType.object "Kleroterion$Citizen")) ({ frames := 1, cells := 0, slots := 0, locals := 22 } : Room) 0 0 [.ref (A 1), .int (nI k), va_rf c, .int x] S (kQq (fun v S9 => S9 = (S.uR (A 52) k c).uI (A 40) k x ∧ v = S.R (A 52) k)) := by
  refine kMetE (by decide +kernel) (by simp [lg_sl, va_cat, cat_i, cat_r, cat_l]) (fun C he hl X E hm => ?_)
  have X : kX C RX2 cX2_letLease 5 ({ frames := 1, cells := 0, slots := 0, locals := 22 } : Room) := X
  subst he hl
  rw [show lv_args 0 [.ref (A 1), .int (nI k), va_rf c, .int x] = [(0, .ref (A 1)), (1, .int (nI k)), (2, va_rf c), (3, .int x)] from by simp [lv_args, va_cat, cat_i, cat_r, cat_l]]
  show kG C 5 S 0 0 0 [(0, .ref (A 1)), (1, .int (nI k)), (2, va_rf c), (3, .int x)] []
  have hz9 : kb (decide (0 ≤ nI k) && decide (nI k ≤ 2)) = 1 := by rcases (show k = 0 ∨ k = 1 ∨ k = 2 by omega) with rfl | rfl | rfl <;> rfl
  rcases hc with rfl | ⟨y, rfl, hy⟩
  · skip
    refine k_iload_n X (q := 1) dX2_letLease_0 rfl rfl ?_
    refine k_iconst X (v := 0) dX2_letLease_1 (by decide) ?_
    refine k_iconst X (v := 2) dX2_letLease_2 (by decide) ?_
    refine k_gotI X (vX2_90 X (S := S) (c_X11_isFrom C.l C.e0 S (nI k) 0 2 ) (As := [.int (nI k), .int 0, .int 2]) (rest := []) rfl rfl rfl rfl ⟨Nat.le_of_ble_eq_true rfl, Nat.le_of_ble_eq_true rfl⟩ (Nat.le_of_ble_eq_true rfl) ⟨Nat.le_of_ble_eq_true rfl, Nat.le_of_ble_eq_true rfl⟩ dX2_letLease_3) (fun v_3_2 S_3_3 h_3_0 => ?_)
    obtain ⟨rfl, ev_3_2⟩ := h_3_0
    refine k_if_ne (tgt := 11) X dX2_letLease_6 (by decide) (fun c_6 => ?_) (fun c_6 => ?_)
    · skip
      rw [ev_3_2] at c_6
      refine k_aload_n X (q := 0) dX2_letLease_11 rfl rfl ?_
      refine gX2_66s X (S := S) (st_1 hst).1 (st_1 hst).2 (sr_1_14 hst) dX2_letLease_12 ?_
      refine k_iload_n X (q := 1) dX2_letLease_15 rfl rfl ?_
      refine k_aald X (S := S) (st_52 hst).1 (by simp [(st_52 hst).2]) (show vp_in (nI k) (S.N (A 52)) from by rw [sn_52 hst]; exact vp_in_nI (by omega) (by omega)) dX2_letLease_16 (fun r_16_4 er_16_4 => ?_)
      refine k_astoreQ X [(4, va_rf r_16_4), (0, .ref (A 1)), (1, .int (nI k)), (2, .null), (3, .int x)] dX2_letLease_17 (by decide) rfl ?_
      refine k_aload_n X (q := 1) dX2_letLease_19 rfl rfl ?_
      refine gX2_66s X (S := S) (st_1 hst).1 (st_1 hst).2 (sr_1_14 hst) dX2_letLease_20 ?_
      refine k_iload_n X (q := 2) dX2_letLease_23 rfl rfl ?_
      refine k_aload_nQ X (r := none) (q := 3) dX2_letLease_24 rfl rfl ?_
      refine k_aastN X (S := S) (Or.inl (st_52 hst)) (show vp_in (nI k) (S.N (A 52)) from by rw [sn_52 hst]; exact vp_in_nI (by omega) (by omega)) dX2_letLease_25 ?_
      have hst2 : kSt A (S.uR (A 52) (nI k).toNatClampNeg none) := kSt.uRg hst (κ := 14) ⟨(st_52 hst).1, (st_52 hst).2⟩ (fun q hq z => stR_14 q hq z.1)
      refine k_aload_n X (q := 1) dX2_letLease_26 rfl rfl ?_
      refine gX2_70s X (S := (S.uR (A 52) (nI k).toNatClampNeg none)) (st_1 hst2).1 (st_1 hst2).2 (sr_1_15 hst2) dX2_letLease_27 ?_
      refine k_iload_n X (q := 2) dX2_letLease_30 rfl rfl ?_
      refine k_iload_n X (q := 4) dX2_letLease_31 rfl rfl ?_
      refine k_iast X (S := (S.uR (A 52) (nI k).toNatClampNeg none)) (st_40 hst2).1 (st_40 hst2).2 (show vp_in (nI k) (S.N (A 40)) from by rw [sn_40 hst]; exact vp_in_nI (by omega) (by omega)) dX2_letLease_32 ?_
      refine k_aloadQ X (q := 0) dX2_letLease_33 rfl ?_
      exact k_aret X E (r := r_16_4) (Or.inl ⟨_, rfl⟩) dX2_letLease_35 (Nat.le_of_ble_eq_true rfl) (Nat.le_of_ble_eq_true rfl) (⟨by rw [nI_clamp (by omega)], by rw [er_16_4, nI_clamp (by omega)]⟩)
    · skip
      rw [ev_3_2] at c_6
      simp [hz9] at c_6
  · skip
    refine k_iload_n X (q := 1) dX2_letLease_0 rfl rfl ?_
    refine k_iconst X (v := 0) dX2_letLease_1 (by decide) ?_
    refine k_iconst X (v := 2) dX2_letLease_2 (by decide) ?_
    refine k_gotI X (vX2_90 X (S := S) (c_X11_isFrom C.l C.e0 S (nI k) 0 2 ) (As := [.int (nI k), .int 0, .int 2]) (rest := []) rfl rfl rfl rfl ⟨Nat.le_of_ble_eq_true rfl, Nat.le_of_ble_eq_true rfl⟩ (Nat.le_of_ble_eq_true rfl) ⟨Nat.le_of_ble_eq_true rfl, Nat.le_of_ble_eq_true rfl⟩ dX2_letLease_3) (fun v_3_6 S_3_7 h_3_4 => ?_)
    obtain ⟨rfl, ev_3_6⟩ := h_3_4
    refine k_if_ne (tgt := 11) X dX2_letLease_6 (by decide) (fun c_6 => ?_) (fun c_6 => ?_)
    · skip
      rw [ev_3_6] at c_6
      refine k_aload_n X (q := 0) dX2_letLease_11 rfl rfl ?_
      refine gX2_66s X (S := S) (st_1 hst).1 (st_1 hst).2 (sr_1_14 hst) dX2_letLease_12 ?_
      refine k_iload_n X (q := 1) dX2_letLease_15 rfl rfl ?_
      refine k_aald X (S := S) (st_52 hst).1 (by simp [(st_52 hst).2]) (show vp_in (nI k) (S.N (A 52)) from by rw [sn_52 hst]; exact vp_in_nI (by omega) (by omega)) dX2_letLease_16 (fun r_16_8 er_16_8 => ?_)
      refine k_astoreQ X [(4, va_rf r_16_8), (0, .ref (A 1)), (1, .int (nI k)), (2, .ref y), (3, .int x)] dX2_letLease_17 (by decide) rfl ?_
      refine k_aload_n X (q := 1) dX2_letLease_19 rfl rfl ?_
      refine gX2_66s X (S := S) (st_1 hst).1 (st_1 hst).2 (sr_1_14 hst) dX2_letLease_20 ?_
      refine k_iload_n X (q := 2) dX2_letLease_23 rfl rfl ?_
      refine k_aload_n X (q := 3) dX2_letLease_24 rfl rfl ?_
      refine k_aastC X (S := S) (st_52 hst) hy (show vp_in (nI k) (S.N (A 52)) from by rw [sn_52 hst]; exact vp_in_nI (by omega) (by omega)) dX2_letLease_25 ?_
      have hst2 : kSt A (S.uR (A 52) (nI k).toNatClampNeg (some y)) := kSt.uRg hst (κ := 14) ⟨(st_52 hst).1, (st_52 hst).2⟩ (fun q hq z => stR_14 q hq z.1)
      refine k_aload_n X (q := 1) dX2_letLease_26 rfl rfl ?_
      refine gX2_70s X (S := (S.uR (A 52) (nI k).toNatClampNeg (some y))) (st_1 hst2).1 (st_1 hst2).2 (sr_1_15 hst2) dX2_letLease_27 ?_
      refine k_iload_n X (q := 2) dX2_letLease_30 rfl rfl ?_
      refine k_iload_n X (q := 4) dX2_letLease_31 rfl rfl ?_
      refine k_iast X (S := (S.uR (A 52) (nI k).toNatClampNeg (some y))) (st_40 hst2).1 (st_40 hst2).2 (show vp_in (nI k) (S.N (A 40)) from by rw [sn_40 hst]; exact vp_in_nI (by omega) (by omega)) dX2_letLease_32 ?_
      refine k_aloadQ X (q := 0) dX2_letLease_33 rfl ?_
      exact k_aret X E (r := r_16_8) (Or.inl ⟨_, rfl⟩) dX2_letLease_35 (Nat.le_of_ble_eq_true rfl) (Nat.le_of_ble_eq_true rfl) (⟨by rw [nI_clamp (by omega)], by rw [er_16_8, nI_clamp (by omega)]⟩)
    · skip
      rw [ev_3_6] at c_6
      simp [hz9] at c_6
set_option maxHeartbeats 1000000 in
set_option maxRecDepth 20000 in
theorem c_X2_freeLease (l : Launch) (e0 : Nat × Nat) (S : kS)  (A : Nat → Nat) (hst : kSt A S) (k : Nat) (hk : k < 3) : kM l e0 yX2_freeLease cX2_freeLease 2 none ({ frames := 2, cells := 0, slots := 0, locals := 46 } : Room) 0 0 [.ref (A 1), .int (nI k)] S (kQv (fun S9 => S9 = kfree S A k)) := by
  refine kMetE (by decide +kernel) (Nat.le_of_ble_eq_true rfl) (fun C he hl X E hm => ?_)
  have X : kX C RX2 cX2_freeLease 2 ({ frames := 2, cells := 0, slots := 0, locals := 46 } : Room) := X
  subst he hl
  show kG C 2 S 0 0 0 [(0, .ref (A 1)), (1, .int (nI k))] []
  refine k_aload_n X (q := 0) dX2_freeLease_0 rfl rfl ?_
  refine k_iload_n X (q := 1) dX2_freeLease_1 rfl rfl ?_
  refine k_null X dX2_freeLease_2 ?_
  refine k_iconst X (v := 0) dX2_freeLease_3 (by decide) ?_
  refine k_gotQ X (vX2_203 X (S := S) ⟨(st_1 hst).1, (st_1 hst).2⟩ (c_X2_letLease C.l C.e0 S none 0 A hst k hk (Or.inl rfl)) (As := [.int (nI k), .null, .int 0]) (rest := []) rfl rfl rfl rfl ⟨Nat.le_of_ble_eq_true rfl, Nat.le_of_ble_eq_true rfl⟩ (Nat.le_of_ble_eq_true rfl) ⟨Nat.le_of_ble_eq_true rfl, Nat.le_of_ble_eq_true rfl⟩ dX2_freeLease_4) (fun r_4_2 S_4_3 h_4_0 => ?_)
  obtain ⟨rfl, er_4_2⟩ := h_4_0
  refine k_pop X dX2_freeLease_7 (va_cat _) ?_
  exact k_vret X E dX2_freeLease_8 (Nat.le_of_ble_eq_true rfl) (Nat.le_of_ble_eq_true rfl) rfl
set_option maxHeartbeats 1000000 in
set_option maxRecDepth 20000 in
theorem c_X2_sendAway (l : Launch) (e0 : Nat × Nat) (S : kS) (x : Int32)  (A : Nat → Nat) (n : Nat) (cz : Nat → Nat) (i T G Z : Nat) (h : kI e0 A n cz T G Z S) (hi : i < n) : kM l e0 yX2_sendAway cX2_sendAway 4 none ({ frames := 3, cells := 0, slots := 0, locals := 67 } : Room) 0 0 [.ref (A 1), .ref (cz i), .int x] S (kQv (fun S9 => kSend A n cz i x S S9)) := by
  refine kMetE (by decide +kernel) (Nat.le_of_ble_eq_true rfl) (fun C he hl X E hm => ?_)
  have X : kX C RX2 cX2_sendAway 4 ({ frames := 3, cells := 0, slots := 0, locals := 67 } : Room) := X
  subst he hl
  show kG C 4 S 0 0 0 [(0, .ref (A 1)), (1, .ref (cz i)), (2, .int x)] []
  refine k_aload_n X (q := 1) dX2_sendAway_0 rfl rfl ?_
  refine k_iload_n X (q := 2) dX2_sendAway_1 rfl rfl ?_
  refine pX2_140 X (S := S) (h.at hi).1 (h.at hi).2 dX2_sendAway_2 ?_
  refine k_aload_n X (q := 0) dX2_sendAway_5 rfl rfl ?_
  refine k_aload_n X (q := 1) dX2_sendAway_6 rfl rfl ?_
  refine k_gotV X (vX2_171 X (S := (S.uI (cz i) 6 x)) ⟨(st_1 h.st).1, (st_1 h.st).2⟩ (c_X2_leaveCouncil C.l C.e0 (S.uI (cz i) 6 x) (cz i) A (kSt.uI h.st) ⟨(h.at hi).1, (h.at hi).2⟩) (As := [.ref (cz i)]) (rest := []) rfl rfl rfl rfl ⟨Nat.le_of_ble_eq_true rfl, Nat.le_of_ble_eq_true rfl⟩ (Nat.le_of_ble_eq_true rfl) ⟨Nat.le_of_ble_eq_true rfl, Nat.le_of_ble_eq_true rfl⟩ dX2_sendAway_7) (fun S_7_2 h_7_0 => ?_)
  subst h_7_0
  refine k_iconst X (v := 0) dX2_sendAway_10 (by decide) ?_
  refine k_istore_n X [(3, .int 0), (0, .ref (A 1)), (1, .ref (cz i)), (2, .int x)] dX2_sendAway_11 rfl (by decide) rfl ?_
  have L_12 : ∀ (N : Nat) (k : Nat) (x1 : Int32) (Si : kS), 7 - k = N → x1 = nI k → (k ≤ 7 ∧ kSd A n cz i x S k 0 Si) → kG C 4 Si 0 0 12 [(3, .int x1), (0, .ref (A 1)), (1, .ref (cz i)), (2, .int x)] [] := by
    intro N
    induction N using Nat.strongRecOn with
    | _ N ih =>
    intro k x1 Si hMs h12_0 h12_1
    subst h12_0
    obtain ⟨hk7, hd⟩ := h12_1
    have hstI : kSt A Si := h.st.go hd.1 (fun ρ j z y => by unfold wCit at z; unfold pSM at y; omega)
    have hOI : kLs C.e0 Si (A 11) 8 7 (kof A) := h.hO.go hd.1 (by rw [so_11 h.st]; intro j; unfold wCit; omega)
    refine k_iload_n X (q := 0) dX2_sendAway_12 rfl rfl ?_
    refine k_aload_n X (q := 1) dX2_sendAway_13 rfl rfl ?_
    refine gX2_61s X (S := Si) (st_1 hstI).1 (st_1 hstI).2 (sr_1_13 hstI) dX2_sendAway_14 ?_
    refine k_gotI X (vX2_86 X (S := Si) ⟨(st_11 hstI).1, (st_11 hstI).2⟩ (c_Jx4a65c_size_8abf5 C.l C.e0 Si (A 11) (st_11 hstI)) (As := []) (rest := [.int (nI k)]) rfl rfl rfl rfl ⟨Nat.le_of_ble_eq_true rfl, Nat.le_of_ble_eq_true rfl⟩ (Nat.le_of_ble_eq_true rfl) ⟨Nat.le_of_ble_eq_true rfl, Nat.le_of_ble_eq_true rfl⟩ dX2_sendAway_17) (fun v_17_4 S_17_5 h_17_2 => ?_)
    obtain ⟨rfl, ev_17_4⟩ := h_17_2
    have hz_v_17_4 : nI 7 = v_17_4 := by rw [ev_17_4]; exact (hOI).2.1.symm
    subst hz_v_17_4
    refine k_icmp_ge (tgt := 62) X dX2_sendAway_20 (by decide) (fun c_20 => ?_) (fun c_20 => ?_)
    · skip
      have hk77 : 7 = k := by have := ge_of_le (m := 7) c_20 (by omega); omega
      subst hk77
      refine k_iconst X (v := 0) dX2_sendAway_62 (by decide) ?_
      refine k_istore_n X [(3, .int 0), (0, .ref (A 1)), (1, .ref (cz i)), (2, .int x)] dX2_sendAway_63 rfl (by decide) rfl ?_
      have L_64 : ∀ (N : Nat) (k : Nat) (x1 : Int32) (Si : kS), 3 - k = N → x1 = nI k → (k ≤ 3 ∧ kSd A n cz i x S 7 k Si) → kG C 4 Si 0 0 64 [(3, .int x1), (0, .ref (A 1)), (1, .ref (cz i)), (2, .int x)] [] := by
        intro N
        induction N using Nat.strongRecOn with
        | _ N ih64 =>
        intro k x1 Si hMs h64_0 h64_1
        subst h64_0
        obtain ⟨hl3, hd⟩ := h64_1
        have hstI : kSt A Si := h.st.go hd.1 (fun ρ j z y => by unfold wCit at z; unfold pSM at y; omega)
        have hOI : kLs C.e0 Si (A 11) 8 7 (kof A) := h.hO.go hd.1 (by rw [so_11 h.st]; intro j; unfold wCit; omega)
        refine k_iload_n X (q := 0) dX2_sendAway_64 rfl rfl ?_
        refine k_iconst X (v := 3) dX2_sendAway_65 (by decide) ?_
        refine k_icmp_ge (tgt := 90) X dX2_sendAway_66 (by decide) (fun c_66 => ?_) (fun c_66 => ?_)
        · skip
          have hk33 : 3 = k := by have := ge_of_le (m := 3) c_66 (by omega); omega
          subst hk33
          refine k_aload_n X (q := 2) dX2_sendAway_90 rfl rfl ?_
          refine k_iconst X (v := 0) dX2_sendAway_91 (by decide) ?_
          refine pX2_181 X (S := Si) (hd.1.at (h.at hi)).1 (hd.1.at (h.at hi)).2 dX2_sendAway_92 ?_
          refine k_aload_n X (q := 2) dX2_sendAway_95 rfl rfl ?_
          refine k_iconst X (v := 0) dX2_sendAway_96 (by decide) ?_
          refine pX2_184 X (S := (Si.uI (cz i) 12 0)) (hd.1.at (h.at hi)).1 (hd.1.at (h.at hi)).2 (Or.inl rfl) dX2_sendAway_97 ?_
          refine k_aload_n X (q := 2) dX2_sendAway_100 rfl rfl ?_
          refine k_iconst X (v := 0) dX2_sendAway_101 (by decide) ?_
          refine pX2_168 X (S := ((Si.uI (cz i) 12 0).uI (cz i) 13 0)) (hd.1.at (h.at hi)).1 (hd.1.at (h.at hi)).2 dX2_sendAway_102 ?_
          refine k_aload_n X (q := 2) dX2_sendAway_105 rfl rfl ?_
          refine k_iconst X (v := (-1)) dX2_sendAway_106 (by decide) ?_
          refine pX2_187 X (S := (((Si.uI (cz i) 12 0).uI (cz i) 13 0).uI (cz i) 5 0)) (hd.1.at (h.at hi)).1 (hd.1.at (h.at hi)).2 dX2_sendAway_107 ?_
          exact k_vret X E dX2_sendAway_110 (Nat.le_of_ble_eq_true rfl) (Nat.le_of_ble_eq_true rfl) (hd.fin h hi)
        · skip
          have hlt : k < 3 := lt_of_nle (m := 3) c_66 (by omega)
          refine k_aload_n X (q := 1) dX2_sendAway_69 rfl rfl ?_
          refine gX2_66s X (S := Si) (st_1 hstI).1 (st_1 hstI).2 (sr_1_14 hstI) dX2_sendAway_70 ?_
          refine k_iload_n X (q := 0) dX2_sendAway_73 rfl rfl ?_
          refine k_aald X (S := Si) (st_52 hstI).1 (by simp [(st_52 hstI).2]) (show vp_in (nI k) _ from by rw [sn_52 hstI]; exact vp_in_nI (by omega) (by omega)) dX2_sendAway_74 (fun r_74_6 er_74_6 => ?_)
          refine k_aload_n X (q := 2) dX2_sendAway_75 rfl rfl ?_
          refine k_acmp_ne (rx := r_74_6) (ry := some (cz i)) (tgt := 84) X dX2_sendAway_76 (by decide) (fun c_76 => ?_) (fun c_76 => ?_)
          · skip
            have hms9 : ¬ Si.R (A 52) k = some (cz i) := by rw [er_74_6, nI_clamp (by omega)] at c_76; exact c_76
            obtain ⟨v_84_7, ev_84_7⟩ : ∃ z : Int32, z = (nI k) + 1 := ⟨_, rfl⟩
            refine k_iinc X (q := 0) (v := v_84_7) [(3, .int v_84_7), (0, .ref (A 1)), (1, .ref (cz i)), (2, .int x)] dX2_sendAway_84 rfl (by rw [ev_84_7]; rfl) (by decide) rfl ?_
            refine k_goto (tgt := 64) X dX2_sendAway_87 (by decide) ?_
            refine k_lv [0, 1, 2, 3] _ rfl ?_
            exact ih64 (3 - (k + 1)) (by omega) (k + 1) _ _ rfl (by rw [ev_84_7, nI_1]) ⟨by omega, hd.lmiss hlt hms9⟩
          · skip
            refine k_aload_n X (q := 1) dX2_sendAway_79 rfl rfl ?_
            refine k_iload_n X (q := 0) dX2_sendAway_80 rfl rfl ?_
            refine k_gotV X (vX2_178 X (S := Si) ⟨(st_1 hstI).1, (st_1 hstI).2⟩ (c_X2_freeLease C.l C.e0 Si  A hstI k (by omega)) (As := [.int (nI k)]) (rest := []) rfl rfl rfl rfl ⟨Nat.le_of_ble_eq_true rfl, Nat.le_of_ble_eq_true rfl⟩ (Nat.le_of_ble_eq_true rfl) ⟨Nat.le_of_ble_eq_true rfl, Nat.le_of_ble_eq_true rfl⟩ dX2_sendAway_81) (fun S_81_9 h_81_7 => ?_)
            subst h_81_7
            obtain ⟨v_84_10, ev_84_10⟩ : ∃ z : Int32, z = (nI k) + 1 := ⟨_, rfl⟩
            refine k_iinc X (q := 0) (v := v_84_10) [(3, .int v_84_10), (0, .ref (A 1)), (1, .ref (cz i)), (2, .int x)] dX2_sendAway_84 rfl (by rw [ev_84_10]; rfl) (by decide) rfl ?_
            refine k_goto (tgt := 64) X dX2_sendAway_87 (by decide) ?_
            refine k_lv [0, 1, 2, 3] _ rfl ?_
            exact ih64 (3 - (k + 1)) (by omega) (k + 1) _ _ rfl (by rw [ev_84_10, nI_1]) ⟨by omega, hd.lhit h hi hlt⟩
      refine k_lv [0, 1, 2, 3] _ rfl ?_
      exact L_64 _ 0 0 _ rfl nI_0.symm ⟨by omega, hd⟩
    · skip
      have hlt : k < 7 := lt_of_nle (m := 7) c_20 (by omega)
      refine k_aload_n X (q := 1) dX2_sendAway_23 rfl rfl ?_
      refine gX2_61s X (S := Si) (st_1 hstI).1 (st_1 hstI).2 (sr_1_13 hstI) dX2_sendAway_24 ?_
      refine k_iload_n X (q := 0) dX2_sendAway_27 rfl rfl ?_
      refine k_gotQ X (vX2_94 X (S := Si) ⟨(st_11 hstI).1, (st_11 hstI).2⟩ (c_Jx4a65c_get_915e3 C.l C.e0 Si (A 11) 8 7 k (kof A) (hOI) hlt) (As := [.int (nI k)]) (rest := []) rfl rfl rfl rfl ⟨Nat.le_of_ble_eq_true rfl, Nat.le_of_ble_eq_true rfl⟩ (Nat.le_of_ble_eq_true rfl) ⟨Nat.le_of_ble_eq_true rfl, Nat.le_of_ble_eq_true rfl⟩ dX2_sendAway_28) (fun r_28_12 S_28_13 h_28_10 => ?_)
      obtain ⟨rfl, er_28_12⟩ := h_28_10
      subst er_28_12
      refine tX2_77 X (S := Si) ⟨(kLs.el (hOI) hlt).1, (kLs.el (hOI) hlt).2⟩ dX2_sendAway_31 ?_
      refine gX2_175 X (S := Si) (kLs.el (hOI) hlt).1 (kLs.el (hOI) hlt).2 dX2_sendAway_34 (fun r_34_14 er_34_14 => ?_)
      refine k_aload_n X (q := 2) dX2_sendAway_37 rfl rfl ?_
      refine k_acmp_ne (rx := r_34_14) (ry := some (cz i)) (tgt := 56) X dX2_sendAway_38 (by decide) (fun c_38 => ?_) (fun c_38 => ?_)
      · skip
        have hms9 : ¬ Si.R (kof A k) 1 = some (cz i) := by rw [← er_34_14]; exact c_38
        obtain ⟨v_56_15, ev_56_15⟩ : ∃ z : Int32, z = (nI k) + 1 := ⟨_, rfl⟩
        refine k_iinc X (q := 0) (v := v_56_15) [(3, .int v_56_15), (0, .ref (A 1)), (1, .ref (cz i)), (2, .int x)] dX2_sendAway_56 rfl (by rw [ev_56_15]; rfl) (by decide) rfl ?_
        refine k_goto (tgt := 12) X dX2_sendAway_59 (by decide) ?_
        refine k_lv [0, 1, 2, 3] _ rfl ?_
        exact ih (7 - (k + 1)) (by omega) (k + 1) _ _ rfl (by rw [ev_56_15, nI_1]) ⟨by omega, hd.miss hlt hms9⟩
      · skip
        refine k_aload_n X (q := 1) dX2_sendAway_41 rfl rfl ?_
        refine gX2_61s X (S := Si) (st_1 hstI).1 (st_1 hstI).2 (sr_1_13 hstI) dX2_sendAway_42 ?_
        refine k_iload_n X (q := 0) dX2_sendAway_45 rfl rfl ?_
        refine k_gotQ X (vX2_94 X (S := Si) ⟨(st_11 hstI).1, (st_11 hstI).2⟩ (c_Jx4a65c_get_915e3 C.l C.e0 Si (A 11) 8 7 k (kof A) (hOI) hlt) (As := [.int (nI k)]) (rest := []) rfl rfl rfl rfl ⟨Nat.le_of_ble_eq_true rfl, Nat.le_of_ble_eq_true rfl⟩ (Nat.le_of_ble_eq_true rfl) ⟨Nat.le_of_ble_eq_true rfl, Nat.le_of_ble_eq_true rfl⟩ dX2_sendAway_46) (fun r_46_17 S_46_18 h_46_15 => ?_)
        obtain ⟨rfl, er_46_17⟩ := h_46_15
        subst er_46_17
        refine tX2_77 X (S := Si) ⟨(kLs.el (hOI) hlt).1, (kLs.el (hOI) hlt).2⟩ dX2_sendAway_49 ?_
        refine k_null X dX2_sendAway_52 ?_
        refine pX2_175 X (S := Si) (kLs.el (hOI) hlt).1 (kLs.el (hOI) hlt).2 (r := none) dX2_sendAway_53 ?_
        obtain ⟨v_56_19, ev_56_19⟩ : ∃ z : Int32, z = (nI k) + 1 := ⟨_, rfl⟩
        refine k_iinc X (q := 0) (v := v_56_19) [(3, .int v_56_19), (0, .ref (A 1)), (1, .ref (cz i)), (2, .int x)] dX2_sendAway_56 rfl (by rw [ev_56_19]; rfl) (by decide) rfl ?_
        refine k_goto (tgt := 12) X dX2_sendAway_59 (by decide) ?_
        refine k_lv [0, 1, 2, 3] _ rfl ?_
        exact ih (7 - (k + 1)) (by omega) (k + 1) _ _ rfl (by rw [ev_56_19, nI_1]) ⟨by omega, hd.hit h hlt⟩
  refine k_lv [0, 1, 2, 3] _ rfl ?_
  exact L_12 _ 0 0 _ rfl nI_0.symm ⟨by omega, h.sd0 hi⟩
set_option maxHeartbeats 1000000 in
set_option maxRecDepth 20000 in
theorem c_X2_numbered (l : Launch) (e0 : Nat × Nat) (S : kS) (x : Int32) (A : Nat → Nat) (n : Nat) (cz : Nat → Nat) (hst : kSt A S) (hC : kLs e0 S (A 10) 1 n cz) (hn : n ≤ 40) (hn1 : 1 ≤ n) : kM l e0 yX2_numbered cX2_numbered 2 (Option.some (Jvm.ClassFile.FieldType.object "Kleroterion$Citizen")) ({ frames := 3, cells := 0, slots := 0, locals := 64 } : Room) 0 0 [.ref (A 1), .int x] S (kQq (fun v S9 => S = S9 ∧ (∀ j, j < n → x = nI j → v = some (cz j)) ∧ (v = none ∨ ∃ j, j < n ∧ x = nI j ∧ v = some (cz j)))) := by
  refine kMetE (by decide +kernel) (Nat.le_of_ble_eq_true rfl) (fun C he hl X E hm => ?_)
  have X : kX C RX2 cX2_numbered 2 ({ frames := 3, cells := 0, slots := 0, locals := 64 } : Room) := X
  subst he hl
  show kG C 2 S 0 0 0 [(0, .ref (A 1)), (1, .int x)] []
  refine k_iload_n X (q := 1) dX2_numbered_0 rfl rfl ?_
  refine k_iconst X (v := 0) dX2_numbered_1 (by decide) ?_
  refine k_aload_n X (q := 0) dX2_numbered_2 rfl rfl ?_
  refine gX2_57s X (S := S) (st_1 hst).1 (st_1 hst).2 (sr_1_12 hst) dX2_numbered_3 ?_
  refine k_gotI X (vX2_86 X (S := S) ⟨(st_10 hst).1, (st_10 hst).2⟩ (c_Jx4a65c_size_8abf5 C.l C.e0 S (A 10) (st_10 hst)) (As := []) (rest := [.int 0, .int x]) rfl rfl rfl rfl ⟨Nat.le_of_ble_eq_true rfl, Nat.le_of_ble_eq_true rfl⟩ (Nat.le_of_ble_eq_true rfl) ⟨Nat.le_of_ble_eq_true rfl, Nat.le_of_ble_eq_true rfl⟩ dX2_numbered_6) (fun v_6_2 S_6_3 h_6_0 => ?_)
  obtain ⟨rfl, ev_6_2⟩ := h_6_0
  have hz_v_6_2 : nI n = v_6_2 := by rw [ev_6_2]; exact (hC).2.1.symm
  subst hz_v_6_2
  refine k_iconst X (v := 1) dX2_numbered_9 (by decide) ?_
  refine k_isub X dX2_numbered_10 (fun v_10_4 ev_10_4 => ?_)
  refine k_gotI X (vX2_90 X (S := S) (c_X11_isFrom C.l C.e0 S x 0 v_10_4 ) (As := [.int x, .int 0, .int v_10_4]) (rest := []) rfl rfl rfl rfl ⟨Nat.le_of_ble_eq_true rfl, Nat.le_of_ble_eq_true rfl⟩ (Nat.le_of_ble_eq_true rfl) ⟨Nat.le_of_ble_eq_true rfl, Nat.le_of_ble_eq_true rfl⟩ dX2_numbered_11) (fun v_11_6 S_11_7 h_11_4 => ?_)
  obtain ⟨rfl, ev_11_6⟩ := h_11_4
  refine k_if_eq (tgt := 31) X dX2_numbered_14 (by decide) (fun c_14 => ?_) (fun c_14 => ?_)
  · skip
    rw [ev_11_6] at c_14
    have hno : ∀ j, j < n → ¬ x = nI j := fun j hj e => by
      have h5 : kb (decide (0 ≤ x) && decide (x ≤ v_10_4)) = 0 := c_14
      have g1 : (0 : Int32) ≤ nI j := nI_le (a := 0) (by omega) (by omega)
      have g2 : nI j ≤ nI (n - 1) := nI_le (by omega) (by omega)
      rw [ev_10_4, show (1 : Int32) = nI 1 from rfl, pk_sub (by omega), e] at h5
      simp [kb, g1, g2] at h5
    refine k_null X dX2_numbered_31 ?_
    exact k_aret X E (r := none) (Or.inl ⟨_, rfl⟩) dX2_numbered_32 (Nat.le_of_ble_eq_true rfl) (Nat.le_of_ble_eq_true rfl) (⟨rfl, fun j hj e => absurd e (hno j hj), Or.inl rfl⟩)
  · skip
    rw [ev_11_6] at c_14
    obtain ⟨j9, hj9, hx9⟩ : ∃ j, j < n ∧ nI j = x := by
      have h5 : ¬ kb (decide (0 ≤ x) && decide (x ≤ v_10_4)) = 0 := c_14
      simp only [kb] at h5
      by_cases g1 : 0 ≤ x
      · by_cases g2 : x ≤ v_10_4
        · rw [ev_10_4, show (1 : Int32) = nI 1 from rfl, pk_sub (by omega)] at g2
          obtain ⟨t, h6, h7⟩ := nI_of2 (n := n - 1) (nI_toInt (by omega)) (Int32.not_lt.mpr g1) g2
          exact ⟨t, by omega, h7.symm⟩
        · simp [g1, g2] at h5
      · simp [g1] at h5
    subst hx9
    refine k_aload_n X (q := 0) dX2_numbered_17 rfl rfl ?_
    refine gX2_57s X (S := S) (st_1 hst).1 (st_1 hst).2 (sr_1_12 hst) dX2_numbered_18 ?_
    refine k_iload_n X (q := 1) dX2_numbered_21 rfl rfl ?_
    refine k_gotQ X (vX2_94 X (S := S) ⟨(st_10 hst).1, (st_10 hst).2⟩ (c_Jx4a65c_get_915e3 C.l C.e0 S (A 10) 1 n j9 cz (hC) hj9) (As := [.int (nI j9)]) (rest := []) rfl rfl rfl rfl ⟨Nat.le_of_ble_eq_true rfl, Nat.le_of_ble_eq_true rfl⟩ (Nat.le_of_ble_eq_true rfl) ⟨Nat.le_of_ble_eq_true rfl, Nat.le_of_ble_eq_true rfl⟩ dX2_numbered_22) (fun r_22_9 S_22_10 h_22_7 => ?_)
    obtain ⟨rfl, er_22_9⟩ := h_22_7
    subst er_22_9
    refine tX2_64 X (S := S) ⟨(kLs.el (hC) hj9).1, (kLs.el (hC) hj9).2⟩ dX2_numbered_25 ?_
    refine k_goto (tgt := 32) X dX2_numbered_28 (by decide) ?_
    exact k_aret X E (r := (some (cz j9))) (Or.inl ⟨_, rfl⟩) dX2_numbered_32 (Nat.le_of_ble_eq_true rfl) (Nat.le_of_ble_eq_true rfl) (⟨rfl, fun j hj e => by rw [nI_inj (by omega) (by omega) e], Or.inr ⟨j9, hj9, rfl, rfl⟩⟩)
