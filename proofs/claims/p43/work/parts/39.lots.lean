theorem kLc.uI {e0 : Nat × Nat} {S : kS} {a κ m c b j κb : Nat} {xs : Nat → Nat} {v : Int32} (h : kLc e0 S a κ m xs c) (hb : S.at b κb) (hk : ¬ κb = 12) : kLc e0 (S.uI b j v) a κ m xs c := by
  obtain ⟨h1, h2, h3⟩ := h
  exact ⟨h1, by rw [uI_I, if_neg (fun z => h1.ne hb (fun e => hk e.symm) z.1)]; exact h2, h3⟩
theorem kLs.uI {e0 : Nat × Nat} {S : kS} {a κ m b j κb : Nat} {xs : Nat → Nat} {v : Int32} (h : kLs e0 S a κ m xs) (hb : S.at b κb) (hk : ¬ κb = 12) : kLs e0 (S.uI b j v) a κ m xs := by
  obtain ⟨c, hc⟩ := h.c
  exact (hc.uI hb hk).s
theorem kFr.trX {S S1 S2 : kS} {P P2 : Nat → Prop} (h : kFr S S1 P) (h2 : kFr S1 S2 P2) (hp : ∀ z, z ∈ S.L → P2 z → P z) : kFr S S2 P := ⟨fun b hb => by
  obtain ⟨a1, a2, a3, a4⟩ := h.1 b hb
  obtain ⟨b1, b2, b3, b4⟩ := h2.1 b a1
  exact ⟨b1, b2.trans a2, b3.trans a3, b4.trans a4⟩, fun b hb hn => by
    have hn2 : ¬ P2 b := fun z => hn (hp b hb z)
    exact ⟨fun j => ((h2.2 b (h.1 b hb).1 hn2).1 j).trans ((h.2 b hb hn).1 j), fun j => ((h2.2 b (h.1 b hb).1 hn2).2 j).trans ((h.2 b hb hn).2 j)⟩⟩
theorem kdraw_fr {S : kS} {A : Nat → Nat} (hst : kSt A S) : kFr S (kdraw S A) (fun z => S.O z = 7) := kFr.uI (a := A 7) (kFr.uI (a := A 7) (kFr.rf S _) (so_7 hst)) (so_7 hst)
theorem kdraw_lc {e0 : Nat × Nat} {S : kS} {A : Nat → Nat} {a κ m c : Nat} {xs : Nat → Nat} (hst : kSt A S) (h : kLc e0 S a κ m xs c) : kLc e0 (kdraw S A) a κ m xs c := (h.uI (st_7 hst) (by decide)).uI (b := A 7) (κb := 6) ⟨(st_7 hst).1, (st_7 hst).2⟩ (by decide)
theorem kdraw_ls {e0 : Nat × Nat} {S : kS} {A : Nat → Nat} {a κ m : Nat} {xs : Nat → Nat} (hst : kSt A S) (h : kLs e0 S a κ m xs) : kLs e0 (kdraw S A) a κ m xs := by
  obtain ⟨c, hc⟩ := h.c
  exact (kdraw_lc hst hc).s
theorem kluck_nI {S : kS} {A : Nat → Nat} (h : ∃ p, p < 64 ∧ S.I (A 7) 0 = nI p) : ∃ p, p < 64 ∧ kluck S A = nI p := by
  obtain ⟨p, hp, e⟩ := h
  refine ⟨(13 * p + 5) % 64, by omega, ?_⟩
  unfold kluck krem
  rw [e, show (13 : Int32) = nI 13 from rfl, show (5 : Int32) = nI 5 from rfl, show (64 : Int32) = nI 64 from rfl, pk_mul, nI_add]
  exact pk_rem (by omega) (by omega) (by omega)
theorem kdraw_lu {S : kS} {A : Nat → Nat} (h : ∃ p, p < 64 ∧ S.I (A 7) 0 = nI p) : ∃ p, p < 64 ∧ (kdraw S A).I (A 7) 0 = nI p := by
  obtain ⟨p, hp, e⟩ := kluck_nI h
  refine ⟨p, hp, ?_⟩
  unfold kdraw
  rw [uI_I, if_neg (by omega), uI_I, if_pos ⟨rfl, rfl⟩, e]
theorem kdraw_dr {S : kS} {A : Nat → Nat} : (kdraw S A).I (A 7) 1 = S.I (A 7) 1 + 1 := by
  unfold kdraw
  rw [uI_I, if_pos ⟨rfl, rfl⟩]
theorem kplace {S : kS} {A : Nat → Nat} {m : Nat} (h : ∃ p, p < 64 ∧ S.I (A 7) 0 = nI p) (hm : m ≤ 1000) : ∃ q, q ≤ m ∧ (0 < m → q < m) ∧ kluck S A * nI m / 64 = nI q := by
  obtain ⟨p, hp, e⟩ := kluck_nI h
  have hb : p * m ≤ 63 * m := Nat.mul_le_mul_right m (by omega)
  refine ⟨p * m / 64, by omega, fun h0 => by omega, ?_⟩
  rw [e, pk_mul, show (64 : Int32) = nI 64 from rfl]
  exact pk_div (by omega) (by omega) (by omega)
set_option maxHeartbeats 1000000 in
set_option maxRecDepth 20000 in
theorem c_X6_drawFrom (l : Launch) (e0 : Nat × Nat) (S : kS) (a : Nat) (A : Nat → Nat) (hst : kSt A S) (m c ra : Nat) (xs : Nat → Nat) (hL : kLc e0 S a 1 m xs c) (hm9 : m ≤ 60) (hra : S.O a = ra) : kM l e0 yX6_drawFrom cX6_drawFrom 3 (Option.some (Jvm.ClassFile.FieldType.object "Kleroterion$Citizen")) ({ frames := 3, cells := 0, slots := 0, locals := 106 } : Room) 0 0 [.ref (A 7), .ref a] S (kQq (fun v S9 => (m = 0 ∧ v = none ∧ S9 = S) ∨ (v = none ∧ S9 = kdraw S A) ∨ ∃ t, t < m ∧ v = some (xs t) ∧ kFr (kdraw S A) S9 (kRo S ra) ∧ kLc e0 S9 a 1 (m - 1) (kxr xs t) c)) := by
  refine kMetE (by decide +kernel) (Nat.le_of_ble_eq_true rfl) (fun C he hl X E hm => ?_)
  have X : kX C RX6 cX6_drawFrom 3 ({ frames := 3, cells := 0, slots := 0, locals := 106 } : Room) := X
  subst he hl
  show kG C 3 S 0 0 0 [(0, .ref (A 7)), (1, .ref a)] []
  refine k_aload_n X (q := 1) dX6_drawFrom_0 rfl rfl ?_
  refine k_gotI X (vX6_16 X (S := S) ⟨hL.1.1, hL.1.2⟩ (c_Jx4a65c_isEmpty_aae02 C.l C.e0 S a hL.1) (As := []) (rest := []) rfl rfl rfl rfl ⟨Nat.le_of_ble_eq_true rfl, Nat.le_of_ble_eq_true rfl⟩ (Nat.le_of_ble_eq_true rfl) ⟨Nat.le_of_ble_eq_true rfl, Nat.le_of_ble_eq_true rfl⟩ dX6_drawFrom_1) (fun v_1_2 S_1_3 h_1_0 => ?_)
  obtain ⟨rfl, ev_1_2⟩ := h_1_0
  refine k_if_eq (tgt := 9) X dX6_drawFrom_4 (by decide) (fun c_4 => ?_) (fun c_4 => ?_)
  · skip
    rw [ev_1_2] at c_4
    have hm1 : 0 < m := by
      rcases Nat.eq_zero_or_pos m with g | g
      · have h5 := hL.2.1
        rw [g, nI_0] at h5
        simp [kb, h5] at c_4
      · exact g
    refine k_aload_n X (q := 0) dX6_drawFrom_9 rfl rfl ?_
    refine k_aload_n X (q := 1) dX6_drawFrom_10 rfl rfl ?_
    refine k_gotI X (vX6_22 X (S := S) ⟨hL.1.1, hL.1.2⟩ (c_Jx4a65c_size_8abf5 C.l C.e0 S a hL.1) (As := []) (rest := [.ref (A 7)]) rfl rfl rfl rfl ⟨Nat.le_of_ble_eq_true rfl, Nat.le_of_ble_eq_true rfl⟩ (Nat.le_of_ble_eq_true rfl) ⟨Nat.le_of_ble_eq_true rfl, Nat.le_of_ble_eq_true rfl⟩ dX6_drawFrom_11) (fun v_11_5 S_11_6 h_11_3 => ?_)
    obtain ⟨rfl, ev_11_5⟩ := h_11_3
    have hz_v_11_5 : nI m = v_11_5 := by rw [ev_11_5]; exact (hL.s).2.1.symm
    subst hz_v_11_5
    refine k_gotI X (vX6_26 X (S := S) ⟨(st_7 hst).1, (st_7 hst).2⟩ (c_X6_drawOneOf C.l C.e0 S (nI m) A hst ) (As := [.int (nI m)]) (rest := []) rfl rfl rfl rfl ⟨Nat.le_of_ble_eq_true rfl, Nat.le_of_ble_eq_true rfl⟩ (Nat.le_of_ble_eq_true rfl) ⟨Nat.le_of_ble_eq_true rfl, Nat.le_of_ble_eq_true rfl⟩ dX6_drawFrom_14) (fun v_14_8 S_14_9 h_14_6 => ?_)
    obtain ⟨rfl, ev_14_8⟩ := h_14_6
    have hLi := kdraw_lc (A := A) hst hL
    have haO : (kdraw S A).O a = ra := hra
    refine k_istore_n X [(2, .int v_14_8), (0, .ref (A 7)), (1, .ref a)] dX6_drawFrom_17 rfl (by decide) rfl ?_
    refine k_iload_n X (q := 0) dX6_drawFrom_18 rfl rfl ?_
    refine k_iconst X (v := 0) dX6_drawFrom_19 (by decide) ?_
    refine k_aload_n X (q := 2) dX6_drawFrom_20 rfl rfl ?_
    refine k_gotI X (vX6_22 X (S := (kdraw S A)) ⟨hLi.1.1, hLi.1.2⟩ (c_Jx4a65c_size_8abf5 C.l C.e0 (kdraw S A) a hLi.1) (As := []) (rest := [.int 0, .int v_14_8]) rfl rfl rfl rfl ⟨Nat.le_of_ble_eq_true rfl, Nat.le_of_ble_eq_true rfl⟩ (Nat.le_of_ble_eq_true rfl) ⟨Nat.le_of_ble_eq_true rfl, Nat.le_of_ble_eq_true rfl⟩ dX6_drawFrom_21) (fun v_21_11 S_21_12 h_21_9 => ?_)
    obtain ⟨rfl, ev_21_11⟩ := h_21_9
    have hz_v_21_11 : nI m = v_21_11 := by rw [ev_21_11]; exact (hLi.s).2.1.symm
    subst hz_v_21_11
    refine k_iconst X (v := 1) dX6_drawFrom_24 (by decide) ?_
    refine k_isub X dX6_drawFrom_25 (fun v_25_13 ev_25_13 => ?_)
    refine k_gotI X (vX6_30 X (S := (kdraw S A)) (c_X11_isFrom C.l C.e0 (kdraw S A) v_14_8 0 v_25_13 ) (As := [.int v_14_8, .int 0, .int v_25_13]) (rest := []) rfl rfl rfl rfl ⟨Nat.le_of_ble_eq_true rfl, Nat.le_of_ble_eq_true rfl⟩ (Nat.le_of_ble_eq_true rfl) ⟨Nat.le_of_ble_eq_true rfl, Nat.le_of_ble_eq_true rfl⟩ dX6_drawFrom_26) (fun v_26_15 S_26_16 h_26_13 => ?_)
    obtain ⟨rfl, ev_26_15⟩ := h_26_13
    refine k_if_eq (tgt := 43) X dX6_drawFrom_29 (by decide) (fun c_29 => ?_) (fun c_29 => ?_)
    · skip
      rw [ev_26_15] at c_29
      refine k_null X dX6_drawFrom_43 ?_
      exact k_aret X E (r := none) (Or.inl ⟨_, rfl⟩) dX6_drawFrom_44 (Nat.le_of_ble_eq_true rfl) (Nat.le_of_ble_eq_true rfl) (Or.inr (Or.inl ⟨rfl, rfl⟩))
    · skip
      rw [ev_26_15] at c_29
      obtain ⟨t, htm, htv⟩ : ∃ t, t < m ∧ v_14_8 = nI t := by
        have h5 : ¬ kb (decide (0 ≤ v_14_8) && decide (v_14_8 ≤ v_25_13)) = 0 := c_29
        simp only [kb] at h5
        by_cases g1 : 0 ≤ v_14_8
        · by_cases g2 : v_14_8 ≤ v_25_13
          · rw [ev_25_13, show (1 : Int32) = nI 1 from rfl, pk_sub (by omega)] at g2
            obtain ⟨t, h6, h7⟩ := nI_of2 (n := m - 1) (nI_toInt (by omega)) (Int32.not_lt.mpr g1) g2
            exact ⟨t, by omega, h7⟩
          · simp [g1, g2] at h5
        · simp [g1] at h5
      have htv2 : nI t = v_14_8 := htv.symm
      subst htv2
      refine k_aload_n X (q := 2) dX6_drawFrom_32 rfl rfl ?_
      refine k_iload_n X (q := 0) dX6_drawFrom_33 rfl rfl ?_
      refine k_gotQ X (vX6_36 X (S := (kdraw S A)) ⟨hLi.1.1, hLi.1.2⟩ (c_Jx4a65c_remove_915e3 C.l C.e0 (kdraw S A) a 1 m c t xs kEl_1 hLi htm (by omega)) (As := [.int (nI t)]) (rest := []) rfl rfl rfl rfl ⟨Nat.le_of_ble_eq_true rfl, Nat.le_of_ble_eq_true rfl⟩ (Nat.le_of_ble_eq_true rfl) ⟨Nat.le_of_ble_eq_true rfl, Nat.le_of_ble_eq_true rfl⟩ dX6_drawFrom_34) (fun r_34_18 S_34_19 h_34_16 => ?_)
      obtain ⟨hvr, hfr, hls⟩ := h_34_16
      rw [haO] at hfr
      subst hvr
      have hx9 : S_34_19.at (xs t) 1 := hfr.at (kLs.el hLi.s htm)
      refine tX6_40 X (S := S_34_19) ⟨hx9.1, hx9.2⟩ dX6_drawFrom_37 ?_
      refine k_goto (tgt := 44) X dX6_drawFrom_40 (by decide) ?_
      exact k_aret X E (r := (some (xs t))) (Or.inl ⟨_, rfl⟩) dX6_drawFrom_44 (Nat.le_of_ble_eq_true rfl) (Nat.le_of_ble_eq_true rfl) (Or.inr (Or.inr ⟨t, htm, rfl, hfr, hls⟩))
  · skip
    rw [ev_1_2] at c_4
    have hm0 : m = 0 := by
      simp only [kb] at c_4
      by_cases g : S.I a 2 = 0
      · rw [hL.2.1] at g
        by_cases g2 : m = 0
        · exact g2
        · exact absurd g (nI_ne0 (by omega) (by omega))
      · simp [g] at c_4
    refine k_null X dX6_drawFrom_7 ?_
    exact k_aret X E (r := none) (Or.inl ⟨_, rfl⟩) dX6_drawFrom_8 (Nat.le_of_ble_eq_true rfl) (Nat.le_of_ble_eq_true rfl) (Or.inl ⟨hm0, rfl, rfl⟩)
