theorem nI_dec {w : Nat} (h : 0 < w) : nI w + -1 = nI (w - 1) := by
  obtain ⟨u, rfl⟩ : ∃ u, w = u + 1 := ⟨w - 1, by omega⟩
  rw [← Int32.sub_eq_add_neg]
  exact nI_pred u
theorem stR_r : ∀ q ∈ stR, q.1 < 7 ∨ (60 ≤ q.1 ∧ q.1 < 67) := by decide +kernel
/-- a list's doings, with draws, leave the fixed things -/
theorem kSt.frD {A : Nat → Nat} {S S' : kS} (h : kSt A S) {r : Nat} (hf : kFr S S' (fun z => kRo S r z ∨ S.O z = 7)) (hr : 10 ≤ r ∧ r < 60) : kSt A S' := h.fr hf (fun q hq hz => by
  obtain ⟨κ', hk'⟩ := stR_K q hq
  have ho : S.O (A q.1) = q.1 := (h.1 _ hk').2
  have h9 := stR_r q hq
  unfold kRo at hz
  rw [ho] at hz
  omega)
theorem kLc.frD {e0 : Nat × Nat} {S S' : kS} {a κ m r r' c : Nat} {xs : Nat → Nat} (h : kLc e0 S a κ m xs c) (ho : S.O a = r) (hf : kFr S S' (fun z => kRo S r' z ∨ S.O z = 7)) (h1 : ¬ r = r') (h2 : ¬ r = 100 + r') (h3 : ¬ 100 + r = r') (h4 : ¬ r = 7) : kLc e0 S' a κ m xs c := h.fr hf (fun b hb hz hw => by
  unfold kRo at hz hw
  rw [ho] at hz
  omega)
theorem kLs.frD {e0 : Nat × Nat} {S S' : kS} {a κ m r r' : Nat} {xs : Nat → Nat} (h : kLs e0 S a κ m xs) (ho : S.O a = r) (hf : kFr S S' (fun z => kRo S r' z ∨ S.O z = 7)) (h1 : ¬ r = r') (h2 : ¬ r = 100 + r') (h3 : ¬ 100 + r = r') (h4 : ¬ r = 7) : kLs e0 S' a κ m xs := by
  obtain ⟨c, hc⟩ := h.c
  exact (hc.frD ho hf h1 h2 h3 h4).s
set_option maxHeartbeats 1000000 in
set_option maxRecDepth 20000 in
theorem c_X6_takeRows (l : Launch) (e0 : Nat × Nat) (S : kS) (a : Nat) (b : Nat) (A : Nat → Nat) (hst : kSt A S) (w0 m mb c ra rb : Nat) (xs ys : Nat → Nat) (hL : kLs e0 S a 1 m xs) (hm9 : m ≤ 60) (hLb : kLc e0 S b 1 mb ys c) (hra : S.O a = ra) (hrb : S.O b = rb) (hr1 : 10 ≤ ra ∧ ra < 60) (hr2 : 10 ≤ rb ∧ rb < 60) (hr3 : ¬ ra = rb) (hmb : mb ≤ 54) (hLu : ∃ p, p < 64 ∧ S.I (A 7) 0 = nI p) (hw : w0 ≤ 2) : kM l e0 yX6_takeRows cX6_takeRows 7 none ({ frames := 8, cells := 6, slots := 438, locals := 215 } : Room) 6 438 [.ref (A 7), .ref a, .int (nI w0), .ref b] S (kQv (fun S9 => kFr S S9 (fun z => kRo S rb z ∨ S.O z = 7) ∧ ∃ m2 ys2 c2 r, kLc e0 S9 b 1 m2 ys2 c2 ∧ kapp mb ys m2 ys2 m xs ∧ m2 ≤ mb + 6 ∧ r ≤ m ∧ (∃ p, p < 64 ∧ S9.I (A 7) 0 = nI p) ∧ S9.I (A 7) 1 = S.I (A 7) 1 + nI r)) := by
  refine kMetE (by decide +kernel) (Nat.le_of_ble_eq_true rfl) (fun C he hl X E hm => ?_)
  have X : kX C RX6 cX6_takeRows 7 ({ frames := 8, cells := 6, slots := 438, locals := 215 } : Room) := X
  subst he hl
  show kG C 7 S 0 0 0 [(0, .ref (A 7)), (1, .ref a), (2, .int (nI w0)), (3, .ref b)] []
  refine k_aload_n X (q := 1) dX6_takeRows_0 rfl rfl ?_
  refine k_iconst X (v := 0) dX6_takeRows_1 (by decide) ?_
  refine k_gotI X (vX6_42 X (S := S) (c_X6_heightOf C.l C.e0 S a 0  m xs (hL) (by omega)) (As := [.ref a, .int 0]) (rest := []) rfl rfl rfl rfl ⟨Nat.le_of_ble_eq_true rfl, Nat.le_of_ble_eq_true rfl⟩ (Nat.le_of_ble_eq_true rfl) ⟨(by show _ ≤ 6; omega), (by show _ ≤ 438; omega)⟩ dX6_takeRows_2) (fun v_2_2 S_2_3 h_2_0 => ?_)
  obtain ⟨rfl, ev_2_2⟩ := h_2_0
  obtain ⟨h, h_h, hv_h⟩ : ∃ z, z ≤ m ∧ nI z = v_2_2 := ⟨_, kcnt_le _ m, by rw [ev_2_2]; exact (ksum_kb _ m).symm⟩
  subst hv_h
  refine k_istore X [(4, .int (nI h)), (0, .ref (A 7)), (1, .ref a), (2, .int (nI w0)), (3, .ref b)] dX6_takeRows_5 (by decide) rfl ?_
  refine k_iconst X (v := 1) dX6_takeRows_7 (by decide) ?_
  refine k_istore X [(5, .int 1), (4, .int (nI h)), (0, .ref (A 7)), (1, .ref a), (2, .int (nI w0)), (3, .ref b)] dX6_takeRows_8 (by decide) rfl ?_
  have L_10 : ∀ (N : Nat) (i : Nat) (x y : Int32) (h : Nat), 3 - i = N → x = nI i → (1 ≤ i ∧ i ≤ 3 ∧ h ≤ m ∧ y = nI h) → kG C 7 S 0 0 10 [(5, .int x), (4, .int y), (0, .ref (A 7)), (1, .ref a), (2, .int (nI w0)), (3, .ref b)] [] := by
    intro N
    induction N using Nat.strongRecOn with
    | _ N ih =>
    intro i x y h hMs h10_0 h10_1
    subst h10_0
    obtain ⟨hi1, hi3, hhm, hy9⟩ := h10_1
    subst hy9
    refine k_iload X (q := 0) dX6_takeRows_10 rfl ?_
    refine k_iconst X (v := 3) dX6_takeRows_12 (by decide) ?_
    refine k_icmp_ge (tgt := 35) X dX6_takeRows_13 (by decide) (fun c_13 => ?_) (fun c_13 => ?_)
    · skip
      refine k_iload X (q := 1) dX6_takeRows_35 rfl ?_
      refine k_iload_n X (q := 4) dX6_takeRows_37 rfl rfl ?_
      refine k_min X qmX6_46 (Nat.le_of_ble_eq_true rfl) (Nat.le_of_ble_eq_true rfl) ⟨(by show _ ≤ 6; omega), (by show _ ≤ 438; omega)⟩ dX6_takeRows_38 (fun v_38_4 ev_38_4 => ?_)
      obtain ⟨w1, h_w1, hv_w1⟩ : ∃ z, z ≤ w0 ∧ nI z = v_38_4 := ⟨min h w0, by omega, by rw [ev_38_4]; exact (kmin_nI (by omega) (by omega)).symm⟩
      subst hv_w1
      refine k_istore X [(5, .int (nI w1)), (4, .int (nI h)), (0, .ref (A 7)), (1, .ref a), (2, .int (nI w0)), (3, .ref b)] dX6_takeRows_41 (by decide) rfl ?_
      refine k_iconst X (v := 0) dX6_takeRows_43 (by decide) ?_
      refine k_istore X [(6, .int 0), (5, .int (nI w1)), (4, .int (nI h)), (0, .ref (A 7)), (1, .ref a), (2, .int (nI w0)), (3, .ref b)] dX6_takeRows_44 (by decide) rfl ?_
      refine k_room (k' := 3 * (w1 - w1)) (n' := 219 * (w1 - w1)) (by omega) (by omega) ?_
      have L_46 : ∀ (N : Nat) (r : Nat) (x y : Int32) (wv : Nat) (Si : kS) (mi : Nat) (ysi : Nat → Nat) (ci : Nat), h - r = N → x = nI r → (y = nI wv ∧ r ≤ h ∧ wv ≤ w1 ∧ kFr S Si (fun z => kRo S rb z ∨ S.O z = 7) ∧ kLc C.e0 Si b 1 mi ysi ci ∧ kapp mb ys mi ysi m xs ∧ mi ≤ mb + 3 * (w1 - wv) ∧ (∃ p, p < 64 ∧ Si.I (A 7) 0 = nI p) ∧ Si.I (A 7) 1 = S.I (A 7) 1 + nI r) → kG C 7 Si (3 * (w1 - wv)) (219 * (w1 - wv)) 46 [(6, .int x), (5, .int y), (4, .int (nI h)), (0, .ref (A 7)), (1, .ref a), (2, .int (nI w0)), (3, .ref b)] [] := by
        intro N
        induction N using Nat.strongRecOn with
        | _ N ih =>
        intro r x y wv Si mi ysi ci hMs h46_0 h46_1
        subst h46_0
        obtain ⟨hy9, hrh, hwv, hfr, hlb, hap, hmi, hlu, hdr⟩ := h46_1
        subst hy9
        have hstI := hst.frD hfr hr2
        have hLi := hL.frD hra hfr hr3 (by omega) (by omega) (by omega)
        have hbO : Si.O b = rb := (hfr.1 b hLb.1.1).2.2.1.trans hrb
        have haO : Si.O a = ra := (hfr.1 a hL.1.1).2.2.1.trans hra
        refine k_iload X (q := 0) dX6_takeRows_46 rfl ?_
        refine k_iload X (q := 2) dX6_takeRows_48 rfl ?_
        refine k_icmp_ge (tgt := 83) X dX6_takeRows_50 (by decide) (fun c_50 => ?_) (fun c_50 => ?_)
        · skip
          exact k_vret X E dX6_takeRows_83 (by show _ ≤ 6; omega) (by show _ ≤ 438; omega) (⟨hfr, mi, ysi, ci, r, hlb, hap, by omega, by omega, hlu, hdr⟩)
        · skip
          have hlt : r < h := lt_of_nle c_50 (by omega)
          refine k_aload_n X (q := 3) dX6_takeRows_53 rfl rfl ?_
          refine k_iload X (q := 2) dX6_takeRows_54 rfl ?_
          refine k_iload X (q := 0) dX6_takeRows_56 rfl ?_
          refine k_isub X dX6_takeRows_58 (fun v_58_5 ev_58_5 => ?_)
          have hv9 : nI (h - r) = v_58_5 := by rw [ev_58_5, pk_sub (by omega)]
          subst hv9
          refine k_gotI X (vX6_26 X (S := Si) ⟨(st_7 hstI).1, (st_7 hstI).2⟩ (c_X6_drawOneOf C.l C.e0 Si (nI (h - r)) A hstI ) (As := [.int (nI (h - r))]) (rest := []) rfl rfl rfl rfl ⟨Nat.le_of_ble_eq_true rfl, Nat.le_of_ble_eq_true rfl⟩ (Nat.le_of_ble_eq_true rfl) ⟨(by show _ ≤ 6; omega), (by show _ ≤ 438; omega)⟩ dX6_takeRows_59) (fun v_59_7 S_59_8 h_59_5 => ?_)
          obtain ⟨rfl, ev_59_7⟩ := h_59_5
          obtain ⟨q, hqm, -, hq9⟩ := kplace hlu (m := h - r) (by omega)
          rw [hq9] at ev_59_7
          subst ev_59_7
          have hfrD := hfr.trX (kdraw_fr hstI) (fun z hz hz2 => Or.inr ((hfr.1 z hz).2.2.1.symm.trans hz2))
          have hlbD := kdraw_lc (A := A) hstI hlb
          have hLiD := kdraw_ls (A := A) hstI hLi
          have hluD := kdraw_lu (A := A) hlu
          have hdrD : (kdraw Si A).I (A 7) 1 = S.I (A 7) 1 + nI (r + 1) := by rw [kdraw_dr, hdr, Int32.add_assoc, nI_1]
          refine k_iload X (q := 1) dX6_takeRows_62 rfl ?_
          refine k_icmp_ge (tgt := 77) X dX6_takeRows_64 (by decide) (fun c_64 => ?_) (fun c_64 => ?_)
          · skip
            obtain ⟨v_77_9, ev_77_9⟩ : ∃ z : Int32, z = (nI r) + 1 := ⟨_, rfl⟩
            refine k_iinc X (q := 0) (v := v_77_9) [(6, .int v_77_9), (5, .int (nI wv)), (4, .int (nI h)), (0, .ref (A 7)), (1, .ref a), (2, .int (nI w0)), (3, .ref b)] dX6_takeRows_77 rfl (by rw [ev_77_9]; rfl) (by decide) rfl ?_
            refine k_goto (tgt := 46) X dX6_takeRows_80 (by decide) ?_
            refine k_lv [0, 1, 2, 3, 4, 5, 6] _ rfl ?_
            refine k_room (k' := 3 * (w1 - wv)) (n' := 219 * (w1 - wv)) (by omega) (by omega) ?_
            exact ih (h - (r + 1)) (by omega) (r + 1) _ _ wv _ mi ysi ci rfl (by rw [ev_77_9, nI_1]) ⟨rfl, by omega, by omega, hfrD, hlbD, hap, by omega, hluD, hdrD⟩
          · skip
            obtain ⟨v_67_10, ev_67_10⟩ : ∃ z : Int32, z = (nI wv) + (-1) := ⟨_, rfl⟩
            refine k_iinc X (q := 1) (v := v_67_10) [(5, .int v_67_10), (6, .int (nI r)), (4, .int (nI h)), (0, .ref (A 7)), (1, .ref a), (2, .int (nI w0)), (3, .ref b)] dX6_takeRows_67 rfl (by rw [ev_67_10]; rfl) (by decide) rfl ?_
            have hq5 : q < wv := by
              rcases Nat.lt_or_ge q wv with g | g
              · exact g
              · exact absurd (nI_le g (by omega)) c_64
            have hv8 : nI (wv - 1) = v_67_10 := by rw [ev_67_10, nI_dec (by omega)]
            subst hv8
            refine k_aload_n X (q := 4) dX6_takeRows_70 rfl rfl ?_
            refine k_iload X (q := 1) dX6_takeRows_71 rfl ?_
            refine k_aload_n X (q := 6) dX6_takeRows_73 rfl rfl ?_
            refine k_gotV X (vX6_52 X (S := (kdraw Si A)) (c_X6_takeRow C.l C.e0 (kdraw Si A) a (nI r) b m mi ci ra rb xs ysi hLiD (by omega) hlbD haO hbO (by omega) (by omega) hr3 (by omega)) (As := [.ref a, .int (nI r), .ref b]) (rest := []) rfl rfl rfl rfl ⟨Nat.le_of_ble_eq_true rfl, Nat.le_of_ble_eq_true rfl⟩ (Nat.le_of_ble_eq_true rfl) ⟨(by show 3 * (w1 - wv) + 0 + 3 ≤ 6; omega), (by show 219 * (w1 - wv) + 0 + 219 ≤ 438; omega)⟩ dX6_takeRows_74) (fun S_74_12 h_74_10 => ?_)
            obtain ⟨hfrT, m2, ys2, c2, hl2, hap2, hm2⟩ := h_74_10
            have hfr2 := hfrD.trX hfrT (fun z hz hz2 => Or.inl ((kRo_tr hfrD hz).mp hz2))
            have hlu2 : ∃ p, p < 64 ∧ S_74_12.I (A 7) 0 = nI p := by
              rw [(hfrT.2 _ (st_7 (kdraw_st hstI)).1 (fun z => by unfold kRo at z; rw [so_7 (kdraw_st hstI)] at z; omega)).1 0]
              exact hluD
            have hdr2 : S_74_12.I (A 7) 1 = S.I (A 7) 1 + nI (r + 1) := by
              rw [(hfrT.2 _ (st_7 (kdraw_st hstI)).1 (fun z => by unfold kRo at z; rw [so_7 (kdraw_st hstI)] at z; omega)).1 1]
              exact hdrD
            obtain ⟨v_77_13, ev_77_13⟩ : ∃ z : Int32, z = (nI r) + 1 := ⟨_, rfl⟩
            refine k_iinc X (q := 1) (v := v_77_13) [(6, .int v_77_13), (5, .int (nI (wv - 1))), (4, .int (nI h)), (0, .ref (A 7)), (1, .ref a), (2, .int (nI w0)), (3, .ref b)] dX6_takeRows_77 rfl (by rw [ev_77_13]; rfl) (by decide) rfl ?_
            refine k_goto (tgt := 46) X dX6_takeRows_80 (by decide) ?_
            refine k_lv [0, 1, 2, 3, 4, 5, 6] _ rfl ?_
            refine k_room (k' := 3 * (w1 - (wv - 1))) (n' := 219 * (w1 - (wv - 1))) (by omega) (by omega) ?_
            exact ih (h - (r + 1)) (by omega) (r + 1) _ _ (wv - 1) _ m2 ys2 c2 rfl (by rw [ev_77_13, nI_1]) ⟨rfl, by omega, by omega, hfr2, hl2, kapp_tr hap hap2, by omega, hlu2, hdr2⟩
      refine k_lv [0, 1, 2, 3, 4, 5, 6] _ rfl ?_
      exact L_46 _ 0 0 _ w1 S mb ys c rfl nI_0.symm ⟨rfl, Nat.zero_le _, Nat.le_refl _, kFr.rf S _, hLb, kapp_rf, by omega, hLu, by rw [nI_0, Int32.add_zero]⟩
    · skip
      have hlt : i < 3 := lt_of_nle c_13 (by omega)
      refine k_iload X (q := 1) dX6_takeRows_16 rfl ?_
      refine k_aload_n X (q := 3) dX6_takeRows_18 rfl rfl ?_
      refine k_iload X (q := 0) dX6_takeRows_19 rfl ?_
      refine k_gotI X (vX6_42 X (S := S) (c_X6_heightOf C.l C.e0 S a (nI i)  m xs (hL) (by omega)) (As := [.ref a, .int (nI i)]) (rest := [.int (nI h)]) rfl rfl rfl rfl ⟨Nat.le_of_ble_eq_true rfl, Nat.le_of_ble_eq_true rfl⟩ (Nat.le_of_ble_eq_true rfl) ⟨(by show _ ≤ 6; omega), (by show _ ≤ 438; omega)⟩ dX6_takeRows_21) (fun v_21_15 S_21_16 h_21_13 => ?_)
      obtain ⟨rfl, ev_21_15⟩ := h_21_13
      obtain ⟨h2, h_h2, hv_h2⟩ : ∃ z, z ≤ m ∧ nI z = v_21_15 := ⟨_, kcnt_le _ m, by rw [ev_21_15]; exact (ksum_kb _ m).symm⟩
      subst hv_h2
      refine k_min X qmX6_46 (Nat.le_of_ble_eq_true rfl) (Nat.le_of_ble_eq_true rfl) ⟨(by show _ ≤ 6; omega), (by show _ ≤ 438; omega)⟩ dX6_takeRows_24 (fun v_24_17 ev_24_17 => ?_)
      obtain ⟨h3, h_h3, hv_h3⟩ : ∃ z, z ≤ m ∧ nI z = v_24_17 := ⟨min h h2, by omega, by rw [ev_24_17]; exact (kmin_nI (by omega) (by omega)).symm⟩
      subst hv_h3
      refine k_istore X [(4, .int (nI h3)), (5, .int (nI i)), (0, .ref (A 7)), (1, .ref a), (2, .int (nI w0)), (3, .ref b)] dX6_takeRows_27 (by decide) rfl ?_
      obtain ⟨v_29_18, ev_29_18⟩ : ∃ z : Int32, z = (nI i) + 1 := ⟨_, rfl⟩
      refine k_iinc X (q := 1) (v := v_29_18) [(5, .int v_29_18), (4, .int (nI h3)), (0, .ref (A 7)), (1, .ref a), (2, .int (nI w0)), (3, .ref b)] dX6_takeRows_29 rfl (by rw [ev_29_18]; rfl) (by decide) rfl ?_
      refine k_goto (tgt := 10) X dX6_takeRows_32 (by decide) ?_
      refine k_lv [0, 1, 2, 3, 4, 5] _ rfl ?_
      exact ih (3 - (i + 1)) (by omega) (i + 1) _ _ h3 rfl (by rw [ev_29_18, nI_1]) ⟨by omega, by omega, h_h3, rfl⟩
  refine k_lv [0, 1, 2, 3, 4, 5] _ rfl ?_
  exact L_10 _ 1 1 _ h rfl rfl ⟨by omega, by omega, h_h, rfl⟩
