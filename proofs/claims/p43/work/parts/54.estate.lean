/-- a row's first i places filled -/
def kS.fil (S : kS) (a i : Nat) (v : Int32) : kS := (S.L, S.K, S.O, S.N, fun c j => if c = a ∧ j < i then v else S.I c j, S.R)
theorem fil_0 (S : kS) (a : Nat) (v : Int32) : S.fil a 0 v = S := by
  unfold kS.fil
  have h : (fun c j => if c = a ∧ j < 0 then v else S.I c j) = S.I := by funext c j; simp
  rw [h]; rfl
theorem fil_s (S : kS) (a i : Nat) (v : Int32) : (S.fil a i v).uI a i v = S.fil a (i + 1) v := by
  have h : (fun c j => if c = a ∧ j = i then v else (S.fil a i v).I c j) = (S.fil a (i + 1) v).I := by
    funext c j
    show (if c = a ∧ j = i then v else if c = a ∧ j < i then v else S.I c j) = if c = a ∧ j < i + 1 then v else S.I c j
    by_cases h1 : c = a <;> by_cases h2 : j = i <;> by_cases h3 : j < i <;> simp [h1, h2, h3] <;> first | omega | (intro h4; omega) | skip
  show (S.L, S.K, S.O, S.N, _, S.R) = (S.L, S.K, S.O, S.N, _, S.R)
  rw [h]; rfl
section KES
variable {e0 : Nat × Nat} {A : Nat → Nat} {n : Nat} {cz : Nat → Nat} {T G E : Nat} {S S' : kS}
theorem kI.fil (h : kI e0 A n cz T G E S) {a ρ N : Nat} {v : Int32} (ha : S.O a = ρ) (hr : 42 ≤ ρ ∧ ρ < 52 ∧ ¬ ρ = 45) : kI e0 A n cz T G E (S.fil a N v) ∧ kKe A S (S.fil a N v) := by
  have hg : kGo S (S.fil a N v) (fun z j => z = ρ) := ⟨fun b hb => ⟨hb, rfl, rfl, rfl⟩, fun b hb j hn => ⟨if_neg (fun z => hn (by rw [z.1]; exact ha)), rfl⟩⟩
  exact ⟨h.free hg (fun ρ j z y => by unfold pSM at y; omega) (fun ρ j z y => by unfold pVM pCi pHo pCh pLe pMy pMs pOf at y; omega) (fun ρ j z y => by unfold pLu at y; omega), h.gKe hg (fun ρ j z y => by unfold pKe at y; omega)⟩
theorem kvat_in {a i N : Nat} (hN : S.N a = N) (hi : i < N) (hb : N ≤ 1000) : kvat S a (nI i) = S.I a i := by
  unfold kvat
  rw [if_neg (nI_pos (by omega)), hN, if_neg (fun z => by have := ge_of_le (m := N) (i := i) z (by omega); omega), nI_clamp (by omega)]
theorem kpat_o {a b j : Nat} {x v : Int32} (h : ¬ b = a) : (kpat S a x v).I b j = S.I b j := by
  unfold kpat
  by_cases h1 : x < 0
  · rw [if_pos h1]
  · rw [if_neg h1]
    by_cases h2 : Int32.ofNat (S.N a) ≤ x
    · rw [if_pos h2]
    · rw [if_neg h2, uI_I, if_neg (fun z => h z.1)]
theorem kI.trib (h : kI e0 A n cz T G E S) {x : Int32} {t : Nat} (ht : t ≤ 60) : kI e0 A n cz T G E (kpat S (A 45) x (nI t)) ∧ kKe A S (kpat S (A 45) x (nI t)) := by
  unfold kpat
  by_cases h1 : x < 0
  · rw [if_pos h1]; exact ⟨h, kKe.rf⟩
  · rw [if_neg h1]
    by_cases h2 : Int32.ofNat (S.N (A 45)) ≤ x
    · rw [if_pos h2]; exact ⟨h, kKe.rf⟩
    · rw [if_neg h2]
      have hg : kGo S (S.uI (A 45) x.toNatClampNeg (nI t)) (fun z j => z = 45) := kGo.rf.uI (fun _ => so_45 h.st)
      exact ⟨⟨h.1.go0 hg (fun ρ j z y => by unfold pSM at y; omega), h.gCi hg (fun ρ j z y => by unfold pCi at y; omega), h.gHo hg (fun ρ j z y => by unfold pHo at y; omega), h.gCh hg (fun ρ j z y => by unfold pCh at y; omega), h.gLe hg (fun ρ j z y => by unfold pLe at y; omega), h.gMy hg (fun ρ j z y => by unfold pMy at y; omega), h.gLu hg (fun ρ j z y => by unfold pLu at y; omega), (⟨by rw [(h.a1 hg 1 (by omega)).1]; exact h.ms.1, by rw [(h.a1 hg 2 (by omega)).1]; exact h.ms.2.1, by rw [(h.a1 hg 0 (by omega)).1]; exact h.ms.2.2.1, by rw [(h.a1 hg 9 (by omega)).1]; exact h.ms.2.2.2.1, by rw [(h.aF hg (r := 5) (κ := 5) (by decide) 1 (by omega)).1]; exact h.ms.2.2.2.2.1, fun k hk => by
        rw [uI_I]
        by_cases e : A 45 = A 45 ∧ k = x.toNatClampNeg
        · rw [if_pos e]; exact ⟨t, ht, rfl⟩
        · rw [if_neg e]; exact h.ms.2.2.2.2.2 k hk⟩), h.gOf hg (fun ρ j z y => by unfold pOf at y; omega)⟩, h.gKe hg (fun ρ j z y => by unfold pKe at y; omega)⟩
theorem kI.alls (h : kI e0 A n cz T G E S) {v : Int32} (hv : ∃ a, a ≤ 4 ∧ v = nI a) : kI e0 A n cz T G E (S.uI (A 5) 1 v) ∧ kKe A S (S.uI (A 5) 1 v) := by
  have hg : kGo S (S.uI (A 5) 1 v) (fun z j => z = 5 ∧ j = 1) := kGo.rf.uI (fun _ => ⟨so_5 h.st, rfl⟩)
  exact ⟨⟨h.1.go0 hg (fun ρ j z y => by unfold pSM at y; omega), h.gCi hg (fun ρ j z y => by unfold pCi at y; omega), h.gHo hg (fun ρ j z y => by unfold pHo at y; omega), h.gCh hg (fun ρ j z y => by unfold pCh at y; omega), h.gLe hg (fun ρ j z y => by unfold pLe at y; omega), h.gMy hg (fun ρ j z y => by unfold pMy at y; omega), h.gLu hg (fun ρ j z y => by unfold pLu at y; omega), (⟨by rw [(h.a1 hg 1 (by omega)).1]; exact h.ms.1, by rw [(h.a1 hg 2 (by omega)).1]; exact h.ms.2.1, by rw [(h.a1 hg 0 (by omega)).1]; exact h.ms.2.2.1, by rw [(h.a1 hg 9 (by omega)).1]; exact h.ms.2.2.2.1, by rw [uI_I, if_pos ⟨rfl, rfl⟩]; exact hv, fun k hk => by rw [(h.aF hg (r := 45) (κ := 13) (by decide) k (by omega)).1]; exact h.ms.2.2.2.2.2 k hk⟩), h.gOf hg (fun ρ j z y => by unfold pOf at y; omega)⟩, h.gKe hg (fun ρ j z y => by unfold pKe at y; omega)⟩
end KES
set_option maxHeartbeats 1000000 in
set_option maxRecDepth 20000 in
theorem c_J7_fill_53178 (l : Launch) (e0 : Nat × Nat) (S : kS) (a : Nat) (y : Int32) (ha : S.at a 13) (hN : S.N a < 2 ^ 31) : kM l e0 yJ7_fill_53178 cJ7_fill_53178 4 none ({ frames := 0, cells := 0, slots := 0, locals := 0 } : Room) 0 0 [.ref a, .int y] S (kQv (fun S9 => S9 = S.fil a (S.N a) y)) := by
  refine kMetE (by decide +kernel) (Nat.le_of_ble_eq_true rfl) (fun C he hl X E hm => ?_)
  have X : kX C RJ7 cJ7_fill_53178 4 ({ frames := 0, cells := 0, slots := 0, locals := 0 } : Room) := X
  subst he hl
  show kG C 4 S 0 0 0 [(0, .ref a), (1, .int y)] []
  refine k_iconst X (v := 0) dJ7_fill_53178_0 (by decide) ?_
  refine k_istore_n X [(2, .int 0), (0, .ref a), (1, .int y)] dJ7_fill_53178_1 rfl (by decide) rfl ?_
  refine k_aload_n X (q := 1) dJ7_fill_53178_2 rfl rfl ?_
  refine k_alen X (S := S) ha.1 (Or.inl ha.2) dJ7_fill_53178_3 ?_
  refine k_istore_n X [(3, .int (Int32.ofNat (S.N a))), (2, .int 0), (0, .ref a), (1, .int y)] dJ7_fill_53178_4 rfl (by decide) rfl ?_
  have L_5 : ∀ (N : Nat) (i : Nat) (x : Int32), S.N a - i = N → x = nI i → i ≤ S.N a → kG C 4 (S.fil a i y) 0 0 5 [(3, .int (Int32.ofNat (S.N a))), (2, .int x), (0, .ref a), (1, .int y)] [] := by
    intro N
    induction N using Nat.strongRecOn with
    | _ N ih =>
    intro i x hMs h5_0 h5_1
    subst h5_0
    refine k_iload_n X (q := 1) dJ7_fill_53178_5 rfl rfl ?_
    refine k_iload_n X (q := 0) dJ7_fill_53178_6 rfl rfl ?_
    refine k_icmp_ge (tgt := 20) X dJ7_fill_53178_7 (by decide) (fun c_7 => ?_) (fun c_7 => ?_)
    · skip
      exact k_vret X E dJ7_fill_53178_20 (Nat.le_of_ble_eq_true rfl) (Nat.le_of_ble_eq_true rfl) (by rw [show S.N a = i from by have := ge_of_le c_7 (by omega); omega])
    · skip
      have hlt : i < S.N a := lt_of_nle c_7 (by omega)
      refine k_aload_n X (q := 2) dJ7_fill_53178_10 rfl rfl ?_
      refine k_iload_n X (q := 1) dJ7_fill_53178_11 rfl rfl ?_
      refine k_iload_n X (q := 3) dJ7_fill_53178_12 rfl rfl ?_
      refine k_iast X (S := (S.fil a i y)) ha.1 ha.2 (show vp_in (nI i) (S.N a) from vp_in_nI hlt (by omega)) dJ7_fill_53178_13 ?_
      obtain ⟨v_14_1, ev_14_1⟩ : ∃ z : Int32, z = (nI i) + 1 := ⟨_, rfl⟩
      refine k_iinc X (q := 1) (v := v_14_1) [(2, .int v_14_1), (3, .int (Int32.ofNat (S.N a))), (0, .ref a), (1, .int y)] dJ7_fill_53178_14 rfl (by rw [ev_14_1]; rfl) (by decide) rfl ?_
      refine k_goto (tgt := 5) X dJ7_fill_53178_17 (by decide) ?_
      refine k_lv [1, 0, 2, 3] _ rfl ?_
      rw [nI_clamp (by omega), fil_s]
      exact ih (S.N a - (i + 1)) (by omega) (i + 1) _ rfl (by rw [ev_14_1, nI_1]) (by omega)
  refine k_lv [0, 1, 2, 3] _ rfl ?_
  have h9 := L_5 _ 0 0 rfl nI_0.symm (Nat.zero_le _)
  rw [fil_0] at h9
  exact h9
set_option maxHeartbeats 1000000 in
set_option maxRecDepth 20000 in
theorem c_X5_addAlly (l : Launch) (e0 : Nat × Nat) (S : kS) (x : Int32) (A : Nat → Nat) (n : Nat) (cz : Nat → Nat) (T G Z : Nat) (h : kI e0 A n cz T G Z S) (t a : Nat) (ht : t ≤ 60) (ha : a ≤ 3) (hal : S.I (A 5) 1 = nI a) (hb : T + 0 ≤ 900000 ∧ G + 0 ≤ 60000 ∧ Z + 0 ≤ 150000) : kM l e0 yX5_addAlly cX5_addAlly 3 (Option.some Jvm.ClassFile.FieldType.int) ({ frames := 1, cells := 0, slots := 0, locals := 22 } : Room) 0 0 [.ref (A 5), .int (nI t), .int x] S (kQi (fun v S9 => kI e0 A n cz (T + 0) (G + 0) (Z + 0) S9 ∧ kKe A S S9 ∧ S9.I (A 5) 1 = nI (a + 1))) := by
  refine kMetE (by decide +kernel) (Nat.le_of_ble_eq_true rfl) (fun C he hl X E hm => ?_)
  have X : kX C RX5 cX5_addAlly 3 ({ frames := 1, cells := 0, slots := 0, locals := 22 } : Room) := X
  subst he hl
  show kG C 3 S 0 0 0 [(0, .ref (A 5)), (1, .int (nI t)), (2, .int x)] []
  have hn := h.n40
  refine k_aload_n X (q := 0) dX5_addAlly_0 rfl rfl ?_
  refine gX5_15s X (S := S) (st_5 h.st).1 (st_5 h.st).2 (sr_5_2 h.st) dX5_addAlly_1 ?_
  refine k_aload_n X (q := 0) dX5_addAlly_4 rfl rfl ?_
  refine gX5_9 X (S := S) (st_5 h.st).1 (st_5 h.st).2 dX5_addAlly_5 (fun v_5_1 ev_5_1 => ?_)
  refine k_iload_n X (q := 1) dX5_addAlly_8 rfl rfl ?_
  refine k_gotV X (vX5_51 X (S := S) (c_X11_putAt C.l C.e0 S (A 45) v_5_1 (nI t) ⟨(st_45 h.st).1, (st_45 h.st).2⟩ (sm_45 h.st)) (As := [.ref (A 45), .int v_5_1, .int (nI t)]) (rest := []) rfl rfl rfl rfl ⟨Nat.le_of_ble_eq_true rfl, Nat.le_of_ble_eq_true rfl⟩ (Nat.le_of_ble_eq_true rfl) ⟨Nat.le_of_ble_eq_true rfl, Nat.le_of_ble_eq_true rfl⟩ dX5_addAlly_9) (fun S_9_3 h_9_1 => ?_)
  subst h_9_1
  obtain ⟨hI_4, hx_4⟩ := h.trib ht
  have hK_4 := (kKe.rf).tr hx_4
  refine k_aload_n X (q := 0) dX5_addAlly_12 rfl rfl ?_
  refine gX5_19s X (S := (kpat S (A 45) v_5_1 (nI t))) (st_5 hI_4.st).1 (st_5 hI_4.st).2 (sr_5_3 hI_4.st) dX5_addAlly_13 ?_
  refine k_aload_n X (q := 0) dX5_addAlly_16 rfl rfl ?_
  refine gX5_9 X (S := (kpat S (A 45) v_5_1 (nI t))) (st_5 hI_4.st).1 (st_5 hI_4.st).2 dX5_addAlly_17 (fun v_17_5 ev_17_5 => ?_)
  refine k_iload_n X (q := 2) dX5_addAlly_20 rfl rfl ?_
  refine k_gotV X (vX5_51 X (S := (kpat S (A 45) v_5_1 (nI t))) (c_X11_putAt C.l C.e0 (kpat S (A 45) v_5_1 (nI t)) (A 46) v_17_5 x ⟨(st_46 hI_4.st).1, (st_46 hI_4.st).2⟩ (sm_46 hI_4.st)) (As := [.ref (A 46), .int v_17_5, .int x]) (rest := []) rfl rfl rfl rfl ⟨Nat.le_of_ble_eq_true rfl, Nat.le_of_ble_eq_true rfl⟩ (Nat.le_of_ble_eq_true rfl) ⟨Nat.le_of_ble_eq_true rfl, Nat.le_of_ble_eq_true rfl⟩ dX5_addAlly_21) (fun S_21_7 h_21_5 => ?_)
  subst h_21_5
  obtain ⟨hI_8, hx_8⟩ := (⟨(hI_4.pat (x := v_17_5) (v := x) (so_46 hI_4.st) (by omega)).1, (hI_4.pat (x := v_17_5) (v := x) (so_46 hI_4.st) (by omega)).2 (by omega)⟩ : _ ∧ _)
  have hK_8 := (hK_4).tr hx_8
  refine k_aload_n X (q := 0) dX5_addAlly_24 rfl rfl ?_
  refine k_dup X dX5_addAlly_25 rfl ?_
  refine gX5_9 X (S := (kpat (kpat S (A 45) v_5_1 (nI t)) (A 46) v_17_5 x)) (st_5 hI_8.st).1 (st_5 hI_8.st).2 dX5_addAlly_26 (fun v_26_9 ev_26_9 => ?_)
  refine k_iconst X (v := 1) dX5_addAlly_29 (by decide) ?_
  refine k_iadd X dX5_addAlly_30 (fun v_30_10 ev_30_10 => ?_)
  refine pX5_9 X (S := (kpat (kpat S (A 45) v_5_1 (nI t)) (A 46) v_17_5 x)) (st_5 hI_8.st).1 (st_5 hI_8.st).2 dX5_addAlly_31 ?_
  have hv9 : v_30_10 = nI (a + 1) := by
    rw [ev_30_10, ev_26_9, kpat_o (h.st.ne (r := 5) (r' := 46) (κ := 5) (κ' := 13) (by decide) (by decide) (by decide)), kpat_o (h.st.ne (r := 5) (r' := 45) (κ := 5) (κ' := 13) (by decide) (by decide) (by decide)), hal, nI_1]
  obtain ⟨hI_11, hx_11⟩ := hI_8.alls ⟨a + 1, by omega, hv9⟩
  have hK_11 := (hK_8).tr hx_11
  refine k_aload_n X (q := 0) dX5_addAlly_34 rfl rfl ?_
  refine gX5_9 X (S := ((kpat (kpat S (A 45) v_5_1 (nI t)) (A 46) v_17_5 x).uI (A 5) 1 v_30_10)) (st_5 hI_11.st).1 (st_5 hI_11.st).2 dX5_addAlly_35 (fun v_35_12 ev_35_12 => ?_)
  exact k_iret X E dX5_addAlly_38 (Nat.le_of_ble_eq_true rfl) (Nat.le_of_ble_eq_true rfl) (⟨hI_11.mono (by omega) (by omega) (by omega), hK_11, by rw [uI_I, if_pos ⟨rfl, rfl⟩]; exact hv9⟩)
set_option maxHeartbeats 1000000 in
set_option maxRecDepth 20000 in
theorem c_X5_allTribute (l : Launch) (e0 : Nat × Nat) (S : kS)  (A : Nat → Nat) (hst : kSt A S) (a : Nat) (ha : a ≤ 4) (hal : S.I (A 5) 1 = nI a) : kM l e0 yX5_allTribute cX5_allTribute 3 (Option.some Jvm.ClassFile.FieldType.int) ({ frames := 1, cells := 0, slots := 0, locals := 21 } : Room) 0 0 [.ref (A 5)] S (kQi (fun v S9 => S = S9 ∧ v = ksum (fun i => kvat S (A 45) (nI i)) a)) := by
  refine kMetE (by decide +kernel) (Nat.le_of_ble_eq_true rfl) (fun C he hl X E hm => ?_)
  have X : kX C RX5 cX5_allTribute 3 ({ frames := 1, cells := 0, slots := 0, locals := 21 } : Room) := X
  subst he hl
  show kG C 3 S 0 0 0 [(0, .ref (A 5))] []
  refine k_iconst X (v := 0) dX5_allTribute_0 (by decide) ?_
  refine k_istore_n X [(1, .int 0), (0, .ref (A 5))] dX5_allTribute_1 rfl (by decide) rfl ?_
  refine k_iconst X (v := 0) dX5_allTribute_2 (by decide) ?_
  refine k_istore_n X [(2, .int 0), (1, .int 0), (0, .ref (A 5))] dX5_allTribute_3 rfl (by decide) rfl ?_
  have L_4 : ∀ (N : Nat) (i : Nat) (x y : Int32), a - i = N → x = nI i → y = ksum (fun i => kvat S (A 45) (nI i)) i → i ≤ a → kG C 3 S 0 0 4 [(2, .int x), (1, .int y), (0, .ref (A 5))] [] := by
    intro N
    induction N using Nat.strongRecOn with
    | _ N ih =>
    intro i x y hMs h4_0 h4_1 h4_2
    subst h4_0 h4_1
    refine k_iload_n X (q := 0) dX5_allTribute_4 rfl rfl ?_
    refine k_aload_n X (q := 2) dX5_allTribute_5 rfl rfl ?_
    refine gX5_9 X (S := S) (st_5 hst).1 (st_5 hst).2 dX5_allTribute_6 (fun v_6_1 ev_6_1 => ?_)
    rw [hal] at ev_6_1
    have hv9 : nI a = v_6_1 := ev_6_1.symm
    subst hv9
    refine k_icmp_ge (tgt := 29) X dX5_allTribute_9 (by decide) (fun c_9 => ?_) (fun c_9 => ?_)
    · skip
      have hin : a = i := by have := ge_of_le c_9 (by omega); omega
      subst hin
      refine k_iload_n X (q := 1) dX5_allTribute_29 rfl rfl ?_
      exact k_iret X E dX5_allTribute_30 (Nat.le_of_ble_eq_true rfl) (Nat.le_of_ble_eq_true rfl) (⟨rfl, rfl⟩)
    · skip
      have hlt : i < a := lt_of_nle c_9 (by omega)
      refine k_iload_n X (q := 1) dX5_allTribute_12 rfl rfl ?_
      refine k_aload_n X (q := 2) dX5_allTribute_13 rfl rfl ?_
      refine gX5_15s X (S := S) (st_5 hst).1 (st_5 hst).2 (sr_5_2 hst) dX5_allTribute_14 ?_
      refine k_iload_n X (q := 0) dX5_allTribute_17 rfl rfl ?_
      refine k_gotI X (vX5_55 X (S := S) (c_X11_valueAt C.l C.e0 S (A 45) (nI i) (st_45 hst) (sm_45 hst)) (As := [.ref (A 45), .int (nI i)]) (rest := [.int (ksum (fun i => kvat S (A 45) (nI i)) i)]) rfl rfl rfl rfl ⟨Nat.le_of_ble_eq_true rfl, Nat.le_of_ble_eq_true rfl⟩ (Nat.le_of_ble_eq_true rfl) ⟨Nat.le_of_ble_eq_true rfl, Nat.le_of_ble_eq_true rfl⟩ dX5_allTribute_18) (fun v_18_3 S_18_4 h_18_1 => ?_)
      obtain ⟨rfl, ev_18_3⟩ := h_18_1
      refine k_iadd X dX5_allTribute_21 (fun v_21_5 ev_21_5 => ?_)
      refine k_istore_n X [(1, .int v_21_5), (2, .int (nI i)), (0, .ref (A 5))] dX5_allTribute_22 rfl (by decide) rfl ?_
      obtain ⟨v_23_6, ev_23_6⟩ : ∃ z : Int32, z = (nI i) + 1 := ⟨_, rfl⟩
      refine k_iinc X (q := 1) (v := v_23_6) [(2, .int v_23_6), (1, .int v_21_5), (0, .ref (A 5))] dX5_allTribute_23 rfl (by rw [ev_23_6]; rfl) (by decide) rfl ?_
      refine k_goto (tgt := 4) X dX5_allTribute_26 (by decide) ?_
      refine k_lv [0, 1, 2] _ rfl ?_
      exact ih (a - (i + 1)) (by omega) (i + 1) _ _ rfl (by rw [ev_23_6, nI_1]) (by rw [ev_21_5, ev_18_3]; rfl) (by omega)
  refine k_lv [0, 1, 2] _ rfl ?_
  exact L_4 _ 0 0 0 rfl nI_0.symm rfl (Nat.zero_le _)
set_option maxHeartbeats 1000000 in
set_option maxRecDepth 20000 in
theorem c_X5_settleAllies (l : Launch) (e0 : Nat × Nat) (S : kS)  (A : Nat → Nat) (n : Nat) (cz : Nat → Nat) (T G Z : Nat) (h : kI e0 A n cz T G Z S)  (hb : T + 4 ≤ 900000 ∧ G + 0 ≤ 60000 ∧ Z + 240 ≤ 150000) : kM l e0 yX5_settleAllies cX5_settleAllies 4 none ({ frames := 2, cells := 0, slots := 0, locals := 44 } : Room) 0 0 [.ref (A 5)] S (kQv (fun S9 => kI e0 A n cz (T + 4) (G + 0) (Z + 240) S9 ∧ kKe A S S9)) := by
  refine kMetE (by decide +kernel) (Nat.le_of_ble_eq_true rfl) (fun C he hl X E hm => ?_)
  have X : kX C RX5 cX5_settleAllies 4 ({ frames := 2, cells := 0, slots := 0, locals := 44 } : Room) := X
  subst he hl
  show kG C 4 S 0 0 0 [(0, .ref (A 5))] []
  have hn := h.n40
  refine k_aload_n X (q := 0) dX5_settleAllies_0 rfl rfl ?_
  refine gX5_9 X (S := S) (st_5 h.st).1 (st_5 h.st).2 dX5_settleAllies_1 (fun v_1_1 ev_1_1 => ?_)
  obtain ⟨b, hb4, hb5⟩ := h.ms.2.2.2.2.1
  have hv9 : nI b = v_1_1 := by rw [ev_1_1, hb5]
  subst hv9
  refine k_istore_n X [(1, .int (nI b)), (0, .ref (A 5))] dX5_settleAllies_4 rfl (by decide) rfl ?_
  refine k_aload_n X (q := 1) dX5_settleAllies_5 rfl rfl ?_
  refine k_iconst X (v := 0) dX5_settleAllies_6 (by decide) ?_
  refine pX5_9 X (S := S) (st_5 h.st).1 (st_5 h.st).2 dX5_settleAllies_7 ?_
  obtain ⟨hI_2, hx_2⟩ := h.alls ⟨0, by omega, rfl⟩
  have hK_2 := (kKe.rf).tr hx_2
  refine k_iconst X (v := 0) dX5_settleAllies_10 (by decide) ?_
  refine k_istore_n X [(2, .int 0), (1, .int (nI b)), (0, .ref (A 5))] dX5_settleAllies_11 rfl (by decide) rfl ?_
  have L_12 : ∀ (N : Nat) (i : Nat) (x : Int32) (Si : kS), b - i = N → x = nI i → (i ≤ b ∧ kI C.e0 A n cz (T + 1 * i) G (Z + 60 * i) Si ∧ kKe A S Si ∧ ∃ a, a ≤ i ∧ Si.I (A 5) 1 = nI a) → kG C 4 Si 0 0 12 [(2, .int x), (1, .int (nI b)), (0, .ref (A 5))] [] := by
    intro N
    induction N using Nat.strongRecOn with
    | _ N ih =>
    intro i x Si hMs h12_0 h12_1
    subst h12_0
    obtain ⟨hBi, hIi, hKi, a, hai, hal⟩ := h12_1
    refine k_iload_n X (q := 0) dX5_settleAllies_12 rfl rfl ?_
    refine k_iload_n X (q := 1) dX5_settleAllies_13 rfl rfl ?_
    refine k_icmp_ge (tgt := 94) X dX5_settleAllies_14 (by decide) (fun c_14 => ?_) (fun c_14 => ?_)
    · skip
      have hin : b = i := by have := ge_of_le c_14 (by omega); omega
      subst hin
      exact k_vret X E dX5_settleAllies_94 (Nat.le_of_ble_eq_true rfl) (Nat.le_of_ble_eq_true rfl) (⟨hIi.mono (by omega) (by omega) (by omega), hKi⟩)
    · skip
      have hlti : i < b := lt_of_nle c_14 (by omega)
      refine k_aload_n X (q := 2) dX5_settleAllies_17 rfl rfl ?_
      refine gX5_19s X (S := Si) (st_5 hIi.st).1 (st_5 hIi.st).2 (sr_5_3 hIi.st) dX5_settleAllies_18 ?_
      refine k_iload_n X (q := 0) dX5_settleAllies_21 rfl rfl ?_
      refine k_gotI X (vX5_55 X (S := Si) (c_X11_valueAt C.l C.e0 Si (A 46) (nI i) (st_46 hIi.st) (sm_46 hIi.st)) (As := [.ref (A 46), .int (nI i)]) (rest := []) rfl rfl rfl rfl ⟨Nat.le_of_ble_eq_true rfl, Nat.le_of_ble_eq_true rfl⟩ (Nat.le_of_ble_eq_true rfl) ⟨Nat.le_of_ble_eq_true rfl, Nat.le_of_ble_eq_true rfl⟩ dX5_settleAllies_22) (fun v_22_4 S_22_5 h_22_2 => ?_)
      obtain ⟨rfl, ev_22_4⟩ := h_22_2
      refine k_istore_n X [(3, .int v_22_4), (2, .int (nI i)), (1, .int (nI b)), (0, .ref (A 5))] dX5_settleAllies_25 rfl (by decide) rfl ?_
      refine k_iload_n X (q := 0) dX5_settleAllies_26 rfl rfl ?_
      refine k_bipush X (v := 20) dX5_settleAllies_27 (by decide) ?_
      refine k_bipush X (v := 20) dX5_settleAllies_29 (by decide) ?_
      refine k_aload_n X (q := 3) dX5_settleAllies_31 rfl rfl ?_
      refine gX5_47s X (S := Si) (st_5 hIi.st).1 (st_5 hIi.st).2 (sr_5_0 hIi.st) dX5_settleAllies_32 ?_
      refine gX5_59 X (S := Si) (st_1 hIi.st).1 (st_1 hIi.st).2 dX5_settleAllies_35 (fun v_35_6 ev_35_6 => ?_)
      refine k_imul X dX5_settleAllies_38 (fun v_38_7 ev_38_7 => ?_)
      refine k_iadd X dX5_settleAllies_39 (fun v_39_8 ev_39_8 => ?_)
      refine k_icmp_le (tgt := 59) X dX5_settleAllies_40 (by decide) (fun c_40 => ?_) (fun c_40 => ?_)
      · skip
        refine k_aload_n X (q := 3) dX5_settleAllies_59 rfl rfl ?_
        refine gX5_47s X (S := Si) (st_5 hIi.st).1 (st_5 hIi.st).2 (sr_5_0 hIi.st) dX5_settleAllies_60 ?_
        refine k_aload_n X (q := 3) dX5_settleAllies_63 rfl rfl ?_
        refine gX5_15s X (S := Si) (st_5 hIi.st).1 (st_5 hIi.st).2 (sr_5_2 hIi.st) dX5_settleAllies_64 ?_
        refine k_iload_n X (q := 1) dX5_settleAllies_67 rfl rfl ?_
        refine k_gotI X (vX5_55 X (S := Si) (c_X11_valueAt C.l C.e0 Si (A 45) (nI i) (st_45 hIi.st) (sm_45 hIi.st)) (As := [.ref (A 45), .int (nI i)]) (rest := [.ref (A 1)]) rfl rfl rfl rfl ⟨Nat.le_of_ble_eq_true rfl, Nat.le_of_ble_eq_true rfl⟩ (Nat.le_of_ble_eq_true rfl) ⟨Nat.le_of_ble_eq_true rfl, Nat.le_of_ble_eq_true rfl⟩ dX5_settleAllies_68) (fun v_68_10 S_68_11 h_68_8 => ?_)
        obtain ⟨rfl, ev_68_10⟩ := h_68_8
        obtain ⟨t, ht, htv⟩ := hIi.ms.2.2.2.2.2 i (by omega)
        have hv9 : nI t = v_68_10 := by rw [ev_68_10, kvat_in (sn_45 hIi.st) (by omega) (by omega), htv]
        subst hv9
        refine k_gotV X (vX5_67 X (S := Si) ⟨(st_1 hIi.st).1, (st_1 hIi.st).2⟩ (c_X2_takeIn C.l C.e0 Si (nI t) A hIi.st ) (As := [.int (nI t)]) (rest := []) rfl rfl rfl rfl ⟨Nat.le_of_ble_eq_true rfl, Nat.le_of_ble_eq_true rfl⟩ (Nat.le_of_ble_eq_true rfl) ⟨Nat.le_of_ble_eq_true rfl, Nat.le_of_ble_eq_true rfl⟩ dX5_settleAllies_71) (fun S_71_13 h_71_11 => ?_)
        subst h_71_11
        obtain ⟨hI_14, hx_14⟩ := hIi.take (x := (nI t)) (e := 60) (by rw [nI_toInt (by omega)]; omega) (by omega)
        have hK_14 := (hKi).tr hx_14
        refine k_aload_n X (q := 3) dX5_settleAllies_74 rfl rfl ?_
        refine k_aload_n X (q := 3) dX5_settleAllies_75 rfl rfl ?_
        refine gX5_15s X (S := (ktake Si A (nI t))) (st_5 hI_14.st).1 (st_5 hI_14.st).2 (sr_5_2 hI_14.st) dX5_settleAllies_76 ?_
        refine k_iload_n X (q := 1) dX5_settleAllies_79 rfl rfl ?_
        refine k_gotI X (vX5_55 X (S := (ktake Si A (nI t))) (c_X11_valueAt C.l C.e0 (ktake Si A (nI t)) (A 45) (nI i) (st_45 hI_14.st) (sm_45 hI_14.st)) (As := [.ref (A 45), .int (nI i)]) (rest := [.ref (A 5)]) rfl rfl rfl rfl ⟨Nat.le_of_ble_eq_true rfl, Nat.le_of_ble_eq_true rfl⟩ (Nat.le_of_ble_eq_true rfl) ⟨Nat.le_of_ble_eq_true rfl, Nat.le_of_ble_eq_true rfl⟩ dX5_settleAllies_80) (fun v_80_16 S_80_17 h_80_14 => ?_)
        obtain ⟨rfl, ev_80_16⟩ := h_80_14
        refine k_iload_n X (q := 0) dX5_settleAllies_83 rfl rfl ?_
        have n45 : ¬ A 45 = A 1 := h.st.ne (r := 45) (r' := 1) (κ := 13) (κ' := 2) (by decide) (by decide) (by decide)
        have n51 : ¬ A 5 = A 1 := h.st.ne (r := 5) (r' := 1) (κ := 5) (κ' := 2) (by decide) (by decide) (by decide)
        have hv8 : nI t = v_80_16 := by
          rw [ev_80_16, kvat_in (S := ktake Si A (nI t)) (by exact sn_45 hIi.st) (by omega) (by omega)]
          unfold ktake
          simp only [uI_I, n45, false_and, if_false]
          exact htv.symm
        subst hv8
        have hal9 : (ktake Si A (nI t)).I (A 5) 1 = nI a := by
          unfold ktake
          simp only [uI_I, n51, false_and, if_false]
          exact hal
        refine k_gotI X (vX5_71 X (S := (ktake Si A (nI t))) ⟨(st_5 hI_14.st).1, (st_5 hI_14.st).2⟩ (c_X5_addAlly C.l C.e0 (ktake Si A (nI t)) v_22_4 A n cz _ _ _ hI_14 t a ht (by omega) hal9 (by omega)) (As := [.int (nI t), .int v_22_4]) (rest := []) rfl rfl rfl rfl ⟨Nat.le_of_ble_eq_true rfl, Nat.le_of_ble_eq_true rfl⟩ (Nat.le_of_ble_eq_true rfl) ⟨Nat.le_of_ble_eq_true rfl, Nat.le_of_ble_eq_true rfl⟩ dX5_settleAllies_84) (fun v_84_19 S_84_20 h_84_17 => ?_)
        obtain ⟨hI_21, hx_21, hm_21⟩ := h_84_17
        have hK_21 := (hK_14).tr hx_21
        refine k_pop X dX5_settleAllies_87 rfl ?_
        obtain ⟨v_88_22, ev_88_22⟩ : ∃ z : Int32, z = (nI i) + 1 := ⟨_, rfl⟩
        refine k_iinc X (q := 1) (v := v_88_22) [(2, .int v_88_22), (3, .int v_22_4), (1, .int (nI b)), (0, .ref (A 5))] dX5_settleAllies_88 rfl (by rw [ev_88_22]; rfl) (by decide) rfl ?_
        refine k_goto (tgt := 12) X dX5_settleAllies_91 (by decide) ?_
        refine k_lv [0, 2, 3] _ rfl ?_
        exact ih (b - (i + 1)) (by omega) (i + 1) _ _ rfl (by rw [ev_88_22, nI_1]) ⟨by omega, hI_21.mono (by omega) (by omega) (by omega), hK_21, a + 1, by omega, hm_21⟩
      · skip
        refine k_aload_n X (q := 3) dX5_settleAllies_43 rfl rfl ?_
        refine gX5_47s X (S := Si) (st_5 hIi.st).1 (st_5 hIi.st).2 (sr_5_0 hIi.st) dX5_settleAllies_44 ?_
        refine k_dup X dX5_settleAllies_47 rfl ?_
        refine gX5_64 X (S := Si) (st_1 hIi.st).1 (st_1 hIi.st).2 dX5_settleAllies_48 (fun v_48_23 ev_48_23 => ?_)
        refine k_iconst X (v := 2) dX5_settleAllies_51 (by decide) ?_
        refine k_iadd X dX5_settleAllies_52 (fun v_52_24 ev_52_24 => ?_)
        refine pX5_64 X (S := Si) (st_1 hIi.st).1 (st_1 hIi.st).2 dX5_settleAllies_53 ?_
        have hun : 0 ≤ (v_52_24).toInt ∧ (v_52_24).toInt ≤ 3 * ((T + 1 * i + 1 : Nat) : Int) := by
          obtain ⟨-, ⟨u1, u2⟩, -⟩ := hIi.ms
          have q2 : (2 : Int32).toInt = 2 := rfl
          rw [ev_52_24, i_add (by rw [ev_48_23, q2]; omega) (by rw [ev_48_23, q2]; omega), ev_48_23, q2]
          omega
        obtain ⟨hI_25, hx_25⟩ := (hIi.mono (T' := T + 1 * i + 1) (by omega) (Nat.le_refl _) (Nat.le_refl _)).un hun
        have hK_25 := (hKi).tr hx_25
        have n51 : ¬ A 5 = A 1 := h.st.ne (r := 5) (r' := 1) (κ := 5) (κ' := 2) (by decide) (by decide) (by decide)
        have haq : ((Si.uI (A 1) 2 v_52_24)).I (A 5) 1 = nI a := by rw [uI_I, if_neg (fun z => n51 z.1)]; exact hal
        refine k_goto (tgt := 88) X dX5_settleAllies_56 (by decide) ?_
        obtain ⟨v_88_26, ev_88_26⟩ : ∃ z : Int32, z = (nI i) + 1 := ⟨_, rfl⟩
        refine k_iinc X (q := 1) (v := v_88_26) [(2, .int v_88_26), (3, .int v_22_4), (1, .int (nI b)), (0, .ref (A 5))] dX5_settleAllies_88 rfl (by rw [ev_88_26]; rfl) (by decide) rfl ?_
        refine k_goto (tgt := 12) X dX5_settleAllies_91 (by decide) ?_
        refine k_lv [0, 2, 3] _ rfl ?_
        exact ih (b - (i + 1)) (by omega) (i + 1) _ _ rfl (by rw [ev_88_26, nI_1]) ⟨by omega, hI_25.mono (by omega) (by omega) (by omega), hK_25, a, by omega, haq⟩
  refine k_lv [0, 1, 2] _ rfl ?_
  exact L_12 _ 0 0 _ rfl nI_0.symm ⟨by omega, hI_2.mono (by omega) (by omega) (by omega), hK_2, 0, by omega, by rw [uI_I, if_pos ⟨rfl, rfl⟩]; rfl⟩
