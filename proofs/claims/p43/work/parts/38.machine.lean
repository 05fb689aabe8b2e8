theorem ksum_kb (p : Nat → Bool) : ∀ n, ksum (fun i => kb (p i)) n = nI (kcnt p n)
  | 0 => nI_0.symm
  | n + 1 => by
    show ksum _ n + kb (p n) = _
    rw [ksum_kb p n]
    by_cases h : p n = true
    · rw [kcnt_t h, h, ← nI_1]; rfl
    · rw [kcnt_f h]
      have h2 : p n = false := by cases hp : p n <;> simp_all
      rw [h2]
      exact Int32.add_zero _
theorem kmin_nI {a b : Nat} (ha : a < 2 ^ 31) (hb : b < 2 ^ 31) : kmin (nI a) (nI b) = nI (min a b) := by
  unfold kmin
  by_cases h : b < a
  · rw [if_pos (nI_lt h ha), Nat.min_eq_right (by omega)]
  · rw [if_neg (nI_nlt (by omega) hb), Nat.min_eq_left (by omega)]
theorem kmc_le (c m : Nat) : kmc c m ≤ 1 := by unfold kmc; split <;> omega
theorem kms_le {c m : Nat} (h : (c = 0 ∧ m = 0) ∨ (kcapOk c ∧ m ≤ c)) (h64 : m ≤ 64) : kms c m ≤ 73 := by
  unfold kms
  by_cases hl : m < c
  · rw [if_pos hl]; omega
  · rw [if_neg hl]
    refine (kng_ok ?_ h64).2.2
    rcases h with ⟨-, h⟩ | ⟨h, h2⟩
    · exact Or.inl h
    · exact Or.inr (by rw [show m = c by omega]; exact h)
/-- the list ys' of m' is the list ys of m with some of xs's first n behind it -/
def kapp (m : Nat) (ys : Nat → Nat) (m' : Nat) (ys' : Nat → Nat) (n : Nat) (xs : Nat → Nat) : Prop := m ≤ m' ∧ ∀ i, i < m' → (i < m ∧ ys' i = ys i) ∨ ∃ t, t < n ∧ ys' i = xs t
theorem kapp_rf {m n : Nat} {ys xs : Nat → Nat} : kapp m ys m ys n xs := ⟨Nat.le_refl _, fun i h => Or.inl ⟨h, rfl⟩⟩
theorem kapp_t {m m' n t : Nat} {ys ys' xs : Nat → Nat} (h : kapp m ys m' ys' n xs) (ht : t < n) : kapp m ys (m' + 1) (va_up ys' m' (xs t)) n xs := ⟨by have := h.1; omega, fun i hi => by
  unfold va_up
  by_cases e : i = m'
  · rw [if_pos e]; exact Or.inr ⟨t, ht, rfl⟩
  · rw [if_neg e]; exact h.2 i (by omega)⟩
theorem kapp_tr {m m' m'' n : Nat} {ys ys' ys'' xs : Nat → Nat} (h : kapp m ys m' ys' n xs) (h2 : kapp m' ys' m'' ys'' n xs) : kapp m ys m'' ys'' n xs := ⟨Nat.le_trans h.1 h2.1, fun i hi => by
  rcases h2.2 i hi with ⟨h3, h4⟩ | h3
  · rw [h4]; exact h.2 i h3
  · exact Or.inr h3⟩
set_option maxHeartbeats 1000000 in
set_option maxRecDepth 20000 in
theorem c_X6_ticketAt (l : Launch) (e0 : Nat × Nat) (S : kS) (a : Nat) (x1 : Int32) (x2 : Int32)  (m : Nat) (xs : Nat → Nat) (hL : kLs e0 S a 1 m xs) (hm9 : m ≤ 100) : kM l e0 yX6_ticketAt cX6_ticketAt 6 (Option.some (Jvm.ClassFile.FieldType.object "Kleroterion$Citizen")) ({ frames := 3, cells := 0, slots := 0, locals := 64 } : Room) 0 0 [.ref a, .int x1, .int x2] S (kQq (fun v S9 => S = S9 ∧ (v = none ∨ ∃ t, t < m ∧ v = some (xs t)))) := by
  refine kMetE (by decide +kernel) (Nat.le_of_ble_eq_true rfl) (fun C he hl X E hm => ?_)
  have X : kX C RX6 cX6_ticketAt 6 ({ frames := 3, cells := 0, slots := 0, locals := 64 } : Room) := X
  subst he hl
  show kG C 6 S 0 0 0 [(0, .ref a), (1, .int x1), (2, .int x2)] []
  refine k_iconst X (v := 0) dX6_ticketAt_0 (by decide) ?_
  refine k_istore_n X [(3, .int 0), (0, .ref a), (1, .int x1), (2, .int x2)] dX6_ticketAt_1 rfl (by decide) rfl ?_
  refine k_iconst X (v := 0) dX6_ticketAt_2 (by decide) ?_
  refine k_istore X [(4, .int 0), (3, .int 0), (0, .ref a), (1, .int x1), (2, .int x2)] dX6_ticketAt_3 (by decide) rfl ?_
  have L_5 : ∀ (N : Nat) (i : Nat) (x y : Int32), m - i = N → x = nI i → i ≤ m → kG C 6 S 0 0 5 [(4, .int x), (3, .int y), (0, .ref a), (1, .int x1), (2, .int x2)] [] := by
    intro N
    induction N using Nat.strongRecOn with
    | _ N ih =>
    intro i x y hMs h5_0 h5_1
    subst h5_0
    refine k_iload X (q := 0) dX6_ticketAt_5 rfl ?_
    refine k_aload_n X (q := 2) dX6_ticketAt_7 rfl rfl ?_
    refine k_gotI X (vX6_22 X (S := S) ⟨(hL).1.1, (hL).1.2⟩ (c_Jx4a65c_size_8abf5 C.l C.e0 S a (hL).1) (As := []) (rest := [.int (nI i)]) rfl rfl rfl rfl ⟨Nat.le_of_ble_eq_true rfl, Nat.le_of_ble_eq_true rfl⟩ (Nat.le_of_ble_eq_true rfl) ⟨Nat.le_of_ble_eq_true rfl, Nat.le_of_ble_eq_true rfl⟩ dX6_ticketAt_8) (fun v_8_2 S_8_3 h_8_0 => ?_)
    obtain ⟨rfl, ev_8_2⟩ := h_8_0
    have hz_v_8_2 : nI m = v_8_2 := by rw [ev_8_2]; exact (hL).2.1.symm
    subst hz_v_8_2
    refine k_icmp_ge (tgt := 53) X dX6_ticketAt_11 (by decide) (fun c_11 => ?_) (fun c_11 => ?_)
    · skip
      refine k_null X dX6_ticketAt_53 ?_
      exact k_aret X E (r := none) (Or.inl ⟨_, rfl⟩) dX6_ticketAt_54 (Nat.le_of_ble_eq_true rfl) (Nat.le_of_ble_eq_true rfl) (⟨rfl, Or.inl rfl⟩)
    · skip
      have hlt : i < m := lt_of_nle c_11 (by omega)
      refine k_aload_n X (q := 2) dX6_ticketAt_14 rfl rfl ?_
      refine k_iload X (q := 0) dX6_ticketAt_15 rfl ?_
      refine k_gotQ X (vX6_56 X (S := S) ⟨(hL).1.1, (hL).1.2⟩ (c_Jx4a65c_get_915e3 C.l C.e0 S a 1 m i xs (hL) hlt) (As := [.int (nI i)]) (rest := []) rfl rfl rfl rfl ⟨Nat.le_of_ble_eq_true rfl, Nat.le_of_ble_eq_true rfl⟩ (Nat.le_of_ble_eq_true rfl) ⟨Nat.le_of_ble_eq_true rfl, Nat.le_of_ble_eq_true rfl⟩ dX6_ticketAt_17) (fun r_17_5 S_17_6 h_17_3 => ?_)
      obtain ⟨rfl, er_17_5⟩ := h_17_3
      subst er_17_5
      refine tX6_40 X (S := S) ⟨(kLs.el (hL) hlt).1, (kLs.el (hL) hlt).2⟩ dX6_ticketAt_20 ?_
      refine k_astore X [(5, .ref (xs i)), (4, .int (nI i)), (3, .int y), (0, .ref a), (1, .int x1), (2, .int x2)] dX6_ticketAt_23 (by decide) rfl ?_
      refine k_aload X (q := 0) dX6_ticketAt_25 rfl ?_
      refine gX6_59 X (S := S) (kLs.el (hL) hlt).1 (kLs.el (hL) hlt).2 dX6_ticketAt_27 (fun v_27_7 ev_27_7 => ?_)
      refine k_iconst X (v := 3) dX6_ticketAt_30 (by decide) ?_
      refine k_irem X dX6_ticketAt_31 (by decide) (fun v_31_8 ev_31_8 => ?_)
      refine k_iload_n X (q := 5) dX6_ticketAt_32 rfl rfl ?_
      refine k_icmp_ne (tgt := 47) X dX6_ticketAt_33 (by decide) (fun c_33 => ?_) (fun c_33 => ?_)
      · skip
        obtain ⟨v_47_9, ev_47_9⟩ : ∃ z : Int32, z = (nI i) + 1 := ⟨_, rfl⟩
        refine k_iinc X (q := 1) (v := v_47_9) [(4, .int v_47_9), (5, .ref (xs i)), (3, .int y), (0, .ref a), (1, .int x1), (2, .int x2)] dX6_ticketAt_47 rfl (by rw [ev_47_9]; rfl) (by decide) rfl ?_
        refine k_goto (tgt := 5) X dX6_ticketAt_50 (by decide) ?_
        refine k_lv [0, 2, 3, 4, 5] _ rfl ?_
        exact ih (m - (i + 1)) (by omega) (i + 1) _ _ rfl (by rw [ev_47_9, nI_1]) (by omega)
      · skip
        refine k_iload_n X (q := 2) dX6_ticketAt_36 rfl rfl ?_
        refine k_iload_n X (q := 4) dX6_ticketAt_37 rfl rfl ?_
        refine k_icmp_ne (tgt := 44) X dX6_ticketAt_38 (by decide) (fun c_38 => ?_) (fun c_38 => ?_)
        · skip
          obtain ⟨v_44_10, ev_44_10⟩ : ∃ z : Int32, z = y + 1 := ⟨_, rfl⟩
          refine k_iinc X (q := 2) (v := v_44_10) [(3, .int v_44_10), (5, .ref (xs i)), (4, .int (nI i)), (0, .ref a), (1, .int x1), (2, .int x2)] dX6_ticketAt_44 rfl (by rw [ev_44_10]; rfl) (by decide) rfl ?_
          obtain ⟨v_47_11, ev_47_11⟩ : ∃ z : Int32, z = (nI i) + 1 := ⟨_, rfl⟩
          refine k_iinc X (q := 2) (v := v_47_11) [(4, .int v_47_11), (3, .int v_44_10), (5, .ref (xs i)), (0, .ref a), (1, .int x1), (2, .int x2)] dX6_ticketAt_47 rfl (by rw [ev_47_11]; rfl) (by decide) rfl ?_
          refine k_goto (tgt := 5) X dX6_ticketAt_50 (by decide) ?_
          refine k_lv [0, 1, 3, 4, 5] _ rfl ?_
          exact ih (m - (i + 1)) (by omega) (i + 1) _ _ rfl (by rw [ev_47_11, nI_1]) (by omega)
        · skip
          refine k_aload X (q := 0) dX6_ticketAt_41 rfl ?_
          exact k_aret X E (r := (some (xs i))) (Or.inl ⟨_, rfl⟩) dX6_ticketAt_43 (Nat.le_of_ble_eq_true rfl) (Nat.le_of_ble_eq_true rfl) (⟨rfl, Or.inr ⟨i, hlt, rfl⟩⟩)
  refine k_lv [0, 1, 2, 3, 4] _ rfl ?_
  exact L_5 _ 0 0 0 rfl nI_0.symm (Nat.zero_le _)
set_option maxHeartbeats 1000000 in
set_option maxRecDepth 20000 in
theorem c_X6_takeRow (l : Launch) (e0 : Nat × Nat) (S : kS) (a : Nat) (x1 : Int32) (b : Nat)  (m mb c ra rb : Nat) (xs ys : Nat → Nat) (hL : kLs e0 S a 1 m xs) (hm9 : m ≤ 100) (hLb : kLc e0 S b 1 mb ys c) (hra : S.O a = ra) (hrb : S.O b = rb) (hr1 : 10 ≤ ra ∧ ra < 100) (hr2 : 10 ≤ rb ∧ rb < 100) (hr3 : ¬ ra = rb) (hmb : mb ≤ 60) : kM l e0 yX6_takeRow cX6_takeRow 5 none ({ frames := 7, cells := 3, slots := 219, locals := 191 } : Room) 3 219 [.ref a, .int x1, .ref b] S (kQv (fun S9 => kFr S S9 (kRo S rb) ∧ ∃ m2 ys2 c2, kLc e0 S9 b 1 m2 ys2 c2 ∧ kapp mb ys m2 ys2 m xs ∧ m2 ≤ mb + 3)) := by
  refine kMetE (by decide +kernel) (Nat.le_of_ble_eq_true rfl) (fun C he hl X E hm => ?_)
  have X : kX C RX6 cX6_takeRow 5 ({ frames := 7, cells := 3, slots := 219, locals := 191 } : Room) := X
  subst he hl
  show kG C 5 S 0 0 0 [(0, .ref a), (1, .int x1), (2, .ref b)] []
  refine k_iconst X (v := 0) dX6_takeRow_0 (by decide) ?_
  refine k_istore_n X [(3, .int 0), (0, .ref a), (1, .int x1), (2, .ref b)] dX6_takeRow_1 rfl (by decide) rfl ?_
  have L_2 : ∀ (N : Nat) (i : Nat) (x : Int32) (Si : kS) (mi : Nat) (ysi : Nat → Nat) (ci : Nat), 3 - i = N → x = nI i → (i ≤ 3 ∧ kFr S Si (kRo S rb) ∧ kLc C.e0 Si b 1 mi ysi ci ∧ kapp mb ys mi ysi m xs ∧ mi ≤ mb + i) → kG C 5 Si i (73 * i) 2 [(3, .int x), (0, .ref a), (1, .int x1), (2, .ref b)] [] := by
    intro N
    induction N using Nat.strongRecOn with
    | _ N ih =>
    intro i x Si mi ysi ci hMs h2_0 h2_1
    subst h2_0
    obtain ⟨hi3, hfr, hlb, hap, hmi⟩ := h2_1
    have hLi := hL.frR hra hfr hr3 (by omega) (by omega)
    have hbO : Si.O b = rb := (hfr.1 b hLb.1.1).2.2.1.trans hrb
    refine k_iload_n X (q := 0) dX6_takeRow_2 rfl rfl ?_
    refine k_iconst X (v := 3) dX6_takeRow_3 (by decide) ?_
    refine k_icmp_ge (tgt := 33) X dX6_takeRow_4 (by decide) (fun c_4 => ?_) (fun c_4 => ?_)
    · skip
      exact k_vret X E dX6_takeRow_33 (by show _ ≤ 3; omega) (by show _ ≤ 219; omega) (⟨hfr, mi, ysi, ci, hlb, hap, by omega⟩)
    · skip
      have hlt : i < 3 := lt_of_nle c_4 (by omega)
      refine k_aload_n X (q := 1) dX6_takeRow_7 rfl rfl ?_
      refine k_iload_n X (q := 2) dX6_takeRow_8 rfl rfl ?_
      refine k_iload_n X (q := 0) dX6_takeRow_9 rfl rfl ?_
      refine k_gotQ X (vX6_62 X (S := Si) (c_X6_ticketAt C.l C.e0 Si a x1 (nI i)  m xs (hLi) (by omega)) (As := [.ref a, .int x1, .int (nI i)]) (rest := []) rfl rfl rfl rfl ⟨Nat.le_of_ble_eq_true rfl, Nat.le_of_ble_eq_true rfl⟩ (Nat.le_of_ble_eq_true rfl) ⟨(by show i + 0 ≤ 3; omega), (by show 73 * i + 0 ≤ 219; omega)⟩ dX6_takeRow_10) (fun r_10_2 S_10_3 h_10_0 => ?_)
      obtain ⟨rfl, htk⟩ := h_10_0
      refine k_astoreQ X [(4, va_rf r_10_2), (3, .int (nI i)), (0, .ref a), (1, .int x1), (2, .ref b)] dX6_takeRow_13 (by decide) rfl ?_
      refine k_aloadQ X (q := 0) dX6_takeRow_15 rfl ?_
      refine k_ifnull (tgt := 27) X dX6_takeRow_17 (by decide) (fun c_17 => ?_) (fun a_17_4 c_17 => ?_)
      · skip
        subst c_17
        obtain ⟨v_27_5, ev_27_5⟩ : ∃ z : Int32, z = (nI i) + 1 := ⟨_, rfl⟩
        refine k_iinc X (q := 1) (v := v_27_5) [(3, .int v_27_5), (4, .null), (0, .ref a), (1, .int x1), (2, .ref b)] dX6_takeRow_27 rfl (by rw [ev_27_5]; rfl) (by decide) rfl ?_
        refine k_goto (tgt := 2) X dX6_takeRow_30 (by decide) ?_
        refine k_lv [0, 2, 3, 4] _ rfl ?_
        refine k_room (k' := i + 1) (n' := 73 * (i + 1)) (by omega) (by omega) ?_
        exact ih (3 - (i + 1)) (by omega) (i + 1) _ Si mi ysi ci rfl (by rw [ev_27_5, nI_1]) ⟨by omega, hfr, hlb, hap, by omega⟩
      · skip
        subst c_17
        obtain ⟨t, htm, htx⟩ : ∃ t, t < m ∧ a_17_4 = xs t := by
          rcases htk with h | ⟨t, h1, h2⟩
          · cases h
          · exact ⟨t, h1, Option.some.inj h2⟩
        subst htx
        refine k_aload_n X (q := 4) dX6_takeRow_20 rfl rfl ?_
        refine k_aload X (q := 0) dX6_takeRow_21 rfl ?_
        refine k_gotI X (vX6_66 X (S := Si) ⟨hlb.1.1, hlb.1.2⟩ (c_Jx4a65c_add_9ea2d C.l C.e0 Si b 1 mi ci (xs t) ysi kEl_1 hlb (kLs.el hLi htm) (by omega)) (As := [.ref (xs t)]) (rest := []) rfl rfl rfl rfl ⟨Nat.le_of_ble_eq_true rfl, Nat.le_of_ble_eq_true rfl⟩ (Nat.le_of_ble_eq_true rfl) ⟨(by show i + kmc ci mi ≤ 3; have := kmc_le ci mi; omega), (by show 73 * i + kms ci mi ≤ 219; have := kms_le hlb.cap (by omega); omega)⟩ dX6_takeRow_23) (fun v_23_7 S_23_8 h_23_5 => ?_)
        obtain ⟨-, hfa, hla⟩ := h_23_5
        rw [hbO] at hfa
        have hfr2 := hfr.trR hfa
        refine k_pop X dX6_takeRow_26 rfl ?_
        obtain ⟨v_27_9, ev_27_9⟩ : ∃ z : Int32, z = (nI i) + 1 := ⟨_, rfl⟩
        refine k_iinc X (q := 1) (v := v_27_9) [(3, .int v_27_9), (4, .ref (xs t)), (0, .ref a), (1, .int x1), (2, .ref b)] dX6_takeRow_27 rfl (by rw [ev_27_9]; rfl) (by decide) rfl ?_
        refine k_goto (tgt := 2) X dX6_takeRow_30 (by decide) ?_
        refine k_lv [0, 2, 3, 4] _ rfl ?_
        refine k_room (k' := i + 1) (n' := 73 * (i + 1)) (by have := kmc_le ci mi; omega) (by have := kms_le hlb.cap (by omega); omega) ?_
        exact ih (3 - (i + 1)) (by omega) (i + 1) _ _ (mi + 1) _ _ rfl (by rw [ev_27_9, nI_1]) ⟨by omega, hfr2, hla, kapp_t hap htm, by omega⟩
  refine k_lv [0, 1, 2, 3] _ rfl ?_
  exact L_2 _ 0 0 S mb ys c rfl nI_0.symm ⟨by omega, kFr.rf S _, hLb, kapp_rf, by omega⟩
