theorem vp_of {x : Int32} {L : Nat} (h0 : ¬ x < 0) (h : ¬ Int32.ofNat L ≤ x) (hL : L < 2 ^ 31) : vp_in x L := by
  obtain ⟨j, hj, hx, -⟩ := pk_mu h0 h hL
  rw [hx]
  exact vp_in_nI hj hL
def kvat (S : kS) (a : Nat) (i : Int32) : Int32 := if i < 0 then -1 else if Int32.ofNat (S.N a) ≤ i then -1 else S.I a i.toNatClampNeg
def kpat (S : kS) (a : Nat) (i v : Int32) : kS := if i < 0 then S else if Int32.ofNat (S.N a) ≤ i then S else S.uI a i.toNatClampNeg v
def kaat (S : kS) (a : Nat) (i v : Int32) : kS := if i < 0 then S else if Int32.ofNat (S.N a) ≤ i then S else S.uI a i.toNatClampNeg (S.I a i.toNatClampNeg + v)
def ksum (f : Nat → Int32) : Nat → Int32
  | 0 => 0
  | n + 1 => ksum f n + f n
/-- the place of the greatest of the first n, of several the first -/
def kpm (f : Nat → Int32) : Nat → Nat
  | 0 => 0
  | n + 1 => if n = 0 then 0 else if f (kpm f n) < f n then n else kpm f n
theorem kpm_lt (f : Nat → Int32) : ∀ n, 0 < n → kpm f n < n
  | 0, h => absurd h (by omega)
  | n + 1, _ => by
    unfold kpm
    by_cases h0 : n = 0
    · rw [if_pos h0]; omega
    · rw [if_neg h0]
      have := kpm_lt f n (by omega)
      by_cases h1 : f (kpm f n) < f n
      · rw [if_pos h1]; omega
      · rw [if_neg h1]; omega
/-- how many of the first n -/
def kcnt (p : Nat → Bool) : Nat → Nat
  | 0 => 0
  | n + 1 => if p n then kcnt p n + 1 else kcnt p n
theorem kcnt_le (p : Nat → Bool) : ∀ n, kcnt p n ≤ n
  | 0 => Nat.le_refl 0
  | n + 1 => by
    unfold kcnt
    have := kcnt_le p n
    by_cases h : p n <;> simp [h] <;> omega
def kor (f : Nat → Int32) : Nat → Int32
  | 0 => 0
  | n + 1 => kor f n ||| f n
set_option maxHeartbeats 1000000 in
set_option maxRecDepth 20000 in
theorem c_X11_valueAt (l : Launch) (e0 : Nat × Nat) (S : kS) (a : Nat) (x : Int32) (ha : S.at a 13) (hN : S.N a < 2 ^ 31) : kM l e0 yX11_valueAt cX11_valueAt 2 (Option.some Jvm.ClassFile.FieldType.int) ({ frames := 0, cells := 0, slots := 0, locals := 0 } : Room) 0 0 [.ref a, .int x] S (kQi (fun v S9 => S = S9 ∧ v = kvat S a x)) := by
  refine kMetE (by decide +kernel) (Nat.le_of_ble_eq_true rfl) (fun C he hl X E hm => ?_)
  have X : kX C RX11 cX11_valueAt 2 ({ frames := 0, cells := 0, slots := 0, locals := 0 } : Room) := X
  subst he hl
  show kG C 2 S 0 0 0 [(0, .ref a), (1, .int x)] []
  refine k_iload_n X (q := 1) dX11_valueAt_0 rfl rfl ?_
  refine k_if_lt (tgt := 16) X dX11_valueAt_1 (by decide) (fun c_1 => ?_) (fun c_1 => ?_)
  · skip
    refine k_iconst X (v := (-1)) dX11_valueAt_16 (by decide) ?_
    exact k_iret X E dX11_valueAt_17 (Nat.le_of_ble_eq_true rfl) (Nat.le_of_ble_eq_true rfl) (⟨rfl, by unfold kvat; first | (rw [if_pos c_1]; done) | (rw [if_neg c_1, if_pos c_7]; done) | (rw [if_neg c_1, if_neg c_7]; try (subst_vars; rfl))⟩)
  · skip
    refine k_iload_n X (q := 1) dX11_valueAt_4 rfl rfl ?_
    refine k_aload_n X (q := 0) dX11_valueAt_5 rfl rfl ?_
    refine k_alen X (S := S) ha.1 (Or.inl ha.2) dX11_valueAt_6 ?_
    refine k_icmp_ge (tgt := 16) X dX11_valueAt_7 (by decide) (fun c_7 => ?_) (fun c_7 => ?_)
    · skip
      refine k_iconst X (v := (-1)) dX11_valueAt_16 (by decide) ?_
      exact k_iret X E dX11_valueAt_17 (Nat.le_of_ble_eq_true rfl) (Nat.le_of_ble_eq_true rfl) (⟨rfl, by unfold kvat; first | (rw [if_pos c_1]; done) | (rw [if_neg c_1, if_pos c_7]; done) | (rw [if_neg c_1, if_neg c_7]; try (subst_vars; rfl))⟩)
    · skip
      refine k_aload_n X (q := 0) dX11_valueAt_10 rfl rfl ?_
      refine k_iload_n X (q := 1) dX11_valueAt_11 rfl rfl ?_
      refine k_iald X (S := S) ha.1 ha.2 (vp_of c_1 c_7 hN) dX11_valueAt_12 (fun v_12_1 ev_12_1 => ?_)
      refine k_goto (tgt := 17) X dX11_valueAt_13 (by decide) ?_
      exact k_iret X E dX11_valueAt_17 (Nat.le_of_ble_eq_true rfl) (Nat.le_of_ble_eq_true rfl) (⟨rfl, by unfold kvat; first | (rw [if_pos c_1]; done) | (rw [if_neg c_1, if_pos c_7]; done) | (rw [if_neg c_1, if_neg c_7]; try (subst_vars; rfl))⟩)
set_option maxHeartbeats 1000000 in
set_option maxRecDepth 20000 in
theorem c_X11_putAt (l : Launch) (e0 : Nat × Nat) (S : kS) (a : Nat) (x y : Int32) (ha : S.at a 13) (hN : S.N a < 2 ^ 31) : kM l e0 yX11_putAt cX11_putAt 3 none ({ frames := 0, cells := 0, slots := 0, locals := 0 } : Room) 0 0 [.ref a, .int x, .int y] S (kQv (fun S9 => S9 = kpat S a x y)) := by
  refine kMetE (by decide +kernel) (Nat.le_of_ble_eq_true rfl) (fun C he hl X E hm => ?_)
  have X : kX C RX11 cX11_putAt 3 ({ frames := 0, cells := 0, slots := 0, locals := 0 } : Room) := X
  subst he hl
  show kG C 3 S 0 0 0 [(0, .ref a), (1, .int x), (2, .int y)] []
  refine k_iload_n X (q := 1) dX11_putAt_0 rfl rfl ?_
  refine k_if_lt (tgt := 14) X dX11_putAt_1 (by decide) (fun c_1 => ?_) (fun c_1 => ?_)
  · skip
    exact k_vret X E dX11_putAt_14 (Nat.le_of_ble_eq_true rfl) (Nat.le_of_ble_eq_true rfl) (by unfold kpat; first | (rw [if_pos c_1]; done) | (rw [if_neg c_1, if_pos c_7]; done) | (rw [if_neg c_1, if_neg c_7]; try (subst_vars; rfl)))
  · skip
    refine k_iload_n X (q := 1) dX11_putAt_4 rfl rfl ?_
    refine k_aload_n X (q := 0) dX11_putAt_5 rfl rfl ?_
    refine k_alen X (S := S) ha.1 (Or.inl ha.2) dX11_putAt_6 ?_
    refine k_icmp_ge (tgt := 14) X dX11_putAt_7 (by decide) (fun c_7 => ?_) (fun c_7 => ?_)
    · skip
      exact k_vret X E dX11_putAt_14 (Nat.le_of_ble_eq_true rfl) (Nat.le_of_ble_eq_true rfl) (by unfold kpat; first | (rw [if_pos c_1]; done) | (rw [if_neg c_1, if_pos c_7]; done) | (rw [if_neg c_1, if_neg c_7]; try (subst_vars; rfl)))
    · skip
      refine k_aload_n X (q := 0) dX11_putAt_10 rfl rfl ?_
      refine k_iload_n X (q := 1) dX11_putAt_11 rfl rfl ?_
      refine k_iload_n X (q := 2) dX11_putAt_12 rfl rfl ?_
      refine k_iast X (S := S) ha.1 ha.2 (vp_of c_1 c_7 hN) dX11_putAt_13 ?_
      exact k_vret X E dX11_putAt_14 (Nat.le_of_ble_eq_true rfl) (Nat.le_of_ble_eq_true rfl) (by unfold kpat; first | (rw [if_pos c_1]; done) | (rw [if_neg c_1, if_pos c_7]; done) | (rw [if_neg c_1, if_neg c_7]; try (subst_vars; rfl)))
set_option maxHeartbeats 1000000 in
set_option maxRecDepth 20000 in
theorem c_X11_addAt (l : Launch) (e0 : Nat × Nat) (S : kS) (a : Nat) (x y : Int32) (ha : S.at a 13) (hN : S.N a < 2 ^ 31) : kM l e0 yX11_addAt cX11_addAt 3 none ({ frames := 0, cells := 0, slots := 0, locals := 0 } : Room) 0 0 [.ref a, .int x, .int y] S (kQv (fun S9 => S9 = kaat S a x y)) := by
  refine kMetE (by decide +kernel) (Nat.le_of_ble_eq_true rfl) (fun C he hl X E hm => ?_)
  have X : kX C RX11 cX11_addAt 3 ({ frames := 0, cells := 0, slots := 0, locals := 0 } : Room) := X
  subst he hl
  show kG C 3 S 0 0 0 [(0, .ref a), (1, .int x), (2, .int y)] []
  refine k_iload_n X (q := 1) dX11_addAt_0 rfl rfl ?_
  refine k_if_lt (tgt := 17) X dX11_addAt_1 (by decide) (fun c_1 => ?_) (fun c_1 => ?_)
  · skip
    exact k_vret X E dX11_addAt_17 (Nat.le_of_ble_eq_true rfl) (Nat.le_of_ble_eq_true rfl) (by unfold kaat; first | (rw [if_pos c_1]; done) | (rw [if_neg c_1, if_pos c_7]; done) | (rw [if_neg c_1, if_neg c_7]; try (subst_vars; rfl)))
  · skip
    refine k_iload_n X (q := 1) dX11_addAt_4 rfl rfl ?_
    refine k_aload_n X (q := 0) dX11_addAt_5 rfl rfl ?_
    refine k_alen X (S := S) ha.1 (Or.inl ha.2) dX11_addAt_6 ?_
    refine k_icmp_ge (tgt := 17) X dX11_addAt_7 (by decide) (fun c_7 => ?_) (fun c_7 => ?_)
    · skip
      exact k_vret X E dX11_addAt_17 (Nat.le_of_ble_eq_true rfl) (Nat.le_of_ble_eq_true rfl) (by unfold kaat; first | (rw [if_pos c_1]; done) | (rw [if_neg c_1, if_pos c_7]; done) | (rw [if_neg c_1, if_neg c_7]; try (subst_vars; rfl)))
    · skip
      refine k_aload_n X (q := 0) dX11_addAt_10 rfl rfl ?_
      refine k_iload_n X (q := 1) dX11_addAt_11 rfl rfl ?_
      refine k_dup2 X dX11_addAt_12 rfl rfl ?_
      refine k_iald X (S := S) ha.1 ha.2 (vp_of c_1 c_7 hN) dX11_addAt_13 (fun v_13_1 ev_13_1 => ?_)
      refine k_iload_n X (q := 2) dX11_addAt_14 rfl rfl ?_
      refine k_iadd X dX11_addAt_15 (fun v_15_2 ev_15_2 => ?_)
      refine k_iast X (S := S) ha.1 ha.2 (vp_of c_1 c_7 hN) dX11_addAt_16 ?_
      exact k_vret X E dX11_addAt_17 (Nat.le_of_ble_eq_true rfl) (Nat.le_of_ble_eq_true rfl) (by unfold kaat; first | (rw [if_pos c_1]; done) | (rw [if_neg c_1, if_pos c_7]; done) | (rw [if_neg c_1, if_neg c_7]; try (subst_vars; rfl)))
set_option maxHeartbeats 1000000 in
set_option maxRecDepth 20000 in
theorem c_X11_sumOf (l : Launch) (e0 : Nat × Nat) (S : kS) (a : Nat) (ha : S.at a 13) (hN : S.N a < 2 ^ 31) : kM l e0 yX11_sumOf cX11_sumOf 3 (Option.some Jvm.ClassFile.FieldType.int) ({ frames := 0, cells := 0, slots := 0, locals := 0 } : Room) 0 0 [.ref a] S (kQi (fun v S9 => S = S9 ∧ v = ksum (S.I a) (S.N a))) := by
  refine kMetE (by decide +kernel) (Nat.le_of_ble_eq_true rfl) (fun C he hl X E hm => ?_)
  have X : kX C RX11 cX11_sumOf 3 ({ frames := 0, cells := 0, slots := 0, locals := 0 } : Room) := X
  subst he hl
  show kG C 3 S 0 0 0 [(0, .ref a)] []
  refine k_iconst X (v := 0) dX11_sumOf_0 (by decide) ?_
  refine k_istore_n X [(1, .int 0), (0, .ref a)] dX11_sumOf_1 rfl (by decide) rfl ?_
  refine k_iconst X (v := 0) dX11_sumOf_2 (by decide) ?_
  refine k_istore_n X [(2, .int 0), (1, .int 0), (0, .ref a)] dX11_sumOf_3 rfl (by decide) rfl ?_
  have L_4 : ∀ (N : Nat) (i : Nat) (x acc : Int32), S.N a - i = N → x = nI i → acc = ksum (S.I a) i → i ≤ S.N a → kG C 3 S 0 0 4 [(2, .int x), (1, .int acc), (0, .ref a)] [] := by
    intro N
    induction N using Nat.strongRecOn with
    | _ N ih =>
    intro i x acc hMs h4_0 h4_1 h4_2
    subst h4_0 h4_1
    refine k_iload_n X (q := 0) dX11_sumOf_4 rfl rfl ?_
    refine k_aload_n X (q := 2) dX11_sumOf_5 rfl rfl ?_
    refine k_alen X (S := S) ha.1 (Or.inl ha.2) dX11_sumOf_6 ?_
    refine k_icmp_ge (tgt := 22) X dX11_sumOf_7 (by decide) (fun c_7 => ?_) (fun c_7 => ?_)
    · skip
      refine k_iload_n X (q := 1) dX11_sumOf_22 rfl rfl ?_
      exact k_iret X E dX11_sumOf_23 (Nat.le_of_ble_eq_true rfl) (Nat.le_of_ble_eq_true rfl) (⟨rfl, by rw [show i = S.N a from by have := ge_of_le c_7 hN; omega]⟩)
    · skip
      have hlt : i < S.N a := lt_of_nle c_7 (by omega)
      refine k_iload_n X (q := 1) dX11_sumOf_10 rfl rfl ?_
      refine k_aload_n X (q := 2) dX11_sumOf_11 rfl rfl ?_
      refine k_iload_n X (q := 0) dX11_sumOf_12 rfl rfl ?_
      refine k_iald X (S := S) ha.1 ha.2 (vp_of (nI_pos (by omega)) c_7 hN) dX11_sumOf_13 (fun v_13_1 ev_13_1 => ?_)
      refine k_iadd X dX11_sumOf_14 (fun v_14_2 ev_14_2 => ?_)
      refine k_istore_n X [(1, .int v_14_2), (2, .int (nI i)), (0, .ref a)] dX11_sumOf_15 rfl (by decide) rfl ?_
      obtain ⟨v_16_3, ev_16_3⟩ : ∃ z : Int32, z = (nI i) + 1 := ⟨_, rfl⟩
      refine k_iinc X (q := 1) (v := v_16_3) [(2, .int v_16_3), (1, .int v_14_2), (0, .ref a)] dX11_sumOf_16 rfl (by rw [ev_16_3]; rfl) (by decide) rfl ?_
      refine k_goto (tgt := 4) X dX11_sumOf_19 (by decide) ?_
      refine k_lv [0, 1, 2] _ rfl ?_
      exact ih (S.N a - (i + 1)) (by omega) (i + 1) _ _ rfl (by rw [ev_16_3, nI_1]) (by rw [ev_14_2, ev_13_1, nI_clamp (by omega)]; rfl) (by omega)
  refine k_lv [0, 1, 2] _ rfl ?_
  exact L_4 _ 0 0 0 rfl nI_0.symm rfl (Nat.zero_le _)
