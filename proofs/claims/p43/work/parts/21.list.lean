/-- what a list's elements are: a class of the world that an Object row takes -/
def kEl (κ : Nat) : Prop := ∃ (Cn : String) (T : u_T) (NN : Nat), vwCl[kci κ]? = some (Cn, T, NN) ∧ (∀ cy m i r, kcont cy κ m i r = .inr (kci κ, kfs κ i r)) ∧ Cond.castable Cn "java/lang/Object" ∈ kNl
theorem kEl_1 : kEl 1 := ⟨RX1, TX1, 16, rfl, fun _ _ _ _ => rfl, qOX1⟩
theorem kEl_7 : kEl 7 := ⟨RX7, TX7, 9, rfl, fun _ _ _ _ => rfl, qOX7⟩
theorem kEl_8 : kEl 8 := ⟨RX8, TX8, 5, rfl, fun _ _ _ _ => rfl, qOX8⟩
theorem kEl_10 : kEl 10 := ⟨RX10, TX10, 7, rfl, fun _ _ _ _ => rfl, qOX10⟩
/-- lengths that a list's row can have -/
def kcapOk (c : Nat) : Prop := c = 10 ∨ c = 15 ∨ c = 22 ∨ c = 33 ∨ c = 49 ∨ c = 73
/-- the list a holds the m things xs, of shape κ -/
def kLs (e0 : Nat × Nat) (S : kS) (a κ m : Nat) (xs : Nat → Nat) : Prop := S.at a 12 ∧ S.I a 2 = nI m ∧ ∃ b, S.R a 1 = some b ∧ ((b = e0.1 ∧ m = 0) ∨ (S.at b 15 ∧ S.O b = 100 + S.O a ∧ m ≤ S.N b ∧ kcapOk (S.N b) ∧ ∀ i, i < m → S.R b i = some (xs i) ∧ S.at (xs i) κ))
/-- what else there was is there, and but for P it holds what it held -/
def kFr (S S' : kS) (P : Nat → Prop) : Prop := (∀ b, b ∈ S.L → b ∈ S'.L ∧ S'.K b = S.K b ∧ S'.O b = S.O b ∧ S'.N b = S.N b) ∧ ∀ b, b ∈ S.L → ¬ P b → (∀ j, S'.I b j = S.I b j) ∧ ∀ j, S'.R b j = S.R b j
/-- a list and its row, by their role -/
def kRo (S : kS) (r : Nat) : Nat → Prop := fun b => S.O b = r ∨ S.O b = 100 + r
/-- a list's row from 0 to i is emptied -/
def kS.clr (S : kS) (b i : Nat) : kS := (S.L, S.K, S.O, S.N, S.I, fun c j => if c = b ∧ j < i then none else S.R c j)
theorem clr_0 (S : kS) (b : Nat) : S.clr b 0 = S := by
  unfold kS.clr
  have h : (fun c j => if c = b ∧ j < 0 then none else S.R c j) = S.R := by funext c j; simp
  rw [h]; rfl
theorem clr_s (S : kS) (b i : Nat) : (S.clr b i).uR b i none = S.clr b (i + 1) := by
  have h : (fun c j => if c = b ∧ j = i then none else (S.clr b i).R c j) = (S.clr b (i + 1)).R := by
    funext c j
    show (if c = b ∧ j = i then none else if c = b ∧ j < i then none else S.R c j) = if c = b ∧ j < i + 1 then none else S.R c j
    by_cases h1 : c = b <;> by_cases h2 : j = i <;> by_cases h3 : j < i <;> simp [h1, h2, h3] <;> first | omega | (intro h4; omega) | skip
  show (S.L, S.K, S.O, S.N, S.I, _) = (S.L, S.K, S.O, S.N, S.I, _)
  rw [h]; rfl
theorem kFr.rf (S : kS) (P : Nat → Prop) : kFr S S P := ⟨fun b hb => ⟨hb, rfl, rfl, rfl⟩, fun b hb hn => ⟨fun j => rfl, fun j => rfl⟩⟩
theorem kFr.at {S S' : kS} {P : Nat → Prop} (h : kFr S S' P) {a κ : Nat} (ha : S.at a κ) : S'.at a κ := ⟨(h.1 a ha.1).1, (h.1 a ha.1).2.1.trans ha.2⟩
set_option maxHeartbeats 1000000 in
set_option maxRecDepth 20000 in
theorem c_J3_checkIndex_8e157 (l : Launch) (e0 : Nat × Nat) (S : kS) (x y : Int32) (hx : ¬ x < 0) (hy : x < y) : kM l e0 yJ3_checkIndex_8e157 cJ3_checkIndex_8e157 3 (Option.some Jvm.ClassFile.FieldType.int) ({ frames := 0, cells := 0, slots := 0, locals := 0 } : Room) 0 0 [.int x, .int y, .null] S (kQi (fun v S9 => S = S9 ∧ v = x)) := by
  refine kMetE (by decide +kernel) (Nat.le_of_ble_eq_true rfl) (fun C he hl X E hm => ?_)
  have X : kX C RJ3 cJ3_checkIndex_8e157 3 ({ frames := 0, cells := 0, slots := 0, locals := 0 } : Room) := X
  subst he hl
  show kG C 3 S 0 0 0 [(0, .int x), (1, .int y), (2, .null)] []
  refine k_iload_n X (q := 0) dJ3_checkIndex_8e157_0 rfl rfl ?_
  refine k_if_lt (tgt := 9) X dJ3_checkIndex_8e157_1 (by decide) (fun c_1 => ?_) (fun c_1 => ?_)
  · skip
    exact absurd c_1 hx
  · skip
    refine k_iload_n X (q := 0) dJ3_checkIndex_8e157_4 rfl rfl ?_
    refine k_iload_n X (q := 1) dJ3_checkIndex_8e157_5 rfl rfl ?_
    refine k_icmp_lt (tgt := 16) X dJ3_checkIndex_8e157_6 (by decide) (fun c_6 => ?_) (fun c_6 => ?_)
    · skip
      refine k_iload_n X (q := 0) dJ3_checkIndex_8e157_16 rfl rfl ?_
      exact k_iret X E dJ3_checkIndex_8e157_17 (Nat.le_of_ble_eq_true rfl) (Nat.le_of_ble_eq_true rfl) (⟨rfl, rfl⟩)
    · skip
      exact absurd hy c_6
set_option maxHeartbeats 1000000 in
set_option maxRecDepth 20000 in
theorem c_J15_checkIndex_7cf53 (l : Launch) (e0 : Nat × Nat) (S : kS) (x y : Int32) (hx : ¬ x < 0) (hy : x < y) : kM l e0 yJ15_checkIndex_7cf53 cJ15_checkIndex_7cf53 2 (Option.some Jvm.ClassFile.FieldType.int) ({ frames := 1, cells := 0, slots := 0, locals := 22 } : Room) 0 0 [.int x, .int y] S (kQi (fun v S9 => S = S9 ∧ v = x)) := by
  refine kMetE (by decide +kernel) (Nat.le_of_ble_eq_true rfl) (fun C he hl X E hm => ?_)
  have X : kX C RJ15 cJ15_checkIndex_7cf53 2 ({ frames := 1, cells := 0, slots := 0, locals := 22 } : Room) := X
  subst he hl
  show kG C 2 S 0 0 0 [(0, .int x), (1, .int y)] []
  refine k_iload_n X (q := 0) dJ15_checkIndex_7cf53_0 rfl rfl ?_
  refine k_iload_n X (q := 1) dJ15_checkIndex_7cf53_1 rfl rfl ?_
  refine k_null X dJ15_checkIndex_7cf53_2 ?_
  refine k_gotI X (vJ15_105 X (S := S) (c_J3_checkIndex_8e157 C.l C.e0 S x y hx hy) (As := [.int x, .int y, .null]) (rest := []) rfl rfl rfl rfl ⟨Nat.le_of_ble_eq_true rfl, Nat.le_of_ble_eq_true rfl⟩ (Nat.le_of_ble_eq_true rfl) ⟨Nat.le_of_ble_eq_true rfl, Nat.le_of_ble_eq_true rfl⟩ dJ15_checkIndex_7cf53_3) (fun v_3_2 S_3_3 h_3_0 => ?_)
  obtain ⟨rfl, ev_3_2⟩ := h_3_0
  exact k_iret X E dJ15_checkIndex_7cf53_6 (Nat.le_of_ble_eq_true rfl) (Nat.le_of_ble_eq_true rfl) (⟨rfl, by assumption⟩)
set_option maxHeartbeats 1000000 in
set_option maxRecDepth 20000 in
theorem c_Jx4a65c_elementData_915e3 (l : Launch) (e0 : Nat × Nat) (S : kS) (a b : Nat) (x : Int32) (ha : S.at a 12) (hb : S.R a 1 = some b) (hB : S.at b 15) (hx : vp_in x (S.N b)) : kM l e0 yJx4a65c_elementData_915e3 cJx4a65c_elementData_915e3 2 (Option.some (Jvm.ClassFile.FieldType.object "java/lang/Object")) ({ frames := 0, cells := 0, slots := 0, locals := 0 } : Room) 0 0 [.ref a, .int x] S (kQq (fun v S9 => S = S9 ∧ v = S.R b x.toNatClampNeg)) := by
  refine kMetE (by decide +kernel) (Nat.le_of_ble_eq_true rfl) (fun C he hl X E hm => ?_)
  have X : kX C RJx4a65c cJx4a65c_elementData_915e3 2 ({ frames := 0, cells := 0, slots := 0, locals := 0 } : Room) := X
  subst he hl
  show kG C 2 S 0 0 0 [(0, .ref a), (1, .int x)] []
  refine k_aload_n X (q := 0) dJx4a65c_elementData_915e3_0 rfl rfl ?_
  refine gJx4a65c_9s X (S := S) ha.1 ha.2 hb dJx4a65c_elementData_915e3_1 ?_
  refine k_iload_n X (q := 1) dJx4a65c_elementData_915e3_4 rfl rfl ?_
  refine k_aald X (S := S) hB.1 (by simp [hB.2]) (by assumption) dJx4a65c_elementData_915e3_5 (fun r_5_1 er_5_1 => ?_)
  exact k_aret X E (r := r_5_1) (Or.inl ⟨_, rfl⟩) dJx4a65c_elementData_915e3_6 (Nat.le_of_ble_eq_true rfl) (Nat.le_of_ble_eq_true rfl) (⟨rfl, by assumption⟩)
set_option maxHeartbeats 1000000 in
set_option maxRecDepth 20000 in
theorem c_Jx4a65c_size_8abf5 (l : Launch) (e0 : Nat × Nat) (S : kS) (a : Nat) (ha : S.at a 12) : kM l e0 yJx4a65c_size_8abf5 cJx4a65c_size_8abf5 1 (Option.some Jvm.ClassFile.FieldType.int) ({ frames := 0, cells := 0, slots := 0, locals := 0 } : Room) 0 0 [.ref a] S (kQi (fun v S9 => S = S9 ∧ v = S.I a 2)) := by
  refine kMetE (by decide +kernel) (Nat.le_of_ble_eq_true rfl) (fun C he hl X E hm => ?_)
  have X : kX C RJx4a65c cJx4a65c_size_8abf5 1 ({ frames := 0, cells := 0, slots := 0, locals := 0 } : Room) := X
  subst he hl
  show kG C 1 S 0 0 0 [(0, .ref a)] []
  refine k_aload_n X (q := 0) dJx4a65c_size_8abf5_0 rfl rfl ?_
  refine gJx4a65c_48 X (S := S) ha.1 ha.2 dJx4a65c_size_8abf5_1 (fun v_1_1 ev_1_1 => ?_)
  exact k_iret X E dJx4a65c_size_8abf5_4 (Nat.le_of_ble_eq_true rfl) (Nat.le_of_ble_eq_true rfl) (⟨rfl, by assumption⟩)
set_option maxHeartbeats 1000000 in
set_option maxRecDepth 20000 in
theorem c_Jx4a65c_isEmpty_aae02 (l : Launch) (e0 : Nat × Nat) (S : kS) (a : Nat) (ha : S.at a 12) : kM l e0 yJx4a65c_isEmpty_aae02 cJx4a65c_isEmpty_aae02 1 (Option.some Jvm.ClassFile.FieldType.boolean) ({ frames := 0, cells := 0, slots := 0, locals := 0 } : Room) 0 0 [.ref a] S (kQi (fun v S9 => S = S9 ∧ v = kb (decide (S.I a 2 = 0)))) := by
  refine kMetE (by decide +kernel) (Nat.le_of_ble_eq_true rfl) (fun C he hl X E hm => ?_)
  have X : kX C RJx4a65c cJx4a65c_isEmpty_aae02 1 ({ frames := 0, cells := 0, slots := 0, locals := 0 } : Room) := X
  subst he hl
  show kG C 1 S 0 0 0 [(0, .ref a)] []
  refine k_aload_n X (q := 0) dJx4a65c_isEmpty_aae02_0 rfl rfl ?_
  refine gJx4a65c_48 X (S := S) ha.1 ha.2 dJx4a65c_isEmpty_aae02_1 (fun v_1_1 ev_1_1 => ?_)
  refine k_if_ne (tgt := 11) X dJx4a65c_isEmpty_aae02_4 (by decide) (fun c_4 => ?_) (fun c_4 => ?_)
  · skip
    refine k_iconst X (v := 0) dJx4a65c_isEmpty_aae02_11 (by decide) ?_
    exact k_zret X E (Or.inl rfl) dJx4a65c_isEmpty_aae02_12 (Nat.le_of_ble_eq_true rfl) (Nat.le_of_ble_eq_true rfl) (⟨rfl, by subst_vars; simp_all [kb]⟩)
  · skip
    refine k_iconst X (v := 1) dJx4a65c_isEmpty_aae02_7 (by decide) ?_
    refine k_goto (tgt := 12) X dJx4a65c_isEmpty_aae02_8 (by decide) ?_
    exact k_zret X E (Or.inr rfl) dJx4a65c_isEmpty_aae02_12 (Nat.le_of_ble_eq_true rfl) (Nat.le_of_ble_eq_true rfl) (⟨rfl, by subst_vars; simp_all [kb]⟩)
set_option maxHeartbeats 1000000 in
set_option maxRecDepth 20000 in
theorem c_Jx4a65c_get_915e3 (l : Launch) (e0 : Nat × Nat) (S : kS) (a κ m j : Nat) (xs : Nat → Nat) (h : kLs e0 S a κ m xs) (hj : j < m) : kM l e0 yJx4a65c_get_915e3 cJx4a65c_get_915e3 2 (Option.some (Jvm.ClassFile.FieldType.object "java/lang/Object")) ({ frames := 2, cells := 0, slots := 0, locals := 43 } : Room) 0 0 [.ref a, .int (nI j)] S (kQq (fun v S9 => S = S9 ∧ v = some (xs j))) := by
  refine kMetE (by decide +kernel) (Nat.le_of_ble_eq_true rfl) (fun C he hl X E hm => ?_)
  have X : kX C RJx4a65c cJx4a65c_get_915e3 2 ({ frames := 2, cells := 0, slots := 0, locals := 43 } : Room) := X
  subst he hl
  show kG C 2 S 0 0 0 [(0, .ref a), (1, .int (nI j))] []
  obtain ⟨ha, hsz, b, hb, hh⟩ := h
  rcases hh with ⟨-, hm0⟩ | ⟨hB, hO, hmN, hcap, hxs⟩
  · exact absurd hj (by omega)
  have hN : S.N b ≤ 73 := by unfold kcapOk at hcap; omega
  refine k_iload_n X (q := 1) dJx4a65c_get_915e3_0 rfl rfl ?_
  refine k_aload_n X (q := 0) dJx4a65c_get_915e3_1 rfl rfl ?_
  refine gJx4a65c_48 X (S := S) ha.1 ha.2 dJx4a65c_get_915e3_2 (fun v_2_1 ev_2_1 => ?_)
  refine k_gotI X (vJx4a65c_118 X (S := S) (c_J15_checkIndex_7cf53 C.l C.e0 S (nI j) v_2_1 (nI_pos (by omega)) (by rw [ev_2_1, hsz]; exact nI_lt (by omega) (by omega))) (As := [.int (nI j), .int v_2_1]) (rest := []) rfl rfl rfl rfl ⟨Nat.le_of_ble_eq_true rfl, Nat.le_of_ble_eq_true rfl⟩ (Nat.le_of_ble_eq_true rfl) ⟨Nat.le_of_ble_eq_true rfl, Nat.le_of_ble_eq_true rfl⟩ dJx4a65c_get_915e3_5) (fun v_5_3 S_5_4 h_5_1 => ?_)
  obtain ⟨rfl, ev_5_3⟩ := h_5_1
  refine k_pop X dJx4a65c_get_915e3_8 rfl ?_
  refine k_aload_n X (q := 0) dJx4a65c_get_915e3_9 rfl rfl ?_
  refine k_iload_n X (q := 1) dJx4a65c_get_915e3_10 rfl rfl ?_
  refine k_gotQ X (vJx4a65c_123 X (S := S) ⟨ha.1, ha.2⟩ (c_Jx4a65c_elementData_915e3 C.l C.e0 S a b (nI j) ha hb hB (vp_in_nI (by omega) (by omega))) (As := [.int (nI j)]) (rest := []) rfl rfl rfl rfl ⟨Nat.le_of_ble_eq_true rfl, Nat.le_of_ble_eq_true rfl⟩ (Nat.le_of_ble_eq_true rfl) ⟨Nat.le_of_ble_eq_true rfl, Nat.le_of_ble_eq_true rfl⟩ dJx4a65c_get_915e3_11) (fun r_11_6 S_11_7 h_11_4 => ?_)
  obtain ⟨rfl, er_11_6⟩ := h_11_4
  exact k_aret X E (r := r_11_6) (Or.inl ⟨_, rfl⟩) dJx4a65c_get_915e3_14 (Nat.le_of_ble_eq_true rfl) (Nat.le_of_ble_eq_true rfl) (⟨rfl, by rw [er_11_6, nI_clamp (by omega)]; exact (hxs j hj).1⟩)
