theorem lt_of_lt9 {i m : Nat} (c : nI i < nI m) (h : i < 1000 ∧ m < 1000) : i < m := by
  have h1 := Int32.lt_iff_toInt_lt.mp c
  rw [nI_toInt (by omega), nI_toInt (by omega)] at h1
  omega
theorem kfromD {m : Nat} {x v w : Int32} (hv : v = nI m - w) (hw : w = 1) (hm : m ≤ 1000) (h : ¬ kb (decide ((0 : Int32) ≤ x) && decide (x ≤ v)) = 0) : ∃ k, k < m ∧ x = nI k := by
  by_cases h0 : m = 0
  · subst h0
    subst hw
    exact absurd h (fun h => kfrom0 hv h)
  · obtain ⟨k, h1, h2, h3⟩ := kfrom (a := 0) (b := m - 1) rfl (kidx1 ⟨by omega, hm⟩ hv hw) (by omega) h
    exact ⟨k, by omega, h3⟩
/-- a motion that is made -/
def kmot (S : kS) (q c : Nat) (k t l a : Int32) : kS := ((((((((S.uI q 5 (-1)).uI q 6 0).uI q 7 0).uI q 8 0).uR q 0 (some c)).uI q 1 k).uI q 2 t).uI q 3 l).uI q 4 a
/-- a suit that is made -/
def ksuit (S : kS) (q a b : Nat) (k t p : Int32) (d : Option Nat) : kS := ((((((S.uI q 6 0).uR q 0 (some a)).uR q 1 (some b)).uI q 2 k).uI q 3 t).uI q 4 p).uR q 5 d
section KMO
variable {e0 : Nat × Nat} {A : Nat → Nat} {n : Nat} {cz : Nat → Nat} {T G E : Nat} {S S' : kS}
theorem kGo.nw {W : Nat → Nat → Prop} (h : kGo S S' W) {q κ ρ m : Nat} (hq : q ∉ S'.L) : kGo S (S'.nw q κ ρ m) W := h.tr ((kFr.nw (kFr.rf S' (fun _ => False)) hq).go (fun b hb z => absurd z id))
theorem kI.goF (h : kI e0 A n cz T G E S) (hg : kGo S S' (fun _ _ => False)) : kI e0 A n cz T G E S' ∧ kKe A S S' := by
  have hV : ∀ P, kNo (fun _ _ => False) P := fun P ρ j z y => z
  exact ⟨⟨h.1.go0 hg (hV _), h.gCi hg (hV _), h.gHo hg (hV _), h.gCh hg (hV _), h.gLe hg (hV _), h.gMy hg (hV _), h.gLu hg (hV _), h.gMs hg (hV _), h.gOf hg (hV _)⟩, h.gKe hg (hV _)⟩
theorem kmot_go {q c : Nat} {k t l a : Int32} (hq : q ∉ S.L) : kGo S (kmot (S.nw q 7 201 0) q c k t l a) (fun _ _ => False) :=
  ((((((((((kGo.rf (S := S)).nw hq).uI (fun z => absurd z hq)).uI (fun z => absurd z hq)).uI (fun z => absurd z hq)).uI (fun z => absurd z hq)).uR (fun z => absurd z hq)).uI (fun z => absurd z hq)).uI (fun z => absurd z hq)).uI (fun z => absurd z hq)).uI (fun z => absurd z hq)
theorem kmot_mo {q j t a : Nat} {k l : Int32} (hj : j < n) (ht : t < 8) (ha : a ≤ 300) : kMo (kmot (S.nw q 7 201 0) q (cz j) k (nI t) l (nI a)) n cz q :=
  ⟨nw_self (S := S) (κ := 7) (ρ := 201) (n := 0), nw_Oq (S := S) (κ := 7) (ρ := 201) (n := 0), ⟨j, hj, by simp [kmot, uR_R, uI_R]⟩, ⟨t, ht, by simp [kmot, uR_I, uI_I]⟩, ⟨a, ha, by simp [kmot, uR_I, uI_I]⟩⟩
theorem ksuit_go {q a b : Nat} {k t p : Int32} {d : Option Nat} (hq : q ∉ S.L) : kGo S (ksuit (S.nw q 10 202 0) q a b k t p d) (fun _ _ => False) :=
  ((((((((kGo.rf (S := S)).nw hq).uI (fun z => absurd z hq)).uR (fun z => absurd z hq)).uR (fun z => absurd z hq)).uI (fun z => absurd z hq)).uI (fun z => absurd z hq)).uI (fun z => absurd z hq)).uR (fun z => absurd z hq)
theorem ksuit_sv {q a b t : Nat} {k p : Int32} {d : Option Nat} (hq : q ∉ S.L) (ht : t ≤ 200) (hd : ∀ x, d = some x → S.at x 7 ∧ S.O x = 201) : kSv (ksuit (S.nw q 10 202 0) q a b k (nI t) p d) q a b d t :=
  ⟨nw_self (S := S) (κ := 10) (ρ := 202) (n := 0), nw_Oq (S := S) (κ := 10) (ρ := 202) (n := 0), by simp [ksuit, uR_R, uI_R], by simp [ksuit, uR_R, uI_R], by simp [ksuit, uR_R, uI_R], fun x hx => by
    have h1 := hd x hx
    have h2 := (ksuit_go (k := k) (t := nI t) (p := p) (a := a) (b := b) (d := d) hq).1 x h1.1.1
    exact ⟨⟨h2.1, h2.2.1.trans h1.1.2⟩, h2.2.2.1.trans h1.2⟩, ht, by simp [ksuit, uR_I, uI_I]⟩
end KMO
theorem at_uI {S : kS} {b j q κ : Nat} {v : Int32} (h : S.at q κ) : (S.uI b j v).at q κ := h
theorem at_uR {S : kS} {b j q κ : Nat} {v : Option Nat} (h : S.at q κ) : (S.uR b j v).at q κ := h
set_option maxHeartbeats 1000000 in
set_option maxRecDepth 20000 in
theorem c_X7_init (l : Launch) (e0 : Nat × Nat) (S : kS) (q c : Nat) (k t x a : Int32) (hq : S.at q 7) : kM l e0 yX7_init cX7_init 6 none ({ frames := 1, cells := 0, slots := 0, locals := 24 } : Room) 0 0 [.ref q, .ref c, .int k, .int t, .int x, .int a] S (kQv (fun S9 => S9 = kmot S q c k t x a)) := by
  refine kMetE (by decide +kernel) (Nat.le_of_ble_eq_true rfl) (fun C he hl X E hm => ?_)
  have X : kX C RX7 cX7_init 6 ({ frames := 1, cells := 0, slots := 0, locals := 24 } : Room) := X
  subst he hl
  show kG C 6 S 0 0 0 [(0, .ref q), (1, .ref c), (2, .int k), (3, .int t), (4, .int x), (5, .int a)] []
  refine k_aload_n X (q := 0) dX7_init_0 rfl rfl ?_
  refine k_objInit X qmX7_3 (Nat.le_of_ble_eq_true rfl) (Nat.le_of_ble_eq_true rfl) dX7_init_1 ?_
  refine k_aload_n X (q := 0) dX7_init_4 rfl rfl ?_
  refine k_iconst X (v := (-1)) dX7_init_5 (by decide) ?_
  refine pX7_9 X (S := S) hq.1 hq.2 dX7_init_6 ?_
  have hat_1 := at_uI (b := q) (j := 5) (v := (-1 : Int32)) hq
  refine k_aload_n X (q := 0) dX7_init_9 rfl rfl ?_
  refine k_iconst X (v := 0) dX7_init_10 (by decide) ?_
  refine pX7_15 X (S := (S.uI q 5 (-1 : Int32))) hat_1.1 hat_1.2 (Or.inl rfl) dX7_init_11 ?_
  have hat_2 := at_uI (b := q) (j := 6) (v := 0) hat_1
  refine k_aload_n X (q := 0) dX7_init_14 rfl rfl ?_
  refine k_iconst X (v := 0) dX7_init_15 (by decide) ?_
  refine pX7_19 X (S := ((S.uI q 5 (-1 : Int32)).uI q 6 0)) hat_2.1 hat_2.2 (Or.inl rfl) dX7_init_16 ?_
  have hat_3 := at_uI (b := q) (j := 7) (v := 0) hat_2
  refine k_aload_n X (q := 0) dX7_init_19 rfl rfl ?_
  refine k_iconst X (v := 0) dX7_init_20 (by decide) ?_
  refine pX7_22 X (S := (((S.uI q 5 (-1 : Int32)).uI q 6 0).uI q 7 0)) hat_3.1 hat_3.2 (Or.inl rfl) dX7_init_21 ?_
  have hat_4 := at_uI (b := q) (j := 8) (v := 0) hat_3
  refine k_aload_n X (q := 0) dX7_init_24 rfl rfl ?_
  refine k_aload_n X (q := 1) dX7_init_25 rfl rfl ?_
  refine pX7_25 X (S := ((((S.uI q 5 (-1 : Int32)).uI q 6 0).uI q 7 0).uI q 8 0)) hat_4.1 hat_4.2 hm (r := (some c)) dX7_init_26 ?_
  have hat_5 := at_uR (b := q) (j := 0) (v := (some c)) hat_4
  refine k_aload_n X (q := 0) dX7_init_29 rfl rfl ?_
  refine k_iload_n X (q := 2) dX7_init_30 rfl rfl ?_
  refine pX7_29 X (S := (((((S.uI q 5 (-1 : Int32)).uI q 6 0).uI q 7 0).uI q 8 0).uR q 0 (some c))) hat_5.1 hat_5.2 hm dX7_init_31 ?_
  have hat_6 := at_uI (b := q) (j := 1) (v := k) hat_5
  refine k_aload_n X (q := 0) dX7_init_34 rfl rfl ?_
  refine k_iload_n X (q := 3) dX7_init_35 rfl rfl ?_
  refine pX7_32 X (S := ((((((S.uI q 5 (-1 : Int32)).uI q 6 0).uI q 7 0).uI q 8 0).uR q 0 (some c)).uI q 1 k)) hat_6.1 hat_6.2 hm dX7_init_36 ?_
  have hat_7 := at_uI (b := q) (j := 2) (v := t) hat_6
  refine k_aload_n X (q := 0) dX7_init_39 rfl rfl ?_
  refine k_iload X (q := 4) dX7_init_40 rfl ?_
  refine pX7_35 X (S := (((((((S.uI q 5 (-1 : Int32)).uI q 6 0).uI q 7 0).uI q 8 0).uR q 0 (some c)).uI q 1 k).uI q 2 t)) hat_7.1 hat_7.2 dX7_init_42 ?_
  have hat_8 := at_uI (b := q) (j := 3) (v := x) hat_7
  refine k_aload_n X (q := 0) dX7_init_45 rfl rfl ?_
  refine k_iload X (q := 5) dX7_init_46 rfl ?_
  refine pX7_38 X (S := ((((((((S.uI q 5 (-1 : Int32)).uI q 6 0).uI q 7 0).uI q 8 0).uR q 0 (some c)).uI q 1 k).uI q 2 t).uI q 3 x)) hat_8.1 hat_8.2 hm dX7_init_48 ?_
  have hat_9 := at_uI (b := q) (j := 4) (v := a) hat_8
  exact k_vret X E dX7_init_51 (Nat.le_of_ble_eq_true rfl) (Nat.le_of_ble_eq_true rfl) rfl
set_option maxHeartbeats 1000000 in
set_option maxRecDepth 20000 in
theorem c_X10_init (l : Launch) (e0 : Nat × Nat) (S : kS) (q a b : Nat) (k t p : Int32) (d : Option Nat) (hq : S.at q 10) : kM l e0 yX10_init cX10_init 7 none ({ frames := 1, cells := 0, slots := 0, locals := 24 } : Room) 0 0 [.ref q, .ref a, .ref b, .int k, .int t, .int p, va_rf d] S (kQv (fun S9 => S9 = ksuit S q a b k t p d)) := by
  refine kMetE (by decide +kernel) (by simp [lg_sl, va_cat, cat_i, cat_r, cat_l]) (fun C he hl X E hm => ?_)
  have X : kX C RX10 cX10_init 7 ({ frames := 1, cells := 0, slots := 0, locals := 24 } : Room) := X
  subst he hl
  rw [show lv_args 0 [.ref q, .ref a, .ref b, .int k, .int t, .int p, va_rf d] = [(0, .ref q), (1, .ref a), (2, .ref b), (3, .int k), (4, .int t), (5, .int p), (6, va_rf d)] from by simp [lv_args, va_cat, cat_i, cat_r, cat_l]]
  show kG C 7 S 0 0 0 [(0, .ref q), (1, .ref a), (2, .ref b), (3, .int k), (4, .int t), (5, .int p), (6, va_rf d)] []
  refine k_aload_n X (q := 0) dX10_init_0 rfl rfl ?_
  refine k_objInit X qmX10_1 (Nat.le_of_ble_eq_true rfl) (Nat.le_of_ble_eq_true rfl) dX10_init_1 ?_
  refine k_aload_n X (q := 0) dX10_init_4 rfl rfl ?_
  refine k_iconst X (v := 0) dX10_init_5 (by decide) ?_
  refine pX10_7 X (S := S) hq.1 hq.2 (Or.inl rfl) dX10_init_6 ?_
  have hat_1 := at_uI (b := q) (j := 6) (v := 0) hq
  refine k_aload_n X (q := 0) dX10_init_9 rfl rfl ?_
  refine k_aload_n X (q := 1) dX10_init_10 rfl rfl ?_
  refine pX10_13 X (S := (S.uI q 6 0)) hat_1.1 hat_1.2 hm (r := (some a)) dX10_init_11 ?_
  have hat_2 := at_uR (b := q) (j := 0) (v := (some a)) hat_1
  refine k_aload_n X (q := 0) dX10_init_14 rfl rfl ?_
  refine k_aload_n X (q := 2) dX10_init_15 rfl rfl ?_
  refine pX10_17 X (S := ((S.uI q 6 0).uR q 0 (some a))) hat_2.1 hat_2.2 hm (r := (some b)) dX10_init_16 ?_
  have hat_3 := at_uR (b := q) (j := 1) (v := (some b)) hat_2
  refine k_aload_n X (q := 0) dX10_init_19 rfl rfl ?_
  refine k_iload_n X (q := 3) dX10_init_20 rfl rfl ?_
  refine pX10_20 X (S := (((S.uI q 6 0).uR q 0 (some a)).uR q 1 (some b))) hat_3.1 hat_3.2 hm dX10_init_21 ?_
  have hat_4 := at_uI (b := q) (j := 2) (v := k) hat_3
  refine k_aload_n X (q := 0) dX10_init_24 rfl rfl ?_
  refine k_iload X (q := 4) dX10_init_25 rfl ?_
  refine pX10_24 X (S := ((((S.uI q 6 0).uR q 0 (some a)).uR q 1 (some b)).uI q 2 k)) hat_4.1 hat_4.2 hm dX10_init_27 ?_
  have hat_5 := at_uI (b := q) (j := 3) (v := t) hat_4
  refine k_aload_n X (q := 0) dX10_init_30 rfl rfl ?_
  refine k_iload X (q := 5) dX10_init_31 rfl ?_
  refine pX10_27 X (S := (((((S.uI q 6 0).uR q 0 (some a)).uR q 1 (some b)).uI q 2 k).uI q 3 t)) hat_5.1 hat_5.2 hm dX10_init_33 ?_
  have hat_6 := at_uI (b := q) (j := 4) (v := p) hat_5
  refine k_aload_n X (q := 0) dX10_init_36 rfl rfl ?_
  refine k_aloadQ X (q := 6) dX10_init_37 rfl ?_
  refine pX10_30 X (S := ((((((S.uI q 6 0).uR q 0 (some a)).uR q 1 (some b)).uI q 2 k).uI q 3 t).uI q 4 p)) hat_6.1 hat_6.2 hm (r := d) dX10_init_39 ?_
  have hat_7 := at_uR (b := q) (j := 5) (v := d) hat_6
  exact k_vret X E dX10_init_42 (Nat.le_of_ble_eq_true rfl) (Nat.le_of_ble_eq_true rfl) rfl
set_option maxHeartbeats 1000000 in
set_option maxRecDepth 20000 in
theorem c_X11_move (l : Launch) (e0 : Nat × Nat) (S : kS) (x1 : Int32) (x2 : Int32) (x3 : Int32) (x4 : Int32) (x5 : Int32) (A : Nat → Nat) (n : Nat) (cz : Nat → Nat) (T G Z : Nat) (h : kI e0 A n cz T G Z S)  (hb : T + 0 ≤ 900000 ∧ G + 0 ≤ 60000 ∧ Z + 0 ≤ 150000) (hfl : l.stackTraces = false) : kMX l e0 yX11_move cX11_move 7 (Option.some Jvm.ClassFile.FieldType.int) ({ frames := 7, cells := 2, slots := 82, locals := 191 } : Room) 2 82 [.ref (A 0), .int x1, .int x2, .int x3, .int x4, .int x5] S (kQi (fun v S9 => kI e0 A n cz (T + 0) (G + 0) (Z + 0) S9 ∧ kKe A S S9)) (fun S9 => S9 = S) := by
  refine kMetX (by decide +kernel) (Nat.le_of_ble_eq_true rfl) hfl (fun C he hl X E Y hm => ?_)
  have X : kX C RX11 cX11_move 7 ({ frames := 7, cells := 2, slots := 82, locals := 191 } : Room) := X
  subst he hl
  show kG C 7 S 0 0 0 [(0, .ref (A 0)), (1, .int x1), (2, .int x2), (3, .int x3), (4, .int x4), (5, .int x5)] []
  have hn := h.n40
  obtain ⟨ma, xa, hLa, hma, hxa⟩ := h.ml.1
  refine k_aload_n X (q := 0) dX11_move_0 rfl rfl ?_
  refine gX11_10s X (S := S) (st_0 h.st).1 (st_0 h.st).2 (sr_0_0 h.st) dX11_move_1 ?_
  refine k_iload_n X (q := 1) dX11_move_4 rfl rfl ?_
  refine k_gotQ X (vX11_102 X (S := S) ⟨(st_1 h.st).1, (st_1 h.st).2⟩ (c_X2_numbered C.l C.e0 S x1 A n cz h.st h.hC hn (by have := h.who.1; omega)) (As := [.int x1]) (rest := []) rfl rfl rfl rfl ⟨Nat.le_of_ble_eq_true rfl, Nat.le_of_ble_eq_true rfl⟩ (Nat.le_of_ble_eq_true rfl) ⟨(by show _ ≤ 2; omega), (by show _ ≤ 82; omega)⟩ dX11_move_5) (fun r_5_2 S_5_3 h_5_0 => ?_)
  obtain ⟨rfl, hnj_5, hnq_5⟩ := h_5_0
  refine k_astoreQ X [(6, va_rf r_5_2), (0, .ref (A 0)), (1, .int x1), (2, .int x2), (3, .int x3), (4, .int x4), (5, .int x5)] dX11_move_8 (by decide) rfl ?_
  refine k_aloadQ X (q := 0) dX11_move_10 rfl ?_
  refine k_ifnonnull (tgt := 23) X dX11_move_12 (by decide) (fun a_12_4 c_12 => ?_) (fun c_12 => ?_)
  · skip
    subst c_12
    obtain ⟨j, hj, hxj⟩ : ∃ j, j < n ∧ a_12_4 = cz j := by
      rcases hnq_5 with z | ⟨j, z1, z2, z3⟩
      · cases z
      · exact ⟨j, z1, Option.some.inj z3⟩
    subst hxj
    refine k_iload_n X (q := 3) dX11_move_23 rfl rfl ?_
    refine k_iconst X (v := 0) dX11_move_24 (by decide) ?_
    refine k_iconst X (v := 5) dX11_move_25 (by decide) ?_
    refine k_gotI X (vX11_61 X (S := S) (c_X11_isFrom C.l C.e0 S x2 0 5 ) (As := [.int x2, .int 0, .int 5]) (rest := []) rfl rfl rfl rfl ⟨Nat.le_of_ble_eq_true rfl, Nat.le_of_ble_eq_true rfl⟩ (Nat.le_of_ble_eq_true rfl) ⟨(by show _ ≤ 2; omega), (by show _ ≤ 82; omega)⟩ dX11_move_26) (fun v_26_6 S_26_7 h_26_4 => ?_)
    obtain ⟨rfl, ev_26_6⟩ := h_26_4
    refine k_if_eq (tgt := 42) X dX11_move_29 (by decide) (fun c_29 => ?_) (fun c_29 => ?_)
    · skip
      rw [ev_26_6] at c_29
      exact kthrw_65 X E Y dX11_move_42 dX11_move_45 dX11_move_46 dX11_move_49 (Nat.le_of_ble_eq_true rfl) (Nat.le_of_ble_eq_true rfl) (by show _ ≤ 2; omega) (by show _ ≤ 82; omega) (Nat.le_refl _) (Nat.le_refl _) rfl
    · skip
      rw [ev_26_6] at c_29
      refine k_iload_n X (q := 4) dX11_move_32 rfl rfl ?_
      refine k_iconst X (v := 0) dX11_move_33 (by decide) ?_
      refine k_bipush X (v := 7) dX11_move_34 (by decide) ?_
      refine k_gotI X (vX11_61 X (S := S) (c_X11_isFrom C.l C.e0 S x3 0 7 ) (As := [.int x3, .int 0, .int 7]) (rest := []) rfl rfl rfl rfl ⟨Nat.le_of_ble_eq_true rfl, Nat.le_of_ble_eq_true rfl⟩ (Nat.le_of_ble_eq_true rfl) ⟨(by show _ ≤ 2; omega), (by show _ ≤ 82; omega)⟩ dX11_move_36) (fun v_36_9 S_36_10 h_36_7 => ?_)
      obtain ⟨rfl, ev_36_9⟩ := h_36_7
      refine k_if_ne (tgt := 50) X dX11_move_39 (by decide) (fun c_39 => ?_) (fun c_39 => ?_)
      · skip
        rw [ev_36_9] at c_39
        obtain ⟨t, ht1, ht2, hxt⟩ := kfrom (a := 0) (b := 7) rfl (rfl) (by omega) c_39
        have ht : t < 8 := by omega
        subst hxt
        refine k_iload X (q := 5) dX11_move_50 rfl ?_
        refine k_gotI X (vX11_68 X (S := S) (c_X11_isLean C.l C.e0 S x4 ) (As := [.int x4]) (rest := []) rfl rfl rfl rfl ⟨Nat.le_of_ble_eq_true rfl, Nat.le_of_ble_eq_true rfl⟩ (Nat.le_of_ble_eq_true rfl) ⟨(by show _ ≤ 2; omega), (by show _ ≤ 82; omega)⟩ dX11_move_52) (fun v_52_12 S_52_13 h_52_10 => ?_)
        obtain ⟨rfl, ev_52_12⟩ := h_52_10
        refine k_if_eq (tgt := 70) X dX11_move_55 (by decide) (fun c_55 => ?_) (fun c_55 => ?_)
        · skip
          rw [ev_52_12] at c_55
          exact kthrw_65 X E Y dX11_move_70 dX11_move_73 dX11_move_74 dX11_move_77 (Nat.le_of_ble_eq_true rfl) (Nat.le_of_ble_eq_true rfl) (by show _ ≤ 2; omega) (by show _ ≤ 82; omega) (Nat.le_refl _) (Nat.le_refl _) rfl
        · skip
          rw [ev_52_12] at c_55
          refine k_iload X (q := 6) dX11_move_58 rfl ?_
          refine k_iconst X (v := 0) dX11_move_60 (by decide) ?_
          refine k_sipush X (v := 300) dX11_move_61 (by decide) ?_
          refine k_gotI X (vX11_61 X (S := S) (c_X11_isFrom C.l C.e0 S x5 0 300 ) (As := [.int x5, .int 0, .int 300]) (rest := []) rfl rfl rfl rfl ⟨Nat.le_of_ble_eq_true rfl, Nat.le_of_ble_eq_true rfl⟩ (Nat.le_of_ble_eq_true rfl) ⟨(by show _ ≤ 2; omega), (by show _ ≤ 82; omega)⟩ dX11_move_64) (fun v_64_15 S_64_16 h_64_13 => ?_)
          obtain ⟨rfl, ev_64_15⟩ := h_64_13
          refine k_if_ne (tgt := 78) X dX11_move_67 (by decide) (fun c_67 => ?_) (fun c_67 => ?_)
          · skip
            rw [ev_64_15] at c_67
            obtain ⟨u, hu1, hu2, hxu⟩ := kfrom (a := 0) (b := 300) rfl (rfl) (by omega) c_67
            have hu : u < 301 := by omega
            subst hxu
            refine k_aload_n X (q := 1) dX11_move_78 rfl rfl ?_
            refine gX11_10s X (S := S) (st_0 h.st).1 (st_0 h.st).2 (sr_0_0 h.st) dX11_move_79 ?_
            refine k_aload X (q := 0) dX11_move_82 rfl ?_
            refine k_gotI X (vX11_186 X (S := S) ⟨(st_1 h.st).1, (st_1 h.st).2⟩ (c_X2_mayAct C.l C.e0 S (cz j) A h.st ⟨(h.at hj).1, (h.at hj).2⟩) (As := [.ref (cz j)]) (rest := []) rfl rfl rfl rfl ⟨Nat.le_of_ble_eq_true rfl, Nat.le_of_ble_eq_true rfl⟩ (Nat.le_of_ble_eq_true rfl) ⟨(by show _ ≤ 2; omega), (by show _ ≤ 82; omega)⟩ dX11_move_84) (fun v_84_18 S_84_19 h_84_16 => ?_)
            obtain ⟨rfl, ev_84_18⟩ := h_84_16
            refine k_if_eq (tgt := 115) X dX11_move_87 (by decide) (fun c_87 => ?_) (fun c_87 => ?_)
            · skip
              rw [ev_84_18] at c_87
              exact kthrw_82 X E Y dX11_move_115 dX11_move_118 dX11_move_119 dX11_move_122 (Nat.le_of_ble_eq_true rfl) (Nat.le_of_ble_eq_true rfl) (by show _ ≤ 2; omega) (by show _ ≤ 82; omega) (Nat.le_refl _) (Nat.le_refl _) rfl
            · skip
              rw [ev_84_18] at c_87
              refine k_aload_n X (q := 1) dX11_move_90 rfl rfl ?_
              refine gX11_37s X (S := S) (st_0 h.st).1 (st_0 h.st).2 (sr_0_3 h.st) dX11_move_91 ?_
              refine gX11_189s X (S := S) (st_4 h.st).1 (st_4 h.st).2 (sr_4_2 h.st) dX11_move_94 ?_
              refine k_gotI X (vX11_76 X (S := S) ⟨(st_18 h.st).1, (st_18 h.st).2⟩ (c_Jx4a65c_size_8abf5 C.l C.e0 S (A 18) (st_18 h.st)) (As := []) (rest := []) rfl rfl rfl rfl ⟨Nat.le_of_ble_eq_true rfl, Nat.le_of_ble_eq_true rfl⟩ (Nat.le_of_ble_eq_true rfl) ⟨(by show _ ≤ 2; omega), (by show _ ≤ 82; omega)⟩ dX11_move_97) (fun v_97_21 S_97_22 h_97_19 => ?_)
              obtain ⟨rfl, ev_97_21⟩ := h_97_19
              have hz_v_97_21 : nI ma = v_97_21 := by rw [ev_97_21]; exact (hLa).2.1.symm
              subst hz_v_97_21
              refine k_bipush X (v := 8) dX11_move_100 (by decide) ?_
              refine k_icmp_ge (tgt := 115) X dX11_move_102 (by decide) (fun c_102 => ?_) (fun c_102 => ?_)
              · skip
                exact kthrw_82 X E Y dX11_move_115 dX11_move_118 dX11_move_119 dX11_move_122 (Nat.le_of_ble_eq_true rfl) (Nat.le_of_ble_eq_true rfl) (by show _ ≤ 2; omega) (by show _ ≤ 82; omega) (Nat.le_refl _) (Nat.le_refl _) rfl
              · skip
                have hm8 : ma < 8 := lt_of_nle (m := 8) c_102 (by omega)
                refine k_aload_n X (q := 1) dX11_move_105 rfl rfl ?_
                refine gX11_10s X (S := S) (st_0 h.st).1 (st_0 h.st).2 (sr_0_0 h.st) dX11_move_106 ?_
                refine gX11_109 X (S := S) (st_1 h.st).1 (st_1 h.st).2 dX11_move_109 (fun v_109_23 ev_109_23 => ?_)
                refine k_if_ne (tgt := 123) X dX11_move_112 (by decide) (fun c_112 => ?_) (fun c_112 => ?_)
                · skip
                  refine k_iconst X (v := 2) dX11_move_123 (by decide) ?_
                  refine k_aload_n X (q := 1) dX11_move_124 rfl rfl ?_
                  refine gX11_10s X (S := S) (st_0 h.st).1 (st_0 h.st).2 (sr_0_0 h.st) dX11_move_125 ?_
                  refine k_iload X (q := 5) dX11_move_128 rfl ?_
                  refine k_gotI X (vX11_192 X (S := S) ⟨(st_1 h.st).1, (st_1 h.st).2⟩ (c_X2_councilAgreeing C.l C.e0 S x4 A n cz h.st h.hC hn ) (As := [.int x4]) (rest := [.int 2]) rfl rfl rfl rfl ⟨Nat.le_of_ble_eq_true rfl, Nat.le_of_ble_eq_true rfl⟩ (Nat.le_of_ble_eq_true rfl) ⟨(by show _ ≤ 2; omega), (by show _ ≤ 82; omega)⟩ dX11_move_130) (fun v_130_25 S_130_26 h_130_23 => ?_)
                  obtain ⟨rfl, ev_130_25⟩ := h_130_23
                  refine k_imul X dX11_move_133 (fun v_133_27 ev_133_27 => ?_)
                  refine k_aload_n X (q := 1) dX11_move_134 rfl rfl ?_
                  refine gX11_21s X (S := S) (st_0 h.st).1 (st_0 h.st).2 (sr_0_1 h.st) dX11_move_135 ?_
                  refine k_gotI X (vX11_161 X (S := S) ⟨(st_2 h.st).1, (st_2 h.st).2⟩ (c_X3_size C.l C.e0 S  A n cz h.st h.hC hn ) (As := []) (rest := [.int v_133_27]) rfl rfl rfl rfl ⟨Nat.le_of_ble_eq_true rfl, Nat.le_of_ble_eq_true rfl⟩ (Nat.le_of_ble_eq_true rfl) ⟨(by show _ ≤ 2; omega), (by show _ ≤ 82; omega)⟩ dX11_move_138) (fun v_138_29 S_138_30 h_138_27 => ?_)
                  obtain ⟨rfl, ev_138_29⟩ := h_138_27
                  refine k_icmp_ge (tgt := 147) X dX11_move_141 (by decide) (fun c_141 => ?_) (fun c_141 => ?_)
                  · skip
                    refine k_aload_n X (q := 1) dX11_move_147 rfl rfl ?_
                    refine gX11_37s X (S := S) (st_0 h.st).1 (st_0 h.st).2 (sr_0_3 h.st) dX11_move_148 ?_
                    refine gX11_189s X (S := S) (st_4 h.st).1 (st_4 h.st).2 (sr_4_2 h.st) dX11_move_151 ?_
                    refine nX11_184 X 201 (Nat.le_of_ble_eq_true rfl) (Nat.le_of_ble_eq_true rfl) dX11_move_154 (fun a_154_31 fa_154_31 => ?_)
                    refine k_dup X dX11_move_157 rfl ?_
                    refine k_aload X (q := 0) dX11_move_158 rfl ?_
                    refine k_iload_n X (q := 3) dX11_move_160 rfl rfl ?_
                    refine k_iload_n X (q := 4) dX11_move_161 rfl rfl ?_
                    refine k_iload X (q := 5) dX11_move_162 rfl ?_
                    refine k_iload X (q := 6) dX11_move_164 rfl ?_
                    refine k_gotV X (vX11_195 X (S := (S.nw a_154_31 7 201 0)) (c_X7_init C.l C.e0 (S.nw a_154_31 7 201 0) a_154_31 (cz j) x2 (nI t) x4 (nI u) (nw_self (S := S) (κ := 7) (ρ := 201) (n := 0))) (As := [.ref (cz j), .int x2, .int (nI t), .int x4, .int (nI u)]) (rest := [.ref a_154_31, .ref (A 18)]) rfl rfl rfl rfl ⟨Nat.le_of_ble_eq_true rfl, Nat.le_of_ble_eq_true rfl⟩ (Nat.le_of_ble_eq_true rfl) ⟨(by show _ ≤ 2; omega), (by show _ ≤ 82; omega)⟩ dX11_move_166) (fun S_166_33 h_166_31 => ?_)
                    have hg0 : kGo S S_166_33 (fun _ _ => False) := by rw [h_166_31]; exact kmot_go fa_154_31
                    have hm0 : kMo S_166_33 n cz a_154_31 := by rw [h_166_31]; exact kmot_mo hj (by omega) (by omega)
                    obtain ⟨hI0, hK0⟩ := h.goF hg0
                    obtain ⟨c, hlc0⟩ := hLa.c
                    have hlc := hlc0.go hg0 (fun j => ⟨id, id⟩)
                    have hkm9 := kmc_le c ma
                    have hks9 := kms_le hlc.cap (by omega)
                    refine k_gotI X (vX11_198 X (S := S_166_33) ⟨(st_18 hI0.st).1, (st_18 hI0.st).2⟩ (c_Jx4a65c_add_9ea2d C.l C.e0 S_166_33 (A 18) 7 ma c a_154_31 xa kEl_7 hlc hm0.1 (by omega)) (As := [.ref a_154_31]) (rest := []) rfl rfl rfl rfl ⟨Nat.le_of_ble_eq_true rfl, Nat.le_of_ble_eq_true rfl⟩ (Nat.le_of_ble_eq_true rfl) ⟨(by show _ ≤ 2; omega), (by show _ ≤ 82; omega)⟩ dX11_move_169) (fun v_169_35 S_169_36 h_169_33 => ?_)
                    obtain ⟨-, hfa, hla⟩ := h_169_33
                    rw [so_18 hI0.st] at hfa
                    have hg1 : kGo _ S_169_36 (fun ρ j => ρ = 18 ∨ ρ = 118 ∨ (ρ = 201 ∧ 5 ≤ j)) := hfa.go (fun b hb z j => by unfold kRo at z; omega)
                    have hx1 : ∀ t, t < ma → kMo S_169_36 n cz (xa t) := fun t ht => ((hxa t ht).go hg0 (fun j z => z.1)).go hg1 (fun j z => by have := z.2; unfold pSM at this; omega)
                    have hx2 := va_up_in (Q := fun x => kMo S_169_36 n cz x) hx1 (hm0.go hg1 (fun j z => by have := z.2; unfold pSM at this; omega))
                    obtain ⟨hI_37, hx_37⟩ := hI0.frM (r := 18) (by omega) hg1 ⟨ma + 1, _, hla.s, by omega, hx2⟩
                    have hK_37 := (hK0).tr hx_37
                    refine k_pop X dX11_move_172 rfl ?_
                    refine k_aload_n X (q := 1) dX11_move_173 rfl rfl ?_
                    refine gX11_37s X (S := S_169_36) (st_0 hI_37.st).1 (st_0 hI_37.st).2 (sr_0_3 hI_37.st) dX11_move_174 ?_
                    refine gX11_189s X (S := S_169_36) (st_4 hI_37.st).1 (st_4 hI_37.st).2 (sr_4_2 hI_37.st) dX11_move_177 ?_
                    refine k_gotI X (vX11_76 X (S := S_169_36) ⟨(st_18 hI_37.st).1, (st_18 hI_37.st).2⟩ (c_Jx4a65c_size_8abf5 C.l C.e0 S_169_36 (A 18) (st_18 hI_37.st)) (As := []) (rest := []) rfl rfl rfl rfl ⟨Nat.le_of_ble_eq_true rfl, Nat.le_of_ble_eq_true rfl⟩ (Nat.le_of_ble_eq_true rfl) ⟨(by show _ ≤ 2; omega), (by show _ ≤ 82; omega)⟩ dX11_move_180) (fun v_180_39 S_180_40 h_180_37 => ?_)
                    obtain ⟨rfl, ev_180_39⟩ := h_180_37
                    have hz_v_180_39 : nI (ma + 1) = v_180_39 := by rw [ev_180_39]; exact (hla.s).2.1.symm
                    subst hz_v_180_39
                    refine k_iconst X (v := 1) dX11_move_183 (by decide) ?_
                    refine k_isub X dX11_move_184 (fun v_184_41 ev_184_41 => ?_)
                    exact kx_iret X E dX11_move_185 (by show _ ≤ 2; omega) (by show _ ≤ 82; omega) (⟨hI_37.mono (by omega) (by omega) (by omega), hK_37⟩)
                  · skip
                    refine k_bipush X (v := (-2)) dX11_move_144 (by decide) ?_
                    exact kx_iret X E dX11_move_146 (by show _ ≤ 2; omega) (by show _ ≤ 82; omega) (⟨h.mono (by omega) (by omega) (by omega), kKe.rf⟩)
                · skip
                  exact kthrw_82 X E Y dX11_move_115 dX11_move_118 dX11_move_119 dX11_move_122 (Nat.le_of_ble_eq_true rfl) (Nat.le_of_ble_eq_true rfl) (by show _ ≤ 2; omega) (by show _ ≤ 82; omega) (Nat.le_refl _) (Nat.le_refl _) rfl
          · skip
            rw [ev_64_15] at c_67
            exact kthrw_65 X E Y dX11_move_70 dX11_move_73 dX11_move_74 dX11_move_77 (Nat.le_of_ble_eq_true rfl) (Nat.le_of_ble_eq_true rfl) (by show _ ≤ 2; omega) (by show _ ≤ 82; omega) (Nat.le_refl _) (Nat.le_refl _) rfl
      · skip
        rw [ev_36_9] at c_39
        exact kthrw_65 X E Y dX11_move_42 dX11_move_45 dX11_move_46 dX11_move_49 (Nat.le_of_ble_eq_true rfl) (Nat.le_of_ble_eq_true rfl) (by show _ ≤ 2; omega) (by show _ ≤ 82; omega) (Nat.le_refl _) (Nat.le_refl _) rfl
  · skip
    subst c_12
    exact kthrw_95 X E Y dX11_move_15 dX11_move_18 dX11_move_19 dX11_move_22 (Nat.le_of_ble_eq_true rfl) (Nat.le_of_ble_eq_true rfl) (by show _ ≤ 2; omega) (by show _ ≤ 82; omega) (Nat.le_refl _) (Nat.le_refl _) rfl
set_option maxHeartbeats 1000000 in
set_option maxRecDepth 20000 in
theorem c_X11_sue (l : Launch) (e0 : Nat × Nat) (S : kS) (x1 : Int32) (x2 : Int32) (x3 : Int32) (x4 : Int32) (x5 : Int32) (A : Nat → Nat) (n : Nat) (cz : Nat → Nat) (T G Z : Nat) (h : kI e0 A n cz T G Z S)  (hb : T + 0 ≤ 900000 ∧ G + 0 ≤ 60000 ∧ Z + 0 ≤ 150000) (hfl : l.stackTraces = false) : kMX l e0 yX11_sue cX11_sue 9 (Option.some Jvm.ClassFile.FieldType.int) ({ frames := 8, cells := 2, slots := 80, locals := 212 } : Room) 2 80 [.ref (A 0), .int x1, .int x2, .int x3, .int x4, .int x5] S (kQi (fun v S9 => kI e0 A n cz (T + 0) (G + 0) (Z + 0) S9 ∧ kKe A S S9)) (fun S9 => S9 = S) := by
  refine kMetX (by decide +kernel) (Nat.le_of_ble_eq_true rfl) hfl (fun C he hl X E Y hm => ?_)
  have X : kX C RX11 cX11_sue 9 ({ frames := 8, cells := 2, slots := 80, locals := 212 } : Room) := X
  subst he hl
  show kG C 9 S 0 0 0 [(0, .ref (A 0)), (1, .int x1), (2, .int x2), (3, .int x3), (4, .int x4), (5, .int x5)] []
  have hn := h.n40
  obtain ⟨ms, xs, hLs, hms, hxs⟩ := h.sl
  refine k_aload_n X (q := 0) dX11_sue_0 rfl rfl ?_
  refine gX11_10s X (S := S) (st_0 h.st).1 (st_0 h.st).2 (sr_0_0 h.st) dX11_sue_1 ?_
  refine k_iload_n X (q := 1) dX11_sue_4 rfl rfl ?_
  refine k_gotQ X (vX11_102 X (S := S) ⟨(st_1 h.st).1, (st_1 h.st).2⟩ (c_X2_numbered C.l C.e0 S x1 A n cz h.st h.hC hn (by have := h.who.1; omega)) (As := [.int x1]) (rest := []) rfl rfl rfl rfl ⟨Nat.le_of_ble_eq_true rfl, Nat.le_of_ble_eq_true rfl⟩ (Nat.le_of_ble_eq_true rfl) ⟨(by show _ ≤ 2; omega), (by show _ ≤ 80; omega)⟩ dX11_sue_5) (fun r_5_2 S_5_3 h_5_0 => ?_)
  obtain ⟨rfl, hnj_5, hnq_5⟩ := h_5_0
  refine k_astoreQ X [(6, va_rf r_5_2), (0, .ref (A 0)), (1, .int x1), (2, .int x2), (3, .int x3), (4, .int x4), (5, .int x5)] dX11_sue_8 (by decide) rfl ?_
  refine k_aload_n X (q := 1) dX11_sue_10 rfl rfl ?_
  refine gX11_10s X (S := S) (st_0 h.st).1 (st_0 h.st).2 (sr_0_0 h.st) dX11_sue_11 ?_
  refine k_iload_n X (q := 3) dX11_sue_14 rfl rfl ?_
  refine k_gotQ X (vX11_102 X (S := S) ⟨(st_1 h.st).1, (st_1 h.st).2⟩ (c_X2_numbered C.l C.e0 S x2 A n cz h.st h.hC hn (by have := h.who.1; omega)) (As := [.int x2]) (rest := []) rfl rfl rfl rfl ⟨Nat.le_of_ble_eq_true rfl, Nat.le_of_ble_eq_true rfl⟩ (Nat.le_of_ble_eq_true rfl) ⟨(by show _ ≤ 2; omega), (by show _ ≤ 80; omega)⟩ dX11_sue_15) (fun r_15_5 S_15_6 h_15_3 => ?_)
  obtain ⟨rfl, hnj_15, hnq_15⟩ := h_15_3
  refine k_astoreQ X [(7, va_rf r_15_5), (6, va_rf r_5_2), (0, .ref (A 0)), (1, .int x1), (2, .int x2), (3, .int x3), (4, .int x4), (5, .int x5)] dX11_sue_18 (by decide) (by simp [List.filter, va_cat]) ?_
  refine k_aloadQ X (q := 1) dX11_sue_20 rfl ?_
  refine k_ifnull (tgt := 30) X dX11_sue_22 (by decide) (fun c_22 => ?_) (fun a_22_7 c_22 => ?_)
  · skip
    subst c_22
    exact kthrw_95 X E Y dX11_sue_30 dX11_sue_33 dX11_sue_34 dX11_sue_37 (Nat.le_of_ble_eq_true rfl) (Nat.le_of_ble_eq_true rfl) (by show _ ≤ 2; omega) (by show _ ≤ 80; omega) (Nat.le_refl _) (Nat.le_refl _) rfl
  · skip
    subst c_22
    obtain ⟨i, hi, hxi⟩ : ∃ j, j < n ∧ a_22_7 = cz j := by
      rcases hnq_5 with z | ⟨j, z1, z2, z3⟩
      · cases z
      · exact ⟨j, z1, Option.some.inj z3⟩
    subst hxi
    refine k_aloadQ X (q := 0) dX11_sue_25 rfl ?_
    refine k_ifnonnull (tgt := 38) X dX11_sue_27 (by decide) (fun a_27_8 c_27 => ?_) (fun c_27 => ?_)
    · skip
      subst c_27
      obtain ⟨j, hj, hxj⟩ : ∃ j, j < n ∧ a_27_8 = cz j := by
        rcases hnq_15 with z | ⟨j, z1, z2, z3⟩
        · cases z
        · exact ⟨j, z1, Option.some.inj z3⟩
      subst hxj
      refine k_iload_n X (q := 5) dX11_sue_38 rfl rfl ?_
      refine k_if_eq (tgt := 52) X dX11_sue_39 (by decide) (fun c_39 => ?_) (fun c_39 => ?_)
      · skip
        refine k_iconst X (v := 1) dX11_sue_52 (by decide) ?_
        refine k_goto (tgt := 57) X dX11_sue_53 (by decide) ?_
        refine k_istore X [(8, .int 1), (7, .ref (cz j)), (6, .ref (cz i)), (0, .ref (A 0)), (1, .int x1), (2, .int x2), (3, .int x3), (4, .int x4), (5, .int x5)] dX11_sue_57 (by decide) rfl ?_
        refine k_aload X (q := 2) dX11_sue_59 rfl ?_
        refine k_aload X (q := 1) dX11_sue_61 rfl ?_
        refine k_acmp_eq (rx := some (cz i)) (ry := some (cz j)) (tgt := 91) X dX11_sue_63 (by decide) (fun c_63 => ?_) (fun c_63 => ?_)
        · skip
          exact kthrw_65 X E Y dX11_sue_91 dX11_sue_94 dX11_sue_95 dX11_sue_98 (Nat.le_of_ble_eq_true rfl) (Nat.le_of_ble_eq_true rfl) (by show _ ≤ 2; omega) (by show _ ≤ 80; omega) (Nat.le_refl _) (Nat.le_refl _) rfl
        · skip
          have hij9 : ¬ i = j := fun e => c_63 (by rw [e])
          refine k_iload X (q := 0) dX11_sue_66 rfl ?_
          refine k_if_eq (tgt := 91) X dX11_sue_68 (by decide) (fun c_68 => ?_) (fun c_68 => ?_)
          · skip
            exact absurd c_68 (by decide)
          · skip
            refine k_iload X (q := 7) dX11_sue_71 rfl ?_
            refine k_iconst X (v := 1) dX11_sue_73 (by decide) ?_
            refine k_sipush X (v := 200) dX11_sue_74 (by decide) ?_
            refine k_gotI X (vX11_61 X (S := S) (c_X11_isFrom C.l C.e0 S x4 1 200 ) (As := [.int x4, .int 1, .int 200]) (rest := []) rfl rfl rfl rfl ⟨Nat.le_of_ble_eq_true rfl, Nat.le_of_ble_eq_true rfl⟩ (Nat.le_of_ble_eq_true rfl) ⟨(by show _ ≤ 2; omega), (by show _ ≤ 80; omega)⟩ dX11_sue_77) (fun v_77_10 S_77_11 h_77_8 => ?_)
            obtain ⟨rfl, ev_77_10⟩ := h_77_8
            refine k_if_eq (tgt := 91) X dX11_sue_80 (by decide) (fun c_80 => ?_) (fun c_80 => ?_)
            · skip
              rw [ev_77_10] at c_80
              exact kthrw_65 X E Y dX11_sue_91 dX11_sue_94 dX11_sue_95 dX11_sue_98 (Nat.le_of_ble_eq_true rfl) (Nat.le_of_ble_eq_true rfl) (by show _ ≤ 2; omega) (by show _ ≤ 80; omega) (Nat.le_refl _) (Nat.le_refl _) rfl
            · skip
              rw [ev_77_10] at c_80
              obtain ⟨t, ht1, ht2, hxt⟩ := kfrom (a := 1) (b := 200) rfl (rfl) (by omega) c_80
              have ht : t < 201 := by omega
              subst hxt
              refine k_iload X (q := 8) dX11_sue_83 rfl ?_
              refine k_gotI X (vX11_68 X (S := S) (c_X11_isLean C.l C.e0 S x5 ) (As := [.int x5]) (rest := []) rfl rfl rfl rfl ⟨Nat.le_of_ble_eq_true rfl, Nat.le_of_ble_eq_true rfl⟩ (Nat.le_of_ble_eq_true rfl) ⟨(by show _ ≤ 2; omega), (by show _ ≤ 80; omega)⟩ dX11_sue_85) (fun v_85_13 S_85_14 h_85_11 => ?_)
              obtain ⟨rfl, ev_85_13⟩ := h_85_11
              refine k_if_ne (tgt := 99) X dX11_sue_88 (by decide) (fun c_88 => ?_) (fun c_88 => ?_)
              · skip
                rw [ev_85_13] at c_88
                refine k_aload_n X (q := 3) dX11_sue_99 rfl rfl ?_
                refine gX11_10s X (S := S) (st_0 h.st).1 (st_0 h.st).2 (sr_0_0 h.st) dX11_sue_100 ?_
                refine k_aload X (q := 2) dX11_sue_103 rfl ?_
                refine k_gotI X (vX11_186 X (S := S) ⟨(st_1 h.st).1, (st_1 h.st).2⟩ (c_X2_mayAct C.l C.e0 S (cz i) A h.st ⟨(h.at hi).1, (h.at hi).2⟩) (As := [.ref (cz i)]) (rest := []) rfl rfl rfl rfl ⟨Nat.le_of_ble_eq_true rfl, Nat.le_of_ble_eq_true rfl⟩ (Nat.le_of_ble_eq_true rfl) ⟨(by show _ ≤ 2; omega), (by show _ ≤ 80; omega)⟩ dX11_sue_105) (fun v_105_16 S_105_17 h_105_14 => ?_)
                obtain ⟨rfl, ev_105_16⟩ := h_105_14
                refine k_if_eq (tgt := 134) X dX11_sue_108 (by decide) (fun c_108 => ?_) (fun c_108 => ?_)
                · skip
                  rw [ev_105_16] at c_108
                  exact kthrw_82 X E Y dX11_sue_134 dX11_sue_137 dX11_sue_138 dX11_sue_141 (Nat.le_of_ble_eq_true rfl) (Nat.le_of_ble_eq_true rfl) (by show _ ≤ 2; omega) (by show _ ≤ 80; omega) (Nat.le_refl _) (Nat.le_refl _) rfl
                · skip
                  rw [ev_105_16] at c_108
                  refine k_aload X (q := 1) dX11_sue_111 rfl ?_
                  refine k_gotI X (vX11_275 X (S := S) ⟨(h.at hj).1, (h.at hj).2⟩ (c_X1_isGone C.l C.e0 S (cz j) (h.at hj)) (As := []) (rest := []) rfl rfl rfl rfl ⟨Nat.le_of_ble_eq_true rfl, Nat.le_of_ble_eq_true rfl⟩ (Nat.le_of_ble_eq_true rfl) ⟨(by show _ ≤ 2; omega), (by show _ ≤ 80; omega)⟩ dX11_sue_113) (fun v_113_19 S_113_20 h_113_17 => ?_)
                  obtain ⟨rfl, ev_113_19⟩ := h_113_17
                  refine k_if_ne (tgt := 134) X dX11_sue_116 (by decide) (fun c_116 => ?_) (fun c_116 => ?_)
                  · skip
                    rw [ev_113_19] at c_116
                    exact kthrw_82 X E Y dX11_sue_134 dX11_sue_137 dX11_sue_138 dX11_sue_141 (Nat.le_of_ble_eq_true rfl) (Nat.le_of_ble_eq_true rfl) (by show _ ≤ 2; omega) (by show _ ≤ 80; omega) (Nat.le_refl _) (Nat.le_refl _) rfl
                  · skip
                    rw [ev_113_19] at c_116
                    refine k_aload_n X (q := 3) dX11_sue_119 rfl rfl ?_
                    refine gX11_28s X (S := S) (st_0 h.st).1 (st_0 h.st).2 (sr_0_2 h.st) dX11_sue_120 ?_
                    refine gX11_279s X (S := S) (st_3 h.st).1 (st_3 h.st).2 (sr_3_1 h.st) dX11_sue_123 ?_
                    refine k_gotI X (vX11_76 X (S := S) ⟨(st_15 h.st).1, (st_15 h.st).2⟩ (c_Jx4a65c_size_8abf5 C.l C.e0 S (A 15) (st_15 h.st)) (As := []) (rest := []) rfl rfl rfl rfl ⟨Nat.le_of_ble_eq_true rfl, Nat.le_of_ble_eq_true rfl⟩ (Nat.le_of_ble_eq_true rfl) ⟨(by show _ ≤ 2; omega), (by show _ ≤ 80; omega)⟩ dX11_sue_126) (fun v_126_22 S_126_23 h_126_20 => ?_)
                    obtain ⟨rfl, ev_126_22⟩ := h_126_20
                    have hz_v_126_22 : nI ms = v_126_22 := by rw [ev_126_22]; exact (hLs).2.1.symm
                    subst hz_v_126_22
                    refine k_bipush X (v := 8) dX11_sue_129 (by decide) ?_
                    refine k_icmp_lt (tgt := 142) X dX11_sue_131 (by decide) (fun c_131 => ?_) (fun c_131 => ?_)
                    · skip
                      have hm8 : ms < 8 := lt_of_lt9 (m := 8) c_131 (by omega)
                      refine k_iload_n X (q := 6) dX11_sue_142 rfl rfl ?_
                      refine k_iconst X (v := 3) dX11_sue_143 (by decide) ?_
                      refine k_icmp_ne (tgt := 170) X dX11_sue_144 (by decide) (fun c_144 => ?_) (fun c_144 => ?_)
                      · skip
                        refine k_iload_n X (q := 6) dX11_sue_170 rfl rfl ?_
                        refine k_iconst X (v := 1) dX11_sue_171 (by decide) ?_
                        refine k_icmp_ne (tgt := 193) X dX11_sue_172 (by decide) (fun c_172 => ?_) (fun c_172 => ?_)
                        · skip
                          refine k_aload_n X (q := 3) dX11_sue_193 rfl rfl ?_
                          refine gX11_28s X (S := S) (st_0 h.st).1 (st_0 h.st).2 (sr_0_2 h.st) dX11_sue_194 ?_
                          refine nX11_273 X 202 (Nat.le_of_ble_eq_true rfl) (Nat.le_of_ble_eq_true rfl) dX11_sue_197 (fun a_197_24 fa_197_24 => ?_)
                          refine k_dup X dX11_sue_200 rfl ?_
                          refine k_aload X (q := 2) dX11_sue_201 rfl ?_
                          refine k_aload X (q := 1) dX11_sue_203 rfl ?_
                          refine k_iload_n X (q := 6) dX11_sue_205 rfl rfl ?_
                          refine k_iload X (q := 7) dX11_sue_206 rfl ?_
                          refine k_iload X (q := 8) dX11_sue_208 rfl ?_
                          refine k_null X dX11_sue_210 ?_
                          refine k_gotV X (vX11_288 X (S := (S.nw a_197_24 10 202 0)) (c_X10_init C.l C.e0 (S.nw a_197_24 10 202 0) a_197_24 (cz i) (cz j) x3 (nI t) x5 none (nw_self (S := S) (κ := 10) (ρ := 202) (n := 0))) (As := [.ref (cz i), .ref (cz j), .int x3, .int (nI t), .int x5, .null]) (rest := [.ref a_197_24, .ref (A 3)]) rfl rfl rfl rfl ⟨Nat.le_of_ble_eq_true rfl, Nat.le_of_ble_eq_true rfl⟩ (Nat.le_of_ble_eq_true rfl) ⟨(by show _ ≤ 2; omega), (by show _ ≤ 80; omega)⟩ dX11_sue_211) (fun S_211_26 h_211_24 => ?_)
                          have hg0 : kGo S S_211_26 (fun _ _ => False) := by rw [h_211_24]; exact ksuit_go fa_197_24
                          have hsv0 : kSv S_211_26 a_197_24 (cz i) (cz j) none t := by rw [h_211_24]; exact ksuit_sv fa_197_24 (by omega) (fun x hx => by cases hx)
                          have hls9 := hLs.go hg0 (fun j => ⟨id, id⟩)
                          have hxs9 : ∀ t, t < ms → kSu S_211_26 n cz (xs t) := fun t ht => (hxs t ht).go hg0 (fun j z => z.1)
                          obtain ⟨hI_27, hx_27⟩ := h.goF hg0
                          have hK_27 := (kKe.rf).tr hx_27
                          refine k_gotI X (vX11_291 X (S := S_211_26) ⟨(st_3 hI_27.st).1, (st_3 hI_27.st).2⟩ (c_X4_bring C.l C.e0 S_211_26 a_197_24 A n cz _ _ _ hI_27 i j _ _ hsv0 hi hj hij9 ms xs hls9 (by omega) hxs9 (by omega)) (As := [.ref a_197_24]) (rest := []) rfl rfl rfl rfl ⟨Nat.le_of_ble_eq_true rfl, Nat.le_of_ble_eq_true rfl⟩ (Nat.le_of_ble_eq_true rfl) ⟨(by show _ ≤ 2; omega), (by show _ ≤ 80; omega)⟩ dX11_sue_214) (fun v_214_29 S_214_30 h_214_27 => ?_)
                          obtain ⟨hI_31, hx_31⟩ := h_214_27
                          have hK_31 := (hK_27).tr hx_31
                          exact kx_iret X E dX11_sue_217 (by show _ ≤ 2; omega) (by show _ ≤ 80; omega) (⟨hI_31.mono (by omega) (by omega) (by omega), hK_31⟩)
                        · skip
                          refine k_aload_n X (q := 3) dX11_sue_175 rfl rfl ?_
                          refine gX11_53s X (S := S) (st_0 h.st).1 (st_0 h.st).2 (sr_0_5 h.st) dX11_sue_176 ?_
                          refine k_gotI X (vX11_285 X (S := S) ⟨(st_6 h.st).1, (st_6 h.st).2⟩ (c_X9_isAmnesty C.l C.e0 S  A h.st ) (As := []) (rest := []) rfl rfl rfl rfl ⟨Nat.le_of_ble_eq_true rfl, Nat.le_of_ble_eq_true rfl⟩ (Nat.le_of_ble_eq_true rfl) ⟨(by show _ ≤ 2; omega), (by show _ ≤ 80; omega)⟩ dX11_sue_179) (fun v_179_33 S_179_34 h_179_31 => ?_)
                          obtain ⟨rfl, ev_179_33⟩ := h_179_31
                          refine k_if_eq (tgt := 193) X dX11_sue_182 (by decide) (fun c_182 => ?_) (fun c_182 => ?_)
                          · skip
                            rw [ev_179_33] at c_182
                            refine k_aload_n X (q := 3) dX11_sue_193 rfl rfl ?_
                            refine gX11_28s X (S := S) (st_0 h.st).1 (st_0 h.st).2 (sr_0_2 h.st) dX11_sue_194 ?_
                            refine nX11_273 X 202 (Nat.le_of_ble_eq_true rfl) (Nat.le_of_ble_eq_true rfl) dX11_sue_197 (fun a_197_35 fa_197_35 => ?_)
                            refine k_dup X dX11_sue_200 rfl ?_
                            refine k_aload X (q := 2) dX11_sue_201 rfl ?_
                            refine k_aload X (q := 1) dX11_sue_203 rfl ?_
                            refine k_iload_n X (q := 6) dX11_sue_205 rfl rfl ?_
                            refine k_iload X (q := 7) dX11_sue_206 rfl ?_
                            refine k_iload X (q := 8) dX11_sue_208 rfl ?_
                            refine k_null X dX11_sue_210 ?_
                            refine k_gotV X (vX11_288 X (S := (S.nw a_197_35 10 202 0)) (c_X10_init C.l C.e0 (S.nw a_197_35 10 202 0) a_197_35 (cz i) (cz j) x3 (nI t) x5 none (nw_self (S := S) (κ := 10) (ρ := 202) (n := 0))) (As := [.ref (cz i), .ref (cz j), .int x3, .int (nI t), .int x5, .null]) (rest := [.ref a_197_35, .ref (A 3)]) rfl rfl rfl rfl ⟨Nat.le_of_ble_eq_true rfl, Nat.le_of_ble_eq_true rfl⟩ (Nat.le_of_ble_eq_true rfl) ⟨(by show _ ≤ 2; omega), (by show _ ≤ 80; omega)⟩ dX11_sue_211) (fun S_211_37 h_211_35 => ?_)
                            have hg0 : kGo S S_211_37 (fun _ _ => False) := by rw [h_211_35]; exact ksuit_go fa_197_35
                            have hsv0 : kSv S_211_37 a_197_35 (cz i) (cz j) none t := by rw [h_211_35]; exact ksuit_sv fa_197_35 (by omega) (fun x hx => by cases hx)
                            have hls9 := hLs.go hg0 (fun j => ⟨id, id⟩)
                            have hxs9 : ∀ t, t < ms → kSu S_211_37 n cz (xs t) := fun t ht => (hxs t ht).go hg0 (fun j z => z.1)
                            obtain ⟨hI_38, hx_38⟩ := h.goF hg0
                            have hK_38 := (kKe.rf).tr hx_38
                            refine k_gotI X (vX11_291 X (S := S_211_37) ⟨(st_3 hI_38.st).1, (st_3 hI_38.st).2⟩ (c_X4_bring C.l C.e0 S_211_37 a_197_35 A n cz _ _ _ hI_38 i j _ _ hsv0 hi hj hij9 ms xs hls9 (by omega) hxs9 (by omega)) (As := [.ref a_197_35]) (rest := []) rfl rfl rfl rfl ⟨Nat.le_of_ble_eq_true rfl, Nat.le_of_ble_eq_true rfl⟩ (Nat.le_of_ble_eq_true rfl) ⟨(by show _ ≤ 2; omega), (by show _ ≤ 80; omega)⟩ dX11_sue_214) (fun v_214_40 S_214_41 h_214_38 => ?_)
                            obtain ⟨hI_42, hx_42⟩ := h_214_38
                            have hK_42 := (hK_38).tr hx_42
                            exact kx_iret X E dX11_sue_217 (by show _ ≤ 2; omega) (by show _ ≤ 80; omega) (⟨hI_42.mono (by omega) (by omega) (by omega), hK_42⟩)
                          · skip
                            rw [ev_179_33] at c_182
                            exact kthrw_82 X E Y dX11_sue_185 dX11_sue_188 dX11_sue_189 dX11_sue_192 (Nat.le_of_ble_eq_true rfl) (Nat.le_of_ble_eq_true rfl) (by show _ ≤ 2; omega) (by show _ ≤ 80; omega) (Nat.le_refl _) (Nat.le_refl _) rfl
                      · skip
                        refine k_aload X (q := 1) dX11_sue_147 rfl ?_
                        refine gX11_282 X (S := S) (h.at hj).1 (h.at hj).2 dX11_sue_149 (fun v_149_43 ev_149_43 => ?_)
                        refine k_aload_n X (q := 3) dX11_sue_152 rfl rfl ?_
                        refine gX11_10s X (S := S) (st_0 h.st).1 (st_0 h.st).2 (sr_0_0 h.st) dX11_sue_153 ?_
                        refine gX11_216 X (S := S) (st_1 h.st).1 (st_1 h.st).2 dX11_sue_156 (fun v_156_44 ev_156_44 => ?_)
                        refine k_icmp_ge (tgt := 170) X dX11_sue_159 (by decide) (fun c_159 => ?_) (fun c_159 => ?_)
                        · skip
                          refine k_iload_n X (q := 6) dX11_sue_170 rfl rfl ?_
                          refine k_iconst X (v := 1) dX11_sue_171 (by decide) ?_
                          refine k_icmp_ne (tgt := 193) X dX11_sue_172 (by decide) (fun c_172 => ?_) (fun c_172 => ?_)
                          · skip
                            refine k_aload_n X (q := 3) dX11_sue_193 rfl rfl ?_
                            refine gX11_28s X (S := S) (st_0 h.st).1 (st_0 h.st).2 (sr_0_2 h.st) dX11_sue_194 ?_
                            refine nX11_273 X 202 (Nat.le_of_ble_eq_true rfl) (Nat.le_of_ble_eq_true rfl) dX11_sue_197 (fun a_197_45 fa_197_45 => ?_)
                            refine k_dup X dX11_sue_200 rfl ?_
                            refine k_aload X (q := 2) dX11_sue_201 rfl ?_
                            refine k_aload X (q := 1) dX11_sue_203 rfl ?_
                            refine k_iload_n X (q := 6) dX11_sue_205 rfl rfl ?_
                            refine k_iload X (q := 7) dX11_sue_206 rfl ?_
                            refine k_iload X (q := 8) dX11_sue_208 rfl ?_
                            refine k_null X dX11_sue_210 ?_
                            refine k_gotV X (vX11_288 X (S := (S.nw a_197_45 10 202 0)) (c_X10_init C.l C.e0 (S.nw a_197_45 10 202 0) a_197_45 (cz i) (cz j) x3 (nI t) x5 none (nw_self (S := S) (κ := 10) (ρ := 202) (n := 0))) (As := [.ref (cz i), .ref (cz j), .int x3, .int (nI t), .int x5, .null]) (rest := [.ref a_197_45, .ref (A 3)]) rfl rfl rfl rfl ⟨Nat.le_of_ble_eq_true rfl, Nat.le_of_ble_eq_true rfl⟩ (Nat.le_of_ble_eq_true rfl) ⟨(by show _ ≤ 2; omega), (by show _ ≤ 80; omega)⟩ dX11_sue_211) (fun S_211_47 h_211_45 => ?_)
                            have hg0 : kGo S S_211_47 (fun _ _ => False) := by rw [h_211_45]; exact ksuit_go fa_197_45
                            have hsv0 : kSv S_211_47 a_197_45 (cz i) (cz j) none t := by rw [h_211_45]; exact ksuit_sv fa_197_45 (by omega) (fun x hx => by cases hx)
                            have hls9 := hLs.go hg0 (fun j => ⟨id, id⟩)
                            have hxs9 : ∀ t, t < ms → kSu S_211_47 n cz (xs t) := fun t ht => (hxs t ht).go hg0 (fun j z => z.1)
                            obtain ⟨hI_48, hx_48⟩ := h.goF hg0
                            have hK_48 := (kKe.rf).tr hx_48
                            refine k_gotI X (vX11_291 X (S := S_211_47) ⟨(st_3 hI_48.st).1, (st_3 hI_48.st).2⟩ (c_X4_bring C.l C.e0 S_211_47 a_197_45 A n cz _ _ _ hI_48 i j _ _ hsv0 hi hj hij9 ms xs hls9 (by omega) hxs9 (by omega)) (As := [.ref a_197_45]) (rest := []) rfl rfl rfl rfl ⟨Nat.le_of_ble_eq_true rfl, Nat.le_of_ble_eq_true rfl⟩ (Nat.le_of_ble_eq_true rfl) ⟨(by show _ ≤ 2; omega), (by show _ ≤ 80; omega)⟩ dX11_sue_214) (fun v_214_50 S_214_51 h_214_48 => ?_)
                            obtain ⟨hI_52, hx_52⟩ := h_214_48
                            have hK_52 := (hK_48).tr hx_52
                            exact kx_iret X E dX11_sue_217 (by show _ ≤ 2; omega) (by show _ ≤ 80; omega) (⟨hI_52.mono (by omega) (by omega) (by omega), hK_52⟩)
                          · skip
                            refine k_aload_n X (q := 3) dX11_sue_175 rfl rfl ?_
                            refine gX11_53s X (S := S) (st_0 h.st).1 (st_0 h.st).2 (sr_0_5 h.st) dX11_sue_176 ?_
                            refine k_gotI X (vX11_285 X (S := S) ⟨(st_6 h.st).1, (st_6 h.st).2⟩ (c_X9_isAmnesty C.l C.e0 S  A h.st ) (As := []) (rest := []) rfl rfl rfl rfl ⟨Nat.le_of_ble_eq_true rfl, Nat.le_of_ble_eq_true rfl⟩ (Nat.le_of_ble_eq_true rfl) ⟨(by show _ ≤ 2; omega), (by show _ ≤ 80; omega)⟩ dX11_sue_179) (fun v_179_54 S_179_55 h_179_52 => ?_)
                            obtain ⟨rfl, ev_179_54⟩ := h_179_52
                            refine k_if_eq (tgt := 193) X dX11_sue_182 (by decide) (fun c_182 => ?_) (fun c_182 => ?_)
                            · skip
                              rw [ev_179_54] at c_182
                              refine k_aload_n X (q := 3) dX11_sue_193 rfl rfl ?_
                              refine gX11_28s X (S := S) (st_0 h.st).1 (st_0 h.st).2 (sr_0_2 h.st) dX11_sue_194 ?_
                              refine nX11_273 X 202 (Nat.le_of_ble_eq_true rfl) (Nat.le_of_ble_eq_true rfl) dX11_sue_197 (fun a_197_56 fa_197_56 => ?_)
                              refine k_dup X dX11_sue_200 rfl ?_
                              refine k_aload X (q := 2) dX11_sue_201 rfl ?_
                              refine k_aload X (q := 1) dX11_sue_203 rfl ?_
                              refine k_iload_n X (q := 6) dX11_sue_205 rfl rfl ?_
                              refine k_iload X (q := 7) dX11_sue_206 rfl ?_
                              refine k_iload X (q := 8) dX11_sue_208 rfl ?_
                              refine k_null X dX11_sue_210 ?_
                              refine k_gotV X (vX11_288 X (S := (S.nw a_197_56 10 202 0)) (c_X10_init C.l C.e0 (S.nw a_197_56 10 202 0) a_197_56 (cz i) (cz j) x3 (nI t) x5 none (nw_self (S := S) (κ := 10) (ρ := 202) (n := 0))) (As := [.ref (cz i), .ref (cz j), .int x3, .int (nI t), .int x5, .null]) (rest := [.ref a_197_56, .ref (A 3)]) rfl rfl rfl rfl ⟨Nat.le_of_ble_eq_true rfl, Nat.le_of_ble_eq_true rfl⟩ (Nat.le_of_ble_eq_true rfl) ⟨(by show _ ≤ 2; omega), (by show _ ≤ 80; omega)⟩ dX11_sue_211) (fun S_211_58 h_211_56 => ?_)
                              have hg0 : kGo S S_211_58 (fun _ _ => False) := by rw [h_211_56]; exact ksuit_go fa_197_56
                              have hsv0 : kSv S_211_58 a_197_56 (cz i) (cz j) none t := by rw [h_211_56]; exact ksuit_sv fa_197_56 (by omega) (fun x hx => by cases hx)
                              have hls9 := hLs.go hg0 (fun j => ⟨id, id⟩)
                              have hxs9 : ∀ t, t < ms → kSu S_211_58 n cz (xs t) := fun t ht => (hxs t ht).go hg0 (fun j z => z.1)
                              obtain ⟨hI_59, hx_59⟩ := h.goF hg0
                              have hK_59 := (kKe.rf).tr hx_59
                              refine k_gotI X (vX11_291 X (S := S_211_58) ⟨(st_3 hI_59.st).1, (st_3 hI_59.st).2⟩ (c_X4_bring C.l C.e0 S_211_58 a_197_56 A n cz _ _ _ hI_59 i j _ _ hsv0 hi hj hij9 ms xs hls9 (by omega) hxs9 (by omega)) (As := [.ref a_197_56]) (rest := []) rfl rfl rfl rfl ⟨Nat.le_of_ble_eq_true rfl, Nat.le_of_ble_eq_true rfl⟩ (Nat.le_of_ble_eq_true rfl) ⟨(by show _ ≤ 2; omega), (by show _ ≤ 80; omega)⟩ dX11_sue_214) (fun v_214_61 S_214_62 h_214_59 => ?_)
                              obtain ⟨hI_63, hx_63⟩ := h_214_59
                              have hK_63 := (hK_59).tr hx_63
                              exact kx_iret X E dX11_sue_217 (by show _ ≤ 2; omega) (by show _ ≤ 80; omega) (⟨hI_63.mono (by omega) (by omega) (by omega), hK_63⟩)
                            · skip
                              rw [ev_179_54] at c_182
                              exact kthrw_82 X E Y dX11_sue_185 dX11_sue_188 dX11_sue_189 dX11_sue_192 (Nat.le_of_ble_eq_true rfl) (Nat.le_of_ble_eq_true rfl) (by show _ ≤ 2; omega) (by show _ ≤ 80; omega) (Nat.le_refl _) (Nat.le_refl _) rfl
                        · skip
                          exact kthrw_82 X E Y dX11_sue_162 dX11_sue_165 dX11_sue_166 dX11_sue_169 (Nat.le_of_ble_eq_true rfl) (Nat.le_of_ble_eq_true rfl) (by show _ ≤ 2; omega) (by show _ ≤ 80; omega) (Nat.le_refl _) (Nat.le_refl _) rfl
                    · skip
                      exact kthrw_82 X E Y dX11_sue_134 dX11_sue_137 dX11_sue_138 dX11_sue_141 (Nat.le_of_ble_eq_true rfl) (Nat.le_of_ble_eq_true rfl) (by show _ ≤ 2; omega) (by show _ ≤ 80; omega) (Nat.le_refl _) (Nat.le_refl _) rfl
              · skip
                rw [ev_85_13] at c_88
                exact kthrw_65 X E Y dX11_sue_91 dX11_sue_94 dX11_sue_95 dX11_sue_98 (Nat.le_of_ble_eq_true rfl) (Nat.le_of_ble_eq_true rfl) (by show _ ≤ 2; omega) (by show _ ≤ 80; omega) (Nat.le_refl _) (Nat.le_refl _) rfl
      · skip
        refine k_iload_n X (q := 5) dX11_sue_42 rfl rfl ?_
        refine k_iconst X (v := 1) dX11_sue_43 (by decide) ?_
        refine k_icmp_eq (tgt := 52) X dX11_sue_44 (by decide) (fun c_44 => ?_) (fun c_44 => ?_)
        · skip
          refine k_iconst X (v := 1) dX11_sue_52 (by decide) ?_
          refine k_goto (tgt := 57) X dX11_sue_53 (by decide) ?_
          refine k_istore X [(8, .int 1), (7, .ref (cz j)), (6, .ref (cz i)), (0, .ref (A 0)), (1, .int x1), (2, .int x2), (3, .int x3), (4, .int x4), (5, .int x5)] dX11_sue_57 (by decide) rfl ?_
          refine k_aload X (q := 2) dX11_sue_59 rfl ?_
          refine k_aload X (q := 1) dX11_sue_61 rfl ?_
          refine k_acmp_eq (rx := some (cz i)) (ry := some (cz j)) (tgt := 91) X dX11_sue_63 (by decide) (fun c_63 => ?_) (fun c_63 => ?_)
          · skip
            exact kthrw_65 X E Y dX11_sue_91 dX11_sue_94 dX11_sue_95 dX11_sue_98 (Nat.le_of_ble_eq_true rfl) (Nat.le_of_ble_eq_true rfl) (by show _ ≤ 2; omega) (by show _ ≤ 80; omega) (Nat.le_refl _) (Nat.le_refl _) rfl
          · skip
            have hij9 : ¬ i = j := fun e => c_63 (by rw [e])
            refine k_iload X (q := 0) dX11_sue_66 rfl ?_
            refine k_if_eq (tgt := 91) X dX11_sue_68 (by decide) (fun c_68 => ?_) (fun c_68 => ?_)
            · skip
              exact absurd c_68 (by decide)
            · skip
              refine k_iload X (q := 7) dX11_sue_71 rfl ?_
              refine k_iconst X (v := 1) dX11_sue_73 (by decide) ?_
              refine k_sipush X (v := 200) dX11_sue_74 (by decide) ?_
              refine k_gotI X (vX11_61 X (S := S) (c_X11_isFrom C.l C.e0 S x4 1 200 ) (As := [.int x4, .int 1, .int 200]) (rest := []) rfl rfl rfl rfl ⟨Nat.le_of_ble_eq_true rfl, Nat.le_of_ble_eq_true rfl⟩ (Nat.le_of_ble_eq_true rfl) ⟨(by show _ ≤ 2; omega), (by show _ ≤ 80; omega)⟩ dX11_sue_77) (fun v_77_65 S_77_66 h_77_63 => ?_)
              obtain ⟨rfl, ev_77_65⟩ := h_77_63
              refine k_if_eq (tgt := 91) X dX11_sue_80 (by decide) (fun c_80 => ?_) (fun c_80 => ?_)
              · skip
                rw [ev_77_65] at c_80
                exact kthrw_65 X E Y dX11_sue_91 dX11_sue_94 dX11_sue_95 dX11_sue_98 (Nat.le_of_ble_eq_true rfl) (Nat.le_of_ble_eq_true rfl) (by show _ ≤ 2; omega) (by show _ ≤ 80; omega) (Nat.le_refl _) (Nat.le_refl _) rfl
              · skip
                rw [ev_77_65] at c_80
                obtain ⟨t, ht1, ht2, hxt⟩ := kfrom (a := 1) (b := 200) rfl (rfl) (by omega) c_80
                have ht : t < 201 := by omega
                subst hxt
                refine k_iload X (q := 8) dX11_sue_83 rfl ?_
                refine k_gotI X (vX11_68 X (S := S) (c_X11_isLean C.l C.e0 S x5 ) (As := [.int x5]) (rest := []) rfl rfl rfl rfl ⟨Nat.le_of_ble_eq_true rfl, Nat.le_of_ble_eq_true rfl⟩ (Nat.le_of_ble_eq_true rfl) ⟨(by show _ ≤ 2; omega), (by show _ ≤ 80; omega)⟩ dX11_sue_85) (fun v_85_68 S_85_69 h_85_66 => ?_)
                obtain ⟨rfl, ev_85_68⟩ := h_85_66
                refine k_if_ne (tgt := 99) X dX11_sue_88 (by decide) (fun c_88 => ?_) (fun c_88 => ?_)
                · skip
                  rw [ev_85_68] at c_88
                  refine k_aload_n X (q := 3) dX11_sue_99 rfl rfl ?_
                  refine gX11_10s X (S := S) (st_0 h.st).1 (st_0 h.st).2 (sr_0_0 h.st) dX11_sue_100 ?_
                  refine k_aload X (q := 2) dX11_sue_103 rfl ?_
                  refine k_gotI X (vX11_186 X (S := S) ⟨(st_1 h.st).1, (st_1 h.st).2⟩ (c_X2_mayAct C.l C.e0 S (cz i) A h.st ⟨(h.at hi).1, (h.at hi).2⟩) (As := [.ref (cz i)]) (rest := []) rfl rfl rfl rfl ⟨Nat.le_of_ble_eq_true rfl, Nat.le_of_ble_eq_true rfl⟩ (Nat.le_of_ble_eq_true rfl) ⟨(by show _ ≤ 2; omega), (by show _ ≤ 80; omega)⟩ dX11_sue_105) (fun v_105_71 S_105_72 h_105_69 => ?_)
                  obtain ⟨rfl, ev_105_71⟩ := h_105_69
                  refine k_if_eq (tgt := 134) X dX11_sue_108 (by decide) (fun c_108 => ?_) (fun c_108 => ?_)
                  · skip
                    rw [ev_105_71] at c_108
                    exact kthrw_82 X E Y dX11_sue_134 dX11_sue_137 dX11_sue_138 dX11_sue_141 (Nat.le_of_ble_eq_true rfl) (Nat.le_of_ble_eq_true rfl) (by show _ ≤ 2; omega) (by show _ ≤ 80; omega) (Nat.le_refl _) (Nat.le_refl _) rfl
                  · skip
                    rw [ev_105_71] at c_108
                    refine k_aload X (q := 1) dX11_sue_111 rfl ?_
                    refine k_gotI X (vX11_275 X (S := S) ⟨(h.at hj).1, (h.at hj).2⟩ (c_X1_isGone C.l C.e0 S (cz j) (h.at hj)) (As := []) (rest := []) rfl rfl rfl rfl ⟨Nat.le_of_ble_eq_true rfl, Nat.le_of_ble_eq_true rfl⟩ (Nat.le_of_ble_eq_true rfl) ⟨(by show _ ≤ 2; omega), (by show _ ≤ 80; omega)⟩ dX11_sue_113) (fun v_113_74 S_113_75 h_113_72 => ?_)
                    obtain ⟨rfl, ev_113_74⟩ := h_113_72
                    refine k_if_ne (tgt := 134) X dX11_sue_116 (by decide) (fun c_116 => ?_) (fun c_116 => ?_)
                    · skip
                      rw [ev_113_74] at c_116
                      exact kthrw_82 X E Y dX11_sue_134 dX11_sue_137 dX11_sue_138 dX11_sue_141 (Nat.le_of_ble_eq_true rfl) (Nat.le_of_ble_eq_true rfl) (by show _ ≤ 2; omega) (by show _ ≤ 80; omega) (Nat.le_refl _) (Nat.le_refl _) rfl
                    · skip
                      rw [ev_113_74] at c_116
                      refine k_aload_n X (q := 3) dX11_sue_119 rfl rfl ?_
                      refine gX11_28s X (S := S) (st_0 h.st).1 (st_0 h.st).2 (sr_0_2 h.st) dX11_sue_120 ?_
                      refine gX11_279s X (S := S) (st_3 h.st).1 (st_3 h.st).2 (sr_3_1 h.st) dX11_sue_123 ?_
                      refine k_gotI X (vX11_76 X (S := S) ⟨(st_15 h.st).1, (st_15 h.st).2⟩ (c_Jx4a65c_size_8abf5 C.l C.e0 S (A 15) (st_15 h.st)) (As := []) (rest := []) rfl rfl rfl rfl ⟨Nat.le_of_ble_eq_true rfl, Nat.le_of_ble_eq_true rfl⟩ (Nat.le_of_ble_eq_true rfl) ⟨(by show _ ≤ 2; omega), (by show _ ≤ 80; omega)⟩ dX11_sue_126) (fun v_126_77 S_126_78 h_126_75 => ?_)
                      obtain ⟨rfl, ev_126_77⟩ := h_126_75
                      have hz_v_126_77 : nI ms = v_126_77 := by rw [ev_126_77]; exact (hLs).2.1.symm
                      subst hz_v_126_77
                      refine k_bipush X (v := 8) dX11_sue_129 (by decide) ?_
                      refine k_icmp_lt (tgt := 142) X dX11_sue_131 (by decide) (fun c_131 => ?_) (fun c_131 => ?_)
                      · skip
                        have hm8 : ms < 8 := lt_of_lt9 (m := 8) c_131 (by omega)
                        refine k_iload_n X (q := 6) dX11_sue_142 rfl rfl ?_
                        refine k_iconst X (v := 3) dX11_sue_143 (by decide) ?_
                        refine k_icmp_ne (tgt := 170) X dX11_sue_144 (by decide) (fun c_144 => ?_) (fun c_144 => ?_)
                        · skip
                          refine k_iload_n X (q := 6) dX11_sue_170 rfl rfl ?_
                          refine k_iconst X (v := 1) dX11_sue_171 (by decide) ?_
                          refine k_icmp_ne (tgt := 193) X dX11_sue_172 (by decide) (fun c_172 => ?_) (fun c_172 => ?_)
                          · skip
                            refine k_aload_n X (q := 3) dX11_sue_193 rfl rfl ?_
                            refine gX11_28s X (S := S) (st_0 h.st).1 (st_0 h.st).2 (sr_0_2 h.st) dX11_sue_194 ?_
                            refine nX11_273 X 202 (Nat.le_of_ble_eq_true rfl) (Nat.le_of_ble_eq_true rfl) dX11_sue_197 (fun a_197_79 fa_197_79 => ?_)
                            refine k_dup X dX11_sue_200 rfl ?_
                            refine k_aload X (q := 2) dX11_sue_201 rfl ?_
                            refine k_aload X (q := 1) dX11_sue_203 rfl ?_
                            refine k_iload_n X (q := 6) dX11_sue_205 rfl rfl ?_
                            refine k_iload X (q := 7) dX11_sue_206 rfl ?_
                            refine k_iload X (q := 8) dX11_sue_208 rfl ?_
                            refine k_null X dX11_sue_210 ?_
                            refine k_gotV X (vX11_288 X (S := (S.nw a_197_79 10 202 0)) (c_X10_init C.l C.e0 (S.nw a_197_79 10 202 0) a_197_79 (cz i) (cz j) x3 (nI t) x5 none (nw_self (S := S) (κ := 10) (ρ := 202) (n := 0))) (As := [.ref (cz i), .ref (cz j), .int x3, .int (nI t), .int x5, .null]) (rest := [.ref a_197_79, .ref (A 3)]) rfl rfl rfl rfl ⟨Nat.le_of_ble_eq_true rfl, Nat.le_of_ble_eq_true rfl⟩ (Nat.le_of_ble_eq_true rfl) ⟨(by show _ ≤ 2; omega), (by show _ ≤ 80; omega)⟩ dX11_sue_211) (fun S_211_81 h_211_79 => ?_)
                            have hg0 : kGo S S_211_81 (fun _ _ => False) := by rw [h_211_79]; exact ksuit_go fa_197_79
                            have hsv0 : kSv S_211_81 a_197_79 (cz i) (cz j) none t := by rw [h_211_79]; exact ksuit_sv fa_197_79 (by omega) (fun x hx => by cases hx)
                            have hls9 := hLs.go hg0 (fun j => ⟨id, id⟩)
                            have hxs9 : ∀ t, t < ms → kSu S_211_81 n cz (xs t) := fun t ht => (hxs t ht).go hg0 (fun j z => z.1)
                            obtain ⟨hI_82, hx_82⟩ := h.goF hg0
                            have hK_82 := (kKe.rf).tr hx_82
                            refine k_gotI X (vX11_291 X (S := S_211_81) ⟨(st_3 hI_82.st).1, (st_3 hI_82.st).2⟩ (c_X4_bring C.l C.e0 S_211_81 a_197_79 A n cz _ _ _ hI_82 i j _ _ hsv0 hi hj hij9 ms xs hls9 (by omega) hxs9 (by omega)) (As := [.ref a_197_79]) (rest := []) rfl rfl rfl rfl ⟨Nat.le_of_ble_eq_true rfl, Nat.le_of_ble_eq_true rfl⟩ (Nat.le_of_ble_eq_true rfl) ⟨(by show _ ≤ 2; omega), (by show _ ≤ 80; omega)⟩ dX11_sue_214) (fun v_214_84 S_214_85 h_214_82 => ?_)
                            obtain ⟨hI_86, hx_86⟩ := h_214_82
                            have hK_86 := (hK_82).tr hx_86
                            exact kx_iret X E dX11_sue_217 (by show _ ≤ 2; omega) (by show _ ≤ 80; omega) (⟨hI_86.mono (by omega) (by omega) (by omega), hK_86⟩)
                          · skip
                            refine k_aload_n X (q := 3) dX11_sue_175 rfl rfl ?_
                            refine gX11_53s X (S := S) (st_0 h.st).1 (st_0 h.st).2 (sr_0_5 h.st) dX11_sue_176 ?_
                            refine k_gotI X (vX11_285 X (S := S) ⟨(st_6 h.st).1, (st_6 h.st).2⟩ (c_X9_isAmnesty C.l C.e0 S  A h.st ) (As := []) (rest := []) rfl rfl rfl rfl ⟨Nat.le_of_ble_eq_true rfl, Nat.le_of_ble_eq_true rfl⟩ (Nat.le_of_ble_eq_true rfl) ⟨(by show _ ≤ 2; omega), (by show _ ≤ 80; omega)⟩ dX11_sue_179) (fun v_179_88 S_179_89 h_179_86 => ?_)
                            obtain ⟨rfl, ev_179_88⟩ := h_179_86
                            refine k_if_eq (tgt := 193) X dX11_sue_182 (by decide) (fun c_182 => ?_) (fun c_182 => ?_)
                            · skip
                              rw [ev_179_88] at c_182
                              refine k_aload_n X (q := 3) dX11_sue_193 rfl rfl ?_
                              refine gX11_28s X (S := S) (st_0 h.st).1 (st_0 h.st).2 (sr_0_2 h.st) dX11_sue_194 ?_
                              refine nX11_273 X 202 (Nat.le_of_ble_eq_true rfl) (Nat.le_of_ble_eq_true rfl) dX11_sue_197 (fun a_197_90 fa_197_90 => ?_)
                              refine k_dup X dX11_sue_200 rfl ?_
                              refine k_aload X (q := 2) dX11_sue_201 rfl ?_
                              refine k_aload X (q := 1) dX11_sue_203 rfl ?_
                              refine k_iload_n X (q := 6) dX11_sue_205 rfl rfl ?_
                              refine k_iload X (q := 7) dX11_sue_206 rfl ?_
                              refine k_iload X (q := 8) dX11_sue_208 rfl ?_
                              refine k_null X dX11_sue_210 ?_
                              refine k_gotV X (vX11_288 X (S := (S.nw a_197_90 10 202 0)) (c_X10_init C.l C.e0 (S.nw a_197_90 10 202 0) a_197_90 (cz i) (cz j) x3 (nI t) x5 none (nw_self (S := S) (κ := 10) (ρ := 202) (n := 0))) (As := [.ref (cz i), .ref (cz j), .int x3, .int (nI t), .int x5, .null]) (rest := [.ref a_197_90, .ref (A 3)]) rfl rfl rfl rfl ⟨Nat.le_of_ble_eq_true rfl, Nat.le_of_ble_eq_true rfl⟩ (Nat.le_of_ble_eq_true rfl) ⟨(by show _ ≤ 2; omega), (by show _ ≤ 80; omega)⟩ dX11_sue_211) (fun S_211_92 h_211_90 => ?_)
                              have hg0 : kGo S S_211_92 (fun _ _ => False) := by rw [h_211_90]; exact ksuit_go fa_197_90
                              have hsv0 : kSv S_211_92 a_197_90 (cz i) (cz j) none t := by rw [h_211_90]; exact ksuit_sv fa_197_90 (by omega) (fun x hx => by cases hx)
                              have hls9 := hLs.go hg0 (fun j => ⟨id, id⟩)
                              have hxs9 : ∀ t, t < ms → kSu S_211_92 n cz (xs t) := fun t ht => (hxs t ht).go hg0 (fun j z => z.1)
                              obtain ⟨hI_93, hx_93⟩ := h.goF hg0
                              have hK_93 := (kKe.rf).tr hx_93
                              refine k_gotI X (vX11_291 X (S := S_211_92) ⟨(st_3 hI_93.st).1, (st_3 hI_93.st).2⟩ (c_X4_bring C.l C.e0 S_211_92 a_197_90 A n cz _ _ _ hI_93 i j _ _ hsv0 hi hj hij9 ms xs hls9 (by omega) hxs9 (by omega)) (As := [.ref a_197_90]) (rest := []) rfl rfl rfl rfl ⟨Nat.le_of_ble_eq_true rfl, Nat.le_of_ble_eq_true rfl⟩ (Nat.le_of_ble_eq_true rfl) ⟨(by show _ ≤ 2; omega), (by show _ ≤ 80; omega)⟩ dX11_sue_214) (fun v_214_95 S_214_96 h_214_93 => ?_)
                              obtain ⟨hI_97, hx_97⟩ := h_214_93
                              have hK_97 := (hK_93).tr hx_97
                              exact kx_iret X E dX11_sue_217 (by show _ ≤ 2; omega) (by show _ ≤ 80; omega) (⟨hI_97.mono (by omega) (by omega) (by omega), hK_97⟩)
                            · skip
                              rw [ev_179_88] at c_182
                              exact kthrw_82 X E Y dX11_sue_185 dX11_sue_188 dX11_sue_189 dX11_sue_192 (Nat.le_of_ble_eq_true rfl) (Nat.le_of_ble_eq_true rfl) (by show _ ≤ 2; omega) (by show _ ≤ 80; omega) (Nat.le_refl _) (Nat.le_refl _) rfl
                        · skip
                          refine k_aload X (q := 1) dX11_sue_147 rfl ?_
                          refine gX11_282 X (S := S) (h.at hj).1 (h.at hj).2 dX11_sue_149 (fun v_149_98 ev_149_98 => ?_)
                          refine k_aload_n X (q := 3) dX11_sue_152 rfl rfl ?_
                          refine gX11_10s X (S := S) (st_0 h.st).1 (st_0 h.st).2 (sr_0_0 h.st) dX11_sue_153 ?_
                          refine gX11_216 X (S := S) (st_1 h.st).1 (st_1 h.st).2 dX11_sue_156 (fun v_156_99 ev_156_99 => ?_)
                          refine k_icmp_ge (tgt := 170) X dX11_sue_159 (by decide) (fun c_159 => ?_) (fun c_159 => ?_)
                          · skip
                            refine k_iload_n X (q := 6) dX11_sue_170 rfl rfl ?_
                            refine k_iconst X (v := 1) dX11_sue_171 (by decide) ?_
                            refine k_icmp_ne (tgt := 193) X dX11_sue_172 (by decide) (fun c_172 => ?_) (fun c_172 => ?_)
                            · skip
                              refine k_aload_n X (q := 3) dX11_sue_193 rfl rfl ?_
                              refine gX11_28s X (S := S) (st_0 h.st).1 (st_0 h.st).2 (sr_0_2 h.st) dX11_sue_194 ?_
                              refine nX11_273 X 202 (Nat.le_of_ble_eq_true rfl) (Nat.le_of_ble_eq_true rfl) dX11_sue_197 (fun a_197_100 fa_197_100 => ?_)
                              refine k_dup X dX11_sue_200 rfl ?_
                              refine k_aload X (q := 2) dX11_sue_201 rfl ?_
                              refine k_aload X (q := 1) dX11_sue_203 rfl ?_
                              refine k_iload_n X (q := 6) dX11_sue_205 rfl rfl ?_
                              refine k_iload X (q := 7) dX11_sue_206 rfl ?_
                              refine k_iload X (q := 8) dX11_sue_208 rfl ?_
                              refine k_null X dX11_sue_210 ?_
                              refine k_gotV X (vX11_288 X (S := (S.nw a_197_100 10 202 0)) (c_X10_init C.l C.e0 (S.nw a_197_100 10 202 0) a_197_100 (cz i) (cz j) x3 (nI t) x5 none (nw_self (S := S) (κ := 10) (ρ := 202) (n := 0))) (As := [.ref (cz i), .ref (cz j), .int x3, .int (nI t), .int x5, .null]) (rest := [.ref a_197_100, .ref (A 3)]) rfl rfl rfl rfl ⟨Nat.le_of_ble_eq_true rfl, Nat.le_of_ble_eq_true rfl⟩ (Nat.le_of_ble_eq_true rfl) ⟨(by show _ ≤ 2; omega), (by show _ ≤ 80; omega)⟩ dX11_sue_211) (fun S_211_102 h_211_100 => ?_)
                              have hg0 : kGo S S_211_102 (fun _ _ => False) := by rw [h_211_100]; exact ksuit_go fa_197_100
                              have hsv0 : kSv S_211_102 a_197_100 (cz i) (cz j) none t := by rw [h_211_100]; exact ksuit_sv fa_197_100 (by omega) (fun x hx => by cases hx)
                              have hls9 := hLs.go hg0 (fun j => ⟨id, id⟩)
                              have hxs9 : ∀ t, t < ms → kSu S_211_102 n cz (xs t) := fun t ht => (hxs t ht).go hg0 (fun j z => z.1)
                              obtain ⟨hI_103, hx_103⟩ := h.goF hg0
                              have hK_103 := (kKe.rf).tr hx_103
                              refine k_gotI X (vX11_291 X (S := S_211_102) ⟨(st_3 hI_103.st).1, (st_3 hI_103.st).2⟩ (c_X4_bring C.l C.e0 S_211_102 a_197_100 A n cz _ _ _ hI_103 i j _ _ hsv0 hi hj hij9 ms xs hls9 (by omega) hxs9 (by omega)) (As := [.ref a_197_100]) (rest := []) rfl rfl rfl rfl ⟨Nat.le_of_ble_eq_true rfl, Nat.le_of_ble_eq_true rfl⟩ (Nat.le_of_ble_eq_true rfl) ⟨(by show _ ≤ 2; omega), (by show _ ≤ 80; omega)⟩ dX11_sue_214) (fun v_214_105 S_214_106 h_214_103 => ?_)
                              obtain ⟨hI_107, hx_107⟩ := h_214_103
                              have hK_107 := (hK_103).tr hx_107
                              exact kx_iret X E dX11_sue_217 (by show _ ≤ 2; omega) (by show _ ≤ 80; omega) (⟨hI_107.mono (by omega) (by omega) (by omega), hK_107⟩)
                            · skip
                              refine k_aload_n X (q := 3) dX11_sue_175 rfl rfl ?_
                              refine gX11_53s X (S := S) (st_0 h.st).1 (st_0 h.st).2 (sr_0_5 h.st) dX11_sue_176 ?_
                              refine k_gotI X (vX11_285 X (S := S) ⟨(st_6 h.st).1, (st_6 h.st).2⟩ (c_X9_isAmnesty C.l C.e0 S  A h.st ) (As := []) (rest := []) rfl rfl rfl rfl ⟨Nat.le_of_ble_eq_true rfl, Nat.le_of_ble_eq_true rfl⟩ (Nat.le_of_ble_eq_true rfl) ⟨(by show _ ≤ 2; omega), (by show _ ≤ 80; omega)⟩ dX11_sue_179) (fun v_179_109 S_179_110 h_179_107 => ?_)
                              obtain ⟨rfl, ev_179_109⟩ := h_179_107
                              refine k_if_eq (tgt := 193) X dX11_sue_182 (by decide) (fun c_182 => ?_) (fun c_182 => ?_)
                              · skip
                                rw [ev_179_109] at c_182
                                refine k_aload_n X (q := 3) dX11_sue_193 rfl rfl ?_
                                refine gX11_28s X (S := S) (st_0 h.st).1 (st_0 h.st).2 (sr_0_2 h.st) dX11_sue_194 ?_
                                refine nX11_273 X 202 (Nat.le_of_ble_eq_true rfl) (Nat.le_of_ble_eq_true rfl) dX11_sue_197 (fun a_197_111 fa_197_111 => ?_)
                                refine k_dup X dX11_sue_200 rfl ?_
                                refine k_aload X (q := 2) dX11_sue_201 rfl ?_
                                refine k_aload X (q := 1) dX11_sue_203 rfl ?_
                                refine k_iload_n X (q := 6) dX11_sue_205 rfl rfl ?_
                                refine k_iload X (q := 7) dX11_sue_206 rfl ?_
                                refine k_iload X (q := 8) dX11_sue_208 rfl ?_
                                refine k_null X dX11_sue_210 ?_
                                refine k_gotV X (vX11_288 X (S := (S.nw a_197_111 10 202 0)) (c_X10_init C.l C.e0 (S.nw a_197_111 10 202 0) a_197_111 (cz i) (cz j) x3 (nI t) x5 none (nw_self (S := S) (κ := 10) (ρ := 202) (n := 0))) (As := [.ref (cz i), .ref (cz j), .int x3, .int (nI t), .int x5, .null]) (rest := [.ref a_197_111, .ref (A 3)]) rfl rfl rfl rfl ⟨Nat.le_of_ble_eq_true rfl, Nat.le_of_ble_eq_true rfl⟩ (Nat.le_of_ble_eq_true rfl) ⟨(by show _ ≤ 2; omega), (by show _ ≤ 80; omega)⟩ dX11_sue_211) (fun S_211_113 h_211_111 => ?_)
                                have hg0 : kGo S S_211_113 (fun _ _ => False) := by rw [h_211_111]; exact ksuit_go fa_197_111
                                have hsv0 : kSv S_211_113 a_197_111 (cz i) (cz j) none t := by rw [h_211_111]; exact ksuit_sv fa_197_111 (by omega) (fun x hx => by cases hx)
                                have hls9 := hLs.go hg0 (fun j => ⟨id, id⟩)
                                have hxs9 : ∀ t, t < ms → kSu S_211_113 n cz (xs t) := fun t ht => (hxs t ht).go hg0 (fun j z => z.1)
                                obtain ⟨hI_114, hx_114⟩ := h.goF hg0
                                have hK_114 := (kKe.rf).tr hx_114
                                refine k_gotI X (vX11_291 X (S := S_211_113) ⟨(st_3 hI_114.st).1, (st_3 hI_114.st).2⟩ (c_X4_bring C.l C.e0 S_211_113 a_197_111 A n cz _ _ _ hI_114 i j _ _ hsv0 hi hj hij9 ms xs hls9 (by omega) hxs9 (by omega)) (As := [.ref a_197_111]) (rest := []) rfl rfl rfl rfl ⟨Nat.le_of_ble_eq_true rfl, Nat.le_of_ble_eq_true rfl⟩ (Nat.le_of_ble_eq_true rfl) ⟨(by show _ ≤ 2; omega), (by show _ ≤ 80; omega)⟩ dX11_sue_214) (fun v_214_116 S_214_117 h_214_114 => ?_)
                                obtain ⟨hI_118, hx_118⟩ := h_214_114
                                have hK_118 := (hK_114).tr hx_118
                                exact kx_iret X E dX11_sue_217 (by show _ ≤ 2; omega) (by show _ ≤ 80; omega) (⟨hI_118.mono (by omega) (by omega) (by omega), hK_118⟩)
                              · skip
                                rw [ev_179_109] at c_182
                                exact kthrw_82 X E Y dX11_sue_185 dX11_sue_188 dX11_sue_189 dX11_sue_192 (Nat.le_of_ble_eq_true rfl) (Nat.le_of_ble_eq_true rfl) (by show _ ≤ 2; omega) (by show _ ≤ 80; omega) (Nat.le_refl _) (Nat.le_refl _) rfl
                          · skip
                            exact kthrw_82 X E Y dX11_sue_162 dX11_sue_165 dX11_sue_166 dX11_sue_169 (Nat.le_of_ble_eq_true rfl) (Nat.le_of_ble_eq_true rfl) (by show _ ≤ 2; omega) (by show _ ≤ 80; omega) (Nat.le_refl _) (Nat.le_refl _) rfl
                      · skip
                        exact kthrw_82 X E Y dX11_sue_134 dX11_sue_137 dX11_sue_138 dX11_sue_141 (Nat.le_of_ble_eq_true rfl) (Nat.le_of_ble_eq_true rfl) (by show _ ≤ 2; omega) (by show _ ≤ 80; omega) (Nat.le_refl _) (Nat.le_refl _) rfl
                · skip
                  rw [ev_85_68] at c_88
                  exact kthrw_65 X E Y dX11_sue_91 dX11_sue_94 dX11_sue_95 dX11_sue_98 (Nat.le_of_ble_eq_true rfl) (Nat.le_of_ble_eq_true rfl) (by show _ ≤ 2; omega) (by show _ ≤ 80; omega) (Nat.le_refl _) (Nat.le_refl _) rfl
        · skip
          refine k_iload_n X (q := 5) dX11_sue_47 rfl rfl ?_
          refine k_iconst X (v := 3) dX11_sue_48 (by decide) ?_
          refine k_icmp_ne (tgt := 56) X dX11_sue_49 (by decide) (fun c_49 => ?_) (fun c_49 => ?_)
          · skip
            refine k_iconst X (v := 0) dX11_sue_56 (by decide) ?_
            refine k_istore X [(8, .int 0), (7, .ref (cz j)), (6, .ref (cz i)), (0, .ref (A 0)), (1, .int x1), (2, .int x2), (3, .int x3), (4, .int x4), (5, .int x5)] dX11_sue_57 (by decide) rfl ?_
            refine k_aload X (q := 2) dX11_sue_59 rfl ?_
            refine k_aload X (q := 1) dX11_sue_61 rfl ?_
            refine k_acmp_eq (rx := some (cz i)) (ry := some (cz j)) (tgt := 91) X dX11_sue_63 (by decide) (fun c_63 => ?_) (fun c_63 => ?_)
            · skip
              exact kthrw_65 X E Y dX11_sue_91 dX11_sue_94 dX11_sue_95 dX11_sue_98 (Nat.le_of_ble_eq_true rfl) (Nat.le_of_ble_eq_true rfl) (by show _ ≤ 2; omega) (by show _ ≤ 80; omega) (Nat.le_refl _) (Nat.le_refl _) rfl
            · skip
              have hij9 : ¬ i = j := fun e => c_63 (by rw [e])
              refine k_iload X (q := 0) dX11_sue_66 rfl ?_
              refine k_if_eq (tgt := 91) X dX11_sue_68 (by decide) (fun c_68 => ?_) (fun c_68 => ?_)
              · skip
                exact kthrw_65 X E Y dX11_sue_91 dX11_sue_94 dX11_sue_95 dX11_sue_98 (Nat.le_of_ble_eq_true rfl) (Nat.le_of_ble_eq_true rfl) (by show _ ≤ 2; omega) (by show _ ≤ 80; omega) (Nat.le_refl _) (Nat.le_refl _) rfl
              · skip
                exact absurd rfl c_68
          · skip
            refine k_iconst X (v := 1) dX11_sue_52 (by decide) ?_
            refine k_goto (tgt := 57) X dX11_sue_53 (by decide) ?_
            refine k_istore X [(8, .int 1), (7, .ref (cz j)), (6, .ref (cz i)), (0, .ref (A 0)), (1, .int x1), (2, .int x2), (3, .int x3), (4, .int x4), (5, .int x5)] dX11_sue_57 (by decide) rfl ?_
            refine k_aload X (q := 2) dX11_sue_59 rfl ?_
            refine k_aload X (q := 1) dX11_sue_61 rfl ?_
            refine k_acmp_eq (rx := some (cz i)) (ry := some (cz j)) (tgt := 91) X dX11_sue_63 (by decide) (fun c_63 => ?_) (fun c_63 => ?_)
            · skip
              exact kthrw_65 X E Y dX11_sue_91 dX11_sue_94 dX11_sue_95 dX11_sue_98 (Nat.le_of_ble_eq_true rfl) (Nat.le_of_ble_eq_true rfl) (by show _ ≤ 2; omega) (by show _ ≤ 80; omega) (Nat.le_refl _) (Nat.le_refl _) rfl
            · skip
              have hij9 : ¬ i = j := fun e => c_63 (by rw [e])
              refine k_iload X (q := 0) dX11_sue_66 rfl ?_
              refine k_if_eq (tgt := 91) X dX11_sue_68 (by decide) (fun c_68 => ?_) (fun c_68 => ?_)
              · skip
                exact absurd c_68 (by decide)
              · skip
                refine k_iload X (q := 7) dX11_sue_71 rfl ?_
                refine k_iconst X (v := 1) dX11_sue_73 (by decide) ?_
                refine k_sipush X (v := 200) dX11_sue_74 (by decide) ?_
                refine k_gotI X (vX11_61 X (S := S) (c_X11_isFrom C.l C.e0 S x4 1 200 ) (As := [.int x4, .int 1, .int 200]) (rest := []) rfl rfl rfl rfl ⟨Nat.le_of_ble_eq_true rfl, Nat.le_of_ble_eq_true rfl⟩ (Nat.le_of_ble_eq_true rfl) ⟨(by show _ ≤ 2; omega), (by show _ ≤ 80; omega)⟩ dX11_sue_77) (fun v_77_120 S_77_121 h_77_118 => ?_)
                obtain ⟨rfl, ev_77_120⟩ := h_77_118
                refine k_if_eq (tgt := 91) X dX11_sue_80 (by decide) (fun c_80 => ?_) (fun c_80 => ?_)
                · skip
                  rw [ev_77_120] at c_80
                  exact kthrw_65 X E Y dX11_sue_91 dX11_sue_94 dX11_sue_95 dX11_sue_98 (Nat.le_of_ble_eq_true rfl) (Nat.le_of_ble_eq_true rfl) (by show _ ≤ 2; omega) (by show _ ≤ 80; omega) (Nat.le_refl _) (Nat.le_refl _) rfl
                · skip
                  rw [ev_77_120] at c_80
                  obtain ⟨t, ht1, ht2, hxt⟩ := kfrom (a := 1) (b := 200) rfl (rfl) (by omega) c_80
                  have ht : t < 201 := by omega
                  subst hxt
                  refine k_iload X (q := 8) dX11_sue_83 rfl ?_
                  refine k_gotI X (vX11_68 X (S := S) (c_X11_isLean C.l C.e0 S x5 ) (As := [.int x5]) (rest := []) rfl rfl rfl rfl ⟨Nat.le_of_ble_eq_true rfl, Nat.le_of_ble_eq_true rfl⟩ (Nat.le_of_ble_eq_true rfl) ⟨(by show _ ≤ 2; omega), (by show _ ≤ 80; omega)⟩ dX11_sue_85) (fun v_85_123 S_85_124 h_85_121 => ?_)
                  obtain ⟨rfl, ev_85_123⟩ := h_85_121
                  refine k_if_ne (tgt := 99) X dX11_sue_88 (by decide) (fun c_88 => ?_) (fun c_88 => ?_)
                  · skip
                    rw [ev_85_123] at c_88
                    refine k_aload_n X (q := 3) dX11_sue_99 rfl rfl ?_
                    refine gX11_10s X (S := S) (st_0 h.st).1 (st_0 h.st).2 (sr_0_0 h.st) dX11_sue_100 ?_
                    refine k_aload X (q := 2) dX11_sue_103 rfl ?_
                    refine k_gotI X (vX11_186 X (S := S) ⟨(st_1 h.st).1, (st_1 h.st).2⟩ (c_X2_mayAct C.l C.e0 S (cz i) A h.st ⟨(h.at hi).1, (h.at hi).2⟩) (As := [.ref (cz i)]) (rest := []) rfl rfl rfl rfl ⟨Nat.le_of_ble_eq_true rfl, Nat.le_of_ble_eq_true rfl⟩ (Nat.le_of_ble_eq_true rfl) ⟨(by show _ ≤ 2; omega), (by show _ ≤ 80; omega)⟩ dX11_sue_105) (fun v_105_126 S_105_127 h_105_124 => ?_)
                    obtain ⟨rfl, ev_105_126⟩ := h_105_124
                    refine k_if_eq (tgt := 134) X dX11_sue_108 (by decide) (fun c_108 => ?_) (fun c_108 => ?_)
                    · skip
                      rw [ev_105_126] at c_108
                      exact kthrw_82 X E Y dX11_sue_134 dX11_sue_137 dX11_sue_138 dX11_sue_141 (Nat.le_of_ble_eq_true rfl) (Nat.le_of_ble_eq_true rfl) (by show _ ≤ 2; omega) (by show _ ≤ 80; omega) (Nat.le_refl _) (Nat.le_refl _) rfl
                    · skip
                      rw [ev_105_126] at c_108
                      refine k_aload X (q := 1) dX11_sue_111 rfl ?_
                      refine k_gotI X (vX11_275 X (S := S) ⟨(h.at hj).1, (h.at hj).2⟩ (c_X1_isGone C.l C.e0 S (cz j) (h.at hj)) (As := []) (rest := []) rfl rfl rfl rfl ⟨Nat.le_of_ble_eq_true rfl, Nat.le_of_ble_eq_true rfl⟩ (Nat.le_of_ble_eq_true rfl) ⟨(by show _ ≤ 2; omega), (by show _ ≤ 80; omega)⟩ dX11_sue_113) (fun v_113_129 S_113_130 h_113_127 => ?_)
                      obtain ⟨rfl, ev_113_129⟩ := h_113_127
                      refine k_if_ne (tgt := 134) X dX11_sue_116 (by decide) (fun c_116 => ?_) (fun c_116 => ?_)
                      · skip
                        rw [ev_113_129] at c_116
                        exact kthrw_82 X E Y dX11_sue_134 dX11_sue_137 dX11_sue_138 dX11_sue_141 (Nat.le_of_ble_eq_true rfl) (Nat.le_of_ble_eq_true rfl) (by show _ ≤ 2; omega) (by show _ ≤ 80; omega) (Nat.le_refl _) (Nat.le_refl _) rfl
                      · skip
                        rw [ev_113_129] at c_116
                        refine k_aload_n X (q := 3) dX11_sue_119 rfl rfl ?_
                        refine gX11_28s X (S := S) (st_0 h.st).1 (st_0 h.st).2 (sr_0_2 h.st) dX11_sue_120 ?_
                        refine gX11_279s X (S := S) (st_3 h.st).1 (st_3 h.st).2 (sr_3_1 h.st) dX11_sue_123 ?_
                        refine k_gotI X (vX11_76 X (S := S) ⟨(st_15 h.st).1, (st_15 h.st).2⟩ (c_Jx4a65c_size_8abf5 C.l C.e0 S (A 15) (st_15 h.st)) (As := []) (rest := []) rfl rfl rfl rfl ⟨Nat.le_of_ble_eq_true rfl, Nat.le_of_ble_eq_true rfl⟩ (Nat.le_of_ble_eq_true rfl) ⟨(by show _ ≤ 2; omega), (by show _ ≤ 80; omega)⟩ dX11_sue_126) (fun v_126_132 S_126_133 h_126_130 => ?_)
                        obtain ⟨rfl, ev_126_132⟩ := h_126_130
                        have hz_v_126_132 : nI ms = v_126_132 := by rw [ev_126_132]; exact (hLs).2.1.symm
                        subst hz_v_126_132
                        refine k_bipush X (v := 8) dX11_sue_129 (by decide) ?_
                        refine k_icmp_lt (tgt := 142) X dX11_sue_131 (by decide) (fun c_131 => ?_) (fun c_131 => ?_)
                        · skip
                          have hm8 : ms < 8 := lt_of_lt9 (m := 8) c_131 (by omega)
                          refine k_iload_n X (q := 6) dX11_sue_142 rfl rfl ?_
                          refine k_iconst X (v := 3) dX11_sue_143 (by decide) ?_
                          refine k_icmp_ne (tgt := 170) X dX11_sue_144 (by decide) (fun c_144 => ?_) (fun c_144 => ?_)
                          · skip
                            refine k_iload_n X (q := 6) dX11_sue_170 rfl rfl ?_
                            refine k_iconst X (v := 1) dX11_sue_171 (by decide) ?_
                            refine k_icmp_ne (tgt := 193) X dX11_sue_172 (by decide) (fun c_172 => ?_) (fun c_172 => ?_)
                            · skip
                              refine k_aload_n X (q := 3) dX11_sue_193 rfl rfl ?_
                              refine gX11_28s X (S := S) (st_0 h.st).1 (st_0 h.st).2 (sr_0_2 h.st) dX11_sue_194 ?_
                              refine nX11_273 X 202 (Nat.le_of_ble_eq_true rfl) (Nat.le_of_ble_eq_true rfl) dX11_sue_197 (fun a_197_134 fa_197_134 => ?_)
                              refine k_dup X dX11_sue_200 rfl ?_
                              refine k_aload X (q := 2) dX11_sue_201 rfl ?_
                              refine k_aload X (q := 1) dX11_sue_203 rfl ?_
                              refine k_iload_n X (q := 6) dX11_sue_205 rfl rfl ?_
                              refine k_iload X (q := 7) dX11_sue_206 rfl ?_
                              refine k_iload X (q := 8) dX11_sue_208 rfl ?_
                              refine k_null X dX11_sue_210 ?_
                              refine k_gotV X (vX11_288 X (S := (S.nw a_197_134 10 202 0)) (c_X10_init C.l C.e0 (S.nw a_197_134 10 202 0) a_197_134 (cz i) (cz j) x3 (nI t) x5 none (nw_self (S := S) (κ := 10) (ρ := 202) (n := 0))) (As := [.ref (cz i), .ref (cz j), .int x3, .int (nI t), .int x5, .null]) (rest := [.ref a_197_134, .ref (A 3)]) rfl rfl rfl rfl ⟨Nat.le_of_ble_eq_true rfl, Nat.le_of_ble_eq_true rfl⟩ (Nat.le_of_ble_eq_true rfl) ⟨(by show _ ≤ 2; omega), (by show _ ≤ 80; omega)⟩ dX11_sue_211) (fun S_211_136 h_211_134 => ?_)
                              have hg0 : kGo S S_211_136 (fun _ _ => False) := by rw [h_211_134]; exact ksuit_go fa_197_134
                              have hsv0 : kSv S_211_136 a_197_134 (cz i) (cz j) none t := by rw [h_211_134]; exact ksuit_sv fa_197_134 (by omega) (fun x hx => by cases hx)
                              have hls9 := hLs.go hg0 (fun j => ⟨id, id⟩)
                              have hxs9 : ∀ t, t < ms → kSu S_211_136 n cz (xs t) := fun t ht => (hxs t ht).go hg0 (fun j z => z.1)
                              obtain ⟨hI_137, hx_137⟩ := h.goF hg0
                              have hK_137 := (kKe.rf).tr hx_137
                              refine k_gotI X (vX11_291 X (S := S_211_136) ⟨(st_3 hI_137.st).1, (st_3 hI_137.st).2⟩ (c_X4_bring C.l C.e0 S_211_136 a_197_134 A n cz _ _ _ hI_137 i j _ _ hsv0 hi hj hij9 ms xs hls9 (by omega) hxs9 (by omega)) (As := [.ref a_197_134]) (rest := []) rfl rfl rfl rfl ⟨Nat.le_of_ble_eq_true rfl, Nat.le_of_ble_eq_true rfl⟩ (Nat.le_of_ble_eq_true rfl) ⟨(by show _ ≤ 2; omega), (by show _ ≤ 80; omega)⟩ dX11_sue_214) (fun v_214_139 S_214_140 h_214_137 => ?_)
                              obtain ⟨hI_141, hx_141⟩ := h_214_137
                              have hK_141 := (hK_137).tr hx_141
                              exact kx_iret X E dX11_sue_217 (by show _ ≤ 2; omega) (by show _ ≤ 80; omega) (⟨hI_141.mono (by omega) (by omega) (by omega), hK_141⟩)
                            · skip
                              refine k_aload_n X (q := 3) dX11_sue_175 rfl rfl ?_
                              refine gX11_53s X (S := S) (st_0 h.st).1 (st_0 h.st).2 (sr_0_5 h.st) dX11_sue_176 ?_
                              refine k_gotI X (vX11_285 X (S := S) ⟨(st_6 h.st).1, (st_6 h.st).2⟩ (c_X9_isAmnesty C.l C.e0 S  A h.st ) (As := []) (rest := []) rfl rfl rfl rfl ⟨Nat.le_of_ble_eq_true rfl, Nat.le_of_ble_eq_true rfl⟩ (Nat.le_of_ble_eq_true rfl) ⟨(by show _ ≤ 2; omega), (by show _ ≤ 80; omega)⟩ dX11_sue_179) (fun v_179_143 S_179_144 h_179_141 => ?_)
                              obtain ⟨rfl, ev_179_143⟩ := h_179_141
                              refine k_if_eq (tgt := 193) X dX11_sue_182 (by decide) (fun c_182 => ?_) (fun c_182 => ?_)
                              · skip
                                rw [ev_179_143] at c_182
                                refine k_aload_n X (q := 3) dX11_sue_193 rfl rfl ?_
                                refine gX11_28s X (S := S) (st_0 h.st).1 (st_0 h.st).2 (sr_0_2 h.st) dX11_sue_194 ?_
                                refine nX11_273 X 202 (Nat.le_of_ble_eq_true rfl) (Nat.le_of_ble_eq_true rfl) dX11_sue_197 (fun a_197_145 fa_197_145 => ?_)
                                refine k_dup X dX11_sue_200 rfl ?_
                                refine k_aload X (q := 2) dX11_sue_201 rfl ?_
                                refine k_aload X (q := 1) dX11_sue_203 rfl ?_
                                refine k_iload_n X (q := 6) dX11_sue_205 rfl rfl ?_
                                refine k_iload X (q := 7) dX11_sue_206 rfl ?_
                                refine k_iload X (q := 8) dX11_sue_208 rfl ?_
                                refine k_null X dX11_sue_210 ?_
                                refine k_gotV X (vX11_288 X (S := (S.nw a_197_145 10 202 0)) (c_X10_init C.l C.e0 (S.nw a_197_145 10 202 0) a_197_145 (cz i) (cz j) x3 (nI t) x5 none (nw_self (S := S) (κ := 10) (ρ := 202) (n := 0))) (As := [.ref (cz i), .ref (cz j), .int x3, .int (nI t), .int x5, .null]) (rest := [.ref a_197_145, .ref (A 3)]) rfl rfl rfl rfl ⟨Nat.le_of_ble_eq_true rfl, Nat.le_of_ble_eq_true rfl⟩ (Nat.le_of_ble_eq_true rfl) ⟨(by show _ ≤ 2; omega), (by show _ ≤ 80; omega)⟩ dX11_sue_211) (fun S_211_147 h_211_145 => ?_)
                                have hg0 : kGo S S_211_147 (fun _ _ => False) := by rw [h_211_145]; exact ksuit_go fa_197_145
                                have hsv0 : kSv S_211_147 a_197_145 (cz i) (cz j) none t := by rw [h_211_145]; exact ksuit_sv fa_197_145 (by omega) (fun x hx => by cases hx)
                                have hls9 := hLs.go hg0 (fun j => ⟨id, id⟩)
                                have hxs9 : ∀ t, t < ms → kSu S_211_147 n cz (xs t) := fun t ht => (hxs t ht).go hg0 (fun j z => z.1)
                                obtain ⟨hI_148, hx_148⟩ := h.goF hg0
                                have hK_148 := (kKe.rf).tr hx_148
                                refine k_gotI X (vX11_291 X (S := S_211_147) ⟨(st_3 hI_148.st).1, (st_3 hI_148.st).2⟩ (c_X4_bring C.l C.e0 S_211_147 a_197_145 A n cz _ _ _ hI_148 i j _ _ hsv0 hi hj hij9 ms xs hls9 (by omega) hxs9 (by omega)) (As := [.ref a_197_145]) (rest := []) rfl rfl rfl rfl ⟨Nat.le_of_ble_eq_true rfl, Nat.le_of_ble_eq_true rfl⟩ (Nat.le_of_ble_eq_true rfl) ⟨(by show _ ≤ 2; omega), (by show _ ≤ 80; omega)⟩ dX11_sue_214) (fun v_214_150 S_214_151 h_214_148 => ?_)
                                obtain ⟨hI_152, hx_152⟩ := h_214_148
                                have hK_152 := (hK_148).tr hx_152
                                exact kx_iret X E dX11_sue_217 (by show _ ≤ 2; omega) (by show _ ≤ 80; omega) (⟨hI_152.mono (by omega) (by omega) (by omega), hK_152⟩)
                              · skip
                                rw [ev_179_143] at c_182
                                exact kthrw_82 X E Y dX11_sue_185 dX11_sue_188 dX11_sue_189 dX11_sue_192 (Nat.le_of_ble_eq_true rfl) (Nat.le_of_ble_eq_true rfl) (by show _ ≤ 2; omega) (by show _ ≤ 80; omega) (Nat.le_refl _) (Nat.le_refl _) rfl
                          · skip
                            refine k_aload X (q := 1) dX11_sue_147 rfl ?_
                            refine gX11_282 X (S := S) (h.at hj).1 (h.at hj).2 dX11_sue_149 (fun v_149_153 ev_149_153 => ?_)
                            refine k_aload_n X (q := 3) dX11_sue_152 rfl rfl ?_
                            refine gX11_10s X (S := S) (st_0 h.st).1 (st_0 h.st).2 (sr_0_0 h.st) dX11_sue_153 ?_
                            refine gX11_216 X (S := S) (st_1 h.st).1 (st_1 h.st).2 dX11_sue_156 (fun v_156_154 ev_156_154 => ?_)
                            refine k_icmp_ge (tgt := 170) X dX11_sue_159 (by decide) (fun c_159 => ?_) (fun c_159 => ?_)
                            · skip
                              refine k_iload_n X (q := 6) dX11_sue_170 rfl rfl ?_
                              refine k_iconst X (v := 1) dX11_sue_171 (by decide) ?_
                              refine k_icmp_ne (tgt := 193) X dX11_sue_172 (by decide) (fun c_172 => ?_) (fun c_172 => ?_)
                              · skip
                                refine k_aload_n X (q := 3) dX11_sue_193 rfl rfl ?_
                                refine gX11_28s X (S := S) (st_0 h.st).1 (st_0 h.st).2 (sr_0_2 h.st) dX11_sue_194 ?_
                                refine nX11_273 X 202 (Nat.le_of_ble_eq_true rfl) (Nat.le_of_ble_eq_true rfl) dX11_sue_197 (fun a_197_155 fa_197_155 => ?_)
                                refine k_dup X dX11_sue_200 rfl ?_
                                refine k_aload X (q := 2) dX11_sue_201 rfl ?_
                                refine k_aload X (q := 1) dX11_sue_203 rfl ?_
                                refine k_iload_n X (q := 6) dX11_sue_205 rfl rfl ?_
                                refine k_iload X (q := 7) dX11_sue_206 rfl ?_
                                refine k_iload X (q := 8) dX11_sue_208 rfl ?_
                                refine k_null X dX11_sue_210 ?_
                                refine k_gotV X (vX11_288 X (S := (S.nw a_197_155 10 202 0)) (c_X10_init C.l C.e0 (S.nw a_197_155 10 202 0) a_197_155 (cz i) (cz j) x3 (nI t) x5 none (nw_self (S := S) (κ := 10) (ρ := 202) (n := 0))) (As := [.ref (cz i), .ref (cz j), .int x3, .int (nI t), .int x5, .null]) (rest := [.ref a_197_155, .ref (A 3)]) rfl rfl rfl rfl ⟨Nat.le_of_ble_eq_true rfl, Nat.le_of_ble_eq_true rfl⟩ (Nat.le_of_ble_eq_true rfl) ⟨(by show _ ≤ 2; omega), (by show _ ≤ 80; omega)⟩ dX11_sue_211) (fun S_211_157 h_211_155 => ?_)
                                have hg0 : kGo S S_211_157 (fun _ _ => False) := by rw [h_211_155]; exact ksuit_go fa_197_155
                                have hsv0 : kSv S_211_157 a_197_155 (cz i) (cz j) none t := by rw [h_211_155]; exact ksuit_sv fa_197_155 (by omega) (fun x hx => by cases hx)
                                have hls9 := hLs.go hg0 (fun j => ⟨id, id⟩)
                                have hxs9 : ∀ t, t < ms → kSu S_211_157 n cz (xs t) := fun t ht => (hxs t ht).go hg0 (fun j z => z.1)
                                obtain ⟨hI_158, hx_158⟩ := h.goF hg0
                                have hK_158 := (kKe.rf).tr hx_158
                                refine k_gotI X (vX11_291 X (S := S_211_157) ⟨(st_3 hI_158.st).1, (st_3 hI_158.st).2⟩ (c_X4_bring C.l C.e0 S_211_157 a_197_155 A n cz _ _ _ hI_158 i j _ _ hsv0 hi hj hij9 ms xs hls9 (by omega) hxs9 (by omega)) (As := [.ref a_197_155]) (rest := []) rfl rfl rfl rfl ⟨Nat.le_of_ble_eq_true rfl, Nat.le_of_ble_eq_true rfl⟩ (Nat.le_of_ble_eq_true rfl) ⟨(by show _ ≤ 2; omega), (by show _ ≤ 80; omega)⟩ dX11_sue_214) (fun v_214_160 S_214_161 h_214_158 => ?_)
                                obtain ⟨hI_162, hx_162⟩ := h_214_158
                                have hK_162 := (hK_158).tr hx_162
                                exact kx_iret X E dX11_sue_217 (by show _ ≤ 2; omega) (by show _ ≤ 80; omega) (⟨hI_162.mono (by omega) (by omega) (by omega), hK_162⟩)
                              · skip
                                refine k_aload_n X (q := 3) dX11_sue_175 rfl rfl ?_
                                refine gX11_53s X (S := S) (st_0 h.st).1 (st_0 h.st).2 (sr_0_5 h.st) dX11_sue_176 ?_
                                refine k_gotI X (vX11_285 X (S := S) ⟨(st_6 h.st).1, (st_6 h.st).2⟩ (c_X9_isAmnesty C.l C.e0 S  A h.st ) (As := []) (rest := []) rfl rfl rfl rfl ⟨Nat.le_of_ble_eq_true rfl, Nat.le_of_ble_eq_true rfl⟩ (Nat.le_of_ble_eq_true rfl) ⟨(by show _ ≤ 2; omega), (by show _ ≤ 80; omega)⟩ dX11_sue_179) (fun v_179_164 S_179_165 h_179_162 => ?_)
                                obtain ⟨rfl, ev_179_164⟩ := h_179_162
                                refine k_if_eq (tgt := 193) X dX11_sue_182 (by decide) (fun c_182 => ?_) (fun c_182 => ?_)
                                · skip
                                  rw [ev_179_164] at c_182
                                  refine k_aload_n X (q := 3) dX11_sue_193 rfl rfl ?_
                                  refine gX11_28s X (S := S) (st_0 h.st).1 (st_0 h.st).2 (sr_0_2 h.st) dX11_sue_194 ?_
                                  refine nX11_273 X 202 (Nat.le_of_ble_eq_true rfl) (Nat.le_of_ble_eq_true rfl) dX11_sue_197 (fun a_197_166 fa_197_166 => ?_)
                                  refine k_dup X dX11_sue_200 rfl ?_
                                  refine k_aload X (q := 2) dX11_sue_201 rfl ?_
                                  refine k_aload X (q := 1) dX11_sue_203 rfl ?_
                                  refine k_iload_n X (q := 6) dX11_sue_205 rfl rfl ?_
                                  refine k_iload X (q := 7) dX11_sue_206 rfl ?_
                                  refine k_iload X (q := 8) dX11_sue_208 rfl ?_
                                  refine k_null X dX11_sue_210 ?_
                                  refine k_gotV X (vX11_288 X (S := (S.nw a_197_166 10 202 0)) (c_X10_init C.l C.e0 (S.nw a_197_166 10 202 0) a_197_166 (cz i) (cz j) x3 (nI t) x5 none (nw_self (S := S) (κ := 10) (ρ := 202) (n := 0))) (As := [.ref (cz i), .ref (cz j), .int x3, .int (nI t), .int x5, .null]) (rest := [.ref a_197_166, .ref (A 3)]) rfl rfl rfl rfl ⟨Nat.le_of_ble_eq_true rfl, Nat.le_of_ble_eq_true rfl⟩ (Nat.le_of_ble_eq_true rfl) ⟨(by show _ ≤ 2; omega), (by show _ ≤ 80; omega)⟩ dX11_sue_211) (fun S_211_168 h_211_166 => ?_)
                                  have hg0 : kGo S S_211_168 (fun _ _ => False) := by rw [h_211_166]; exact ksuit_go fa_197_166
                                  have hsv0 : kSv S_211_168 a_197_166 (cz i) (cz j) none t := by rw [h_211_166]; exact ksuit_sv fa_197_166 (by omega) (fun x hx => by cases hx)
                                  have hls9 := hLs.go hg0 (fun j => ⟨id, id⟩)
                                  have hxs9 : ∀ t, t < ms → kSu S_211_168 n cz (xs t) := fun t ht => (hxs t ht).go hg0 (fun j z => z.1)
                                  obtain ⟨hI_169, hx_169⟩ := h.goF hg0
                                  have hK_169 := (kKe.rf).tr hx_169
                                  refine k_gotI X (vX11_291 X (S := S_211_168) ⟨(st_3 hI_169.st).1, (st_3 hI_169.st).2⟩ (c_X4_bring C.l C.e0 S_211_168 a_197_166 A n cz _ _ _ hI_169 i j _ _ hsv0 hi hj hij9 ms xs hls9 (by omega) hxs9 (by omega)) (As := [.ref a_197_166]) (rest := []) rfl rfl rfl rfl ⟨Nat.le_of_ble_eq_true rfl, Nat.le_of_ble_eq_true rfl⟩ (Nat.le_of_ble_eq_true rfl) ⟨(by show _ ≤ 2; omega), (by show _ ≤ 80; omega)⟩ dX11_sue_214) (fun v_214_171 S_214_172 h_214_169 => ?_)
                                  obtain ⟨hI_173, hx_173⟩ := h_214_169
                                  have hK_173 := (hK_169).tr hx_173
                                  exact kx_iret X E dX11_sue_217 (by show _ ≤ 2; omega) (by show _ ≤ 80; omega) (⟨hI_173.mono (by omega) (by omega) (by omega), hK_173⟩)
                                · skip
                                  rw [ev_179_164] at c_182
                                  exact kthrw_82 X E Y dX11_sue_185 dX11_sue_188 dX11_sue_189 dX11_sue_192 (Nat.le_of_ble_eq_true rfl) (Nat.le_of_ble_eq_true rfl) (by show _ ≤ 2; omega) (by show _ ≤ 80; omega) (Nat.le_refl _) (Nat.le_refl _) rfl
                            · skip
                              exact kthrw_82 X E Y dX11_sue_162 dX11_sue_165 dX11_sue_166 dX11_sue_169 (Nat.le_of_ble_eq_true rfl) (Nat.le_of_ble_eq_true rfl) (by show _ ≤ 2; omega) (by show _ ≤ 80; omega) (Nat.le_refl _) (Nat.le_refl _) rfl
                        · skip
                          exact kthrw_82 X E Y dX11_sue_134 dX11_sue_137 dX11_sue_138 dX11_sue_141 (Nat.le_of_ble_eq_true rfl) (Nat.le_of_ble_eq_true rfl) (by show _ ≤ 2; omega) (by show _ ≤ 80; omega) (Nat.le_refl _) (Nat.le_refl _) rfl
                  · skip
                    rw [ev_85_123] at c_88
                    exact kthrw_65 X E Y dX11_sue_91 dX11_sue_94 dX11_sue_95 dX11_sue_98 (Nat.le_of_ble_eq_true rfl) (Nat.le_of_ble_eq_true rfl) (by show _ ≤ 2; omega) (by show _ ≤ 80; omega) (Nat.le_refl _) (Nat.le_refl _) rfl
    · skip
      subst c_27
      exact kthrw_95 X E Y dX11_sue_30 dX11_sue_33 dX11_sue_34 dX11_sue_37 (Nat.le_of_ble_eq_true rfl) (Nat.le_of_ble_eq_true rfl) (by show _ ≤ 2; omega) (by show _ ≤ 80; omega) (Nat.le_refl _) (Nat.le_refl _) rfl
set_option maxHeartbeats 1000000 in
set_option maxRecDepth 20000 in
theorem c_X11_challenge (l : Launch) (e0 : Nat × Nat) (S : kS) (x1 : Int32) (x2 : Int32) (x3 : Int32) (A : Nat → Nat) (n : Nat) (cz : Nat → Nat) (T G Z : Nat) (h : kI e0 A n cz T G Z S)  (hb : T + 0 ≤ 900000 ∧ G + 0 ≤ 60000 ∧ Z + 0 ≤ 150000) (hfl : l.stackTraces = false) : kMX l e0 yX11_challenge cX11_challenge 7 (Option.some Jvm.ClassFile.FieldType.int) ({ frames := 8, cells := 2, slots := 80, locals := 212 } : Room) 2 80 [.ref (A 0), .int x1, .int x2, .int x3] S (kQi (fun v S9 => kI e0 A n cz (T + 0) (G + 0) (Z + 0) S9 ∧ kKe A S S9)) (fun S9 => S9 = S) := by
  refine kMetX (by decide +kernel) (Nat.le_of_ble_eq_true rfl) hfl (fun C he hl X E Y hm => ?_)
  have X : kX C RX11 cX11_challenge 7 ({ frames := 8, cells := 2, slots := 80, locals := 212 } : Room) := X
  subst he hl
  show kG C 7 S 0 0 0 [(0, .ref (A 0)), (1, .int x1), (2, .int x2), (3, .int x3)] []
  have hn := h.n40
  obtain ⟨ms, xs, hLs, hms, hxs⟩ := h.sl
  obtain ⟨md, xd, hLd, hmd, hxd⟩ := h.ml.2
  refine k_aload_n X (q := 0) dX11_challenge_0 rfl rfl ?_
  refine gX11_10s X (S := S) (st_0 h.st).1 (st_0 h.st).2 (sr_0_0 h.st) dX11_challenge_1 ?_
  refine k_iload_n X (q := 1) dX11_challenge_4 rfl rfl ?_
  refine k_gotQ X (vX11_102 X (S := S) ⟨(st_1 h.st).1, (st_1 h.st).2⟩ (c_X2_numbered C.l C.e0 S x1 A n cz h.st h.hC hn (by have := h.who.1; omega)) (As := [.int x1]) (rest := []) rfl rfl rfl rfl ⟨Nat.le_of_ble_eq_true rfl, Nat.le_of_ble_eq_true rfl⟩ (Nat.le_of_ble_eq_true rfl) ⟨(by show _ ≤ 2; omega), (by show _ ≤ 80; omega)⟩ dX11_challenge_5) (fun r_5_2 S_5_3 h_5_0 => ?_)
  obtain ⟨rfl, hnj_5, hnq_5⟩ := h_5_0
  refine k_astoreQ X [(4, va_rf r_5_2), (0, .ref (A 0)), (1, .int x1), (2, .int x2), (3, .int x3)] dX11_challenge_8 (by decide) rfl ?_
  refine k_aloadQ X (q := 0) dX11_challenge_10 rfl ?_
  refine k_ifnull (tgt := 35) X dX11_challenge_12 (by decide) (fun c_12 => ?_) (fun a_12_4 c_12 => ?_)
  · skip
    subst c_12
    exact kthrw_95 X E Y dX11_challenge_35 dX11_challenge_38 dX11_challenge_39 dX11_challenge_42 (Nat.le_of_ble_eq_true rfl) (Nat.le_of_ble_eq_true rfl) (by show _ ≤ 2; omega) (by show _ ≤ 80; omega) (Nat.le_refl _) (Nat.le_refl _) rfl
  · skip
    subst c_12
    obtain ⟨i, hi, hxi⟩ : ∃ j, j < n ∧ a_12_4 = cz j := by
      rcases hnq_5 with z | ⟨j, z1, z2, z3⟩
      · cases z
      · exact ⟨j, z1, Option.some.inj z3⟩
    subst hxi
    refine k_iload_n X (q := 3) dX11_challenge_15 rfl rfl ?_
    refine k_iconst X (v := 0) dX11_challenge_16 (by decide) ?_
    refine k_aload_n X (q := 1) dX11_challenge_17 rfl rfl ?_
    refine gX11_37s X (S := S) (st_0 h.st).1 (st_0 h.st).2 (sr_0_3 h.st) dX11_challenge_18 ?_
    refine gX11_222s X (S := S) (st_4 h.st).1 (st_4 h.st).2 (sr_4_3 h.st) dX11_challenge_21 ?_
    refine k_gotI X (vX11_76 X (S := S) ⟨(st_19 h.st).1, (st_19 h.st).2⟩ (c_Jx4a65c_size_8abf5 C.l C.e0 S (A 19) (st_19 h.st)) (As := []) (rest := [.int 0, .int x2]) rfl rfl rfl rfl ⟨Nat.le_of_ble_eq_true rfl, Nat.le_of_ble_eq_true rfl⟩ (Nat.le_of_ble_eq_true rfl) ⟨(by show _ ≤ 2; omega), (by show _ ≤ 80; omega)⟩ dX11_challenge_24) (fun v_24_6 S_24_7 h_24_4 => ?_)
    obtain ⟨rfl, ev_24_6⟩ := h_24_4
    have hz_v_24_6 : nI md = v_24_6 := by rw [ev_24_6]; exact (hLd).2.1.symm
    subst hz_v_24_6
    refine k_iconst X (v := 1) dX11_challenge_27 (by decide) ?_
    refine k_isub X dX11_challenge_28 (fun v_28_8 ev_28_8 => ?_)
    refine k_gotI X (vX11_61 X (S := S) (c_X11_isFrom C.l C.e0 S x2 0 v_28_8 ) (As := [.int x2, .int 0, .int v_28_8]) (rest := []) rfl rfl rfl rfl ⟨Nat.le_of_ble_eq_true rfl, Nat.le_of_ble_eq_true rfl⟩ (Nat.le_of_ble_eq_true rfl) ⟨(by show _ ≤ 2; omega), (by show _ ≤ 80; omega)⟩ dX11_challenge_29) (fun v_29_10 S_29_11 h_29_8 => ?_)
    obtain ⟨rfl, ev_29_10⟩ := h_29_8
    refine k_if_ne (tgt := 43) X dX11_challenge_32 (by decide) (fun c_32 => ?_) (fun c_32 => ?_)
    · skip
      rw [ev_29_10] at c_32
      obtain ⟨k, hk, hxk⟩ := kfromD ev_28_8 rfl (by omega) c_32
      subst hxk
      refine k_aload_n X (q := 1) dX11_challenge_43 rfl rfl ?_
      refine gX11_37s X (S := S) (st_0 h.st).1 (st_0 h.st).2 (sr_0_3 h.st) dX11_challenge_44 ?_
      refine gX11_222s X (S := S) (st_4 h.st).1 (st_4 h.st).2 (sr_4_3 h.st) dX11_challenge_47 ?_
      refine k_iload_n X (q := 3) dX11_challenge_50 rfl rfl ?_
      refine k_gotQ X (vX11_202 X (S := S) ⟨(st_19 h.st).1, (st_19 h.st).2⟩ (c_Jx4a65c_get_915e3 C.l C.e0 S (A 19) 7 md k xd (hLd) hk) (As := [.int (nI k)]) (rest := []) rfl rfl rfl rfl ⟨Nat.le_of_ble_eq_true rfl, Nat.le_of_ble_eq_true rfl⟩ (Nat.le_of_ble_eq_true rfl) ⟨(by show _ ≤ 2; omega), (by show _ ≤ 80; omega)⟩ dX11_challenge_51) (fun r_51_13 S_51_14 h_51_11 => ?_)
      obtain ⟨rfl, er_51_13⟩ := h_51_11
      subst er_51_13
      refine tX11_184 X (S := S) ⟨(kLs.el (hLd) hk).1, (kLs.el (hLd) hk).2⟩ dX11_challenge_54 ?_
      refine k_astore X [(5, .ref (xd k)), (4, .ref (cz i)), (0, .ref (A 0)), (1, .int x1), (2, .int (nI k)), (3, .int x3)] dX11_challenge_57 (by decide) rfl ?_
      have hmo := hxd k hk
      obtain ⟨j, hj, hjm⟩ := hmo.2.2.1
      refine k_aload X (q := 1) dX11_challenge_59 rfl ?_
      refine k_aload X (q := 0) dX11_challenge_61 rfl ?_
      refine gX11_225s X (S := S) hmo.1.1 hmo.1.2 hjm dX11_challenge_63 ?_
      refine k_acmp_eq (rx := some (cz i)) (ry := some (cz j)) (tgt := 80) X dX11_challenge_66 (by decide) (fun c_66 => ?_) (fun c_66 => ?_)
      · skip
        exact kthrw_65 X E Y dX11_challenge_80 dX11_challenge_83 dX11_challenge_84 dX11_challenge_87 (Nat.le_of_ble_eq_true rfl) (Nat.le_of_ble_eq_true rfl) (by show _ ≤ 2; omega) (by show _ ≤ 80; omega) (Nat.le_refl _) (Nat.le_refl _) rfl
      · skip
        have hij9 : ¬ i = j := fun e => c_66 (by rw [e])
        refine k_iload_n X (q := 5) dX11_challenge_69 rfl rfl ?_
        refine k_iconst X (v := 1) dX11_challenge_70 (by decide) ?_
        refine k_sipush X (v := 200) dX11_challenge_71 (by decide) ?_
        refine k_gotI X (vX11_61 X (S := S) (c_X11_isFrom C.l C.e0 S x3 1 200 ) (As := [.int x3, .int 1, .int 200]) (rest := []) rfl rfl rfl rfl ⟨Nat.le_of_ble_eq_true rfl, Nat.le_of_ble_eq_true rfl⟩ (Nat.le_of_ble_eq_true rfl) ⟨(by show _ ≤ 2; omega), (by show _ ≤ 80; omega)⟩ dX11_challenge_74) (fun v_74_16 S_74_17 h_74_14 => ?_)
        obtain ⟨rfl, ev_74_16⟩ := h_74_14
        refine k_if_ne (tgt := 88) X dX11_challenge_77 (by decide) (fun c_77 => ?_) (fun c_77 => ?_)
        · skip
          rw [ev_74_16] at c_77
          obtain ⟨t, ht1, ht2, hxt⟩ := kfrom (a := 1) (b := 200) rfl (rfl) (by omega) c_77
          have ht : t < 201 := by omega
          subst hxt
          refine k_aload_n X (q := 2) dX11_challenge_88 rfl rfl ?_
          refine gX11_10s X (S := S) (st_0 h.st).1 (st_0 h.st).2 (sr_0_0 h.st) dX11_challenge_89 ?_
          refine k_aload X (q := 1) dX11_challenge_92 rfl ?_
          refine k_gotI X (vX11_186 X (S := S) ⟨(st_1 h.st).1, (st_1 h.st).2⟩ (c_X2_mayAct C.l C.e0 S (cz i) A h.st ⟨(h.at hi).1, (h.at hi).2⟩) (As := [.ref (cz i)]) (rest := []) rfl rfl rfl rfl ⟨Nat.le_of_ble_eq_true rfl, Nat.le_of_ble_eq_true rfl⟩ (Nat.le_of_ble_eq_true rfl) ⟨(by show _ ≤ 2; omega), (by show _ ≤ 80; omega)⟩ dX11_challenge_94) (fun v_94_19 S_94_20 h_94_17 => ?_)
          obtain ⟨rfl, ev_94_19⟩ := h_94_17
          refine k_if_eq (tgt := 126) X dX11_challenge_97 (by decide) (fun c_97 => ?_) (fun c_97 => ?_)
          · skip
            rw [ev_94_19] at c_97
            exact kthrw_82 X E Y dX11_challenge_126 dX11_challenge_129 dX11_challenge_130 dX11_challenge_133 (Nat.le_of_ble_eq_true rfl) (Nat.le_of_ble_eq_true rfl) (by show _ ≤ 2; omega) (by show _ ≤ 80; omega) (Nat.le_refl _) (Nat.le_refl _) rfl
          · skip
            rw [ev_94_19] at c_97
            refine k_aload_n X (q := 2) dX11_challenge_100 rfl rfl ?_
            refine gX11_10s X (S := S) (st_0 h.st).1 (st_0 h.st).2 (sr_0_0 h.st) dX11_challenge_101 ?_
            refine gX11_216 X (S := S) (st_1 h.st).1 (st_1 h.st).2 dX11_challenge_104 (fun v_104_21 ev_104_21 => ?_)
            refine k_aload X (q := 0) dX11_challenge_107 rfl ?_
            refine gX11_234 X (S := S) hmo.1.1 hmo.1.2 dX11_challenge_109 (fun v_109_22 ev_109_22 => ?_)
            refine k_isub X dX11_challenge_112 (fun v_112_23 ev_112_23 => ?_)
            refine k_bipush X (v := 40) dX11_challenge_113 (by decide) ?_
            refine k_icmp_gt (tgt := 126) X dX11_challenge_115 (by decide) (fun c_115 => ?_) (fun c_115 => ?_)
            · skip
              exact kthrw_82 X E Y dX11_challenge_126 dX11_challenge_129 dX11_challenge_130 dX11_challenge_133 (Nat.le_of_ble_eq_true rfl) (Nat.le_of_ble_eq_true rfl) (by show _ ≤ 2; omega) (by show _ ≤ 80; omega) (Nat.le_refl _) (Nat.le_refl _) rfl
            · skip
              refine k_aload X (q := 0) dX11_challenge_118 rfl ?_
              refine gX11_295 X (S := S) hmo.1.1 hmo.1.2 dX11_challenge_120 (fun v_120_24 ev_120_24 => ?_)
              refine k_if_eq (tgt := 134) X dX11_challenge_123 (by decide) (fun c_123 => ?_) (fun c_123 => ?_)
              · skip
                refine k_aload X (q := 0) dX11_challenge_134 rfl ?_
                refine gX11_225s X (S := S) hmo.1.1 hmo.1.2 hjm dX11_challenge_136 ?_
                refine k_gotI X (vX11_275 X (S := S) ⟨(h.at hj).1, (h.at hj).2⟩ (c_X1_isGone C.l C.e0 S (cz j) (h.at hj)) (As := []) (rest := []) rfl rfl rfl rfl ⟨Nat.le_of_ble_eq_true rfl, Nat.le_of_ble_eq_true rfl⟩ (Nat.le_of_ble_eq_true rfl) ⟨(by show _ ≤ 2; omega), (by show _ ≤ 80; omega)⟩ dX11_challenge_139) (fun v_139_26 S_139_27 h_139_24 => ?_)
                obtain ⟨rfl, ev_139_26⟩ := h_139_24
                refine k_if_ne (tgt := 160) X dX11_challenge_142 (by decide) (fun c_142 => ?_) (fun c_142 => ?_)
                · skip
                  rw [ev_139_26] at c_142
                  exact kthrw_82 X E Y dX11_challenge_160 dX11_challenge_163 dX11_challenge_164 dX11_challenge_167 (Nat.le_of_ble_eq_true rfl) (Nat.le_of_ble_eq_true rfl) (by show _ ≤ 2; omega) (by show _ ≤ 80; omega) (Nat.le_refl _) (Nat.le_refl _) rfl
                · skip
                  rw [ev_139_26] at c_142
                  refine k_aload_n X (q := 2) dX11_challenge_145 rfl rfl ?_
                  refine gX11_28s X (S := S) (st_0 h.st).1 (st_0 h.st).2 (sr_0_2 h.st) dX11_challenge_146 ?_
                  refine gX11_279s X (S := S) (st_3 h.st).1 (st_3 h.st).2 (sr_3_1 h.st) dX11_challenge_149 ?_
                  refine k_gotI X (vX11_76 X (S := S) ⟨(st_15 h.st).1, (st_15 h.st).2⟩ (c_Jx4a65c_size_8abf5 C.l C.e0 S (A 15) (st_15 h.st)) (As := []) (rest := []) rfl rfl rfl rfl ⟨Nat.le_of_ble_eq_true rfl, Nat.le_of_ble_eq_true rfl⟩ (Nat.le_of_ble_eq_true rfl) ⟨(by show _ ≤ 2; omega), (by show _ ≤ 80; omega)⟩ dX11_challenge_152) (fun v_152_29 S_152_30 h_152_27 => ?_)
                  obtain ⟨rfl, ev_152_29⟩ := h_152_27
                  have hz_v_152_29 : nI ms = v_152_29 := by rw [ev_152_29]; exact (hLs).2.1.symm
                  subst hz_v_152_29
                  refine k_bipush X (v := 8) dX11_challenge_155 (by decide) ?_
                  refine k_icmp_lt (tgt := 168) X dX11_challenge_157 (by decide) (fun c_157 => ?_) (fun c_157 => ?_)
                  · skip
                    have hm8 : ms < 8 := lt_of_lt9 (m := 8) c_157 (by omega)
                    refine k_aload X (q := 0) dX11_challenge_168 rfl ?_
                    refine gX11_234 X (S := S) hmo.1.1 hmo.1.2 dX11_challenge_170 (fun v_170_31 ev_170_31 => ?_)
                    refine k_aload_n X (q := 2) dX11_challenge_173 rfl rfl ?_
                    refine gX11_53s X (S := S) (st_0 h.st).1 (st_0 h.st).2 (sr_0_5 h.st) dX11_challenge_174 ?_
                    refine gX11_298 X (S := S) (st_6 h.st).1 (st_6 h.st).2 dX11_challenge_177 (fun v_177_32 ev_177_32 => ?_)
                    refine k_icmp_gt (tgt := 191) X dX11_challenge_180 (by decide) (fun c_180 => ?_) (fun c_180 => ?_)
                    · skip
                      refine k_aload X (q := 0) dX11_challenge_191 rfl ?_
                      refine k_iconst X (v := 1) dX11_challenge_193 (by decide) ?_
                      refine pX11_295 X (S := S) hmo.1.1 hmo.1.2 (Or.inr rfl) dX11_challenge_194 ?_
                      have hLk_33 := (hLs).uI (b := (xd k)) (j := 8) (v := 1) (κb := 7) ⟨hmo.1.1, hmo.1.2⟩ (by decide)
                      have hLk_34 := (hLd).uI (b := (xd k)) (j := 8) (v := 1) (κb := 7) ⟨hmo.1.1, hmo.1.2⟩ (by decide)
                      obtain ⟨hI_35, hx_35⟩ := (⟨h.fI (i := 8) (v := 1) hmo.2.1 (by unfold pSM; omega) (by unfold pVM pCi pHo pCh pLe pMy pMs pOf; omega) (by unfold pLu; omega), h.fIk (i := 8) (v := 1) hmo.2.1 (by unfold pKe; omega)⟩ : _ ∧ _)
                      have hK_35 := (kKe.rf).tr hx_35
                      have hmo_36 := hmo.kp hx_35.1
                      refine k_aload_n X (q := 2) dX11_challenge_197 rfl rfl ?_
                      refine gX11_37s X (S := (S.uI (xd k) 8 1)) (st_0 hI_35.st).1 (st_0 hI_35.st).2 (sr_0_3 hI_35.st) dX11_challenge_198 ?_
                      refine k_aload X (q := 0) dX11_challenge_201 rfl ?_
                      refine k_gotI X (vX11_301 X (S := (S.uI (xd k) 8 1)) ⟨(st_4 hI_35.st).1, (st_4 hI_35.st).2⟩ (c_X0_proofAgainst C.l C.e0 (S.uI (xd k) 8 1) (xd k) A hI_35.st ⟨hmo_36.1.1, hmo_36.1.2⟩) (As := [.ref (xd k)]) (rest := []) rfl rfl rfl rfl ⟨Nat.le_of_ble_eq_true rfl, Nat.le_of_ble_eq_true rfl⟩ (Nat.le_of_ble_eq_true rfl) ⟨(by show _ ≤ 2; omega), (by show _ ≤ 80; omega)⟩ dX11_challenge_203) (fun v_203_38 S_203_39 h_203_36 => ?_)
                      subst h_203_36
                      refine k_istore X [(6, .int v_203_38), (5, .ref (xd k)), (4, .ref (cz i)), (0, .ref (A 0)), (1, .int x1), (2, .int (nI k)), (3, .int (nI t))] dX11_challenge_206 (by decide) rfl ?_
                      have hxs1 : ∀ t, t < ms → kSu (S.uI (xd k) 8 1) n cz (xs t) := fun t ht => (hxs t ht).go (W := fun ρ j => ρ = 201) (kGo.rf.uI (fun _ => hmo.2.1)) (fun j z => by omega)
                      refine k_aload_n X (q := 3) dX11_challenge_208 rfl rfl ?_
                      refine gX11_28s X (S := (S.uI (xd k) 8 1)) (st_0 hI_35.st).1 (st_0 hI_35.st).2 (sr_0_2 hI_35.st) dX11_challenge_209 ?_
                      refine nX11_273 X 202 (Nat.le_of_ble_eq_true rfl) (Nat.le_of_ble_eq_true rfl) dX11_challenge_212 (fun a_212_40 fa_212_40 => ?_)
                      have hxk9 := nw_at (κ := 10) (ρ := 202) (n := 0) fa_212_40 hmo_36.1
                      have hjm9 : ((S.uI (xd k) 8 1).nw a_212_40 10 202 0).R (xd k) 0 = some (cz j) := by rw [nw_Rb fa_212_40 hmo_36.1]; exact hjm
                      refine k_dup X dX11_challenge_215 rfl ?_
                      refine k_aload X (q := 2) dX11_challenge_216 rfl ?_
                      refine k_aload X (q := 1) dX11_challenge_218 rfl ?_
                      refine gX11_225s X (S := ((S.uI (xd k) 8 1).nw a_212_40 10 202 0)) hxk9.1 hxk9.2 hjm9 dX11_challenge_220 ?_
                      refine k_iconst X (v := 2) dX11_challenge_223 (by decide) ?_
                      refine k_iload_n X (q := 6) dX11_challenge_224 rfl rfl ?_
                      refine k_iload X (q := 0) dX11_challenge_225 rfl ?_
                      refine k_aload X (q := 1) dX11_challenge_227 rfl ?_
                      refine k_gotV X (vX11_288 X (S := ((S.uI (xd k) 8 1).nw a_212_40 10 202 0)) (c_X10_init C.l C.e0 ((S.uI (xd k) 8 1).nw a_212_40 10 202 0) a_212_40 (cz i) (cz j) 2 (nI t) v_203_38 (some (xd k)) (nw_self (S := (S.uI (xd k) 8 1)) (κ := 10) (ρ := 202) (n := 0))) (As := [.ref (cz i), .ref (cz j), .int 2, .int (nI t), .int v_203_38, .ref (xd k)]) (rest := [.ref a_212_40, .ref (A 3)]) rfl rfl rfl rfl ⟨Nat.le_of_ble_eq_true rfl, Nat.le_of_ble_eq_true rfl⟩ (Nat.le_of_ble_eq_true rfl) ⟨(by show _ ≤ 2; omega), (by show _ ≤ 80; omega)⟩ dX11_challenge_229) (fun S_229_42 h_229_40 => ?_)
                      have hg0 : kGo (S.uI (xd k) 8 1) S_229_42 (fun _ _ => False) := by rw [h_229_40]; exact ksuit_go fa_212_40
                      have hsv0 : kSv S_229_42 a_212_40 (cz i) (cz j) (some (xd k)) t := by rw [h_229_40]; exact ksuit_sv fa_212_40 (by omega) (fun x hx => by cases hx; exact ⟨hmo_36.1, hmo_36.2.1⟩)
                      have hls9 := hLk_33.go hg0 (fun j => ⟨id, id⟩)
                      have hxs9 : ∀ t, t < ms → kSu S_229_42 n cz (xs t) := fun t ht => (hxs1 t ht).go hg0 (fun j z => z.1)
                      obtain ⟨hI_43, hx_43⟩ := hI_35.goF hg0
                      have hK_43 := (hK_35).tr hx_43
                      have hmo_44 := hmo_36.kp hx_43.1
                      refine k_gotI X (vX11_291 X (S := S_229_42) ⟨(st_3 hI_43.st).1, (st_3 hI_43.st).2⟩ (c_X4_bring C.l C.e0 S_229_42 a_212_40 A n cz _ _ _ hI_43 i j _ _ hsv0 hi hj hij9 ms xs hls9 (by omega) hxs9 (by omega)) (As := [.ref a_212_40]) (rest := []) rfl rfl rfl rfl ⟨Nat.le_of_ble_eq_true rfl, Nat.le_of_ble_eq_true rfl⟩ (Nat.le_of_ble_eq_true rfl) ⟨(by show _ ≤ 2; omega), (by show _ ≤ 80; omega)⟩ dX11_challenge_232) (fun v_232_46 S_232_47 h_232_44 => ?_)
                      obtain ⟨hI_48, hx_48⟩ := h_232_44
                      have hK_48 := (hK_43).tr hx_48
                      have hmo_49 := hmo_44.kp hx_48.1
                      exact kx_iret X E dX11_challenge_235 (by show _ ≤ 2; omega) (by show _ ≤ 80; omega) (⟨hI_48.mono (by omega) (by omega) (by omega), hK_48⟩)
                    · skip
                      exact kthrw_82 X E Y dX11_challenge_183 dX11_challenge_186 dX11_challenge_187 dX11_challenge_190 (Nat.le_of_ble_eq_true rfl) (Nat.le_of_ble_eq_true rfl) (by show _ ≤ 2; omega) (by show _ ≤ 80; omega) (Nat.le_refl _) (Nat.le_refl _) rfl
                  · skip
                    exact kthrw_82 X E Y dX11_challenge_160 dX11_challenge_163 dX11_challenge_164 dX11_challenge_167 (Nat.le_of_ble_eq_true rfl) (Nat.le_of_ble_eq_true rfl) (by show _ ≤ 2; omega) (by show _ ≤ 80; omega) (Nat.le_refl _) (Nat.le_refl _) rfl
              · skip
                exact kthrw_82 X E Y dX11_challenge_126 dX11_challenge_129 dX11_challenge_130 dX11_challenge_133 (Nat.le_of_ble_eq_true rfl) (Nat.le_of_ble_eq_true rfl) (by show _ ≤ 2; omega) (by show _ ≤ 80; omega) (Nat.le_refl _) (Nat.le_refl _) rfl
        · skip
          rw [ev_74_16] at c_77
          exact kthrw_65 X E Y dX11_challenge_80 dX11_challenge_83 dX11_challenge_84 dX11_challenge_87 (Nat.le_of_ble_eq_true rfl) (Nat.le_of_ble_eq_true rfl) (by show _ ≤ 2; omega) (by show _ ≤ 80; omega) (Nat.le_refl _) (Nat.le_refl _) rfl
    · skip
      rw [ev_29_10] at c_32
      exact kthrw_95 X E Y dX11_challenge_35 dX11_challenge_38 dX11_challenge_39 dX11_challenge_42 (Nat.le_of_ble_eq_true rfl) (Nat.le_of_ble_eq_true rfl) (by show _ ≤ 2; omega) (by show _ ≤ 80; omega) (Nat.le_refl _) (Nat.le_refl _) rfl
