set_option maxHeartbeats 1000000 in
set_option maxRecDepth 20000 in
theorem c_L_isAsked (l : Launch) (e0 : Nat × Nat) (Zs : kXs9) (S : kS) (A : Nat → Nat) (n : Nat) (cz : Nat → Nat) (T G Z : Nat) (h : kI e0 A n cz T G Z S) (hp : kPr A S) (hb : T ≤ 900000 ∧ G ≤ 60000 ∧ Z ≤ 150000) : kML l e0 Zs (Cond.code yL_isAsked cL_isAsked 10 (Option.some Jvm.ClassFile.FieldType.boolean)) yL_isAsked ({ frames := 12, cells := 400, slots := 12400, locals := 305 } : Room) 400 12400 [.ref (A 0)] S (kQi (fun v S9 => kI e0 A n cz T G Z S9 ∧ kKe A S S9 ∧ v = 1)) := by
  refine kMetL (by decide +kernel) (Nat.le_of_ble_eq_true rfl) (fun C he hl X E Y hm => ?_)
  have X : kX C RL cL_isAsked 10 ({ frames := 12, cells := 400, slots := 12400, locals := 305 } : Room) := X
  subst he hl
  show kG C 10 S 0 0 0 [(0, .ref (A 0))] []
  have hn := h.n40
  obtain ⟨L, hQ⟩ := h.ql
  obtain ⟨dd, hdd, hday⟩ := h.ms.2.2.1
  refine k_aload_n X (q := 0) dL_isAsked_0 rfl rfl ?_
  refine k_gotL X (vL_123 X (S := S) ⟨(st_0 h.st).1, (st_0 h.st).2⟩ (c_X11_digest C.l C.e0 S  A n cz _ _ _ h L hQ hp (by omega) (by omega)) (As := []) (rest := []) rfl rfl rfl rfl ⟨Nat.le_of_ble_eq_true rfl, Nat.le_of_ble_eq_true rfl⟩ (Nat.le_of_ble_eq_true rfl) ⟨(by show _ ≤ 400; omega), (by show _ ≤ 12400; omega)⟩ dL_isAsked_1) (fun v_1_2 S_1_3 h_1_0 => ?_)
  obtain ⟨hI_4, hx_4, hm_4⟩ := h_1_0
  have hK_4 := (kKe.rf).tr hx_4
  obtain ⟨hf_4, ev_1_2⟩ := hm_4
  have hQ_4 := hQ.fr h.st hf_4
  refine k_lstore_n X [(1, .long v_1_2), (0, .ref (A 0))] dL_isAsked_4 rfl (by decide) rfl ?_
  refine k_aload_n X (q := 1) dL_isAsked_5 rfl rfl ?_
  refine k_gotI X (vL_127 X (S := S_1_3) ⟨(st_0 hI_4.st).1, (st_0 hI_4.st).2⟩ (c_X11_isSound C.l C.e0 S_1_3   A n cz _ _ _ hI_4 L hQ_4 (hp.ke h hI_4 hK_4) (by omega)) (As := []) (rest := []) rfl rfl rfl rfl ⟨Nat.le_of_ble_eq_true rfl, Nat.le_of_ble_eq_true rfl⟩ (Nat.le_of_ble_eq_true rfl) ⟨(by show _ ≤ 400; omega), (by show _ ≤ 12400; omega)⟩ dL_isAsked_6) (fun v_6_6 S_6_7 h_6_4 => ?_)
  obtain ⟨rfl, ev_6_6⟩ := h_6_4
  refine k_if_ne (tgt := 14) X dL_isAsked_9 (by decide) (fun c_9 => ?_) (fun c_9 => ?_)
  · skip
    rw [ev_6_6] at c_9
    refine k_aload_n X (q := 1) dL_isAsked_14 rfl rfl ?_
    refine k_gotQ X (k_runSL X Y (S := S_1_3) (n0 := 1) (kGS qmL_131 qsL_rows qIL qcL_rows) (by decide +kernel) (c_L_rows C.l C.e0 Zs S_1_3 A n cz _ _ _ hI_4 (by omega)) (As := [.ref (A 0)]) (rest := []) rfl rfl rfl rfl ⟨Nat.le_of_ble_eq_true rfl, Nat.le_of_ble_eq_true rfl⟩ (Nat.le_of_ble_eq_true rfl) ⟨(by show _ ≤ 400; omega), (by show _ ≤ 12400; omega)⟩ dL_isAsked_15) (fun r_15_10 S_15_11 h_15_8 => ?_)
    obtain ⟨q_15_8, hq9, hRr⟩ := h_15_8
    subst hq9
    have hR0 := hRr.base h hK_4 hf_4
    have hIr0 := hR0.1.1
    have hKr0 := hR0.1.2.1
    have hfr0 := hR0.1.2.2
    have hQr0 := hQ.fr h.st hfr0
    refine k_astore_n X [(3, .ref q_15_8), (1, .long v_1_2), (0, .ref (A 0))] dL_isAsked_18 rfl (by decide) rfl ?_
    refine k_bipush X (v := 7) dL_isAsked_19 (by decide) ?_
    refine k_newZ X (N' := 7) 302 (by decide) (by decide) (by decide) (by show _ ≤ 400; omega) (by show _ ≤ 12400; omega) dL_isAsked_21 (fun a_21_12 fa_21_12 => ?_)
    have hzn : a_21_12 ∉ S.L := fun z9 => fa_21_12 (hR0.1.2.2.1 _ z9).1
    have hR1 := hR0.frF ((kFr.rf _ _).nw (κ := 17) (ρ := 302) (n := 7) fa_21_12)
    have hz1 : kIn S (S_15_11.nw a_21_12 17 302 7) A cz a_21_12 0 := kIn.z0 fa_21_12
    refine k_room (k' := 210) (n' := 6223) (by omega) (by omega) ?_
    have hIr1 := hR1.1.1
    have hKr1 := hR1.1.2.1
    have hfr1 := hR1.1.2.2
    have hQr1 := hQ.fr h.st hfr1
    refine k_astore X [(4, .ref a_21_12), (3, .ref q_15_8), (1, .long v_1_2), (0, .ref (A 0))] dL_isAsked_23 (by decide) rfl ?_
    refine k_iconst X (v := 0) dL_isAsked_25 (by decide) ?_
    refine k_istore X [(5, .int 0), (4, .ref a_21_12), (3, .ref q_15_8), (1, .long v_1_2), (0, .ref (A 0))] dL_isAsked_26 (by decide) rfl ?_
    refine k_iconst X (v := 0) dL_isAsked_28 (by decide) ?_
    refine k_istore X [(6, .int 0), (5, .int 0), (4, .ref a_21_12), (3, .ref q_15_8), (1, .long v_1_2), (0, .ref (A 0))] dL_isAsked_29 (by decide) rfl ?_
    refine k_iconst X (v := 0) dL_isAsked_31 (by decide) ?_
    refine k_istore X [(7, .int 0), (6, .int 0), (5, .int 0), (4, .ref a_21_12), (3, .ref q_15_8), (1, .long v_1_2), (0, .ref (A 0))] dL_isAsked_32 (by decide) rfl ?_
    refine k_iconst X (v := 0) dL_isAsked_34 (by decide) ?_
    refine k_istore X [(8, .int 0), (7, .int 0), (6, .int 0), (5, .int 0), (4, .ref a_21_12), (3, .ref q_15_8), (1, .long v_1_2), (0, .ref (A 0))] dL_isAsked_35 (by decide) rfl ?_
    have L_37 : ∀ (N : Nat) (i : Nat) (x u y : Int32) (Si : kS), n - i = N → x = nI i → u = ksum (fun t => kQcit S A (cz t) 11) i → y = ksum (fun t => S.I (cz t) 5) i → (i ≤ n ∧ kRs C.e0 A n cz T G Z S q_15_8 n 0 Si ∧ kIn S Si A cz a_21_12 i) → kG C 10 Si 210 6223 37 [(8, .int x), (7, .int 0), (6, .int y), (5, .int u), (4, .ref a_21_12), (3, .ref q_15_8), (1, .long v_1_2), (0, .ref (A 0))] [] := by
      intro N
      induction N using Nat.strongRecOn with
      | _ N ih =>
      intro i x u y Si hMs h37_0 h37_1 h37_2 h37_3
      subst h37_0 h37_1 h37_2
      obtain ⟨hin, hRi, hzi⟩ := h37_3
      have hIi := hRi.1.1
      have hKi := hRi.1.2.1
      have hfi := hRi.1.2.2
      have hQi := hQ.fr h.st hfi
      refine k_iload X (q := 0) dL_isAsked_37 rfl ?_
      refine k_aload_n X (q := 5) dL_isAsked_39 rfl rfl ?_
      refine k_alen X (S := Si) hRi.2.1.1.1 (by simp [hRi.2.1.1.2]) dL_isAsked_40 ?_
      rw [show Int32.ofNat (Si.N q_15_8) = nI n from by rw [hRi.2.1.2.2.1]; rfl]
      refine k_icmp_ge (tgt := 216) X dL_isAsked_41 (by decide) (fun c_41 => ?_) (fun c_41 => ?_)
      · skip
        have hin9 : n = i := by have := ge_of_le c_41 (by omega); omega
        subst hin9
        refine k_iconst X (v := 0) dL_isAsked_216 (by decide) ?_
        refine k_istore X [(8, .int 0), (7, .int 0), (6, .int (ksum (fun t => S.I (cz t) 5) n)), (5, .int (ksum (fun t => kQcit S A (cz t) 11) n)), (4, .ref a_21_12), (3, .ref q_15_8), (1, .long v_1_2), (0, .ref (A 0))] dL_isAsked_217 (by decide) rfl ?_
        have L_219 : ∀ (N : Nat) (j : Nat) (x y : Int32), 6 - j = N → x = nI j → y = ksum (fun k => kcof S cz n (nI k) 0 (-1)) j → j ≤ 6 → kG C 10 Si 210 6223 219 [(8, .int x), (7, .int y), (6, .int (ksum (fun t => S.I (cz t) 5) n)), (5, .int (ksum (fun t => kQcit S A (cz t) 11) n)), (4, .ref a_21_12), (3, .ref q_15_8), (1, .long v_1_2), (0, .ref (A 0))] [] := by
          intro N
          induction N using Nat.strongRecOn with
          | _ N ih219 =>
          intro j x y hMs h219_0 h219_1 h219_2
          subst h219_0 h219_1
          refine k_iload X (q := 0) dL_isAsked_219 rfl ?_
          refine k_bipush X (v := 6) dL_isAsked_221 (by decide) ?_
          refine k_icmp_ge (tgt := 245) X dL_isAsked_223 (by decide) (fun c_223 => ?_) (fun c_223 => ?_)
          · skip
            have hin9 : 6 = j := by have := ge_of_le (m := 6) c_223 (by omega); omega
            subst hin9
            rw [k6_all h n (Nat.le_refl _)]
            refine k_iconst X (v := 0) dL_isAsked_245 (by decide) ?_
            refine k_istore X [(8, .int 0), (7, .int (nI n)), (6, .int (ksum (fun t => S.I (cz t) 5) n)), (5, .int (ksum (fun t => kQcit S A (cz t) 11) n)), (4, .ref a_21_12), (3, .ref q_15_8), (1, .long v_1_2), (0, .ref (A 0))] dL_isAsked_246 (by decide) rfl ?_
            have L_248 : ∀ (N : Nat) (o : Nat) (x : Int32), 7 - o = N → x = nI o → o ≤ 7 → kG C 10 Si 210 6223 248 [(8, .int x), (7, .int (nI n)), (6, .int (ksum (fun t => S.I (cz t) 5) n)), (5, .int (ksum (fun t => kQcit S A (cz t) 11) n)), (4, .ref a_21_12), (3, .ref q_15_8), (1, .long v_1_2), (0, .ref (A 0))] [] := by
              intro N
              induction N using Nat.strongRecOn with
              | _ N ih248 =>
              intro o x hMs h248_0 h248_1
              subst h248_0
              refine k_iload X (q := 0) dL_isAsked_248 rfl ?_
              refine k_bipush X (v := 7) dL_isAsked_250 (by decide) ?_
              refine k_icmp_ge (tgt := 286) X dL_isAsked_252 (by decide) (fun c_252 => ?_) (fun c_252 => ?_)
              · skip
                refine k_iload X (q := 1) dL_isAsked_286 rfl ?_
                refine k_aload_n X (q := 5) dL_isAsked_288 rfl rfl ?_
                refine k_alen X (S := Si) hRi.2.1.1.1 (by simp [hRi.2.1.1.2]) dL_isAsked_289 ?_
                rw [show Int32.ofNat (Si.N q_15_8) = nI n from by rw [hRi.2.1.2.2.1]; rfl]
                refine k_icmp_ne (tgt := 386) X dL_isAsked_290 (by decide) (fun c_290 => ?_) (fun c_290 => ?_)
                · skip
                  exact absurd rfl c_290
                · skip
                  refine k_iload X (q := 3) dL_isAsked_293 rfl ?_
                  refine k_aload_n X (q := 7) dL_isAsked_295 rfl rfl ?_
                  refine k_iconst X (v := 0) dL_isAsked_296 (by decide) ?_
                  refine k_gotI X (vL_141 X (S := Si) ⟨(st_0 hIi.st).1, (st_0 hIi.st).2⟩ (c_X11_council C.l C.e0 Si   A n cz _ _ _ hIi L hQi 0 (by omega)) (As := [.int (nI 0)]) (rest := [.int (ksum (fun t => kQcit S A (cz t) 11) n)]) rfl rfl rfl rfl ⟨Nat.le_of_ble_eq_true rfl, Nat.le_of_ble_eq_true rfl⟩ (Nat.le_of_ble_eq_true rfl) ⟨(by show _ ≤ 400; omega), (by show _ ≤ 12400; omega)⟩ dL_isAsked_297) (fun v_297_14 S_297_15 h_297_12 => ?_)
                  obtain ⟨rfl, ev_297_14⟩ := h_297_12
                  replace ev_297_14 := ev_297_14.trans (kQcouncil_v h hfi _)
                  refine k_icmp_ne (tgt := 386) X dL_isAsked_300 (by decide) (fun c_300 => ?_) (fun c_300 => ?_)
                  · skip
                    exact absurd (show _ = v_297_14 from by rw [ev_297_14]; rfl) c_300
                  · skip
                    refine k_iload X (q := 2) dL_isAsked_303 rfl ?_
                    refine k_aload_n X (q := 7) dL_isAsked_305 rfl rfl ?_
                    refine k_bipush X (v := 6) dL_isAsked_306 (by decide) ?_
                    refine k_gotI X (vL_61 X (S := Si) ⟨(st_0 hIi.st).1, (st_0 hIi.st).2⟩ (c_X11_money C.l C.e0 Si   A n cz _ _ _ hIi L hQi 6 (by omega)) (As := [.int (nI 6)]) (rest := [.int (ksum (fun t => S.I (cz t) 5) n)]) rfl rfl rfl rfl ⟨Nat.le_of_ble_eq_true rfl, Nat.le_of_ble_eq_true rfl⟩ (Nat.le_of_ble_eq_true rfl) ⟨(by show _ ≤ 400; omega), (by show _ ≤ 12400; omega)⟩ dL_isAsked_308) (fun v_308_17 S_308_18 h_308_15 => ?_)
                    obtain ⟨rfl, ev_308_17⟩ := h_308_15
                    replace ev_308_17 := ev_308_17.trans (kQmoney_v h hfi _)
                    refine k_icmp_ne (tgt := 386) X dL_isAsked_311 (by decide) (fun c_311 => ?_) (fun c_311 => ?_)
                    · skip
                      exact absurd (show _ = v_308_17 from by rw [ev_308_17]; rfl) c_311
                    · skip
                      refine k_aload_n X (q := 7) dL_isAsked_314 rfl rfl ?_
                      refine k_bipush X (v := 6) dL_isAsked_315 (by decide) ?_
                      refine k_gotI X (vL_9 X (S := Si) ⟨(st_0 hIi.st).1, (st_0 hIi.st).2⟩ (c_X11_city C.l C.e0 Si  A n cz _ _ _ hIi L hQi 6 (by omega) (by omega)) (As := [.int (nI 6)]) (rest := []) rfl rfl rfl rfl ⟨Nat.le_of_ble_eq_true rfl, Nat.le_of_ble_eq_true rfl⟩ (Nat.le_of_ble_eq_true rfl) ⟨(by show _ ≤ 400; omega), (by show _ ≤ 12400; omega)⟩ dL_isAsked_317) (fun v_317_20 S_317_21 h_317_18 => ?_)
                      obtain ⟨hI_22, hx_22, hm_22⟩ := h_317_18
                      have hK_22 := (hKi).tr hx_22
                      obtain ⟨hg_22, ev_317_20⟩ := hm_22
                      have hf_22 := hfi.trR hg_22
                      replace ev_317_20 := ev_317_20.trans (kQcity_v h hQ hfi _)
                      have hQ_22 := hQ.fr h.st hf_22
                      have hR_22 := hRi.fr20 hI_22 hx_22 hg_22
                      refine k_aload_n X (q := 5) dL_isAsked_320 rfl rfl ?_
                      refine k_gotQ X (vL_40 X (S := S_317_21) (c_L_full C.l C.e0 S_317_21 q_15_8 n (fun t w => kQcit S A (cz t) w) hR_22.rw (by omega)) (As := [.ref q_15_8]) (rest := [.int v_317_20]) rfl rfl rfl rfl ⟨Nat.le_of_ble_eq_true rfl, Nat.le_of_ble_eq_true rfl⟩ (Nat.le_of_ble_eq_true rfl) ⟨(by show _ ≤ 400; omega), (by show _ ≤ 12400; omega)⟩ dL_isAsked_321) (fun r_321_25 S_321_26 h_321_23 => ?_)
                      obtain ⟨z_321_23, rfl, fz_321_23, hFz_321_23, hBz_321_23, hOz_321_23⟩ := h_321_23
                      have hRz_321_23 := hR_22.frF hFz_321_23
                      have hI_z_321_23 := hRz_321_23.1.1
                      have hK_z_321_23 := hRz_321_23.1.2.1
                      have hf_z_321_23 := hRz_321_23.1.2.2
                      have hQ_z_321_23 := hQ.fr h.st hf_z_321_23
                      refine k_gotI X (vL_144 X (S := S_321_26) (c_L_size C.l C.e0 S_321_26 z_321_23 n (fun i => decide ((fun t w => kQcit S A (cz t) w) i 6 = 1)) hBz_321_23 (by omega)) (As := [.ref z_321_23]) (rest := [.int v_317_20]) rfl rfl rfl rfl ⟨Nat.le_of_ble_eq_true rfl, Nat.le_of_ble_eq_true rfl⟩ (Nat.le_of_ble_eq_true rfl) ⟨(by show _ ≤ 400; omega), (by show _ ≤ 12400; omega)⟩ dL_isAsked_324) (fun v_324_28 S_324_29 h_324_26 => ?_)
                      obtain ⟨rfl, ev_324_28⟩ := h_324_26
                      refine k_icmp_ne (tgt := 386) X dL_isAsked_327 (by decide) (fun c_327 => ?_) (fun c_327 => ?_)
                      · skip
                        exact absurd (ev_317_20.trans ((kfull_n h).trans ev_324_28.symm)) c_327
                      · skip
                        refine k_aload_n X (q := 7) dL_isAsked_330 rfl rfl ?_
                        refine k_bipush X (v := 14) dL_isAsked_331 (by decide) ?_
                        refine k_gotI X (vL_9 X (S := S_321_26) ⟨(st_0 hI_z_321_23.st).1, (st_0 hI_z_321_23.st).2⟩ (c_X11_city C.l C.e0 S_321_26  A n cz _ _ _ hI_z_321_23 L hQ_z_321_23 14 (by omega) (by omega)) (As := [.int (nI 14)]) (rest := []) rfl rfl rfl rfl ⟨Nat.le_of_ble_eq_true rfl, Nat.le_of_ble_eq_true rfl⟩ (Nat.le_of_ble_eq_true rfl) ⟨(by show _ ≤ 400; omega), (by show _ ≤ 12400; omega)⟩ dL_isAsked_333) (fun v_333_31 S_333_32 h_333_29 => ?_)
                        obtain ⟨hI_33, hx_33, hm_33⟩ := h_333_29
                        have hK_33 := (hK_z_321_23).tr hx_33
                        obtain ⟨hg_33, ev_333_31⟩ := hm_33
                        have hf_33 := hf_z_321_23.trR hg_33
                        replace ev_333_31 := ev_333_31.trans (kQcity_v h hQ hf_z_321_23 _)
                        have hQ_33 := hQ.fr h.st hf_33
                        have hR_33 := hRz_321_23.fr20 hI_33 hx_33 hg_33
                        refine k_aload_n X (q := 5) dL_isAsked_336 rfl rfl ?_
                        refine k_aload_n X (q := 7) dL_isAsked_337 rfl rfl ?_
                        refine k_iconst X (v := 0) dL_isAsked_338 (by decide) ?_
                        refine k_gotI X (vL_9 X (S := S_333_32) ⟨(st_0 hI_33.st).1, (st_0 hI_33.st).2⟩ (c_X11_city C.l C.e0 S_333_32  A n cz _ _ _ hI_33 L hQ_33 0 (by omega) (by omega)) (As := [.int (nI 0)]) (rest := [.ref q_15_8, .int v_333_31]) rfl rfl rfl rfl ⟨Nat.le_of_ble_eq_true rfl, Nat.le_of_ble_eq_true rfl⟩ (Nat.le_of_ble_eq_true rfl) ⟨(by show _ ≤ 400; omega), (by show _ ≤ 12400; omega)⟩ dL_isAsked_339) (fun v_339_35 S_339_36 h_339_33 => ?_)
                        obtain ⟨hI_37, hx_37, hm_37⟩ := h_339_33
                        have hK_37 := (hK_33).tr hx_37
                        obtain ⟨hg_37, ev_339_35⟩ := hm_37
                        have hf_37 := hf_33.trR hg_37
                        replace ev_339_35 := ev_339_35.trans (kQcity_v h hQ hf_33 _)
                        have hQ_37 := hQ.fr h.st hf_37
                        have hR_37 := hR_33.fr20 hI_37 hx_37 hg_37
                        have hd9 : v_339_35 = nI dd := ev_339_35.trans hday
                        subst hd9
                        refine k_gotQ X (vL_148 X (S := S_339_36) (c_L_present C.l C.e0 S_339_36 q_15_8 n dd (fun t w => kQcit S A (cz t) w) hR_37.rw (by omega) (by omega)) (As := [.ref q_15_8, .int (nI dd)]) (rest := [.int v_333_31]) rfl rfl rfl rfl ⟨Nat.le_of_ble_eq_true rfl, Nat.le_of_ble_eq_true rfl⟩ (Nat.le_of_ble_eq_true rfl) ⟨(by show _ ≤ 400; omega), (by show _ ≤ 12400; omega)⟩ dL_isAsked_342) (fun r_342_40 S_342_41 h_342_38 => ?_)
                        obtain ⟨z_342_38, rfl, fz_342_38, hFz_342_38, hBz_342_38, hOz_342_38⟩ := h_342_38
                        have hRz_342_38 := hR_37.frF hFz_342_38
                        have hI_z_342_38 := hRz_342_38.1.1
                        have hK_z_342_38 := hRz_342_38.1.2.1
                        have hf_z_342_38 := hRz_342_38.1.2.2
                        have hQ_z_342_38 := hQ.fr h.st hf_z_342_38
                        refine k_gotI X (vL_144 X (S := S_342_41) (c_L_size C.l C.e0 S_342_41 z_342_38 n (fun i => decide ((fun t w => kQcit S A (cz t) w) i 6 = 1) && !decide ((i + dd) % 4 = 0)) hBz_342_38 (by omega)) (As := [.ref z_342_38]) (rest := [.int v_333_31]) rfl rfl rfl rfl ⟨Nat.le_of_ble_eq_true rfl, Nat.le_of_ble_eq_true rfl⟩ (Nat.le_of_ble_eq_true rfl) ⟨(by show _ ≤ 400; omega), (by show _ ≤ 12400; omega)⟩ dL_isAsked_345) (fun v_345_43 S_345_44 h_345_41 => ?_)
                        obtain ⟨rfl, ev_345_43⟩ := h_345_41
                        refine k_icmp_ne (tgt := 386) X dL_isAsked_348 (by decide) (fun c_348 => ?_) (fun c_348 => ?_)
                        · skip
                          exact absurd (show v_333_31 = v_345_43 from by rw [ev_333_31, ev_345_43]; show nI (kcnt (kpre S A cz) n) = _; rw [kpre_n h hday (by omega)]) c_348
                        · skip
                          refine k_aload_n X (q := 7) dL_isAsked_351 rfl rfl ?_
                          refine k_iconst X (v := 2) dL_isAsked_352 (by decide) ?_
                          refine k_gotI X (vL_141 X (S := S_342_41) ⟨(st_0 hI_z_342_38.st).1, (st_0 hI_z_342_38.st).2⟩ (c_X11_council C.l C.e0 S_342_41   A n cz _ _ _ hI_z_342_38 L hQ_z_342_38 2 (by omega)) (As := [.int (nI 2)]) (rest := []) rfl rfl rfl rfl ⟨Nat.le_of_ble_eq_true rfl, Nat.le_of_ble_eq_true rfl⟩ (Nat.le_of_ble_eq_true rfl) ⟨(by show _ ≤ 400; omega), (by show _ ≤ 12400; omega)⟩ dL_isAsked_353) (fun v_353_46 S_353_47 h_353_44 => ?_)
                          obtain ⟨rfl, ev_353_46⟩ := h_353_44
                          replace ev_353_46 := ev_353_46.trans (kQcouncil_v h hf_z_342_38 _)
                          refine k_if_lt (tgt := 373) X dL_isAsked_356 (by decide) (fun c_356 => ?_) (fun c_356 => ?_)
                          · skip
                            refine k_aload_n X (q := 7) dL_isAsked_373 rfl rfl ?_
                            refine k_gotL X (vL_123 X (S := S_342_41) ⟨(st_0 hI_z_342_38.st).1, (st_0 hI_z_342_38.st).2⟩ (c_X11_digest C.l C.e0 S_342_41  A n cz _ _ _ hI_z_342_38 L hQ_z_342_38 (hp.ke h hI_z_342_38 hK_z_342_38) (by omega) (by omega)) (As := []) (rest := []) rfl rfl rfl rfl ⟨Nat.le_of_ble_eq_true rfl, Nat.le_of_ble_eq_true rfl⟩ (Nat.le_of_ble_eq_true rfl) ⟨(by show _ ≤ 400; omega), (by show _ ≤ 12400; omega)⟩ dL_isAsked_374) (fun v_374_49 S_374_50 h_374_47 => ?_)
                            obtain ⟨hI_51, hx_51, hm_51⟩ := h_374_47
                            have hK_51 := (hK_z_342_38).tr hx_51
                            obtain ⟨hg_51, ev_374_49⟩ := hm_51
                            have hf_51 := hf_z_342_38.trR hg_51
                            replace ev_374_49 := ev_374_49.trans (kdig_v h hQ hf_z_342_38)
                            have hQ_51 := hQ.fr h.st hf_51
                            refine k_lload_n X (q := 6) dL_isAsked_377 rfl rfl ?_
                            refine k_lcmp X dL_isAsked_378 (fun v_378_52 ev_378_52 => ?_)
                            refine k_if_ne (tgt := 386) X dL_isAsked_379 (by decide) (fun c_379 => ?_) (fun c_379 => ?_)
                            · skip
                              exact absurd (show v_378_52 = 0 from by rw [ev_378_52, ev_374_49, ev_1_2]; exact lg_cmp_0 _) c_379
                            · skip
                              refine k_iconst X (v := 1) dL_isAsked_382 (by decide) ?_
                              refine k_goto (tgt := 387) X dL_isAsked_383 (by decide) ?_
                              exact k_zret X E (Or.inr rfl) dL_isAsked_387 (by show _ ≤ 400; omega) (by show _ ≤ 12400; omega) (⟨hI_51, hK_51, rfl⟩)
                          · skip
                            refine k_aload_n X (q := 5) dL_isAsked_359 rfl rfl ?_
                            refine k_aload_n X (q := 7) dL_isAsked_360 rfl rfl ?_
                            refine k_iconst X (v := 2) dL_isAsked_361 (by decide) ?_
                            refine k_gotI X (vL_141 X (S := S_342_41) ⟨(st_0 hI_z_342_38.st).1, (st_0 hI_z_342_38.st).2⟩ (c_X11_council C.l C.e0 S_342_41   A n cz _ _ _ hI_z_342_38 L hQ_z_342_38 2 (by omega)) (As := [.int (nI 2)]) (rest := [.ref q_15_8]) rfl rfl rfl rfl ⟨Nat.le_of_ble_eq_true rfl, Nat.le_of_ble_eq_true rfl⟩ (Nat.le_of_ble_eq_true rfl) ⟨(by show _ ≤ 400; omega), (by show _ ≤ 12400; omega)⟩ dL_isAsked_362) (fun v_362_54 S_362_55 h_362_52 => ?_)
                            obtain ⟨rfl, ev_362_54⟩ := h_362_52
                            replace ev_362_54 := ev_362_54.trans (kQcouncil_v h hf_z_342_38 _)
                            obtain ⟨j, hj, hjv, h11⟩ := kch_s h ev_362_54 (by rw [ev_362_54, ← ev_353_46]; exact c_356)
                            subst hjv
                            refine k_aaldR X (S := S_342_41) ⟨hRz_342_38.2.1.1.1, hRz_342_38.2.1.1.2⟩ (by rw [hRz_342_38.2.1.2.2.1]; exact vp_in_nI hj (by omega)) dL_isAsked_365 (fun r_365_56 er_365_56 => ?_)
                            have hr9 : r_365_56 = some (q_15_8 + 1 + j) := by rw [er_365_56, nI_clamp (by omega)]; exact (hRz_342_38.2.2.1 j hj).1
                            subst hr9
                            refine k_bipush X (v := 11) dL_isAsked_366 (by decide) ?_
                            refine k_iald X (S := S_342_41) (hRz_342_38.2.2.1 j hj).2.1.1 (hRz_342_38.2.2.1 j hj).2.1.2 (by rw [(hRz_342_38.2.2.1 j hj).2.2.2.1]; exact vp_in_iff.mpr (by decide)) dL_isAsked_368 (fun v_368_57 ev_368_57 => ?_)
                            replace ev_368_57 : v_368_57 = kQcit S A (cz j) 11 := ev_368_57.trans (hRz_342_38.2.2.2 j 11 hj (by omega) (Or.inl hj))
                            refine k_iconst X (v := 1) dL_isAsked_369 (by decide) ?_
                            refine k_icmp_ne (tgt := 386) X dL_isAsked_370 (by decide) (fun c_370 => ?_) (fun c_370 => ?_)
                            · skip
                              exact absurd (ev_368_57.trans h11) c_370
                            · skip
                              refine k_aload_n X (q := 7) dL_isAsked_373 rfl rfl ?_
                              refine k_gotL X (vL_123 X (S := S_342_41) ⟨(st_0 hI_z_342_38.st).1, (st_0 hI_z_342_38.st).2⟩ (c_X11_digest C.l C.e0 S_342_41  A n cz _ _ _ hI_z_342_38 L hQ_z_342_38 (hp.ke h hI_z_342_38 hK_z_342_38) (by omega) (by omega)) (As := []) (rest := []) rfl rfl rfl rfl ⟨Nat.le_of_ble_eq_true rfl, Nat.le_of_ble_eq_true rfl⟩ (Nat.le_of_ble_eq_true rfl) ⟨(by show _ ≤ 400; omega), (by show _ ≤ 12400; omega)⟩ dL_isAsked_374) (fun v_374_59 S_374_60 h_374_57 => ?_)
                              obtain ⟨hI_61, hx_61, hm_61⟩ := h_374_57
                              have hK_61 := (hK_z_342_38).tr hx_61
                              obtain ⟨hg_61, ev_374_59⟩ := hm_61
                              have hf_61 := hf_z_342_38.trR hg_61
                              replace ev_374_59 := ev_374_59.trans (kdig_v h hQ hf_z_342_38)
                              have hQ_61 := hQ.fr h.st hf_61
                              refine k_lload_n X (q := 6) dL_isAsked_377 rfl rfl ?_
                              refine k_lcmp X dL_isAsked_378 (fun v_378_62 ev_378_62 => ?_)
                              refine k_if_ne (tgt := 386) X dL_isAsked_379 (by decide) (fun c_379 => ?_) (fun c_379 => ?_)
                              · skip
                                exact absurd (show v_378_62 = 0 from by rw [ev_378_62, ev_374_59, ev_1_2]; exact lg_cmp_0 _) c_379
                              · skip
                                refine k_iconst X (v := 1) dL_isAsked_382 (by decide) ?_
                                refine k_goto (tgt := 387) X dL_isAsked_383 (by decide) ?_
                                exact k_zret X E (Or.inr rfl) dL_isAsked_387 (by show _ ≤ 400; omega) (by show _ ≤ 12400; omega) (⟨hI_61, hK_61, rfl⟩)
              · skip
                have hlto : o < 7 := lt_of_nle (m := 7) c_252 (by omega)
                refine k_aload_n X (q := 7) dL_isAsked_255 rfl rfl ?_
                refine k_iload X (q := 0) dL_isAsked_256 rfl ?_
                refine k_iconst X (v := 0) dL_isAsked_258 (by decide) ?_
                refine k_gotI X (vL_135 X (S := Si) ⟨(st_0 hIi.st).1, (st_0 hIi.st).2⟩ (c_X11_ofOffice C.l C.e0 Si   A n cz _ _ _ hIi L hQi o (by omega) 0 (by omega)) (As := [.int (nI o), .int (nI 0)]) (rest := []) rfl rfl rfl rfl ⟨Nat.le_of_ble_eq_true rfl, Nat.le_of_ble_eq_true rfl⟩ (Nat.le_of_ble_eq_true rfl) ⟨(by show _ ≤ 400; omega), (by show _ ≤ 12400; omega)⟩ dL_isAsked_259) (fun v_259_64 S_259_65 h_259_62 => ?_)
                obtain ⟨rfl, ev_259_64⟩ := h_259_62
                replace ev_259_64 := ev_259_64.trans (kQoffice_v h hfi (by omega) _)
                refine k_if_ge (tgt := 269) X dL_isAsked_262 (by decide) (fun c_262 => ?_) (fun c_262 => ?_)
                · skip
                  refine k_iconst X (v := 0) dL_isAsked_269 (by decide) ?_
                  refine k_aload X (q := 4) dL_isAsked_270 rfl ?_
                  refine k_iload X (q := 0) dL_isAsked_272 rfl ?_
                  refine k_zald X (S := Si) ⟨hzi.1.1.1, hzi.1.1.2⟩ (by rw [hzi.1.2.2]; exact vp_in_nI hlto (by omega)) dL_isAsked_274 (fun v_274_66 ev_274_66 => ?_)
                  refine k_icmp_ne (tgt := 280) X dL_isAsked_275 (by decide) (fun c_275 => ?_) (fun c_275 => ?_)
                  · skip
                    obtain ⟨v_280_67, ev_280_67⟩ : ∃ z : Int32, z = (nI o) + 1 := ⟨_, rfl⟩
                    refine k_iinc X (q := 0) (v := v_280_67) [(8, .int v_280_67), (7, .int (nI n)), (6, .int (ksum (fun t => S.I (cz t) 5) n)), (5, .int (ksum (fun t => kQcit S A (cz t) 11) n)), (4, .ref a_21_12), (3, .ref q_15_8), (1, .long v_1_2), (0, .ref (A 0))] dL_isAsked_280 rfl (by rw [ev_280_67]; rfl) (by decide) rfl ?_
                    refine k_goto (tgt := 248) X dL_isAsked_283 (by decide) ?_
                    refine k_lv [0, 1, 2, 3, 4, 5, 6, 7] _ rfl ?_
                    exact ih248 (7 - (o + 1)) (by omega) (o + 1) _ rfl (by rw [ev_280_67, nI_1]) (by omega)
                  · skip
                    exact absurd (c_275.trans (show v_274_66 = 1 from by rw [ev_274_66, nI_clamp (by omega)]; exact hzi.end1 h hlto ev_259_64 c_262)) (by decide)
                · skip
                  refine k_iconst X (v := 1) dL_isAsked_265 (by decide) ?_
                  refine k_goto (tgt := 270) X dL_isAsked_266 (by decide) ?_
                  refine k_aload X (q := 4) dL_isAsked_270 rfl ?_
                  refine k_iload X (q := 0) dL_isAsked_272 rfl ?_
                  refine k_zald X (S := Si) ⟨hzi.1.1.1, hzi.1.1.2⟩ (by rw [hzi.1.2.2]; exact vp_in_nI hlto (by omega)) dL_isAsked_274 (fun v_274_68 ev_274_68 => ?_)
                  refine k_icmp_ne (tgt := 280) X dL_isAsked_275 (by decide) (fun c_275 => ?_) (fun c_275 => ?_)
                  · skip
                    obtain ⟨v_280_69, ev_280_69⟩ : ∃ z : Int32, z = (nI o) + 1 := ⟨_, rfl⟩
                    refine k_iinc X (q := 0) (v := v_280_69) [(8, .int v_280_69), (7, .int (nI n)), (6, .int (ksum (fun t => S.I (cz t) 5) n)), (5, .int (ksum (fun t => kQcit S A (cz t) 11) n)), (4, .ref a_21_12), (3, .ref q_15_8), (1, .long v_1_2), (0, .ref (A 0))] dL_isAsked_280 rfl (by rw [ev_280_69]; rfl) (by decide) rfl ?_
                    refine k_goto (tgt := 248) X dL_isAsked_283 (by decide) ?_
                    refine k_lv [0, 1, 2, 3, 4, 5, 6, 7] _ rfl ?_
                    exact ih248 (7 - (o + 1)) (by omega) (o + 1) _ rfl (by rw [ev_280_69, nI_1]) (by omega)
                  · skip
                    exact absurd (c_275.trans (show v_274_68 = 0 from by rw [ev_274_68, nI_clamp (by omega)]; exact hzi.end0 h hlto ev_259_64 c_262)) (by decide)
            refine k_lv [0, 1, 2, 3, 4, 5, 6, 7] _ rfl ?_
            exact L_248 _ 0 0 rfl nI_0.symm (Nat.zero_le _)
          · skip
            have hltj : j < 6 := lt_of_nle (m := 6) c_223 (by omega)
            refine k_iload X (q := 1) dL_isAsked_226 rfl ?_
            refine k_aload_n X (q := 7) dL_isAsked_228 rfl rfl ?_
            refine k_iload X (q := 0) dL_isAsked_229 rfl ?_
            refine k_iconst X (v := 0) dL_isAsked_231 (by decide) ?_
            refine k_iconst X (v := (-1)) dL_isAsked_232 (by decide) ?_
            refine k_gotI X (vL_138 X (S := Si) ⟨(st_0 hIi.st).1, (st_0 hIi.st).2⟩ (c_X11_roll C.l C.e0 Si   A n cz _ _ _ hIi L hQi j (by omega)) (As := [.int (nI j), .int 0, .int (-1 : Int32)]) (rest := [.int (ksum (fun k => kcof S cz n (nI k) 0 (-1)) j)]) rfl rfl rfl rfl ⟨Nat.le_of_ble_eq_true rfl, Nat.le_of_ble_eq_true rfl⟩ (Nat.le_of_ble_eq_true rfl) ⟨(by show _ ≤ 400; omega), (by show _ ≤ 12400; omega)⟩ dL_isAsked_233) (fun v_233_71 S_233_72 h_233_69 => ?_)
            obtain ⟨rfl, ev_233_71⟩ := h_233_69
            replace ev_233_71 := ev_233_71.trans (kcof_v h hfi _ _ _)
            refine k_iadd X dL_isAsked_236 (fun v_236_73 ev_236_73 => ?_)
            refine k_istore X [(7, .int v_236_73), (8, .int (nI j)), (6, .int (ksum (fun t => S.I (cz t) 5) n)), (5, .int (ksum (fun t => kQcit S A (cz t) 11) n)), (4, .ref a_21_12), (3, .ref q_15_8), (1, .long v_1_2), (0, .ref (A 0))] dL_isAsked_237 (by decide) rfl ?_
            obtain ⟨v_239_74, ev_239_74⟩ : ∃ z : Int32, z = (nI j) + 1 := ⟨_, rfl⟩
            refine k_iinc X (q := 1) (v := v_239_74) [(8, .int v_239_74), (7, .int v_236_73), (6, .int (ksum (fun t => S.I (cz t) 5) n)), (5, .int (ksum (fun t => kQcit S A (cz t) 11) n)), (4, .ref a_21_12), (3, .ref q_15_8), (1, .long v_1_2), (0, .ref (A 0))] dL_isAsked_239 rfl (by rw [ev_239_74]; rfl) (by decide) rfl ?_
            refine k_goto (tgt := 219) X dL_isAsked_242 (by decide) ?_
            refine k_lv [0, 1, 2, 3, 4, 5, 6, 7] _ rfl ?_
            exact ih219 (6 - (j + 1)) (by omega) (j + 1) _ _ rfl (by rw [ev_239_74, nI_1]) (by rw [ev_236_73, ev_233_71]; rfl) (by omega)
        refine k_lv [0, 1, 2, 3, 4, 5, 6, 7] _ rfl ?_
        exact L_219 _ 0 0 0 rfl nI_0.symm rfl (Nat.zero_le _)
      · skip
        have hlt : i < n := lt_of_nle c_41 (by omega)
        refine k_aload_n X (q := 5) dL_isAsked_44 rfl rfl ?_
        refine k_iload X (q := 0) dL_isAsked_45 rfl ?_
        refine k_aaldR X (S := Si) ⟨hRi.2.1.1.1, hRi.2.1.1.2⟩ (by rw [hRi.2.1.2.2.1]; exact vp_in_nI hlt (by omega)) dL_isAsked_47 (fun r_47_75 er_47_75 => ?_)
        have hr9 : r_47_75 = some (q_15_8 + 1 + i) := by rw [er_47_75, nI_clamp (by omega)]; exact (hRi.2.2.1 i hlt).1
        subst hr9
        refine k_astore X [(9, .ref (q_15_8 + 1 + i)), (8, .int (nI i)), (7, .int 0), (6, .int (ksum (fun t => S.I (cz t) 5) i)), (5, .int (ksum (fun t => kQcit S A (cz t) 11) i)), (4, .ref a_21_12), (3, .ref q_15_8), (1, .long v_1_2), (0, .ref (A 0))] dL_isAsked_48 (by decide) rfl ?_
        have K_173 : kG C 10 Si 210 6223 173 [(9, .ref (q_15_8 + 1 + i)), (8, .int (nI i)), (7, .int 0), (6, .int (ksum (fun t => S.I (cz t) 5) i)), (5, .int (ksum (fun t => kQcit S A (cz t) 11) i)), (4, .ref a_21_12), (3, .ref q_15_8), (1, .long v_1_2), (0, .ref (A 0))] [] := by
          refine k_aload X (q := 0) dL_isAsked_173 rfl ?_
          refine k_bipush X (v := 10) dL_isAsked_175 (by decide) ?_
          refine k_iald X (S := Si) (hRi.2.2.1 i hlt).2.1.1 (hRi.2.2.1 i hlt).2.1.2 (by rw [(hRi.2.2.1 i hlt).2.2.2.1]; exact vp_in_iff.mpr (by decide)) dL_isAsked_177 (fun v_177_76 ev_177_76 => ?_)
          replace ev_177_76 : v_177_76 = kQcit S A (cz i) 10 := ev_177_76.trans (hRi.2.2.2 i 10 hlt (by omega) (Or.inl hlt))
          refine k_if_lt (tgt := 190) X dL_isAsked_178 (by decide) (fun c_178 => ?_) (fun c_178 => ?_)
          · skip
            have hzs := hzi.skip (kten_n h hlt ev_177_76 c_178)
            refine k_iload X (q := 4) dL_isAsked_190 rfl ?_
            refine k_aload X (q := 0) dL_isAsked_192 rfl ?_
            refine k_bipush X (v := 11) dL_isAsked_194 (by decide) ?_
            refine k_iald X (S := Si) (hRi.2.2.1 i hlt).2.1.1 (hRi.2.2.1 i hlt).2.1.2 (by rw [(hRi.2.2.1 i hlt).2.2.2.1]; exact vp_in_iff.mpr (by decide)) dL_isAsked_196 (fun v_196_77 ev_196_77 => ?_)
            replace ev_196_77 : v_196_77 = kQcit S A (cz i) 11 := ev_196_77.trans (hRi.2.2.2 i 11 hlt (by omega) (Or.inl hlt))
            refine k_iadd X dL_isAsked_197 (fun v_197_78 ev_197_78 => ?_)
            refine k_istore X [(5, .int v_197_78), (9, .ref (q_15_8 + 1 + i)), (8, .int (nI i)), (7, .int 0), (6, .int (ksum (fun t => S.I (cz t) 5) i)), (4, .ref a_21_12), (3, .ref q_15_8), (1, .long v_1_2), (0, .ref (A 0))] dL_isAsked_198 (by decide) rfl ?_
            refine k_iload X (q := 4) dL_isAsked_200 rfl ?_
            refine k_aload X (q := 1) dL_isAsked_202 rfl ?_
            refine k_bipush X (v := 7) dL_isAsked_204 (by decide) ?_
            refine k_iald X (S := Si) (hRi.2.2.1 i hlt).2.1.1 (hRi.2.2.1 i hlt).2.1.2 (by rw [(hRi.2.2.1 i hlt).2.2.2.1]; exact vp_in_iff.mpr (by decide)) dL_isAsked_206 (fun v_206_79 ev_206_79 => ?_)
            replace ev_206_79 : v_206_79 = kQcit S A (cz i) 7 := ev_206_79.trans (hRi.2.2.2 i 7 hlt (by omega) (Or.inl hlt))
            refine k_iadd X dL_isAsked_207 (fun v_207_80 ev_207_80 => ?_)
            refine k_istore X [(6, .int v_207_80), (5, .int v_197_78), (9, .ref (q_15_8 + 1 + i)), (8, .int (nI i)), (7, .int 0), (4, .ref a_21_12), (3, .ref q_15_8), (1, .long v_1_2), (0, .ref (A 0))] dL_isAsked_208 (by decide) rfl ?_
            obtain ⟨v_210_81, ev_210_81⟩ : ∃ z : Int32, z = (nI i) + 1 := ⟨_, rfl⟩
            refine k_iinc X (q := 3) (v := v_210_81) [(8, .int v_210_81), (6, .int v_207_80), (5, .int v_197_78), (9, .ref (q_15_8 + 1 + i)), (7, .int 0), (4, .ref a_21_12), (3, .ref q_15_8), (1, .long v_1_2), (0, .ref (A 0))] dL_isAsked_210 rfl (by rw [ev_210_81]; rfl) (by decide) rfl ?_
            refine k_goto (tgt := 37) X dL_isAsked_213 (by decide) ?_
            refine k_lv [0, 4, 1, 2, 5, 6, 7, 8] _ rfl ?_
            exact ih (n - (i + 1)) (by omega) (i + 1) _ _ _ _ rfl (by rw [ev_210_81, nI_1]) (by rw [ev_197_78, ev_196_77]; rfl) (by rw [ev_207_80, ev_206_79]; rfl) ⟨by omega, hRi, hzs⟩
          · skip
            obtain ⟨o, ho, e10, hho, h6o, h9o⟩ := kten_s h hlt ev_177_76 c_178
            refine k_aload X (q := 5) dL_isAsked_181 rfl ?_
            refine k_aload X (q := 0) dL_isAsked_183 rfl ?_
            refine k_bipush X (v := 10) dL_isAsked_185 (by decide) ?_
            refine k_iald X (S := Si) (hRi.2.2.1 i hlt).2.1.1 (hRi.2.2.1 i hlt).2.1.2 (by rw [(hRi.2.2.1 i hlt).2.2.2.1]; exact vp_in_iff.mpr (by decide)) dL_isAsked_187 (fun v_187_82 ev_187_82 => ?_)
            replace ev_187_82 : v_187_82 = kQcit S A (cz i) 10 := ev_187_82.trans (hRi.2.2.2 i 10 hlt (by omega) (Or.inl hlt))
            have ho9 : v_187_82 = nI o := ev_187_82.trans e10
            subst ho9
            refine k_iconst X (v := 1) dL_isAsked_188 (by decide) ?_
            refine k_zast X (S := Si) ⟨hzi.1.1.1, hzi.1.1.2⟩ (by rw [hzi.1.2.2]; exact vp_in_nI ho (by omega)) (Or.inr rfl) dL_isAsked_189 ?_
            rw [nI_clamp (by omega)]
            have hRz := hRi.oth (z := a_21_12) (k := o) (v := 1) hzn hzi.1.2.1
            have hzs := hzi.put h ho hho
            have hIz := hRz.1.1
            have hKz := hRz.1.2.1
            have hfz := hRz.1.2.2
            have hQz := hQ.fr h.st hfz
            refine k_iload X (q := 4) dL_isAsked_190 rfl ?_
            refine k_aload X (q := 0) dL_isAsked_192 rfl ?_
            refine k_bipush X (v := 11) dL_isAsked_194 (by decide) ?_
            refine k_iald X (S := (Si.uI a_21_12 o 1)) (hRz.2.2.1 i hlt).2.1.1 (hRz.2.2.1 i hlt).2.1.2 (by rw [(hRz.2.2.1 i hlt).2.2.2.1]; exact vp_in_iff.mpr (by decide)) dL_isAsked_196 (fun v_196_83 ev_196_83 => ?_)
            replace ev_196_83 : v_196_83 = kQcit S A (cz i) 11 := ev_196_83.trans (hRz.2.2.2 i 11 hlt (by omega) (Or.inl hlt))
            refine k_iadd X dL_isAsked_197 (fun v_197_84 ev_197_84 => ?_)
            refine k_istore X [(5, .int v_197_84), (9, .ref (q_15_8 + 1 + i)), (8, .int (nI i)), (7, .int 0), (6, .int (ksum (fun t => S.I (cz t) 5) i)), (4, .ref a_21_12), (3, .ref q_15_8), (1, .long v_1_2), (0, .ref (A 0))] dL_isAsked_198 (by decide) rfl ?_
            refine k_iload X (q := 4) dL_isAsked_200 rfl ?_
            refine k_aload X (q := 1) dL_isAsked_202 rfl ?_
            refine k_bipush X (v := 7) dL_isAsked_204 (by decide) ?_
            refine k_iald X (S := (Si.uI a_21_12 o 1)) (hRz.2.2.1 i hlt).2.1.1 (hRz.2.2.1 i hlt).2.1.2 (by rw [(hRz.2.2.1 i hlt).2.2.2.1]; exact vp_in_iff.mpr (by decide)) dL_isAsked_206 (fun v_206_85 ev_206_85 => ?_)
            replace ev_206_85 : v_206_85 = kQcit S A (cz i) 7 := ev_206_85.trans (hRz.2.2.2 i 7 hlt (by omega) (Or.inl hlt))
            refine k_iadd X dL_isAsked_207 (fun v_207_86 ev_207_86 => ?_)
            refine k_istore X [(6, .int v_207_86), (5, .int v_197_84), (9, .ref (q_15_8 + 1 + i)), (8, .int (nI i)), (7, .int 0), (4, .ref a_21_12), (3, .ref q_15_8), (1, .long v_1_2), (0, .ref (A 0))] dL_isAsked_208 (by decide) rfl ?_
            obtain ⟨v_210_87, ev_210_87⟩ : ∃ z : Int32, z = (nI i) + 1 := ⟨_, rfl⟩
            refine k_iinc X (q := 3) (v := v_210_87) [(8, .int v_210_87), (6, .int v_207_86), (5, .int v_197_84), (9, .ref (q_15_8 + 1 + i)), (7, .int 0), (4, .ref a_21_12), (3, .ref q_15_8), (1, .long v_1_2), (0, .ref (A 0))] dL_isAsked_210 rfl (by rw [ev_210_87]; rfl) (by decide) rfl ?_
            refine k_goto (tgt := 37) X dL_isAsked_213 (by decide) ?_
            refine k_lv [0, 4, 1, 2, 5, 6, 7, 8] _ rfl ?_
            exact ih (n - (i + 1)) (by omega) (i + 1) _ _ _ _ rfl (by rw [ev_210_87, nI_1]) (by rw [ev_197_84, ev_196_83]; rfl) (by rw [ev_207_86, ev_206_85]; rfl) ⟨by omega, hRz, hzs⟩
        have K_119 : kG C 10 Si 210 6223 119 [(9, .ref (q_15_8 + 1 + i)), (8, .int (nI i)), (7, .int 0), (6, .int (ksum (fun t => S.I (cz t) 5) i)), (5, .int (ksum (fun t => kQcit S A (cz t) 11) i)), (4, .ref a_21_12), (3, .ref q_15_8), (1, .long v_1_2), (0, .ref (A 0))] [] := by
          refine k_aload X (q := 0) dL_isAsked_119 rfl ?_
          refine k_bipush X (v := 10) dL_isAsked_121 (by decide) ?_
          refine k_iald X (S := Si) (hRi.2.2.1 i hlt).2.1.1 (hRi.2.2.1 i hlt).2.1.2 (by rw [(hRi.2.2.1 i hlt).2.2.2.1]; exact vp_in_iff.mpr (by decide)) dL_isAsked_123 (fun v_123_88 ev_123_88 => ?_)
          replace ev_123_88 : v_123_88 = kQcit S A (cz i) 10 := ev_123_88.trans (hRi.2.2.2 i 10 hlt (by omega) (Or.inl hlt))
          refine k_if_lt (tgt := 173) X dL_isAsked_124 (by decide) (fun c_124 => ?_) (fun c_124 => ?_)
          · skip
            refine k_lv [0, 1, 2, 3, 4, 5, 6, 7, 8] _ rfl ?_
            exact K_173
          · skip
            obtain ⟨o, ho, e10, hho, h6o, h9o⟩ := kten_s h hlt ev_123_88 c_124
            refine k_aload X (q := 5) dL_isAsked_127 rfl ?_
            refine k_aload X (q := 0) dL_isAsked_129 rfl ?_
            refine k_bipush X (v := 10) dL_isAsked_131 (by decide) ?_
            refine k_iald X (S := Si) (hRi.2.2.1 i hlt).2.1.1 (hRi.2.2.1 i hlt).2.1.2 (by rw [(hRi.2.2.1 i hlt).2.2.2.1]; exact vp_in_iff.mpr (by decide)) dL_isAsked_133 (fun v_133_89 ev_133_89 => ?_)
            replace ev_133_89 : v_133_89 = kQcit S A (cz i) 10 := ev_133_89.trans (hRi.2.2.2 i 10 hlt (by omega) (Or.inl hlt))
            have ho9 : v_133_89 = nI o := ev_133_89.trans e10
            subst ho9
            refine k_zald X (S := Si) ⟨hzi.1.1.1, hzi.1.1.2⟩ (by rw [hzi.1.2.2]; exact vp_in_nI ho (by omega)) dL_isAsked_134 (fun v_134_90 ev_134_90 => ?_)
            refine k_if_ne (tgt := 171) X dL_isAsked_135 (by decide) (fun c_135 => ?_) (fun c_135 => ?_)
            · skip
              exact absurd (show v_134_90 = 0 from by rw [ev_134_90, nI_clamp (by omega)]; exact hzi.no h hlt ho hho) c_135
            · skip
              refine k_aload X (q := 0) dL_isAsked_138 rfl ?_
              refine k_bipush X (v := 6) dL_isAsked_140 (by decide) ?_
              refine k_iald X (S := Si) (hRi.2.2.1 i hlt).2.1.1 (hRi.2.2.1 i hlt).2.1.2 (by rw [(hRi.2.2.1 i hlt).2.2.2.1]; exact vp_in_iff.mpr (by decide)) dL_isAsked_142 (fun v_142_91 ev_142_91 => ?_)
              replace ev_142_91 : v_142_91 = kQcit S A (cz i) 6 := ev_142_91.trans (hRi.2.2.2 i 6 hlt (by omega) (Or.inl hlt))
              refine k_iconst X (v := 1) dL_isAsked_143 (by decide) ?_
              refine k_icmp_eq (tgt := 156) X dL_isAsked_144 (by decide) (fun c_144 => ?_) (fun c_144 => ?_)
              · skip
                refine k_aload_n X (q := 8) dL_isAsked_156 rfl rfl ?_
                refine k_aload X (q := 0) dL_isAsked_157 rfl ?_
                refine k_bipush X (v := 10) dL_isAsked_159 (by decide) ?_
                refine k_iald X (S := Si) (hRi.2.2.1 i hlt).2.1.1 (hRi.2.2.1 i hlt).2.1.2 (by rw [(hRi.2.2.1 i hlt).2.2.2.1]; exact vp_in_iff.mpr (by decide)) dL_isAsked_161 (fun v_161_92 ev_161_92 => ?_)
                replace ev_161_92 : v_161_92 = kQcit S A (cz i) 10 := ev_161_92.trans (hRi.2.2.2 i 10 hlt (by omega) (Or.inl hlt))
                have ho9 : v_161_92 = nI o := ev_161_92.trans e10
                subst ho9
                refine k_iconst X (v := 0) dL_isAsked_162 (by decide) ?_
                refine k_gotI X (vL_135 X (S := Si) ⟨(st_0 hIi.st).1, (st_0 hIi.st).2⟩ (c_X11_ofOffice C.l C.e0 Si   A n cz _ _ _ hIi L hQi o (by omega) 0 (by omega)) (As := [.int (nI o), .int (nI 0)]) (rest := []) rfl rfl rfl rfl ⟨Nat.le_of_ble_eq_true rfl, Nat.le_of_ble_eq_true rfl⟩ (Nat.le_of_ble_eq_true rfl) ⟨(by show _ ≤ 400; omega), (by show _ ≤ 12400; omega)⟩ dL_isAsked_163) (fun v_163_94 S_163_95 h_163_92 => ?_)
                obtain ⟨rfl, ev_163_94⟩ := h_163_92
                replace ev_163_94 := ev_163_94.trans (kQoffice_v h hfi (by omega) _)
                refine k_iload X (q := 1) dL_isAsked_166 rfl ?_
                refine k_icmp_eq (tgt := 173) X dL_isAsked_168 (by decide) (fun c_168 => ?_) (fun c_168 => ?_)
                · skip
                  refine k_lv [0, 1, 2, 3, 4, 5, 6, 7, 8] _ rfl ?_
                  exact K_173
                · skip
                  exact absurd (show v_163_94 = nI i from by rw [ev_163_94]; show knum S (S.R (kof A o) 1) = nI i; rw [hho]; exact (h.who.2.1 i hlt).2.1) c_168
              · skip
                refine k_aload X (q := 0) dL_isAsked_147 rfl ?_
                refine k_bipush X (v := 6) dL_isAsked_149 (by decide) ?_
                refine k_iald X (S := Si) (hRi.2.2.1 i hlt).2.1.1 (hRi.2.2.1 i hlt).2.1.2 (by rw [(hRi.2.2.1 i hlt).2.2.2.1]; exact vp_in_iff.mpr (by decide)) dL_isAsked_151 (fun v_151_96 ev_151_96 => ?_)
                replace ev_151_96 : v_151_96 = kQcit S A (cz i) 6 := ev_151_96.trans (hRi.2.2.2 i 6 hlt (by omega) (Or.inl hlt))
                refine k_iconst X (v := 2) dL_isAsked_152 (by decide) ?_
                refine k_icmp_ne (tgt := 171) X dL_isAsked_153 (by decide) (fun c_153 => ?_) (fun c_153 => ?_)
                · skip
                  exact absurd (ev_151_96.trans (h6o.resolve_left (fun z9 => c_144 (ev_142_91.trans z9)))) c_153
                · skip
                  refine k_aload_n X (q := 8) dL_isAsked_156 rfl rfl ?_
                  refine k_aload X (q := 0) dL_isAsked_157 rfl ?_
                  refine k_bipush X (v := 10) dL_isAsked_159 (by decide) ?_
                  refine k_iald X (S := Si) (hRi.2.2.1 i hlt).2.1.1 (hRi.2.2.1 i hlt).2.1.2 (by rw [(hRi.2.2.1 i hlt).2.2.2.1]; exact vp_in_iff.mpr (by decide)) dL_isAsked_161 (fun v_161_97 ev_161_97 => ?_)
                  replace ev_161_97 : v_161_97 = kQcit S A (cz i) 10 := ev_161_97.trans (hRi.2.2.2 i 10 hlt (by omega) (Or.inl hlt))
                  have ho9 : v_161_97 = nI o := ev_161_97.trans e10
                  subst ho9
                  refine k_iconst X (v := 0) dL_isAsked_162 (by decide) ?_
                  refine k_gotI X (vL_135 X (S := Si) ⟨(st_0 hIi.st).1, (st_0 hIi.st).2⟩ (c_X11_ofOffice C.l C.e0 Si   A n cz _ _ _ hIi L hQi o (by omega) 0 (by omega)) (As := [.int (nI o), .int (nI 0)]) (rest := []) rfl rfl rfl rfl ⟨Nat.le_of_ble_eq_true rfl, Nat.le_of_ble_eq_true rfl⟩ (Nat.le_of_ble_eq_true rfl) ⟨(by show _ ≤ 400; omega), (by show _ ≤ 12400; omega)⟩ dL_isAsked_163) (fun v_163_99 S_163_100 h_163_97 => ?_)
                  obtain ⟨rfl, ev_163_99⟩ := h_163_97
                  replace ev_163_99 := ev_163_99.trans (kQoffice_v h hfi (by omega) _)
                  refine k_iload X (q := 1) dL_isAsked_166 rfl ?_
                  refine k_icmp_eq (tgt := 173) X dL_isAsked_168 (by decide) (fun c_168 => ?_) (fun c_168 => ?_)
                  · skip
                    refine k_lv [0, 1, 2, 3, 4, 5, 6, 7, 8] _ rfl ?_
                    exact K_173
                  · skip
                    exact absurd (show v_163_99 = nI i from by rw [ev_163_99]; show knum S (S.R (kof A o) 1) = nI i; rw [hho]; exact (h.who.2.1 i hlt).2.1) c_168
        have K_102 : kG C 10 Si 210 6223 102 [(9, .ref (q_15_8 + 1 + i)), (8, .int (nI i)), (7, .int 0), (6, .int (ksum (fun t => S.I (cz t) 5) i)), (5, .int (ksum (fun t => kQcit S A (cz t) 11) i)), (4, .ref a_21_12), (3, .ref q_15_8), (1, .long v_1_2), (0, .ref (A 0))] [] := by
          refine k_aload X (q := 0) dL_isAsked_102 rfl ?_
          refine k_iconst X (v := 4) dL_isAsked_104 (by decide) ?_
          refine k_iald X (S := Si) (hRi.2.2.1 i hlt).2.1.1 (hRi.2.2.1 i hlt).2.1.2 (by rw [(hRi.2.2.1 i hlt).2.2.2.1]; exact vp_in_iff.mpr (by decide)) dL_isAsked_105 (fun v_105_101 ev_105_101 => ?_)
          replace ev_105_101 : v_105_101 = kQcit S A (cz i) 4 := ev_105_101.trans (hRi.2.2.2 i 4 hlt (by omega) (Or.inl hlt))
          refine k_if_lt (tgt := 117) X dL_isAsked_106 (by decide) (fun c_106 => ?_) (fun c_106 => ?_)
          · skip
            exact absurd c_106 (by rw [ev_105_101]; exact k4 h hlt)
          · skip
            refine k_aload X (q := 0) dL_isAsked_109 rfl ?_
            refine k_bipush X (v := 7) dL_isAsked_111 (by decide) ?_
            refine k_iald X (S := Si) (hRi.2.2.1 i hlt).2.1.1 (hRi.2.2.1 i hlt).2.1.2 (by rw [(hRi.2.2.1 i hlt).2.2.2.1]; exact vp_in_iff.mpr (by decide)) dL_isAsked_113 (fun v_113_102 ev_113_102 => ?_)
            replace ev_113_102 : v_113_102 = kQcit S A (cz i) 7 := ev_113_102.trans (hRi.2.2.2 i 7 hlt (by omega) (Or.inl hlt))
            refine k_if_ge (tgt := 119) X dL_isAsked_114 (by decide) (fun c_114 => ?_) (fun c_114 => ?_)
            · skip
              refine k_lv [0, 1, 2, 3, 4, 5, 6, 7, 8] _ rfl ?_
              exact K_119
            · skip
              exact absurd (by rw [ev_113_102]; exact k7p h hlt) c_114
        have K_85 : kG C 10 Si 210 6223 85 [(9, .ref (q_15_8 + 1 + i)), (8, .int (nI i)), (7, .int 0), (6, .int (ksum (fun t => S.I (cz t) 5) i)), (5, .int (ksum (fun t => kQcit S A (cz t) 11) i)), (4, .ref a_21_12), (3, .ref q_15_8), (1, .long v_1_2), (0, .ref (A 0))] [] := by
          refine k_aload X (q := 0) dL_isAsked_85 rfl ?_
          refine k_bipush X (v := 11) dL_isAsked_87 (by decide) ?_
          refine k_iald X (S := Si) (hRi.2.2.1 i hlt).2.1.1 (hRi.2.2.1 i hlt).2.1.2 (by rw [(hRi.2.2.1 i hlt).2.2.2.1]; exact vp_in_iff.mpr (by decide)) dL_isAsked_89 (fun v_89_103 ev_89_103 => ?_)
          replace ev_89_103 : v_89_103 = kQcit S A (cz i) 11 := ev_89_103.trans (hRi.2.2.2 i 11 hlt (by omega) (Or.inl hlt))
          refine k_iconst X (v := 1) dL_isAsked_90 (by decide) ?_
          refine k_icmp_ne (tgt := 102) X dL_isAsked_91 (by decide) (fun c_91 => ?_) (fun c_91 => ?_)
          · skip
            refine k_lv [0, 1, 2, 3, 4, 5, 6, 7, 8] _ rfl ?_
            exact K_102
          · skip
            refine k_aload X (q := 0) dL_isAsked_94 rfl ?_
            refine k_bipush X (v := 10) dL_isAsked_96 (by decide) ?_
            refine k_iald X (S := Si) (hRi.2.2.1 i hlt).2.1.1 (hRi.2.2.1 i hlt).2.1.2 (by rw [(hRi.2.2.1 i hlt).2.2.2.1]; exact vp_in_iff.mpr (by decide)) dL_isAsked_98 (fun v_98_104 ev_98_104 => ?_)
            replace ev_98_104 : v_98_104 = kQcit S A (cz i) 10 := ev_98_104.trans (hRi.2.2.2 i 10 hlt (by omega) (Or.inl hlt))
            refine k_if_ge (tgt := 117) X dL_isAsked_99 (by decide) (fun c_99 => ?_) (fun c_99 => ?_)
            · skip
              exact absurd c_99 (by rw [ev_98_104, (k11 h hlt (ev_89_103.symm.trans c_91)).2]; decide)
            · skip
              refine k_lv [0, 1, 2, 3, 4, 5, 6, 7, 8] _ rfl ?_
              exact K_102
        have K_67 : kG C 10 Si 210 6223 67 [(9, .ref (q_15_8 + 1 + i)), (8, .int (nI i)), (7, .int 0), (6, .int (ksum (fun t => S.I (cz t) 5) i)), (5, .int (ksum (fun t => kQcit S A (cz t) 11) i)), (4, .ref a_21_12), (3, .ref q_15_8), (1, .long v_1_2), (0, .ref (A 0))] [] := by
          refine k_aload X (q := 0) dL_isAsked_67 rfl ?_
          refine k_bipush X (v := 11) dL_isAsked_69 (by decide) ?_
          refine k_iald X (S := Si) (hRi.2.2.1 i hlt).2.1.1 (hRi.2.2.1 i hlt).2.1.2 (by rw [(hRi.2.2.1 i hlt).2.2.2.1]; exact vp_in_iff.mpr (by decide)) dL_isAsked_71 (fun v_71_105 ev_71_105 => ?_)
          replace ev_71_105 : v_71_105 = kQcit S A (cz i) 11 := ev_71_105.trans (hRi.2.2.2 i 11 hlt (by omega) (Or.inl hlt))
          refine k_iconst X (v := 1) dL_isAsked_72 (by decide) ?_
          refine k_icmp_ne (tgt := 85) X dL_isAsked_73 (by decide) (fun c_73 => ?_) (fun c_73 => ?_)
          · skip
            refine k_lv [0, 1, 2, 3, 4, 5, 6, 7, 8] _ rfl ?_
            exact K_85
          · skip
            refine k_aload X (q := 0) dL_isAsked_76 rfl ?_
            refine k_bipush X (v := 6) dL_isAsked_78 (by decide) ?_
            refine k_iald X (S := Si) (hRi.2.2.1 i hlt).2.1.1 (hRi.2.2.1 i hlt).2.1.2 (by rw [(hRi.2.2.1 i hlt).2.2.2.1]; exact vp_in_iff.mpr (by decide)) dL_isAsked_80 (fun v_80_106 ev_80_106 => ?_)
            replace ev_80_106 : v_80_106 = kQcit S A (cz i) 6 := ev_80_106.trans (hRi.2.2.2 i 6 hlt (by omega) (Or.inl hlt))
            refine k_iconst X (v := 1) dL_isAsked_81 (by decide) ?_
            refine k_icmp_ne (tgt := 117) X dL_isAsked_82 (by decide) (fun c_82 => ?_) (fun c_82 => ?_)
            · skip
              exact absurd (ev_80_106.trans (k11 h hlt (ev_71_105.symm.trans c_73)).1) c_82
            · skip
              refine k_lv [0, 1, 2, 3, 4, 5, 6, 7, 8] _ rfl ?_
              exact K_85
        refine k_aload X (q := 0) dL_isAsked_50 rfl ?_
        refine k_bipush X (v := 6) dL_isAsked_52 (by decide) ?_
        refine k_iald X (S := Si) (hRi.2.2.1 i hlt).2.1.1 (hRi.2.2.1 i hlt).2.1.2 (by rw [(hRi.2.2.1 i hlt).2.2.2.1]; exact vp_in_iff.mpr (by decide)) dL_isAsked_54 (fun v_54_107 ev_54_107 => ?_)
        replace ev_54_107 : v_54_107 = kQcit S A (cz i) 6 := ev_54_107.trans (hRi.2.2.2 i 6 hlt (by omega) (Or.inl hlt))
        refine k_iconst X (v := 1) dL_isAsked_55 (by decide) ?_
        refine k_icmp_ne (tgt := 67) X dL_isAsked_56 (by decide) (fun c_56 => ?_) (fun c_56 => ?_)
        · skip
          refine k_lv [0, 1, 2, 3, 4, 5, 6, 7, 8] _ rfl ?_
          exact K_67
        · skip
          refine k_aload X (q := 0) dL_isAsked_59 rfl ?_
          refine k_bipush X (v := 7) dL_isAsked_61 (by decide) ?_
          refine k_iald X (S := Si) (hRi.2.2.1 i hlt).2.1.1 (hRi.2.2.1 i hlt).2.1.2 (by rw [(hRi.2.2.1 i hlt).2.2.2.1]; exact vp_in_iff.mpr (by decide)) dL_isAsked_63 (fun v_63_108 ev_63_108 => ?_)
          replace ev_63_108 : v_63_108 = kQcit S A (cz i) 7 := ev_63_108.trans (hRi.2.2.2 i 7 hlt (by omega) (Or.inl hlt))
          refine k_if_gt (tgt := 117) X dL_isAsked_64 (by decide) (fun c_64 => ?_) (fun c_64 => ?_)
          · skip
            exact absurd c_64 (by rw [ev_63_108, k7 h hlt (ev_54_107.symm.trans c_56)]; decide)
          · skip
            refine k_lv [0, 1, 2, 3, 4, 5, 6, 7, 8] _ rfl ?_
            exact K_67
    refine k_lv [0, 1, 2, 3, 4, 5, 6, 7] _ rfl ?_
    exact L_37 _ 0 0 0 0 _ rfl nI_0.symm rfl rfl ⟨Nat.zero_le _, hR1, hz1⟩
  · skip
    rw [ev_6_6] at c_9
    exact absurd c_9 (by decide)
