theorem im_X7_cures_X7 : ∀ w ∈ u_ws RX7 TX7 16, w ∈ wsX7_cures := by decide +kernel
set_option maxHeartbeats 4000000 in
set_option maxRecDepth 100000 in
theorem w_X7_cures (l : Launch) (G : GT) (mO mS mR : Nat) (sz : Nat) (mD mT mW mQ mC mU mV : Nat) (mt ma mn my mm mf mg : Int32) (fS fR : Nat → Int32) (i0 : Int32) (hok : okM fS) : Met l yX7_cures wsX7_cures ({ frames := 4, cells := 0, slots := 0, locals := 96 }) (va_Pc [.ref mO, .int i0] (wPre G [(mO, .inr (7, [.ref mS, .ref mD, .ref mR, .ref mT, .int mt, .int ma, .int mn, .ref mW, .ref mQ, .ref mC, .int my, .ref mU, .ref mV, .int mm, .int mf, .int mg])), (mS, .inl (G.2.1 2, 49, .inl fS)), (mR, .inl (G.2.1 2, 3, .inl fR))] sz)) (va_Qi (fun (r : Int32) (u : (Nat → Int32) × (Nat → Int32)) => okM u.1) (bW G (va_A [(mO, .inr (7, [.ref mS, .ref mD, .ref mR, .ref mT, .int mt, .int ma, .int mn, .ref mW, .ref mQ, .ref mC, .int my, .ref mU, .ref mV, .int mm, .int mf, .int mg])), (mS, .inl (G.2.1 2, 49, .inl fS)), (mR, .inl (G.2.1 2, 3, .inl fR))] sz) (fun u : (Nat → Int32) × (Nat → Int32) => [(mO, .inr (7, [.ref mS, .ref mD, .ref mR, .ref mT, .int mt, .int ma, .int mn, .ref mW, .ref mQ, .ref mC, .int my, .ref mU, .ref mV, .int mm, .int mf, .int mg])), (mS, .inl (G.2.1 2, 49, .inl u.1)), (mR, .inl (G.2.1 2, 3, .inl u.2))])) (va_A [(mO, .inr (7, [.ref mS, .ref mD, .ref mR, .ref mT, .int mt, .int ma, .int mn, .ref mW, .ref mQ, .ref mC, .int my, .ref mU, .ref mV, .int mm, .int mf, .int mg])), (mS, .inl (G.2.1 2, 49, .inl fS)), (mR, .inl (G.2.1 2, 3, .inl fR))] sz)) 0 0 (va_A [(mO, .inr (7, [.ref mS, .ref mD, .ref mR, .ref mT, .int mt, .int ma, .int mn, .ref mW, .ref mQ, .ref mC, .int my, .ref mU, .ref mV, .int mm, .int mf, .int mg])), (mS, .inl (G.2.1 2, 49, .inl fS)), (mR, .inl (G.2.1 2, 3, .inl fR))] sz) := by
  refine met_go (cc := cX7_cures) (maxL := 6) (ret := (some .int)) (own := RX7) (by decide) rfl rfl (Nat.le_of_ble_eq_true rfl) ?_
  intro p e s m below meth c ls S hr hlocks hname hsz C w hl
  obtain ⟨nN, gN, oN, pN, qN, h0_, hnN, hg, hgN, ho, hoN, hp, hpN, hq, hqN⟩ := id hok
  have hl : lv_has ls 6 [(0, .ref mO), (1, .int i0)] := hl
  refine lv_aload_n S.1 S.2.1 dX7_cures_0 rfl (lv_at hl 0 rfl) ?_
  refine lv_iload_n S.1 S.2.1 dX7_cures_1 rfl (lv_at hl 1 rfl) ?_
  refine cs_i (va_runV (As := [.int i0]) (rest := []) S (c_X7_isGate l G mO mS _ mD mR mT mW mQ mC mU mV mt ma mn my mm mf mg fS i0) (cwV 1 S.2.2.2.2 gX7_cures_X7_isGate rfl rfl rfl (by decide +kernel) ⟨Nat.le_of_ble_eq_true rfl, Nat.le_of_ble_eq_true rfl⟩) ⟨wPre_blind, va_recv C.1 w.1 (ci := 7) (q0 := 0) rfl rfl, wPre_at C w [0, 1] rfl rfl⟩ rfl rfl hl.1 rfl (lv_room (Nat.le_of_ble_eq_true rfl)) dX7_cures_2 ⟨Nat.le_of_ble_eq_true rfl, Nat.le_of_ble_eq_true rfl⟩) (fun r2 h2 => ?_)
  refine w_topi (y := (gateM fS i0)) h2 ?_
  refine lv_istore_n (lv' := [(2, .int (gateM fS i0)), (0, .ref mO), (1, .int i0)]) S.1 S.2.1 dX7_cures_5 rfl hl (by decide) rfl (fun ls hl => ?_)
  refine lv_iload_n S.1 S.2.1 dX7_cures_6 rfl (lv_at hl 0 rfl) ?_
  refine lv_if_eq (tgt := 17) S.1 S.2.1 dX7_cures_7 (by decide) (fun c7 => ?_) (fun c7 => ?_)
  · refine lv_aload_n S.1 S.2.1 dX7_cures_17 rfl (lv_at hl 1 rfl) ?_
    refine lv_iload_n S.1 S.2.1 dX7_cures_18 rfl (lv_at hl 0 rfl) ?_
    refine cq_i C w [0, 2] [1] [1, 0, 2] (wr := [(mS, .inl (G.2.1 2, 49, .inl fS))]) (w' := fun u : (Nat → Int32) => [(mO, .inr (7, [.ref mS, .ref mD, .ref mR, .ref mT, .int mt, .int ma, .int mn, .ref mW, .ref mQ, .ref mC, .int my, .ref mU, .ref mV, .int mm, .int mf, .int mg])), (mR, .inl (G.2.1 2, 3, .inl u))]) (ws2 := fun u : (Nat → Int32) => [(mO, .inr (7, [.ref mS, .ref mD, .ref mR, .ref mT, .int mt, .int ma, .int mn, .ref mW, .ref mQ, .ref mC, .int my, .ref mU, .ref mV, .int mm, .int mf, .int mg])), (mS, .inl (G.2.1 2, 49, .inl fS)), (mR, .inl (G.2.1 2, 3, .inl u))]) rfl rfl rfl (by decide) rfl (fun _ => rfl) (va_runV (As := [.int (gateM fS i0)]) (rest := []) S (c_X7_none l G mO mR _ mS mD mT mW mQ mC mU mV mt ma mn my mm mf mg fR (gateM fS i0)) (cwV 1 S.2.2.2.2 gX7_cures_X7_none rfl rfl rfl (by decide +kernel) ⟨Nat.le_of_ble_eq_true rfl, Nat.le_of_ble_eq_true rfl⟩) ⟨wPre_blind, va_recv C.1 w.1 (ci := 7) (q0 := 0) rfl rfl, wPre_at C w [0, 2] rfl rfl⟩ rfl rfl hl.1 rfl (lv_room (Nat.le_of_ble_eq_true rfl)) dX7_cures_19 ⟨Nat.le_of_ble_eq_true rfl, Nat.le_of_ble_eq_true rfl⟩) (fun r19 u19 H locs h19 w => ?_)
    have w : Wd G _ s [(mO, .inr (7, [.ref mS, .ref mD, .ref mR, .ref mT, .int mt, .int ma, .int mn, .ref mW, .ref mQ, .ref mC, .int my, .ref mU, .ref mV, .int mm, .int mf, .int mg])), (mS, .inl (G.2.1 2, 49, .inl fS)), (mR, .inl (G.2.1 2, 3, .inl u19))] H locs := w
    exact W.iret (v := r19) S.1 S.2.1 hr (fun t ht _ => ⟨⟨r19, (fS, u19), rfl, hok, by rw [ht]; exact w.1, w.2.1⟩, w.2.2.F ht⟩) w.2.2.2.2 dX7_cures_22
  · refine lv_aload_n S.1 S.2.1 dX7_cures_10 rfl (lv_at hl 1 rfl) ?_
    refine cs_i (va_runV (As := []) (rest := []) S (c_X7_isThere l G mO mS _ mD mR mT mW mQ mC mU mV mt ma mn my mm mf mg fS) (cwV 0 S.2.2.2.2 gX7_cures_X7_isThere rfl rfl rfl (by decide +kernel) ⟨Nat.le_of_ble_eq_true rfl, Nat.le_of_ble_eq_true rfl⟩) ⟨wPre_blind, va_recv C.1 w.1 (ci := 7) (q0 := 0) rfl rfl, wPre_at C w [0, 1] rfl rfl⟩ rfl rfl hl.1 rfl (lv_room (Nat.le_of_ble_eq_true rfl)) dX7_cures_11 ⟨Nat.le_of_ble_eq_true rfl, Nat.le_of_ble_eq_true rfl⟩) (fun r11 h11 => ?_)
    refine w_topi (y := (thereM fS)) h11 ?_
    refine lv_if_ne (tgt := 23) S.1 S.2.1 dX7_cures_14 (by decide) (fun c14 => ?_) (fun c14 => ?_)
    · obtain ⟨kN, hkN, hke⟩ := gate_ok hg hgN c7 c14
      refine lv_aload_n S.1 S.2.1 dX7_cures_23 rfl (lv_at hl 1 rfl) ?_
      refine w_get S C w (CC := RX7) (T := TX7) (N := 16) (ref := "GateSumsModel") im_X7_cures_X7 0 rfl rfl 0 (by decide) (List.mem_of_getElem? (i := 1) rfl) (fun _ h => h) rfl dX7_cures_24 ?_
      refine lv_bipush (v := 6) S.1 S.2.1 dX7_cures_27 (by decide) ?_
      refine lv_iload_n S.1 S.2.1 dX7_cures_29 rfl (lv_at hl 2 rfl) ?_
      refine lv_iadd S.1 S.2.1 dX7_cures_30 ?_
      refine w_topi (y := (nI (6 + kN))) (iadd 6 hke) ?_
      refine w_iald S C w 1 rfl (nIin (by omega) (by decide)) dX7_cures_31 ?_
      refine lv_istore_n (lv' := [(3, .int (fS (nI (6 + kN)).toNatClampNeg)), (2, .int (gateM fS i0)), (0, .ref mO), (1, .int i0)]) S.1 S.2.1 dX7_cures_32 rfl hl (by decide) rfl (fun ls hl => ?_)
      refine lv_iconst (v := 0) S.1 S.2.1 dX7_cures_33 (by decide) ?_
      refine lv_istore (lv' := [(4, .int 0), (3, .int (fS (nI (6 + kN)).toNatClampNeg)), (2, .int (gateM fS i0)), (0, .ref mO), (1, .int i0)]) S.1 S.2.1 dX7_cures_34 hl (by decide) rfl (fun ls hl => ?_)
      refine w_joini 45 [] (fun z45 => ∃ b : Nat, z45 = nI b ∧ b ≤ 1) (fun z45 hz45 => ?_) (fun J45 => ?_)
      · obtain ⟨bN, hbe, hb1⟩ := hz45
        refine w_topi (y := (nI bN)) (hbe) ?_
        refine lv_istore (lv' := [(5, .int (nI bN)), (4, .int 0), (3, .int (fS (nI (6 + kN)).toNatClampNeg)), (2, .int (gateM fS i0)), (0, .ref mO), (1, .int i0)]) S.1 S.2.1 dX7_cures_45 hl (by decide) rfl (fun ls hl => ?_)
        refine w_loop (G := G) (σ := Nat × Int32 × (Nat → Int32)) (nL := 6) 47 (fun x47 => 8 - x47.1) (fun x47 => x47.1 ≤ 8 ∧ ∀ i, i < 6 → x47.2.2 i = fS i) (fun x47 => [(mO, .inr (7, [.ref mS, .ref mD, .ref mR, .ref mT, .int mt, .int ma, .int mn, .ref mW, .ref mQ, .ref mC, .int my, .ref mU, .ref mV, .int mm, .int mf, .int mg])), (mS, .inl (G.2.1 2, 49, .inl x47.2.2)), (mR, .inl (G.2.1 2, 3, .inl fR))]) (fun x47 => [(5, .int (nI x47.1)), (4, .int x47.2.1), (3, .int (fS (nI (6 + kN)).toNatClampNeg)), (2, .int (gateM fS i0)), (0, .ref mO), (1, .int i0)]) (fun _ => []) ?_ (bN, 0, fS) ls _ _ (⟨by dsimp only; omega, fun _ _ => rfl⟩) w (lv_sub hl [0, 1, 2, 3, 4, 5] rfl)
        intro x47 ls H locs hI47 w hl ih47
        have w : Wd G _ s [(mO, .inr (7, [.ref mS, .ref mD, .ref mR, .ref mT, .int mt, .int ma, .int mn, .ref mW, .ref mQ, .ref mC, .int my, .ref mU, .ref mV, .int mm, .int mf, .int mg])), (mS, .inl (G.2.1 2, 49, .inl x47.2.2)), (mR, .inl (G.2.1 2, 3, .inl fR))] H locs := w
        have hl : lv_has ls 6 [(5, .int (nI x47.1)), (4, .int x47.2.1), (3, .int (fS (nI (6 + kN)).toNatClampNeg)), (2, .int (gateM fS i0)), (0, .ref mO), (1, .int i0)] := hl
        refine lv_iload S.1 S.2.1 dX7_cures_47 (lv_at hl 0 rfl) ?_
        refine w_joini 59 [.int (nI x47.1)] (fun z59 => ∃ b : Nat, z59 = nI b ∧ b ≤ 8) (fun z59 hz59 => ?_) (fun J59 => ?_)
        · obtain ⟨eN, hee, he8⟩ := hz59
          refine w_topi (y := (nI eN)) (hee) ?_
          refine lv_icmp_ge (tgt := 101) S.1 S.2.1 dX7_cures_59 (by decide) (fun c59 => ?_) (fun c59 => ?_)
          · refine lv_aload_n S.1 S.2.1 dX7_cures_101 rfl (lv_at hl 4 rfl) ?_
            refine w_get S C w (CC := RX7) (T := TX7) (N := 16) (ref := "GateSumsModel") im_X7_cures_X7 0 rfl rfl 0 (by decide) (List.mem_of_getElem? (i := 1) rfl) (fun _ h => h) rfl dX7_cures_102 ?_
            refine lv_bipush (v := 6) S.1 S.2.1 dX7_cures_105 (by decide) ?_
            refine lv_iload_n S.1 S.2.1 dX7_cures_107 rfl (lv_at hl 5 rfl) ?_
            refine lv_iadd S.1 S.2.1 dX7_cures_108 ?_
            refine w_topi (y := (nI (6 + kN))) (iadd 6 hke) ?_
            refine lv_iload_n S.1 S.2.1 dX7_cures_109 rfl (lv_at hl 2 rfl) ?_
            refine w_iast S C w 1 rfl (nIin (by omega) (by decide)) (ws2 := [(mO, .inr (7, [.ref mS, .ref mD, .ref mR, .ref mT, .int mt, .int ma, .int mn, .ref mW, .ref mQ, .ref mC, .int my, .ref mU, .ref mV, .int mm, .int mf, .int mg])), (mS, .inl (G.2.1 2, 49, .inl (upd x47.2.2 (nI (6 + kN)).toNatClampNeg (fS (nI (6 + kN)).toNatClampNeg)))), (mR, .inl (G.2.1 2, 3, .inl fR))]) rfl dX7_cures_110 (fun H locs w => ?_)
            have w : Wd G (va_A [(mO, .inr (7, [.ref mS, .ref mD, .ref mR, .ref mT, .int mt, .int ma, .int mn, .ref mW, .ref mQ, .ref mC, .int my, .ref mU, .ref mV, .int mm, .int mf, .int mg])), (mS, .inl (G.2.1 2, 49, .inl fS)), (mR, .inl (G.2.1 2, 3, .inl fR))] sz) s [(mO, .inr (7, [.ref mS, .ref mD, .ref mR, .ref mT, .int mt, .int ma, .int mn, .ref mW, .ref mQ, .ref mC, .int my, .ref mU, .ref mV, .int mm, .int mf, .int mg])), (mS, .inl (G.2.1 2, 49, .inl (upd x47.2.2 (6 + kN) (fS (6 + kN))))), (mR, .inl (G.2.1 2, 3, .inl fR))] H locs := by have h := nIc (j := 6 + kN) (by omega); rw [h] at w; exact w
            refine lv_iload S.1 S.2.1 dX7_cures_111 (lv_at hl 1 rfl) ?_
            exact W.iret (v := x47.2.1) S.1 S.2.1 hr (fun t ht _ => ⟨⟨x47.2.1, ((upd x47.2.2 (6 + kN) (fS (6 + kN))), fR), rfl, hok.of (fun i hi => (pk_un (by omega)).trans (hI47.2 i hi)), by rw [ht]; exact w.1, w.2.1⟩, w.2.2.F ht⟩) w.2.2.2.2 dX7_cures_113
          · refine lv_aload_n S.1 S.2.1 dX7_cures_62 rfl (lv_at hl 4 rfl) ?_
            refine w_get S C w (CC := RX7) (T := TX7) (N := 16) (ref := "GateSumsModel") im_X7_cures_X7 0 rfl rfl 0 (by decide) (List.mem_of_getElem? (i := 1) rfl) (fun _ h => h) rfl dX7_cures_63 ?_
            refine lv_bipush (v := 6) S.1 S.2.1 dX7_cures_66 (by decide) ?_
            refine lv_iload_n S.1 S.2.1 dX7_cures_68 rfl (lv_at hl 5 rfl) ?_
            refine lv_iadd S.1 S.2.1 dX7_cures_69 ?_
            refine w_topi (y := (nI (6 + kN))) (iadd 6 hke) ?_
            refine lv_iload S.1 S.2.1 dX7_cures_70 (lv_at hl 0 rfl) ?_
            refine w_iast S C w 1 rfl (nIin (by omega) (by decide)) (ws2 := [(mO, .inr (7, [.ref mS, .ref mD, .ref mR, .ref mT, .int mt, .int ma, .int mn, .ref mW, .ref mQ, .ref mC, .int my, .ref mU, .ref mV, .int mm, .int mf, .int mg])), (mS, .inl (G.2.1 2, 49, .inl (upd x47.2.2 (nI (6 + kN)).toNatClampNeg (nI x47.1)))), (mR, .inl (G.2.1 2, 3, .inl fR))]) rfl dX7_cures_72 (fun H locs w => ?_)
            have w : Wd G (va_A [(mO, .inr (7, [.ref mS, .ref mD, .ref mR, .ref mT, .int mt, .int ma, .int mn, .ref mW, .ref mQ, .ref mC, .int my, .ref mU, .ref mV, .int mm, .int mf, .int mg])), (mS, .inl (G.2.1 2, 49, .inl fS)), (mR, .inl (G.2.1 2, 3, .inl fR))] sz) s [(mO, .inr (7, [.ref mS, .ref mD, .ref mR, .ref mT, .int mt, .int ma, .int mn, .ref mW, .ref mQ, .ref mC, .int my, .ref mU, .ref mV, .int mm, .int mf, .int mg])), (mS, .inl (G.2.1 2, 49, .inl (upd x47.2.2 (6 + kN) (nI x47.1)))), (mR, .inl (G.2.1 2, 3, .inl fR))] H locs := by have h := nIc (j := 6 + kN) (by omega); rw [h] at w; exact w
            refine lv_iload S.1 S.2.1 dX7_cures_73 (lv_at hl 1 rfl) ?_
            refine lv_aload_n S.1 S.2.1 dX7_cures_75 rfl (lv_at hl 4 rfl) ?_
            refine lv_iconst (v := 1) S.1 S.2.1 dX7_cures_76 (by decide) ?_
            refine cs_i (va_runV (As := [.int 1]) (rest := [.int x47.2.1]) S (c_X7_wrongOnes l G mO mS _ mD mR mT mW mQ mC mU mV mt ma mn my mm mf mg (upd x47.2.2 (6 + kN) (nI x47.1)) gN oN 1 (by rw [pk_un (by omega)]; exact (hI47.2 1 (by omega)).trans hg) (hgN) (by rw [pk_un (by omega)]; exact (hI47.2 2 (by omega)).trans ho) (hoN)) (cwV 1 S.2.2.2.2 gX7_cures_X7_wrongOnes rfl rfl rfl (by decide +kernel) ⟨Nat.le_of_ble_eq_true rfl, Nat.le_of_ble_eq_true rfl⟩) ⟨wPre_blind, va_recv C.1 w.1 (ci := 7) (q0 := 0) rfl rfl, wPre_at C w [0, 1] rfl rfl⟩ rfl rfl hl.1 rfl (lv_room (Nat.le_of_ble_eq_true rfl)) dX7_cures_77 ⟨Nat.le_of_ble_eq_true rfl, Nat.le_of_ble_eq_true rfl⟩) (fun r77 h77 => ?_)
            refine lv_iconst (v := (-1)) S.1 S.2.1 dX7_cures_80 (by decide) ?_
            refine lv_icmp_ne (tgt := 91) S.1 S.2.1 dX7_cures_81 (by decide) (fun c81 => ?_) (fun c81 => ?_)
            · refine lv_iconst (v := 0) S.1 S.2.1 dX7_cures_91 (by decide) ?_
              refine lv_ior S.1 S.2.1 dX7_cures_92 ?_
              refine lv_istore (lv' := [(4, .int (x47.2.1 ||| 0)), (5, .int (nI x47.1)), (3, .int (fS (nI (6 + kN)).toNatClampNeg)), (2, .int (gateM fS i0)), (0, .ref mO), (1, .int i0)]) S.1 S.2.1 dX7_cures_93 hl (by decide) rfl (fun ls hl => ?_)
              refine lv_iinc (v := (nI (x47.1 + 1))) (lv' := [(5, .int (nI (x47.1 + 1))), (4, .int (x47.2.1 ||| 0)), (3, .int (fS (nI (6 + kN)).toNatClampNeg)), (2, .int (gateM fS i0)), (0, .ref mO), (1, .int i0)]) S.1 S.2.1 dX7_cures_95 hl (k := 1) rfl (nI_1 _) (by decide) rfl (fun ls hl => ?_)
              refine lv_goto (tgt := 47) S.1 S.2.1 dX7_cures_98 (by decide) ?_
              have hj8 := hI47.1
              have hlt : x47.1 < eN := by have h := c59; rw [nI_leI (by omega) (by omega)] at h; omega
              exact ih47 (x47.1 + 1, (x47.2.1 ||| 0), (upd x47.2.2 (6 + kN) (nI x47.1))) ls _ _ (⟨(by dsimp only; omega), fun i hi => (by dsimp only; rw [pk_un (by omega)]; exact hI47.2 i hi)⟩) (by dsimp only; omega) w (lv_sub hl [0, 1, 2, 3, 4, 5] rfl)
            · refine lv_iconst (v := 1) S.1 S.2.1 dX7_cures_84 (by decide) ?_
              refine lv_iload S.1 S.2.1 dX7_cures_85 (lv_at hl 0 rfl) ?_
              refine lv_ishl S.1 S.2.1 dX7_cures_87 ?_
              refine lv_goto (tgt := 92) S.1 S.2.1 dX7_cures_88 (by decide) ?_
              refine lv_ior S.1 S.2.1 dX7_cures_92 ?_
              refine lv_istore (lv' := [(4, .int (x47.2.1 ||| ((1 : Int32) <<< ((nI x47.1) &&& 31)))), (5, .int (nI x47.1)), (3, .int (fS (nI (6 + kN)).toNatClampNeg)), (2, .int (gateM fS i0)), (0, .ref mO), (1, .int i0)]) S.1 S.2.1 dX7_cures_93 hl (by decide) rfl (fun ls hl => ?_)
              refine lv_iinc (v := (nI (x47.1 + 1))) (lv' := [(5, .int (nI (x47.1 + 1))), (4, .int (x47.2.1 ||| ((1 : Int32) <<< ((nI x47.1) &&& 31)))), (3, .int (fS (nI (6 + kN)).toNatClampNeg)), (2, .int (gateM fS i0)), (0, .ref mO), (1, .int i0)]) S.1 S.2.1 dX7_cures_95 hl (k := 1) rfl (nI_1 _) (by decide) rfl (fun ls hl => ?_)
              refine lv_goto (tgt := 47) S.1 S.2.1 dX7_cures_98 (by decide) ?_
              have hj8 := hI47.1
              have hlt : x47.1 < eN := by have h := c59; rw [nI_leI (by omega) (by omega)] at h; omega
              exact ih47 (x47.1 + 1, (x47.2.1 ||| ((1 : Int32) <<< ((nI x47.1) &&& 31))), (upd x47.2.2 (6 + kN) (nI x47.1))) ls _ _ (⟨(by dsimp only; omega), fun i hi => (by dsimp only; rw [pk_un (by omega)]; exact hI47.2 i hi)⟩) (by dsimp only; omega) w (lv_sub hl [0, 1, 2, 3, 4, 5] rfl)
        · refine lv_iload_n S.1 S.2.1 dX7_cures_49 rfl (lv_at hl 2 rfl) ?_
          refine lv_if_ne (tgt := 57) S.1 S.2.1 dX7_cures_50 (by decide) (fun c50 => ?_) (fun c50 => ?_)
          · refine lv_bipush (v := 8) S.1 S.2.1 dX7_cures_57 (by decide) ?_
            exact J59 8 (by first | exact ⟨1, rfl, by decide⟩ | exact ⟨8, rfl, by decide⟩)
          · refine lv_iconst (v := 1) S.1 S.2.1 dX7_cures_53 (by decide) ?_
            refine lv_goto (tgt := 59) S.1 S.2.1 dX7_cures_54 (by decide) ?_
            exact J59 1 (by first | exact ⟨1, rfl, by decide⟩ | exact ⟨8, rfl, by decide⟩)
      · refine lv_iload_n S.1 S.2.1 dX7_cures_36 rfl (lv_at hl 1 rfl) ?_
        refine lv_if_ne (tgt := 44) S.1 S.2.1 dX7_cures_37 (by decide) (fun c37 => ?_) (fun c37 => ?_)
        · refine lv_iconst (v := 1) S.1 S.2.1 dX7_cures_44 (by decide) ?_
          exact J45 1 (by first | exact ⟨0, rfl, by decide⟩ | exact ⟨1, rfl, by decide⟩)
        · refine lv_iconst (v := 0) S.1 S.2.1 dX7_cures_40 (by decide) ?_
          refine lv_goto (tgt := 45) S.1 S.2.1 dX7_cures_41 (by decide) ?_
          exact J45 0 (by first | exact ⟨0, rfl, by decide⟩ | exact ⟨1, rfl, by decide⟩)
    · refine lv_aload_n S.1 S.2.1 dX7_cures_17 rfl (lv_at hl 1 rfl) ?_
      refine lv_iload_n S.1 S.2.1 dX7_cures_18 rfl (lv_at hl 0 rfl) ?_
      refine cq_i C w [0, 2] [1] [1, 0, 2] (wr := [(mS, .inl (G.2.1 2, 49, .inl fS))]) (w' := fun u : (Nat → Int32) => [(mO, .inr (7, [.ref mS, .ref mD, .ref mR, .ref mT, .int mt, .int ma, .int mn, .ref mW, .ref mQ, .ref mC, .int my, .ref mU, .ref mV, .int mm, .int mf, .int mg])), (mR, .inl (G.2.1 2, 3, .inl u))]) (ws2 := fun u : (Nat → Int32) => [(mO, .inr (7, [.ref mS, .ref mD, .ref mR, .ref mT, .int mt, .int ma, .int mn, .ref mW, .ref mQ, .ref mC, .int my, .ref mU, .ref mV, .int mm, .int mf, .int mg])), (mS, .inl (G.2.1 2, 49, .inl fS)), (mR, .inl (G.2.1 2, 3, .inl u))]) rfl rfl rfl (by decide) rfl (fun _ => rfl) (va_runV (As := [.int (gateM fS i0)]) (rest := []) S (c_X7_none l G mO mR _ mS mD mT mW mQ mC mU mV mt ma mn my mm mf mg fR (gateM fS i0)) (cwV 1 S.2.2.2.2 gX7_cures_X7_none rfl rfl rfl (by decide +kernel) ⟨Nat.le_of_ble_eq_true rfl, Nat.le_of_ble_eq_true rfl⟩) ⟨wPre_blind, va_recv C.1 w.1 (ci := 7) (q0 := 0) rfl rfl, wPre_at C w [0, 2] rfl rfl⟩ rfl rfl hl.1 rfl (lv_room (Nat.le_of_ble_eq_true rfl)) dX7_cures_19 ⟨Nat.le_of_ble_eq_true rfl, Nat.le_of_ble_eq_true rfl⟩) (fun r19_1 u19_1 H locs h19_1 w => ?_)
      have w : Wd G _ s [(mO, .inr (7, [.ref mS, .ref mD, .ref mR, .ref mT, .int mt, .int ma, .int mn, .ref mW, .ref mQ, .ref mC, .int my, .ref mU, .ref mV, .int mm, .int mf, .int mg])), (mS, .inl (G.2.1 2, 49, .inl fS)), (mR, .inl (G.2.1 2, 3, .inl u19_1))] H locs := w
      exact W.iret (v := r19_1) S.1 S.2.1 hr (fun t ht _ => ⟨⟨r19_1, (fS, u19_1), rfl, hok, by rw [ht]; exact w.1, w.2.1⟩, w.2.2.F ht⟩) w.2.2.2.2 dX7_cures_22
