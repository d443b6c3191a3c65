theorem im_X7_type_X7 : ∀ w ∈ u_ws RX7 TX7 16, w ∈ wsX7_type := by decide +kernel
set_option maxHeartbeats 4000000 in
set_option maxRecDepth 100000 in
theorem w_X7_type (l : Launch) (G : GT) (mO mR mT : Nat) (sz : Nat) (mS mD mW mQ mC mU mV : Nat) (ma mn my mm mf mg : Int32) (tN : Nat) (fR fT : Nat → Int32) (x0 : Int32) (htN : tN ≤ 120) : Met l yX7_type wsX7_type ({ frames := 1, cells := 0, slots := 0, locals := 22 }) (va_Pc [.ref mO, .int x0] (wPre G [(mO, .inr (7, [.ref mS, .ref mD, .ref mR, .ref mT, .int (nI tN), .int ma, .int mn, .ref mW, .ref mQ, .ref mC, .int my, .ref mU, .ref mV, .int mm, .int mf, .int mg])), (mR, .inl (G.2.1 2, 3, .inl fR)), (mT, .inl (G.2.1 2, 120, .inl fT))] sz)) (va_Qi (fun (r : Int32) (u : (Nat → Int32) × (Nat → Int32) × Nat) => r = typeM (nI tN) x0 ∧ u.2.2 = tyM tN x0 ∧ u.2.2 ≤ 120) (bW G (va_A [(mO, .inr (7, [.ref mS, .ref mD, .ref mR, .ref mT, .int (nI tN), .int ma, .int mn, .ref mW, .ref mQ, .ref mC, .int my, .ref mU, .ref mV, .int mm, .int mf, .int mg])), (mR, .inl (G.2.1 2, 3, .inl fR)), (mT, .inl (G.2.1 2, 120, .inl fT))] sz) (fun u : (Nat → Int32) × (Nat → Int32) × Nat => [(mO, .inr (7, [.ref mS, .ref mD, .ref mR, .ref mT, .int (nI u.2.2), .int ma, .int mn, .ref mW, .ref mQ, .ref mC, .int my, .ref mU, .ref mV, .int mm, .int mf, .int mg])), (mR, .inl (G.2.1 2, 3, .inl u.1)), (mT, .inl (G.2.1 2, 120, .inl u.2.1))])) (va_A [(mO, .inr (7, [.ref mS, .ref mD, .ref mR, .ref mT, .int (nI tN), .int ma, .int mn, .ref mW, .ref mQ, .ref mC, .int my, .ref mU, .ref mV, .int mm, .int mf, .int mg])), (mR, .inl (G.2.1 2, 3, .inl fR)), (mT, .inl (G.2.1 2, 120, .inl fT))] sz)) 0 0 (va_A [(mO, .inr (7, [.ref mS, .ref mD, .ref mR, .ref mT, .int (nI tN), .int ma, .int mn, .ref mW, .ref mQ, .ref mC, .int my, .ref mU, .ref mV, .int mm, .int mf, .int mg])), (mR, .inl (G.2.1 2, 3, .inl fR)), (mT, .inl (G.2.1 2, 120, .inl fT))] sz) := by
  refine met_go (cc := cX7_type) (maxL := 2) (ret := (some .int)) (own := RX7) (by decide) rfl rfl (Nat.le_of_ble_eq_true rfl) ?_
  intro p e s m below meth c ls S hr hlocks hname hsz C w hl
  have hl : lv_has ls 2 [(0, .ref mO), (1, .int x0)] := hl
  refine lv_iload_n S.1 S.2.1 dX7_type_0 rfl (lv_at hl 1 rfl) ?_
  refine lv_iconst (v := 0) S.1 S.2.1 dX7_type_1 (by decide) ?_
  refine lv_bipush (v := 127) S.1 S.2.1 dX7_type_2 (by decide) ?_
  refine cs_i (va_runS (As := [.int x0, .int 0, .int 127]) (rest := []) S (c_X7_in l G _ x0 0 127) (va_cwS 3 S.2.2.2.2 gX7_type_X7_in rfl rfl rfl (by decide +kernel) ⟨Nat.le_of_ble_eq_true rfl, Nat.le_of_ble_eq_true rfl⟩) ⟨wPre_blind, wPre_at C w [] rfl rfl⟩ rfl rfl hl.1 rfl (lv_room (Nat.le_of_ble_eq_true rfl)) dX7_type_4 ⟨Nat.le_of_ble_eq_true rfl, Nat.le_of_ble_eq_true rfl⟩) (fun r4 h4 => ?_)
  refine w_topi (y := (inF x0 0 127)) h4 ?_
  refine lv_if_ne (tgt := 17) S.1 S.2.1 dX7_type_7 (by decide) (fun c7 => ?_) (fun c7 => ?_)
  · refine lv_aload_n S.1 S.2.1 dX7_type_17 rfl (lv_at hl 0 rfl) ?_
    refine w_get S C w (CC := RX7) (T := TX7) (N := 16) (ref := "GateSumsModel") im_X7_type_X7 0 rfl rfl 4 (by decide) (List.mem_of_getElem? (i := 1) rfl) (fun _ h => h) rfl dX7_type_18 ?_
    refine lv_bipush (v := 120) S.1 S.2.1 dX7_type_21 (by decide) ?_
    refine lv_icmp_ne (tgt := 33) S.1 S.2.1 dX7_type_23 (by decide) (fun c23 => ?_) (fun c23 => ?_)
    · refine lv_aload_n S.1 S.2.1 dX7_type_33 rfl (lv_at hl 0 rfl) ?_
      refine w_get S C w (CC := RX7) (T := TX7) (N := 16) (ref := "GateSumsModel") im_X7_type_X7 0 rfl rfl 3 (by decide) (List.mem_of_getElem? (i := 2) rfl) (fun _ h => h) rfl dX7_type_34 ?_
      refine lv_aload_n S.1 S.2.1 dX7_type_37 rfl (lv_at hl 0 rfl) ?_
      refine w_get S C w (CC := RX7) (T := TX7) (N := 16) (ref := "GateSumsModel") im_X7_type_X7 0 rfl rfl 4 (by decide) (List.mem_of_getElem? (i := 1) rfl) (fun _ h => h) rfl dX7_type_38 ?_
      refine lv_iload_n S.1 S.2.1 dX7_type_41 rfl (lv_at hl 1 rfl) ?_
      refine w_iast S C w 2 rfl (nIin (t120 htN c23) (by decide)) (ws2 := [(mO, .inr (7, [.ref mS, .ref mD, .ref mR, .ref mT, .int (nI tN), .int ma, .int mn, .ref mW, .ref mQ, .ref mC, .int my, .ref mU, .ref mV, .int mm, .int mf, .int mg])), (mR, .inl (G.2.1 2, 3, .inl fR)), (mT, .inl (G.2.1 2, 120, .inl (upd fT (nI tN).toNatClampNeg x0)))]) rfl dX7_type_42 (fun H locs w => ?_)
      refine lv_aload_n S.1 S.2.1 dX7_type_43 rfl (lv_at hl 0 rfl) ?_
      refine lv_dup S.1 S.2.1 dX7_type_44 rfl ?_
      refine w_get S C w (CC := RX7) (T := TX7) (N := 16) (ref := "GateSumsModel") im_X7_type_X7 0 rfl rfl 4 (by decide) (List.mem_of_getElem? (i := 1) rfl) (fun _ h => h) rfl dX7_type_45 ?_
      refine lv_iconst (v := 1) S.1 S.2.1 dX7_type_48 (by decide) ?_
      refine lv_iadd S.1 S.2.1 dX7_type_49 ?_
      refine w_topi (y := (nI (tN + 1))) (nI_1 _) ?_
      refine w_put S C w (CC := RX7) (T := TX7) (N := 16) (ref := "GateSumsModel") im_X7_type_X7 tyX7 tyX7_ok nmX7 0 rfl rfl 4 (by decide) (List.mem_of_getElem? (i := 1) rfl) (fun _ h => h) rfl (ws2 := [(mO, .inr (7, [.ref mS, .ref mD, .ref mR, .ref mT, .int (nI (tN + 1)), .int ma, .int mn, .ref mW, .ref mQ, .ref mC, .int my, .ref mU, .ref mV, .int mm, .int mf, .int mg])), (mR, .inl (G.2.1 2, 3, .inl fR)), (mT, .inl (G.2.1 2, 120, .inl (upd fT (nI tN).toNatClampNeg x0)))]) (rfl) (rfl) (Nat.le_of_ble_eq_true rfl) rfl dX7_type_50 (fun H locs w => ?_)
      refine lv_aload_n S.1 S.2.1 dX7_type_53 rfl (lv_at hl 0 rfl) ?_
      refine w_get S C w (CC := RX7) (T := TX7) (N := 16) (ref := "GateSumsModel") im_X7_type_X7 0 rfl rfl 4 (by decide) (List.mem_of_getElem? (i := 1) rfl) (fun _ h => h) rfl dX7_type_54 ?_
      exact W.iret (v := (nI (tN + 1))) S.1 S.2.1 hr (fun t ht _ => ⟨⟨(nI (tN + 1)), (fR, (upd fT (nI tN).toNatClampNeg x0), (tN + 1)), rfl, ⟨by simp only [typeM, if_neg c7, if_neg c23]; exact (nI_1 _).symm, by have := t120 htN c23; simp only [tyM, if_neg c7, if_neg (show ¬ tN = 120 by omega)], by have := t120 htN c23; dsimp only; omega⟩, by rw [ht]; exact w.1, w.2.1⟩, w.2.2.F ht⟩) w.2.2.2.2 dX7_type_57
    · refine lv_aload_n S.1 S.2.1 dX7_type_26 rfl (lv_at hl 0 rfl) ?_
      refine lv_bipush (v := (-4)) S.1 S.2.1 dX7_type_27 (by decide) ?_
      refine cq_i C w [0, 1] [2] [1, 2, 0] (wr := [(mT, .inl (G.2.1 2, 120, .inl fT))]) (w' := fun u : Unit => [(mO, .inr (7, [.ref mS, .ref mD, .ref mR, .ref mT, .int (nI tN), .int ma, .int mn, .ref mW, .ref mQ, .ref mC, .int my, .ref mU, .ref mV, .int mm, .int mf, .int mg])), (mR, .inl (G.2.1 2, 3, .inl (upd fR 2 (fR 2 + 1))))]) (ws2 := fun u : Unit => [(mO, .inr (7, [.ref mS, .ref mD, .ref mR, .ref mT, .int (nI tN), .int ma, .int mn, .ref mW, .ref mQ, .ref mC, .int my, .ref mU, .ref mV, .int mm, .int mf, .int mg])), (mR, .inl (G.2.1 2, 3, .inl (upd fR 2 (fR 2 + 1)))), (mT, .inl (G.2.1 2, 120, .inl fT))]) rfl rfl rfl (by decide) rfl (fun _ => rfl) (va_runV (As := [.int (-4)]) (rest := []) S (c_X7_refuses_F l G mO mR _ mS mD mT mW mQ mC mU mV (nI tN) ma mn my mm mf mg fR) (cwV 1 S.2.2.2.2 gX7_type_X7_refuses rfl rfl rfl (by decide +kernel) ⟨Nat.le_of_ble_eq_true rfl, Nat.le_of_ble_eq_true rfl⟩) ⟨wPre_blind, va_recv C.1 w.1 (ci := 7) (q0 := 0) rfl rfl, wPre_at C w [0, 1] rfl rfl⟩ rfl rfl hl.1 rfl (lv_room (Nat.le_of_ble_eq_true rfl)) dX7_type_29 ⟨Nat.le_of_ble_eq_true rfl, Nat.le_of_ble_eq_true rfl⟩) (fun r29 u29 H locs h29 w => ?_)
      have w : Wd G _ s [(mO, .inr (7, [.ref mS, .ref mD, .ref mR, .ref mT, .int (nI tN), .int ma, .int mn, .ref mW, .ref mQ, .ref mC, .int my, .ref mU, .ref mV, .int mm, .int mf, .int mg])), (mR, .inl (G.2.1 2, 3, .inl (upd fR 2 (fR 2 + 1)))), (mT, .inl (G.2.1 2, 120, .inl fT))] H locs := w
      exact W.iret (v := r29) S.1 S.2.1 hr (fun t ht _ => ⟨⟨r29, ((upd fR 2 (fR 2 + 1)), fT, tN), rfl, ⟨by rw [h29]; simp only [typeM, if_neg c7, if_pos c23], by simp only [tyM, if_neg c7, if_pos (t120e htN c23)], htN⟩, by rw [ht]; exact w.1, w.2.1⟩, w.2.2.F ht⟩) w.2.2.2.2 dX7_type_32
  · refine lv_aload_n S.1 S.2.1 dX7_type_10 rfl (lv_at hl 0 rfl) ?_
    refine lv_bipush (v := (-2)) S.1 S.2.1 dX7_type_11 (by decide) ?_
    refine cq_i C w [0, 1] [2] [1, 2, 0] (wr := [(mT, .inl (G.2.1 2, 120, .inl fT))]) (w' := fun u : Unit => [(mO, .inr (7, [.ref mS, .ref mD, .ref mR, .ref mT, .int (nI tN), .int ma, .int mn, .ref mW, .ref mQ, .ref mC, .int my, .ref mU, .ref mV, .int mm, .int mf, .int mg])), (mR, .inl (G.2.1 2, 3, .inl (upd fR 0 (fR 0 + 1))))]) (ws2 := fun u : Unit => [(mO, .inr (7, [.ref mS, .ref mD, .ref mR, .ref mT, .int (nI tN), .int ma, .int mn, .ref mW, .ref mQ, .ref mC, .int my, .ref mU, .ref mV, .int mm, .int mf, .int mg])), (mR, .inl (G.2.1 2, 3, .inl (upd fR 0 (fR 0 + 1)))), (mT, .inl (G.2.1 2, 120, .inl fT))]) rfl rfl rfl (by decide) rfl (fun _ => rfl) (va_runV (As := [.int (-2)]) (rest := []) S (c_X7_refuses_B l G mO mR _ mS mD mT mW mQ mC mU mV (nI tN) ma mn my mm mf mg fR) (cwV 1 S.2.2.2.2 gX7_type_X7_refuses rfl rfl rfl (by decide +kernel) ⟨Nat.le_of_ble_eq_true rfl, Nat.le_of_ble_eq_true rfl⟩) ⟨wPre_blind, va_recv C.1 w.1 (ci := 7) (q0 := 0) rfl rfl, wPre_at C w [0, 1] rfl rfl⟩ rfl rfl hl.1 rfl (lv_room (Nat.le_of_ble_eq_true rfl)) dX7_type_13 ⟨Nat.le_of_ble_eq_true rfl, Nat.le_of_ble_eq_true rfl⟩) (fun r13 u13 H locs h13 w => ?_)
    have w : Wd G _ s [(mO, .inr (7, [.ref mS, .ref mD, .ref mR, .ref mT, .int (nI tN), .int ma, .int mn, .ref mW, .ref mQ, .ref mC, .int my, .ref mU, .ref mV, .int mm, .int mf, .int mg])), (mR, .inl (G.2.1 2, 3, .inl (upd fR 0 (fR 0 + 1)))), (mT, .inl (G.2.1 2, 120, .inl fT))] H locs := w
    exact W.iret (v := r13) S.1 S.2.1 hr (fun t ht _ => ⟨⟨r13, ((upd fR 0 (fR 0 + 1)), fT, tN), rfl, ⟨by rw [h13]; simp only [typeM, if_pos c7], by simp only [tyM, if_pos c7], htN⟩, by rw [ht]; exact w.1, w.2.1⟩, w.2.2.F ht⟩) w.2.2.2.2 dX7_type_16
theorem im_X7_kind_X7 : ∀ w ∈ u_ws RX7 TX7 16, w ∈ wsX7_kind := by decide +kernel
set_option maxHeartbeats 4000000 in
set_option maxRecDepth 100000 in
theorem w_X7_kind (l : Launch) (G : GT) (mO mS mR : Nat) (sz : Nat) (mD mT mW mQ mC mU mV : Nat) (mt ma mn my mm mf mg : Int32) (fS fR : Nat → Int32) (i0 j0 : Int32) (hok : okM fS) : Met l yX7_kind wsX7_kind ({ frames := 2, cells := 0, slots := 0, locals := 43 }) (va_Pc [.ref mO, .int i0, .int j0] (wPre G [(mO, .inr (7, [.ref mS, .ref mD, .ref mR, .ref mT, .int mt, .int ma, .int mn, .ref mW, .ref mQ, .ref mC, .int my, .ref mU, .ref mV, .int mm, .int mf, .int mg])), (mS, .inl (G.2.1 2, 49, .inl fS)), (mR, .inl (G.2.1 2, 3, .inl fR))] sz)) (va_Qi (fun (r : Int32) (u : (Nat → Int32) × (Nat → Int32)) => okM u.1) (bW G (va_A [(mO, .inr (7, [.ref mS, .ref mD, .ref mR, .ref mT, .int mt, .int ma, .int mn, .ref mW, .ref mQ, .ref mC, .int my, .ref mU, .ref mV, .int mm, .int mf, .int mg])), (mS, .inl (G.2.1 2, 49, .inl fS)), (mR, .inl (G.2.1 2, 3, .inl fR))] sz) (fun u : (Nat → Int32) × (Nat → Int32) => [(mO, .inr (7, [.ref mS, .ref mD, .ref mR, .ref mT, .int mt, .int ma, .int mn, .ref mW, .ref mQ, .ref mC, .int my, .ref mU, .ref mV, .int mm, .int mf, .int mg])), (mS, .inl (G.2.1 2, 49, .inl u.1)), (mR, .inl (G.2.1 2, 3, .inl u.2))])) (va_A [(mO, .inr (7, [.ref mS, .ref mD, .ref mR, .ref mT, .int mt, .int ma, .int mn, .ref mW, .ref mQ, .ref mC, .int my, .ref mU, .ref mV, .int mm, .int mf, .int mg])), (mS, .inl (G.2.1 2, 49, .inl fS)), (mR, .inl (G.2.1 2, 3, .inl fR))] sz)) 0 0 (va_A [(mO, .inr (7, [.ref mS, .ref mD, .ref mR, .ref mT, .int mt, .int ma, .int mn, .ref mW, .ref mQ, .ref mC, .int my, .ref mU, .ref mV, .int mm, .int mf, .int mg])), (mS, .inl (G.2.1 2, 49, .inl fS)), (mR, .inl (G.2.1 2, 3, .inl fR))] sz) := by
  refine met_go (cc := cX7_kind) (maxL := 5) (ret := (some .int)) (own := RX7) (by decide) rfl rfl (Nat.le_of_ble_eq_true rfl) ?_
  intro p e s m below meth c ls S hr hlocks hname hsz C w hl
  obtain ⟨nN, gN, oN, pN, qN, h0_, hnN, hg, hgN, ho, hoN, hp, hpN, hq, hqN⟩ := id hok
  have hl : lv_has ls 5 [(0, .ref mO), (1, .int i0), (2, .int j0)] := hl
  refine w_joini 59 [] (fun z59 => ¬ z59 = 0 → ¬ gateM fS i0 = 0) (fun z59 hz59 => ?_) (fun J59 => ?_)
  · refine lv_istore_n (lv' := [(3, .int z59), (0, .ref mO), (1, .int i0), (2, .int j0)]) S.1 S.2.1 dX7_kind_59 rfl hl (by decide) rfl (fun ls hl => ?_)
    refine lv_iload_n S.1 S.2.1 dX7_kind_60 rfl (lv_at hl 0 rfl) ?_
    refine lv_if_eq (tgt := 71) S.1 S.2.1 dX7_kind_61 (by decide) (fun c61 => ?_) (fun c61 => ?_)
    · refine lv_aload_n S.1 S.2.1 dX7_kind_71 rfl (lv_at hl 1 rfl) ?_
      refine lv_iload_n S.1 S.2.1 dX7_kind_72 rfl (lv_at hl 0 rfl) ?_
      refine cq_i C w [0, 2] [1] [1, 0, 2] (wr := [(mS, .inl (G.2.1 2, 49, .inl fS))]) (w' := fun u : (Nat → Int32) => [(mO, .inr (7, [.ref mS, .ref mD, .ref mR, .ref mT, .int mt, .int ma, .int mn, .ref mW, .ref mQ, .ref mC, .int my, .ref mU, .ref mV, .int mm, .int mf, .int mg])), (mR, .inl (G.2.1 2, 3, .inl u))]) (ws2 := fun u : (Nat → Int32) => [(mO, .inr (7, [.ref mS, .ref mD, .ref mR, .ref mT, .int mt, .int ma, .int mn, .ref mW, .ref mQ, .ref mC, .int my, .ref mU, .ref mV, .int mm, .int mf, .int mg])), (mS, .inl (G.2.1 2, 49, .inl fS)), (mR, .inl (G.2.1 2, 3, .inl u))]) rfl rfl rfl (by decide) rfl (fun _ => rfl) (va_runV (As := [.int z59]) (rest := []) S (c_X7_none l G mO mR _ mS mD mT mW mQ mC mU mV mt ma mn my mm mf mg fR z59) (cwV 1 S.2.2.2.2 gX7_kind_X7_none rfl rfl rfl (by decide +kernel) ⟨Nat.le_of_ble_eq_true rfl, Nat.le_of_ble_eq_true rfl⟩) ⟨wPre_blind, va_recv C.1 w.1 (ci := 7) (q0 := 0) rfl rfl, wPre_at C w [0, 2] rfl rfl⟩ rfl rfl hl.1 rfl (lv_room (Nat.le_of_ble_eq_true rfl)) dX7_kind_73 ⟨Nat.le_of_ble_eq_true rfl, Nat.le_of_ble_eq_true rfl⟩) (fun r73 u73 H locs h73 w => ?_)
      have w : Wd G _ s [(mO, .inr (7, [.ref mS, .ref mD, .ref mR, .ref mT, .int mt, .int ma, .int mn, .ref mW, .ref mQ, .ref mC, .int my, .ref mU, .ref mV, .int mm, .int mf, .int mg])), (mS, .inl (G.2.1 2, 49, .inl fS)), (mR, .inl (G.2.1 2, 3, .inl u73))] H locs := w
      exact W.iret (v := r73) S.1 S.2.1 hr (fun t ht _ => ⟨⟨r73, (fS, u73), rfl, hok, by rw [ht]; exact w.1, w.2.1⟩, w.2.2.F ht⟩) w.2.2.2.2 dX7_kind_76
    · refine lv_aload_n S.1 S.2.1 dX7_kind_64 rfl (lv_at hl 1 rfl) ?_
      refine cs_i (va_runV (As := []) (rest := []) S (c_X7_isThere l G mO mS _ mD mR mT mW mQ mC mU mV mt ma mn my mm mf mg fS) (cwV 0 S.2.2.2.2 gX7_kind_X7_isThere rfl rfl rfl (by decide +kernel) ⟨Nat.le_of_ble_eq_true rfl, Nat.le_of_ble_eq_true rfl⟩) ⟨wPre_blind, va_recv C.1 w.1 (ci := 7) (q0 := 0) rfl rfl, wPre_at C w [0, 1] rfl rfl⟩ rfl rfl hl.1 rfl (lv_room (Nat.le_of_ble_eq_true rfl)) dX7_kind_65 ⟨Nat.le_of_ble_eq_true rfl, Nat.le_of_ble_eq_true rfl⟩) (fun r65 h65 => ?_)
      refine w_topi (y := (thereM fS)) h65 ?_
      refine lv_if_ne (tgt := 77) S.1 S.2.1 dX7_kind_68 (by decide) (fun c68 => ?_) (fun c68 => ?_)
      · obtain ⟨kN, hkN, hke⟩ := gate_ok hg hgN (hz59 c61) c68
        refine lv_aload_n S.1 S.2.1 dX7_kind_77 rfl (lv_at hl 1 rfl) ?_
        refine w_get S C w (CC := RX7) (T := TX7) (N := 16) (ref := "GateSumsModel") im_X7_kind_X7 0 rfl rfl 0 (by decide) (List.mem_of_getElem? (i := 1) rfl) (fun _ h => h) rfl dX7_kind_78 ?_
        refine lv_bipush (v := 6) S.1 S.2.1 dX7_kind_81 (by decide) ?_
        refine lv_iload_n S.1 S.2.1 dX7_kind_83 rfl (lv_at hl 2 rfl) ?_
        refine lv_iadd S.1 S.2.1 dX7_kind_84 ?_
        refine w_topi (y := (nI (6 + kN))) (iadd 6 hke) ?_
        refine w_iald S C w 1 rfl (nIin (by omega) (by decide)) dX7_kind_85 ?_
        refine lv_istore (lv' := [(4, .int (fS (nI (6 + kN)).toNatClampNeg)), (3, .int z59), (0, .ref mO), (1, .int i0), (2, .int j0)]) S.1 S.2.1 dX7_kind_86 hl (by decide) rfl (fun ls hl => ?_)
        refine lv_aload_n S.1 S.2.1 dX7_kind_88 rfl (lv_at hl 2 rfl) ?_
        refine w_get S C w (CC := RX7) (T := TX7) (N := 16) (ref := "GateSumsModel") im_X7_kind_X7 0 rfl rfl 0 (by decide) (List.mem_of_getElem? (i := 1) rfl) (fun _ h => h) rfl dX7_kind_89 ?_
        refine lv_bipush (v := 6) S.1 S.2.1 dX7_kind_92 (by decide) ?_
        refine lv_iload_n S.1 S.2.1 dX7_kind_94 rfl (lv_at hl 3 rfl) ?_
        refine lv_iadd S.1 S.2.1 dX7_kind_95 ?_
        refine w_topi (y := (nI (6 + kN))) (iadd 6 hke) ?_
        refine lv_iload_n S.1 S.2.1 dX7_kind_96 rfl (lv_at hl 4 rfl) ?_
        refine w_iast S C w 1 rfl (nIin (by omega) (by decide)) (ws2 := [(mO, .inr (7, [.ref mS, .ref mD, .ref mR, .ref mT, .int mt, .int ma, .int mn, .ref mW, .ref mQ, .ref mC, .int my, .ref mU, .ref mV, .int mm, .int mf, .int mg])), (mS, .inl (G.2.1 2, 49, .inl (upd fS (nI (6 + kN)).toNatClampNeg j0))), (mR, .inl (G.2.1 2, 3, .inl fR))]) rfl dX7_kind_97 (fun H locs w => ?_)
        have w : Wd G (va_A [(mO, .inr (7, [.ref mS, .ref mD, .ref mR, .ref mT, .int mt, .int ma, .int mn, .ref mW, .ref mQ, .ref mC, .int my, .ref mU, .ref mV, .int mm, .int mf, .int mg])), (mS, .inl (G.2.1 2, 49, .inl fS)), (mR, .inl (G.2.1 2, 3, .inl fR))] sz) s [(mO, .inr (7, [.ref mS, .ref mD, .ref mR, .ref mT, .int mt, .int ma, .int mn, .ref mW, .ref mQ, .ref mC, .int my, .ref mU, .ref mV, .int mm, .int mf, .int mg])), (mS, .inl (G.2.1 2, 49, .inl (upd fS (6 + kN) j0))), (mR, .inl (G.2.1 2, 3, .inl fR))] H locs := by have h := nIc (j := 6 + kN) (by omega); rw [h] at w; exact w
        refine lv_iload S.1 S.2.1 dX7_kind_98 (lv_at hl 0 rfl) ?_
        exact W.iret (v := (fS (nI (6 + kN)).toNatClampNeg)) S.1 S.2.1 hr (fun t ht _ => ⟨⟨(fS (nI (6 + kN)).toNatClampNeg), ((upd fS (6 + kN) j0), fR), rfl, okM.upd hok (by omega) _, by rw [ht]; exact w.1, w.2.1⟩, w.2.2.F ht⟩) w.2.2.2.2 dX7_kind_100
      · refine lv_aload_n S.1 S.2.1 dX7_kind_71 rfl (lv_at hl 1 rfl) ?_
        refine lv_iload_n S.1 S.2.1 dX7_kind_72 rfl (lv_at hl 0 rfl) ?_
        refine cq_i C w [0, 2] [1] [1, 0, 2] (wr := [(mS, .inl (G.2.1 2, 49, .inl fS))]) (w' := fun u : (Nat → Int32) => [(mO, .inr (7, [.ref mS, .ref mD, .ref mR, .ref mT, .int mt, .int ma, .int mn, .ref mW, .ref mQ, .ref mC, .int my, .ref mU, .ref mV, .int mm, .int mf, .int mg])), (mR, .inl (G.2.1 2, 3, .inl u))]) (ws2 := fun u : (Nat → Int32) => [(mO, .inr (7, [.ref mS, .ref mD, .ref mR, .ref mT, .int mt, .int ma, .int mn, .ref mW, .ref mQ, .ref mC, .int my, .ref mU, .ref mV, .int mm, .int mf, .int mg])), (mS, .inl (G.2.1 2, 49, .inl fS)), (mR, .inl (G.2.1 2, 3, .inl u))]) rfl rfl rfl (by decide) rfl (fun _ => rfl) (va_runV (As := [.int z59]) (rest := []) S (c_X7_none l G mO mR _ mS mD mT mW mQ mC mU mV mt ma mn my mm mf mg fR z59) (cwV 1 S.2.2.2.2 gX7_kind_X7_none rfl rfl rfl (by decide +kernel) ⟨Nat.le_of_ble_eq_true rfl, Nat.le_of_ble_eq_true rfl⟩) ⟨wPre_blind, va_recv C.1 w.1 (ci := 7) (q0 := 0) rfl rfl, wPre_at C w [0, 2] rfl rfl⟩ rfl rfl hl.1 rfl (lv_room (Nat.le_of_ble_eq_true rfl)) dX7_kind_73 ⟨Nat.le_of_ble_eq_true rfl, Nat.le_of_ble_eq_true rfl⟩) (fun r73_1 u73_1 H locs h73_1 w => ?_)
        have w : Wd G _ s [(mO, .inr (7, [.ref mS, .ref mD, .ref mR, .ref mT, .int mt, .int ma, .int mn, .ref mW, .ref mQ, .ref mC, .int my, .ref mU, .ref mV, .int mm, .int mf, .int mg])), (mS, .inl (G.2.1 2, 49, .inl fS)), (mR, .inl (G.2.1 2, 3, .inl u73_1))] H locs := w
        exact W.iret (v := r73_1) S.1 S.2.1 hr (fun t ht _ => ⟨⟨r73_1, (fS, u73_1), rfl, hok, by rw [ht]; exact w.1, w.2.1⟩, w.2.2.F ht⟩) w.2.2.2.2 dX7_kind_76
  · refine lv_aload_n S.1 S.2.1 dX7_kind_0 rfl (lv_at hl 0 rfl) ?_
    refine lv_iload_n S.1 S.2.1 dX7_kind_1 rfl (lv_at hl 1 rfl) ?_
    refine cs_i (va_runV (As := [.int i0]) (rest := []) S (c_X7_isGate l G mO mS _ mD mR mT mW mQ mC mU mV mt ma mn my mm mf mg fS i0) (cwV 1 S.2.2.2.2 gX7_kind_X7_isGate rfl rfl rfl (by decide +kernel) ⟨Nat.le_of_ble_eq_true rfl, Nat.le_of_ble_eq_true rfl⟩) ⟨wPre_blind, va_recv C.1 w.1 (ci := 7) (q0 := 0) rfl rfl, wPre_at C w [0, 1] rfl rfl⟩ rfl rfl hl.1 rfl (lv_room (Nat.le_of_ble_eq_true rfl)) dX7_kind_2 ⟨Nat.le_of_ble_eq_true rfl, Nat.le_of_ble_eq_true rfl⟩) (fun r2 h2 => ?_)
    refine w_topi (y := (gateM fS i0)) h2 ?_
    refine lv_if_eq (tgt := 58) S.1 S.2.1 dX7_kind_5 (by decide) (fun c5 => ?_) (fun c5 => ?_)
    · refine lv_iconst (v := 0) S.1 S.2.1 dX7_kind_58 (by decide) ?_
      exact J59 0 (by first | exact fun _ => c5 | exact fun h => absurd rfl h)
    · refine lv_iload_n S.1 S.2.1 dX7_kind_8 rfl (lv_at hl 2 rfl) ?_
      refine lv_iconst (v := 0) S.1 S.2.1 dX7_kind_9 (by decide) ?_
      refine lv_bipush (v := 7) S.1 S.2.1 dX7_kind_10 (by decide) ?_
      refine cs_i (va_runS (As := [.int j0, .int 0, .int 7]) (rest := []) S (c_X7_in l G _ j0 0 7) (va_cwS 3 S.2.2.2.2 gX7_kind_X7_in rfl rfl rfl (by decide +kernel) ⟨Nat.le_of_ble_eq_true rfl, Nat.le_of_ble_eq_true rfl⟩) ⟨wPre_blind, wPre_at C w [] rfl rfl⟩ rfl rfl hl.1 rfl (lv_room (Nat.le_of_ble_eq_true rfl)) dX7_kind_12 ⟨Nat.le_of_ble_eq_true rfl, Nat.le_of_ble_eq_true rfl⟩) (fun r12 h12 => ?_)
      refine w_topi (y := (inF j0 0 7)) h12 ?_
      refine lv_if_eq (tgt := 58) S.1 S.2.1 dX7_kind_15 (by decide) (fun c15 => ?_) (fun c15 => ?_)
      · refine lv_iconst (v := 0) S.1 S.2.1 dX7_kind_58 (by decide) ?_
        exact J59 0 (by first | exact fun _ => c5 | exact fun h => absurd rfl h)
      · refine lv_aload_n S.1 S.2.1 dX7_kind_18 rfl (lv_at hl 0 rfl) ?_
        refine cs_i (va_runV (As := []) (rest := []) S (c_X7_isThere l G mO mS _ mD mR mT mW mQ mC mU mV mt ma mn my mm mf mg fS) (cwV 0 S.2.2.2.2 gX7_kind_X7_isThere rfl rfl rfl (by decide +kernel) ⟨Nat.le_of_ble_eq_true rfl, Nat.le_of_ble_eq_true rfl⟩) ⟨wPre_blind, va_recv C.1 w.1 (ci := 7) (q0 := 0) rfl rfl, wPre_at C w [0, 1] rfl rfl⟩ rfl rfl hl.1 rfl (lv_room (Nat.le_of_ble_eq_true rfl)) dX7_kind_19 ⟨Nat.le_of_ble_eq_true rfl, Nat.le_of_ble_eq_true rfl⟩) (fun r19 h19 => ?_)
        refine w_topi (y := (thereM fS)) h19 ?_
        refine lv_if_eq (tgt := 54) S.1 S.2.1 dX7_kind_22 (by decide) (fun c22 => ?_) (fun c22 => ?_)
        · refine lv_iconst (v := 1) S.1 S.2.1 dX7_kind_54 (by decide) ?_
          refine lv_goto (tgt := 59) S.1 S.2.1 dX7_kind_55 (by decide) ?_
          exact J59 1 (by first | exact fun _ => c5 | exact fun h => absurd rfl h)
        · obtain ⟨kN, hkN, hke⟩ := gate_ok hg hgN c5 c22
          refine lv_aload_n S.1 S.2.1 dX7_kind_25 rfl (lv_at hl 0 rfl) ?_
          refine w_get S C w (CC := RX7) (T := TX7) (N := 16) (ref := "GateSumsModel") im_X7_kind_X7 0 rfl rfl 0 (by decide) (List.mem_of_getElem? (i := 1) rfl) (fun _ h => h) rfl dX7_kind_26 ?_
          refine lv_bipush (v := 6) S.1 S.2.1 dX7_kind_29 (by decide) ?_
          refine lv_iload_n S.1 S.2.1 dX7_kind_31 rfl (lv_at hl 1 rfl) ?_
          refine lv_iadd S.1 S.2.1 dX7_kind_32 ?_
          refine w_topi (y := (nI (6 + kN))) (iadd 6 hke) ?_
          refine w_iald S C w 1 rfl (nIin (by omega) (by decide)) dX7_kind_33 ?_
          refine w_joini 42 [] (fun z42 => True) (fun z42 hz42 => ?_) (fun J42 => ?_)
          · refine lv_iload_n S.1 S.2.1 dX7_kind_42 rfl (lv_at hl 2 rfl) ?_
            refine w_joini 51 [.int z42] (fun z51 => True) (fun z51 hz51 => ?_) (fun J51 => ?_)
            · refine lv_icmp_ne (tgt := 58) S.1 S.2.1 dX7_kind_51 (by decide) (fun c51 => ?_) (fun c51 => ?_)
              · refine lv_iconst (v := 0) S.1 S.2.1 dX7_kind_58 (by decide) ?_
                exact J59 0 (by first | exact fun _ => c5 | exact fun h => absurd rfl h)
              · refine lv_iconst (v := 1) S.1 S.2.1 dX7_kind_54 (by decide) ?_
                refine lv_goto (tgt := 59) S.1 S.2.1 dX7_kind_55 (by decide) ?_
                exact J59 1 (by first | exact fun _ => c5 | exact fun h => absurd rfl h)
            · refine lv_if_ne (tgt := 50) S.1 S.2.1 dX7_kind_43 (by decide) (fun c43 => ?_) (fun c43 => ?_)
              · refine lv_iconst (v := 0) S.1 S.2.1 dX7_kind_50 (by decide) ?_
                exact J51 0 (trivial)
              · refine lv_iconst (v := 1) S.1 S.2.1 dX7_kind_46 (by decide) ?_
                refine lv_goto (tgt := 51) S.1 S.2.1 dX7_kind_47 (by decide) ?_
                exact J51 1 (trivial)
          · refine lv_if_ne (tgt := 41) S.1 S.2.1 dX7_kind_34 (by decide) (fun c34 => ?_) (fun c34 => ?_)
            · refine lv_iconst (v := 0) S.1 S.2.1 dX7_kind_41 (by decide) ?_
              exact J42 0 (trivial)
            · refine lv_iconst (v := 1) S.1 S.2.1 dX7_kind_37 (by decide) ?_
              refine lv_goto (tgt := 42) S.1 S.2.1 dX7_kind_38 (by decide) ?_
              exact J42 1 (trivial)
theorem im_X7_wire_X7 : ∀ w ∈ u_ws RX7 TX7 16, w ∈ wsX7_wire := by decide +kernel
set_option maxHeartbeats 4000000 in
set_option maxRecDepth 100000 in
theorem w_X7_wire (l : Launch) (G : GT) (mO mS mR : Nat) (sz : Nat) (mD mT mW mQ mC mU mV : Nat) (mt ma mn my mm mf mg : Int32) (fS fR : Nat → Int32) (i0 j0 k0 : Int32) (hok : okM fS) : Met l yX7_wire wsX7_wire ({ frames := 2, cells := 0, slots := 0, locals := 43 }) (va_Pc [.ref mO, .int i0, .int j0, .int k0] (wPre G [(mO, .inr (7, [.ref mS, .ref mD, .ref mR, .ref mT, .int mt, .int ma, .int mn, .ref mW, .ref mQ, .ref mC, .int my, .ref mU, .ref mV, .int mm, .int mf, .int mg])), (mS, .inl (G.2.1 2, 49, .inl fS)), (mR, .inl (G.2.1 2, 3, .inl fR))] sz)) (va_Qi (fun (r : Int32) (u : (Nat → Int32) × (Nat → Int32)) => okM u.1) (bW G (va_A [(mO, .inr (7, [.ref mS, .ref mD, .ref mR, .ref mT, .int mt, .int ma, .int mn, .ref mW, .ref mQ, .ref mC, .int my, .ref mU, .ref mV, .int mm, .int mf, .int mg])), (mS, .inl (G.2.1 2, 49, .inl fS)), (mR, .inl (G.2.1 2, 3, .inl fR))] sz) (fun u : (Nat → Int32) × (Nat → Int32) => [(mO, .inr (7, [.ref mS, .ref mD, .ref mR, .ref mT, .int mt, .int ma, .int mn, .ref mW, .ref mQ, .ref mC, .int my, .ref mU, .ref mV, .int mm, .int mf, .int mg])), (mS, .inl (G.2.1 2, 49, .inl u.1)), (mR, .inl (G.2.1 2, 3, .inl u.2))])) (va_A [(mO, .inr (7, [.ref mS, .ref mD, .ref mR, .ref mT, .int mt, .int ma, .int mn, .ref mW, .ref mQ, .ref mC, .int my, .ref mU, .ref mV, .int mm, .int mf, .int mg])), (mS, .inl (G.2.1 2, 49, .inl fS)), (mR, .inl (G.2.1 2, 3, .inl fR))] sz)) 0 0 (va_A [(mO, .inr (7, [.ref mS, .ref mD, .ref mR, .ref mT, .int mt, .int ma, .int mn, .ref mW, .ref mQ, .ref mC, .int my, .ref mU, .ref mV, .int mm, .int mf, .int mg])), (mS, .inl (G.2.1 2, 49, .inl fS)), (mR, .inl (G.2.1 2, 3, .inl fR))] sz) := by
  refine met_go (cc := cX7_wire) (maxL := 7) (ret := (some .int)) (own := RX7) (by decide) rfl rfl (Nat.le_of_ble_eq_true rfl) ?_
  intro p e s m below meth c ls S hr hlocks hname hsz C w hl
  obtain ⟨nN, gN, oN, pN, qN, h0_, hnN, hg, hgN, ho, hoN, hp, hpN, hq, hqN⟩ := id hok
  have hl : lv_has ls 7 [(0, .ref mO), (1, .int i0), (2, .int j0), (3, .int k0)] := hl
  refine w_joini 76 [] (fun z76 => ¬ z76 = 0 → ¬ gateM fS i0 = 0) (fun z76 hz76 => ?_) (fun J76 => ?_)
  · refine lv_istore (lv' := [(4, .int z76), (0, .ref mO), (1, .int i0), (2, .int j0), (3, .int k0)]) S.1 S.2.1 dX7_wire_76 hl (by decide) rfl (fun ls hl => ?_)
    refine lv_iload S.1 S.2.1 dX7_wire_78 (lv_at hl 0 rfl) ?_
    refine lv_if_eq (tgt := 90) S.1 S.2.1 dX7_wire_80 (by decide) (fun c80 => ?_) (fun c80 => ?_)
    · refine lv_aload_n S.1 S.2.1 dX7_wire_90 rfl (lv_at hl 1 rfl) ?_
      refine lv_iload S.1 S.2.1 dX7_wire_91 (lv_at hl 0 rfl) ?_
      refine cq_i C w [0, 2] [1] [1, 0, 2] (wr := [(mS, .inl (G.2.1 2, 49, .inl fS))]) (w' := fun u : (Nat → Int32) => [(mO, .inr (7, [.ref mS, .ref mD, .ref mR, .ref mT, .int mt, .int ma, .int mn, .ref mW, .ref mQ, .ref mC, .int my, .ref mU, .ref mV, .int mm, .int mf, .int mg])), (mR, .inl (G.2.1 2, 3, .inl u))]) (ws2 := fun u : (Nat → Int32) => [(mO, .inr (7, [.ref mS, .ref mD, .ref mR, .ref mT, .int mt, .int ma, .int mn, .ref mW, .ref mQ, .ref mC, .int my, .ref mU, .ref mV, .int mm, .int mf, .int mg])), (mS, .inl (G.2.1 2, 49, .inl fS)), (mR, .inl (G.2.1 2, 3, .inl u))]) rfl rfl rfl (by decide) rfl (fun _ => rfl) (va_runV (As := [.int z76]) (rest := []) S (c_X7_none l G mO mR _ mS mD mT mW mQ mC mU mV mt ma mn my mm mf mg fR z76) (cwV 1 S.2.2.2.2 gX7_wire_X7_none rfl rfl rfl (by decide +kernel) ⟨Nat.le_of_ble_eq_true rfl, Nat.le_of_ble_eq_true rfl⟩) ⟨wPre_blind, va_recv C.1 w.1 (ci := 7) (q0 := 0) rfl rfl, wPre_at C w [0, 2] rfl rfl⟩ rfl rfl hl.1 rfl (lv_room (Nat.le_of_ble_eq_true rfl)) dX7_wire_93 ⟨Nat.le_of_ble_eq_true rfl, Nat.le_of_ble_eq_true rfl⟩) (fun r93 u93 H locs h93 w => ?_)
      have w : Wd G _ s [(mO, .inr (7, [.ref mS, .ref mD, .ref mR, .ref mT, .int mt, .int ma, .int mn, .ref mW, .ref mQ, .ref mC, .int my, .ref mU, .ref mV, .int mm, .int mf, .int mg])), (mS, .inl (G.2.1 2, 49, .inl fS)), (mR, .inl (G.2.1 2, 3, .inl u93))] H locs := w
      exact W.iret (v := r93) S.1 S.2.1 hr (fun t ht _ => ⟨⟨r93, (fS, u93), rfl, hok, by rw [ht]; exact w.1, w.2.1⟩, w.2.2.F ht⟩) w.2.2.2.2 dX7_wire_96
    · refine lv_aload_n S.1 S.2.1 dX7_wire_83 rfl (lv_at hl 1 rfl) ?_
      refine cs_i (va_runV (As := []) (rest := []) S (c_X7_isThere l G mO mS _ mD mR mT mW mQ mC mU mV mt ma mn my mm mf mg fS) (cwV 0 S.2.2.2.2 gX7_wire_X7_isThere rfl rfl rfl (by decide +kernel) ⟨Nat.le_of_ble_eq_true rfl, Nat.le_of_ble_eq_true rfl⟩) ⟨wPre_blind, va_recv C.1 w.1 (ci := 7) (q0 := 0) rfl rfl, wPre_at C w [0, 1] rfl rfl⟩ rfl rfl hl.1 rfl (lv_room (Nat.le_of_ble_eq_true rfl)) dX7_wire_84 ⟨Nat.le_of_ble_eq_true rfl, Nat.le_of_ble_eq_true rfl⟩) (fun r84 h84 => ?_)
      refine w_topi (y := (thereM fS)) h84 ?_
      refine lv_if_ne (tgt := 97) S.1 S.2.1 dX7_wire_87 (by decide) (fun c87 => ?_) (fun c87 => ?_)
      · refine w_joini 108 [] (fun z108 => ∃ b : Nat, z108 = nI b ∧ 6 ≤ b ∧ b ≤ 30) (fun z108 hz108 => ?_) (fun J108 => ?_)
        · obtain ⟨kN, hkN, hke⟩ := gate_ok hg hgN (hz76 c80) c87
          obtain ⟨bN, hbe, hb1, hb2⟩ := hz108
          refine w_topi (y := (nI bN)) (hbe) ?_
          refine lv_iload_n S.1 S.2.1 dX7_wire_108 rfl (lv_at hl 2 rfl) ?_
          refine lv_iadd S.1 S.2.1 dX7_wire_109 ?_
          refine w_topi (y := (nI (bN + kN))) (by rw [hke]; exact nI_add _ _) ?_
          refine lv_istore (lv' := [(5, .int (nI (bN + kN))), (4, .int z76), (0, .ref mO), (1, .int i0), (2, .int j0), (3, .int k0)]) S.1 S.2.1 dX7_wire_110 hl (by decide) rfl (fun ls hl => ?_)
          refine lv_aload_n S.1 S.2.1 dX7_wire_112 rfl (lv_at hl 2 rfl) ?_
          refine w_get S C w (CC := RX7) (T := TX7) (N := 16) (ref := "GateSumsModel") im_X7_wire_X7 0 rfl rfl 0 (by decide) (List.mem_of_getElem? (i := 1) rfl) (fun _ h => h) rfl dX7_wire_113 ?_
          refine lv_iload S.1 S.2.1 dX7_wire_116 (lv_at hl 0 rfl) ?_
          refine w_iald S C w 1 rfl (nIin (by omega) (by decide)) dX7_wire_118 ?_
          refine lv_istore (lv' := [(6, .int (fS (nI (bN + kN)).toNatClampNeg)), (5, .int (nI (bN + kN))), (4, .int z76), (0, .ref mO), (1, .int i0), (2, .int j0), (3, .int k0)]) S.1 S.2.1 dX7_wire_119 hl (by decide) rfl (fun ls hl => ?_)
          refine lv_aload_n S.1 S.2.1 dX7_wire_121 rfl (lv_at hl 3 rfl) ?_
          refine w_get S C w (CC := RX7) (T := TX7) (N := 16) (ref := "GateSumsModel") im_X7_wire_X7 0 rfl rfl 0 (by decide) (List.mem_of_getElem? (i := 1) rfl) (fun _ h => h) rfl dX7_wire_122 ?_
          refine lv_iload S.1 S.2.1 dX7_wire_125 (lv_at hl 1 rfl) ?_
          refine lv_iload_n S.1 S.2.1 dX7_wire_127 rfl (lv_at hl 6 rfl) ?_
          refine w_iast S C w 1 rfl (nIin (by omega) (by decide)) (ws2 := [(mO, .inr (7, [.ref mS, .ref mD, .ref mR, .ref mT, .int mt, .int ma, .int mn, .ref mW, .ref mQ, .ref mC, .int my, .ref mU, .ref mV, .int mm, .int mf, .int mg])), (mS, .inl (G.2.1 2, 49, .inl (upd fS (nI (bN + kN)).toNatClampNeg k0))), (mR, .inl (G.2.1 2, 3, .inl fR))]) rfl dX7_wire_128 (fun H locs w => ?_)
          have w : Wd G (va_A [(mO, .inr (7, [.ref mS, .ref mD, .ref mR, .ref mT, .int mt, .int ma, .int mn, .ref mW, .ref mQ, .ref mC, .int my, .ref mU, .ref mV, .int mm, .int mf, .int mg])), (mS, .inl (G.2.1 2, 49, .inl fS)), (mR, .inl (G.2.1 2, 3, .inl fR))] sz) s [(mO, .inr (7, [.ref mS, .ref mD, .ref mR, .ref mT, .int mt, .int ma, .int mn, .ref mW, .ref mQ, .ref mC, .int my, .ref mU, .ref mV, .int mm, .int mf, .int mg])), (mS, .inl (G.2.1 2, 49, .inl (upd fS (bN + kN) k0))), (mR, .inl (G.2.1 2, 3, .inl fR))] H locs := by have h := nIc (j := bN + kN) (by omega); rw [h] at w; exact w
          refine lv_iload S.1 S.2.1 dX7_wire_129 (lv_at hl 0 rfl) ?_
          exact W.iret (v := (fS (nI (bN + kN)).toNatClampNeg)) S.1 S.2.1 hr (fun t ht _ => ⟨⟨(fS (nI (bN + kN)).toNatClampNeg), ((upd fS (bN + kN) k0), fR), rfl, okM.upd hok (by omega) _, by rw [ht]; exact w.1, w.2.1⟩, w.2.2.F ht⟩) w.2.2.2.2 dX7_wire_131
        · refine lv_iload_n S.1 S.2.1 dX7_wire_97 rfl (lv_at hl 3 rfl) ?_
          refine lv_if_ne (tgt := 106) S.1 S.2.1 dX7_wire_98 (by decide) (fun c98 => ?_) (fun c98 => ?_)
          · refine lv_bipush (v := 30) S.1 S.2.1 dX7_wire_106 (by decide) ?_
            exact J108 30 (by first | exact ⟨18, rfl, by decide, by decide⟩ | exact ⟨30, rfl, by decide, by decide⟩)
          · refine lv_bipush (v := 18) S.1 S.2.1 dX7_wire_101 (by decide) ?_
            refine lv_goto (tgt := 108) S.1 S.2.1 dX7_wire_103 (by decide) ?_
            exact J108 18 (by first | exact ⟨18, rfl, by decide, by decide⟩ | exact ⟨30, rfl, by decide, by decide⟩)
      · refine lv_aload_n S.1 S.2.1 dX7_wire_90 rfl (lv_at hl 1 rfl) ?_
        refine lv_iload S.1 S.2.1 dX7_wire_91 (lv_at hl 0 rfl) ?_
        refine cq_i C w [0, 2] [1] [1, 0, 2] (wr := [(mS, .inl (G.2.1 2, 49, .inl fS))]) (w' := fun u : (Nat → Int32) => [(mO, .inr (7, [.ref mS, .ref mD, .ref mR, .ref mT, .int mt, .int ma, .int mn, .ref mW, .ref mQ, .ref mC, .int my, .ref mU, .ref mV, .int mm, .int mf, .int mg])), (mR, .inl (G.2.1 2, 3, .inl u))]) (ws2 := fun u : (Nat → Int32) => [(mO, .inr (7, [.ref mS, .ref mD, .ref mR, .ref mT, .int mt, .int ma, .int mn, .ref mW, .ref mQ, .ref mC, .int my, .ref mU, .ref mV, .int mm, .int mf, .int mg])), (mS, .inl (G.2.1 2, 49, .inl fS)), (mR, .inl (G.2.1 2, 3, .inl u))]) rfl rfl rfl (by decide) rfl (fun _ => rfl) (va_runV (As := [.int z76]) (rest := []) S (c_X7_none l G mO mR _ mS mD mT mW mQ mC mU mV mt ma mn my mm mf mg fR z76) (cwV 1 S.2.2.2.2 gX7_wire_X7_none rfl rfl rfl (by decide +kernel) ⟨Nat.le_of_ble_eq_true rfl, Nat.le_of_ble_eq_true rfl⟩) ⟨wPre_blind, va_recv C.1 w.1 (ci := 7) (q0 := 0) rfl rfl, wPre_at C w [0, 2] rfl rfl⟩ rfl rfl hl.1 rfl (lv_room (Nat.le_of_ble_eq_true rfl)) dX7_wire_93 ⟨Nat.le_of_ble_eq_true rfl, Nat.le_of_ble_eq_true rfl⟩) (fun r93_1 u93_1 H locs h93_1 w => ?_)
        have w : Wd G _ s [(mO, .inr (7, [.ref mS, .ref mD, .ref mR, .ref mT, .int mt, .int ma, .int mn, .ref mW, .ref mQ, .ref mC, .int my, .ref mU, .ref mV, .int mm, .int mf, .int mg])), (mS, .inl (G.2.1 2, 49, .inl fS)), (mR, .inl (G.2.1 2, 3, .inl u93_1))] H locs := w
        exact W.iret (v := r93_1) S.1 S.2.1 hr (fun t ht _ => ⟨⟨r93_1, (fS, u93_1), rfl, hok, by rw [ht]; exact w.1, w.2.1⟩, w.2.2.F ht⟩) w.2.2.2.2 dX7_wire_96
  · refine lv_aload_n S.1 S.2.1 dX7_wire_0 rfl (lv_at hl 0 rfl) ?_
    refine lv_iload_n S.1 S.2.1 dX7_wire_1 rfl (lv_at hl 1 rfl) ?_
    refine cs_i (va_runV (As := [.int i0]) (rest := []) S (c_X7_isGate l G mO mS _ mD mR mT mW mQ mC mU mV mt ma mn my mm mf mg fS i0) (cwV 1 S.2.2.2.2 gX7_wire_X7_isGate rfl rfl rfl (by decide +kernel) ⟨Nat.le_of_ble_eq_true rfl, Nat.le_of_ble_eq_true rfl⟩) ⟨wPre_blind, va_recv C.1 w.1 (ci := 7) (q0 := 0) rfl rfl, wPre_at C w [0, 1] rfl rfl⟩ rfl rfl hl.1 rfl (lv_room (Nat.le_of_ble_eq_true rfl)) dX7_wire_2 ⟨Nat.le_of_ble_eq_true rfl, Nat.le_of_ble_eq_true rfl⟩) (fun r2 h2 => ?_)
    refine w_topi (y := (gateM fS i0)) h2 ?_
    refine lv_if_eq (tgt := 75) S.1 S.2.1 dX7_wire_5 (by decide) (fun c5 => ?_) (fun c5 => ?_)
    · refine lv_iconst (v := 0) S.1 S.2.1 dX7_wire_75 (by decide) ?_
      exact J76 0 (by first | exact fun _ => c5 | exact fun h => absurd rfl h)
    · refine lv_iload_n S.1 S.2.1 dX7_wire_8 rfl (lv_at hl 2 rfl) ?_
      refine lv_iconst (v := 0) S.1 S.2.1 dX7_wire_9 (by decide) ?_
      refine lv_iconst (v := 1) S.1 S.2.1 dX7_wire_10 (by decide) ?_
      refine cs_i (va_runS (As := [.int j0, .int 0, .int 1]) (rest := []) S (c_X7_in l G _ j0 0 1) (va_cwS 3 S.2.2.2.2 gX7_wire_X7_in rfl rfl rfl (by decide +kernel) ⟨Nat.le_of_ble_eq_true rfl, Nat.le_of_ble_eq_true rfl⟩) ⟨wPre_blind, wPre_at C w [] rfl rfl⟩ rfl rfl hl.1 rfl (lv_room (Nat.le_of_ble_eq_true rfl)) dX7_wire_11 ⟨Nat.le_of_ble_eq_true rfl, Nat.le_of_ble_eq_true rfl⟩) (fun r11 h11 => ?_)
      refine w_topi (y := (inF j0 0 1)) h11 ?_
      refine lv_if_eq (tgt := 75) S.1 S.2.1 dX7_wire_14 (by decide) (fun c14 => ?_) (fun c14 => ?_)
      · refine lv_iconst (v := 0) S.1 S.2.1 dX7_wire_75 (by decide) ?_
        exact J76 0 (by first | exact fun _ => c5 | exact fun h => absurd rfl h)
      · refine lv_aload_n S.1 S.2.1 dX7_wire_17 rfl (lv_at hl 0 rfl) ?_
        refine cs_i (va_runV (As := []) (rest := []) S (c_X7_isThere l G mO mS _ mD mR mT mW mQ mC mU mV mt ma mn my mm mf mg fS) (cwV 0 S.2.2.2.2 gX7_wire_X7_isThere rfl rfl rfl (by decide +kernel) ⟨Nat.le_of_ble_eq_true rfl, Nat.le_of_ble_eq_true rfl⟩) ⟨wPre_blind, va_recv C.1 w.1 (ci := 7) (q0 := 0) rfl rfl, wPre_at C w [0, 1] rfl rfl⟩ rfl rfl hl.1 rfl (lv_room (Nat.le_of_ble_eq_true rfl)) dX7_wire_18 ⟨Nat.le_of_ble_eq_true rfl, Nat.le_of_ble_eq_true rfl⟩) (fun r18 h18 => ?_)
        refine w_topi (y := (thereM fS)) h18 ?_
        refine lv_if_eq (tgt := 61) S.1 S.2.1 dX7_wire_21 (by decide) (fun c21 => ?_) (fun c21 => ?_)
        · refine lv_iload_n S.1 S.2.1 dX7_wire_61 rfl (lv_at hl 3 rfl) ?_
          refine lv_iconst (v := 0) S.1 S.2.1 dX7_wire_62 (by decide) ?_
          refine lv_bipush (v := 17) S.1 S.2.1 dX7_wire_63 (by decide) ?_
          refine cs_i (va_runS (As := [.int k0, .int 0, .int 17]) (rest := []) S (c_X7_in l G _ k0 0 17) (va_cwS 3 S.2.2.2.2 gX7_wire_X7_in rfl rfl rfl (by decide +kernel) ⟨Nat.le_of_ble_eq_true rfl, Nat.le_of_ble_eq_true rfl⟩) ⟨wPre_blind, wPre_at C w [] rfl rfl⟩ rfl rfl hl.1 rfl (lv_room (Nat.le_of_ble_eq_true rfl)) dX7_wire_65 ⟨Nat.le_of_ble_eq_true rfl, Nat.le_of_ble_eq_true rfl⟩) (fun r65 h65 => ?_)
          refine w_topi (y := (inF k0 0 17)) h65 ?_
          refine lv_if_eq (tgt := 75) S.1 S.2.1 dX7_wire_68 (by decide) (fun c68 => ?_) (fun c68 => ?_)
          · refine lv_iconst (v := 0) S.1 S.2.1 dX7_wire_75 (by decide) ?_
            exact J76 0 (by first | exact fun _ => c5 | exact fun h => absurd rfl h)
          · refine lv_iconst (v := 1) S.1 S.2.1 dX7_wire_71 (by decide) ?_
            refine lv_goto (tgt := 76) S.1 S.2.1 dX7_wire_72 (by decide) ?_
            exact J76 1 (by first | exact fun _ => c5 | exact fun h => absurd rfl h)
        · refine lv_iload_n S.1 S.2.1 dX7_wire_24 rfl (lv_at hl 3 rfl) ?_
          refine lv_iconst (v := 0) S.1 S.2.1 dX7_wire_25 (by decide) ?_
          refine lv_aload_n S.1 S.2.1 dX7_wire_26 rfl (lv_at hl 0 rfl) ?_
          refine w_get S C w (CC := RX7) (T := TX7) (N := 16) (ref := "GateSumsModel") im_X7_wire_X7 0 rfl rfl 0 (by decide) (List.mem_of_getElem? (i := 1) rfl) (fun _ h => h) rfl dX7_wire_27 ?_
          refine lv_iconst (v := 0) S.1 S.2.1 dX7_wire_30 (by decide) ?_
          refine w_iald S C w 1 rfl (by unfold vp_in; decide) dX7_wire_31 ?_
          refine lv_iload_n S.1 S.2.1 dX7_wire_32 rfl (lv_at hl 1 rfl) ?_
          refine lv_iadd S.1 S.2.1 dX7_wire_33 ?_
          refine lv_iconst (v := 1) S.1 S.2.1 dX7_wire_34 (by decide) ?_
          refine lv_isub S.1 S.2.1 dX7_wire_35 ?_
          refine cs_i (va_runS (As := [.int k0, .int 0, .int (((fS (0 : Int32).toNatClampNeg) + i0) - 1)]) (rest := []) S (c_X7_in l G _ k0 0 (((fS (0 : Int32).toNatClampNeg) + i0) - 1)) (va_cwS 3 S.2.2.2.2 gX7_wire_X7_in rfl rfl rfl (by decide +kernel) ⟨Nat.le_of_ble_eq_true rfl, Nat.le_of_ble_eq_true rfl⟩) ⟨wPre_blind, wPre_at C w [] rfl rfl⟩ rfl rfl hl.1 rfl (lv_room (Nat.le_of_ble_eq_true rfl)) dX7_wire_36 ⟨Nat.le_of_ble_eq_true rfl, Nat.le_of_ble_eq_true rfl⟩) (fun r36 h36 => ?_)
          refine w_topi (y := (inF k0 0 (((fS (0 : Int32).toNatClampNeg) + i0) - 1))) h36 ?_
          refine lv_if_eq (tgt := 75) S.1 S.2.1 dX7_wire_39 (by decide) (fun c39 => ?_) (fun c39 => ?_)
          · refine lv_iconst (v := 0) S.1 S.2.1 dX7_wire_75 (by decide) ?_
            exact J76 0 (by first | exact fun _ => c5 | exact fun h => absurd rfl h)
          · refine lv_iload_n S.1 S.2.1 dX7_wire_42 rfl (lv_at hl 2 rfl) ?_
            refine lv_if_eq (tgt := 71) S.1 S.2.1 dX7_wire_43 (by decide) (fun c43 => ?_) (fun c43 => ?_)
            · refine lv_iconst (v := 1) S.1 S.2.1 dX7_wire_71 (by decide) ?_
              refine lv_goto (tgt := 76) S.1 S.2.1 dX7_wire_72 (by decide) ?_
              exact J76 1 (by first | exact fun _ => c5 | exact fun h => absurd rfl h)
            · obtain ⟨kN, hkN, hke⟩ := gate_ok hg hgN c5 c21
              refine lv_aload_n S.1 S.2.1 dX7_wire_46 rfl (lv_at hl 0 rfl) ?_
              refine w_get S C w (CC := RX7) (T := TX7) (N := 16) (ref := "GateSumsModel") im_X7_wire_X7 0 rfl rfl 0 (by decide) (List.mem_of_getElem? (i := 1) rfl) (fun _ h => h) rfl dX7_wire_47 ?_
              refine lv_bipush (v := 6) S.1 S.2.1 dX7_wire_50 (by decide) ?_
              refine lv_iload_n S.1 S.2.1 dX7_wire_52 rfl (lv_at hl 1 rfl) ?_
              refine lv_iadd S.1 S.2.1 dX7_wire_53 ?_
              refine w_topi (y := (nI (6 + kN))) (iadd 6 hke) ?_
              refine w_iald S C w 1 rfl (nIin (by omega) (by decide)) dX7_wire_54 ?_
              refine lv_if_eq (tgt := 75) S.1 S.2.1 dX7_wire_55 (by decide) (fun c55 => ?_) (fun c55 => ?_)
              · refine lv_iconst (v := 0) S.1 S.2.1 dX7_wire_75 (by decide) ?_
                exact J76 0 (by first | exact fun _ => c5 | exact fun h => absurd rfl h)
              · refine lv_goto (tgt := 71) S.1 S.2.1 dX7_wire_58 (by decide) ?_
                refine lv_iconst (v := 1) S.1 S.2.1 dX7_wire_71 (by decide) ?_
                refine lv_goto (tgt := 76) S.1 S.2.1 dX7_wire_72 (by decide) ?_
                exact J76 1 (by first | exact fun _ => c5 | exact fun h => absurd rfl h)
