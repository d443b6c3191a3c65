theorem im_X7_of_X7 : ∀ w ∈ u_ws RX7 TX7 16, w ∈ wsX7_of := by decide +kernel
theorem im_X7_told_X7 : ∀ w ∈ u_ws RX7 TX7 16, w ∈ wsX7_told := by decide +kernel
set_option maxHeartbeats 4000000 in
set_option maxRecDepth 100000 in
theorem w_X7_runs (l : Launch) (G : GT) (mO mS mR : Nat) (sz : Nat) (mD mT mW mQ mC mU mV : Nat) (mt ma mn my mm mf mg : Int32) (fS fR : Nat → Int32) (i0 j0 : Int32) (hok : okM fS) : Met l yX7_runs wsX7_runs ({ frames := 3, cells := 0, slots := 0, locals := 73 }) (va_Pc [.ref mO, .int i0, .int j0] (wPre G [(mO, .inr (7, [.ref mS, .ref mD, .ref mR, .ref mT, .int mt, .int ma, .int mn, .ref mW, .ref mQ, .ref mC, .int my, .ref mU, .ref mV, .int mm, .int mf, .int mg])), (mS, .inl (G.2.1 2, 49, .inl fS)), (mR, .inl (G.2.1 2, 3, .inl fR))] sz)) (va_Qi (fun (r : Int32) (u : (Nat → Int32)) => True) (bW G (va_A [(mO, .inr (7, [.ref mS, .ref mD, .ref mR, .ref mT, .int mt, .int ma, .int mn, .ref mW, .ref mQ, .ref mC, .int my, .ref mU, .ref mV, .int mm, .int mf, .int mg])), (mS, .inl (G.2.1 2, 49, .inl fS)), (mR, .inl (G.2.1 2, 3, .inl fR))] sz) (fun u : (Nat → Int32) => [(mO, .inr (7, [.ref mS, .ref mD, .ref mR, .ref mT, .int mt, .int ma, .int mn, .ref mW, .ref mQ, .ref mC, .int my, .ref mU, .ref mV, .int mm, .int mf, .int mg])), (mS, .inl (G.2.1 2, 49, .inl fS)), (mR, .inl (G.2.1 2, 3, .inl u))])) (va_A [(mO, .inr (7, [.ref mS, .ref mD, .ref mR, .ref mT, .int mt, .int ma, .int mn, .ref mW, .ref mQ, .ref mC, .int my, .ref mU, .ref mV, .int mm, .int mf, .int mg])), (mS, .inl (G.2.1 2, 49, .inl fS)), (mR, .inl (G.2.1 2, 3, .inl fR))] sz)) 0 0 (va_A [(mO, .inr (7, [.ref mS, .ref mD, .ref mR, .ref mT, .int mt, .int ma, .int mn, .ref mW, .ref mQ, .ref mC, .int my, .ref mU, .ref mV, .int mm, .int mf, .int mg])), (mS, .inl (G.2.1 2, 49, .inl fS)), (mR, .inl (G.2.1 2, 3, .inl fR))] sz) := by
  refine met_go (cc := cX7_runs) (maxL := 4) (ret := (some .int)) (own := RX7) (by decide) rfl rfl (Nat.le_of_ble_eq_true rfl) ?_
  intro p e s m below meth c ls S hr hlocks hname hsz C w hl
  obtain ⟨nN, gN, oN, pN, qN, h0_, hnN, hg, hgN, ho, hoN, hp, hpN, hq, hqN⟩ := id hok
  have hl : lv_has ls 4 [(0, .ref mO), (1, .int i0), (2, .int j0)] := hl
  refine w_joini 22 [] (fun z22 => True) (fun z22 hz22 => ?_) (fun J22 => ?_)
  · refine lv_istore_n (lv' := [(3, .int z22), (0, .ref mO), (1, .int i0), (2, .int j0)]) S.1 S.2.1 dX7_runs_22 rfl hl (by decide) rfl (fun ls hl => ?_)
    refine lv_iload_n S.1 S.2.1 dX7_runs_23 rfl (lv_at hl 0 rfl) ?_
    refine lv_if_eq (tgt := 34) S.1 S.2.1 dX7_runs_24 (by decide) (fun c24 => ?_) (fun c24 => ?_)
    · refine lv_aload_n S.1 S.2.1 dX7_runs_34 rfl (lv_at hl 1 rfl) ?_
      refine lv_iload_n S.1 S.2.1 dX7_runs_35 rfl (lv_at hl 0 rfl) ?_
      refine cq_i C w [0, 2] [1] [1, 0, 2] (wr := [(mS, .inl (G.2.1 2, 49, .inl fS))]) (w' := fun u : (Nat → Int32) => [(mO, .inr (7, [.ref mS, .ref mD, .ref mR, .ref mT, .int mt, .int ma, .int mn, .ref mW, .ref mQ, .ref mC, .int my, .ref mU, .ref mV, .int mm, .int mf, .int mg])), (mR, .inl (G.2.1 2, 3, .inl u))]) (ws2 := fun u : (Nat → Int32) => [(mO, .inr (7, [.ref mS, .ref mD, .ref mR, .ref mT, .int mt, .int ma, .int mn, .ref mW, .ref mQ, .ref mC, .int my, .ref mU, .ref mV, .int mm, .int mf, .int mg])), (mS, .inl (G.2.1 2, 49, .inl fS)), (mR, .inl (G.2.1 2, 3, .inl u))]) rfl rfl rfl (by decide) rfl (fun _ => rfl) (va_runV (As := [.int z22]) (rest := []) S (c_X7_none l G mO mR _ mS mD mT mW mQ mC mU mV mt ma mn my mm mf mg fR z22) (cwV 1 S.2.2.2.2 gX7_runs_X7_none rfl rfl rfl (by decide +kernel) ⟨Nat.le_of_ble_eq_true rfl, Nat.le_of_ble_eq_true rfl⟩) ⟨wPre_blind, va_recv C.1 w.1 (ci := 7) (q0 := 0) rfl rfl, wPre_at C w [0, 2] rfl rfl⟩ rfl rfl hl.1 rfl (lv_room (Nat.le_of_ble_eq_true rfl)) dX7_runs_36 ⟨Nat.le_of_ble_eq_true rfl, Nat.le_of_ble_eq_true rfl⟩) (fun r36 u36 H locs h36 w => ?_)
      have w : Wd G _ s [(mO, .inr (7, [.ref mS, .ref mD, .ref mR, .ref mT, .int mt, .int ma, .int mn, .ref mW, .ref mQ, .ref mC, .int my, .ref mU, .ref mV, .int mm, .int mf, .int mg])), (mS, .inl (G.2.1 2, 49, .inl fS)), (mR, .inl (G.2.1 2, 3, .inl u36))] H locs := w
      exact W.iret (v := r36) S.1 S.2.1 hr (fun t ht _ => ⟨⟨r36, u36, rfl, trivial, by rw [ht]; exact w.1, w.2.1⟩, w.2.2.F ht⟩) w.2.2.2.2 dX7_runs_39
    · refine lv_aload_n S.1 S.2.1 dX7_runs_27 rfl (lv_at hl 1 rfl) ?_
      refine cs_i (va_runV (As := []) (rest := []) S (c_X7_isThere l G mO mS _ mD mR mT mW mQ mC mU mV mt ma mn my mm mf mg fS) (cwV 0 S.2.2.2.2 gX7_runs_X7_isThere rfl rfl rfl (by decide +kernel) ⟨Nat.le_of_ble_eq_true rfl, Nat.le_of_ble_eq_true rfl⟩) ⟨wPre_blind, va_recv C.1 w.1 (ci := 7) (q0 := 0) rfl rfl, wPre_at C w [0, 1] rfl rfl⟩ rfl rfl hl.1 rfl (lv_room (Nat.le_of_ble_eq_true rfl)) dX7_runs_28 ⟨Nat.le_of_ble_eq_true rfl, Nat.le_of_ble_eq_true rfl⟩) (fun r28 h28 => ?_)
      refine w_topi (y := (thereM fS)) h28 ?_
      refine lv_if_ne (tgt := 40) S.1 S.2.1 dX7_runs_31 (by decide) (fun c31 => ?_) (fun c31 => ?_)
      · refine lv_iload_n S.1 S.2.1 dX7_runs_40 rfl (lv_at hl 3 rfl) ?_
        refine lv_if_ne (tgt := 52) S.1 S.2.1 dX7_runs_41 (by decide) (fun c41 => ?_) (fun c41 => ?_)
        · refine lv_aload_n S.1 S.2.1 dX7_runs_52 rfl (lv_at hl 1 rfl) ?_
          refine lv_iload_n S.1 S.2.1 dX7_runs_53 rfl (lv_at hl 2 rfl) ?_
          refine cs_i (va_runV (As := [.int i0]) (rest := []) S (c_X7_task l G mO mS _ mD mR mT mW mQ mC mU mV mt ma mn my mm mf mg fS i0) (cwV 1 S.2.2.2.2 gX7_runs_X7_task rfl rfl rfl (by decide +kernel) ⟨Nat.le_of_ble_eq_true rfl, Nat.le_of_ble_eq_true rfl⟩) ⟨wPre_blind, va_recv C.1 w.1 (ci := 7) (q0 := 0) rfl rfl, wPre_at C w [0, 1] rfl rfl⟩ rfl rfl hl.1 rfl (lv_room (Nat.le_of_ble_eq_true rfl)) dX7_runs_54 ⟨Nat.le_of_ble_eq_true rfl, Nat.le_of_ble_eq_true rfl⟩) (fun r54 h54 => ?_)
          exact W.iret (v := r54) S.1 S.2.1 hr (fun t ht _ => ⟨⟨r54, fR, rfl, trivial, by rw [ht]; exact w.1, w.2.1⟩, w.2.2.F ht⟩) w.2.2.2.2 dX7_runs_57
        · refine lv_aload_n S.1 S.2.1 dX7_runs_44 rfl (lv_at hl 1 rfl) ?_
          refine lv_iload_n S.1 S.2.1 dX7_runs_45 rfl (lv_at hl 2 rfl) ?_
          refine cs_i (va_runV (As := [.int i0]) (rest := []) S (c_X7_stand l G mO mS _ mD mR mT mW mQ mC mU mV mt ma mn my mm mf mg fS gN oN i0 (hg) (hgN) (ho) (hoN)) (cwV 1 S.2.2.2.2 gX7_runs_X7_stand rfl rfl rfl (by decide +kernel) ⟨Nat.le_of_ble_eq_true rfl, Nat.le_of_ble_eq_true rfl⟩) ⟨wPre_blind, va_recv C.1 w.1 (ci := 7) (q0 := 0) rfl rfl, wPre_at C w [0, 1] rfl rfl⟩ rfl rfl hl.1 rfl (lv_room (Nat.le_of_ble_eq_true rfl)) dX7_runs_46 ⟨Nat.le_of_ble_eq_true rfl, Nat.le_of_ble_eq_true rfl⟩) (fun r46 h46 => ?_)
          refine lv_goto (tgt := 57) S.1 S.2.1 dX7_runs_49 (by decide) ?_
          exact W.iret (v := r46) S.1 S.2.1 hr (fun t ht _ => ⟨⟨r46, fR, rfl, trivial, by rw [ht]; exact w.1, w.2.1⟩, w.2.2.F ht⟩) w.2.2.2.2 dX7_runs_57
      · refine lv_aload_n S.1 S.2.1 dX7_runs_34 rfl (lv_at hl 1 rfl) ?_
        refine lv_iload_n S.1 S.2.1 dX7_runs_35 rfl (lv_at hl 0 rfl) ?_
        refine cq_i C w [0, 2] [1] [1, 0, 2] (wr := [(mS, .inl (G.2.1 2, 49, .inl fS))]) (w' := fun u : (Nat → Int32) => [(mO, .inr (7, [.ref mS, .ref mD, .ref mR, .ref mT, .int mt, .int ma, .int mn, .ref mW, .ref mQ, .ref mC, .int my, .ref mU, .ref mV, .int mm, .int mf, .int mg])), (mR, .inl (G.2.1 2, 3, .inl u))]) (ws2 := fun u : (Nat → Int32) => [(mO, .inr (7, [.ref mS, .ref mD, .ref mR, .ref mT, .int mt, .int ma, .int mn, .ref mW, .ref mQ, .ref mC, .int my, .ref mU, .ref mV, .int mm, .int mf, .int mg])), (mS, .inl (G.2.1 2, 49, .inl fS)), (mR, .inl (G.2.1 2, 3, .inl u))]) rfl rfl rfl (by decide) rfl (fun _ => rfl) (va_runV (As := [.int z22]) (rest := []) S (c_X7_none l G mO mR _ mS mD mT mW mQ mC mU mV mt ma mn my mm mf mg fR z22) (cwV 1 S.2.2.2.2 gX7_runs_X7_none rfl rfl rfl (by decide +kernel) ⟨Nat.le_of_ble_eq_true rfl, Nat.le_of_ble_eq_true rfl⟩) ⟨wPre_blind, va_recv C.1 w.1 (ci := 7) (q0 := 0) rfl rfl, wPre_at C w [0, 2] rfl rfl⟩ rfl rfl hl.1 rfl (lv_room (Nat.le_of_ble_eq_true rfl)) dX7_runs_36 ⟨Nat.le_of_ble_eq_true rfl, Nat.le_of_ble_eq_true rfl⟩) (fun r36_1 u36_1 H locs h36_1 w => ?_)
        have w : Wd G _ s [(mO, .inr (7, [.ref mS, .ref mD, .ref mR, .ref mT, .int mt, .int ma, .int mn, .ref mW, .ref mQ, .ref mC, .int my, .ref mU, .ref mV, .int mm, .int mf, .int mg])), (mS, .inl (G.2.1 2, 49, .inl fS)), (mR, .inl (G.2.1 2, 3, .inl u36_1))] H locs := w
        exact W.iret (v := r36_1) S.1 S.2.1 hr (fun t ht _ => ⟨⟨r36_1, u36_1, rfl, trivial, by rw [ht]; exact w.1, w.2.1⟩, w.2.2.F ht⟩) w.2.2.2.2 dX7_runs_39
  · refine lv_aload_n S.1 S.2.1 dX7_runs_0 rfl (lv_at hl 0 rfl) ?_
    refine lv_iload_n S.1 S.2.1 dX7_runs_1 rfl (lv_at hl 1 rfl) ?_
    refine cs_i (va_runV (As := [.int i0]) (rest := []) S (c_X7_isInput l G mO mS _ mD mR mT mW mQ mC mU mV mt ma mn my mm mf mg fS i0) (cwV 1 S.2.2.2.2 gX7_runs_X7_isInput rfl rfl rfl (by decide +kernel) ⟨Nat.le_of_ble_eq_true rfl, Nat.le_of_ble_eq_true rfl⟩) ⟨wPre_blind, va_recv C.1 w.1 (ci := 7) (q0 := 0) rfl rfl, wPre_at C w [0, 1] rfl rfl⟩ rfl rfl hl.1 rfl (lv_room (Nat.le_of_ble_eq_true rfl)) dX7_runs_2 ⟨Nat.le_of_ble_eq_true rfl, Nat.le_of_ble_eq_true rfl⟩) (fun r2 h2 => ?_)
    refine w_topi (y := (inpM fS i0)) h2 ?_
    refine lv_if_eq (tgt := 21) S.1 S.2.1 dX7_runs_5 (by decide) (fun c5 => ?_) (fun c5 => ?_)
    · refine lv_iconst (v := 0) S.1 S.2.1 dX7_runs_21 (by decide) ?_
      exact J22 0 (trivial)
    · refine lv_iload_n S.1 S.2.1 dX7_runs_8 rfl (lv_at hl 2 rfl) ?_
      refine lv_iconst (v := 0) S.1 S.2.1 dX7_runs_9 (by decide) ?_
      refine lv_iconst (v := 1) S.1 S.2.1 dX7_runs_10 (by decide) ?_
      refine cs_i (va_runS (As := [.int j0, .int 0, .int 1]) (rest := []) S (c_X7_in l G _ j0 0 1) (va_cwS 3 S.2.2.2.2 gX7_runs_X7_in rfl rfl rfl (by decide +kernel) ⟨Nat.le_of_ble_eq_true rfl, Nat.le_of_ble_eq_true rfl⟩) ⟨wPre_blind, wPre_at C w [] rfl rfl⟩ rfl rfl hl.1 rfl (lv_room (Nat.le_of_ble_eq_true rfl)) dX7_runs_11 ⟨Nat.le_of_ble_eq_true rfl, Nat.le_of_ble_eq_true rfl⟩) (fun r11 h11 => ?_)
      refine w_topi (y := (inF j0 0 1)) h11 ?_
      refine lv_if_eq (tgt := 21) S.1 S.2.1 dX7_runs_14 (by decide) (fun c14 => ?_) (fun c14 => ?_)
      · refine lv_iconst (v := 0) S.1 S.2.1 dX7_runs_21 (by decide) ?_
        exact J22 0 (trivial)
      · refine lv_iconst (v := 1) S.1 S.2.1 dX7_runs_17 (by decide) ?_
        refine lv_goto (tgt := 22) S.1 S.2.1 dX7_runs_18 (by decide) ?_
        exact J22 1 (trivial)
theorem im_X7_signal_X7 : ∀ w ∈ u_ws RX7 TX7 16, w ∈ wsX7_signal := by decide +kernel
set_option maxHeartbeats 4000000 in
set_option maxRecDepth 100000 in
theorem w_X7_signal (l : Launch) (G : GT) (mO mS mR : Nat) (sz : Nat) (mD mT mW mQ mC mU mV : Nat) (mt ma mn my mm mf mg : Int32) (fS fR : Nat → Int32) (i0 j0 : Int32) (hok : okM fS) : Met l yX7_signal wsX7_signal ({ frames := 2, cells := 0, slots := 0, locals := 49 }) (va_Pc [.ref mO, .int i0, .int j0] (wPre G [(mO, .inr (7, [.ref mS, .ref mD, .ref mR, .ref mT, .int mt, .int ma, .int mn, .ref mW, .ref mQ, .ref mC, .int my, .ref mU, .ref mV, .int mm, .int mf, .int mg])), (mS, .inl (G.2.1 2, 49, .inl fS)), (mR, .inl (G.2.1 2, 3, .inl fR))] sz)) (va_Qi (fun (r : Int32) (u : (Nat → Int32)) => True) (bW G (va_A [(mO, .inr (7, [.ref mS, .ref mD, .ref mR, .ref mT, .int mt, .int ma, .int mn, .ref mW, .ref mQ, .ref mC, .int my, .ref mU, .ref mV, .int mm, .int mf, .int mg])), (mS, .inl (G.2.1 2, 49, .inl fS)), (mR, .inl (G.2.1 2, 3, .inl fR))] sz) (fun u : (Nat → Int32) => [(mO, .inr (7, [.ref mS, .ref mD, .ref mR, .ref mT, .int mt, .int ma, .int mn, .ref mW, .ref mQ, .ref mC, .int my, .ref mU, .ref mV, .int mm, .int mf, .int mg])), (mS, .inl (G.2.1 2, 49, .inl fS)), (mR, .inl (G.2.1 2, 3, .inl u))])) (va_A [(mO, .inr (7, [.ref mS, .ref mD, .ref mR, .ref mT, .int mt, .int ma, .int mn, .ref mW, .ref mQ, .ref mC, .int my, .ref mU, .ref mV, .int mm, .int mf, .int mg])), (mS, .inl (G.2.1 2, 49, .inl fS)), (mR, .inl (G.2.1 2, 3, .inl fR))] sz)) 0 0 (va_A [(mO, .inr (7, [.ref mS, .ref mD, .ref mR, .ref mT, .int mt, .int ma, .int mn, .ref mW, .ref mQ, .ref mC, .int my, .ref mU, .ref mV, .int mm, .int mf, .int mg])), (mS, .inl (G.2.1 2, 49, .inl fS)), (mR, .inl (G.2.1 2, 3, .inl fR))] sz) := by
  refine met_go (cc := cX7_signal) (maxL := 4) (ret := (some .int)) (own := RX7) (by decide) rfl rfl (Nat.le_of_ble_eq_true rfl) ?_
  intro p e s m below meth c ls S hr hlocks hname hsz C w hl
  obtain ⟨nN, gN, oN, pN, qN, h0_, hnN, hg, hgN, ho, hoN, hp, hpN, hq, hqN⟩ := id hok
  have hl : lv_has ls 4 [(0, .ref mO), (1, .int i0), (2, .int j0)] := hl
  refine w_joini 48 [] (fun z48 => True) (fun z48 hz48 => ?_) (fun J48 => ?_)
  · refine lv_istore_n (lv' := [(3, .int z48), (0, .ref mO), (1, .int i0), (2, .int j0)]) S.1 S.2.1 dX7_signal_48 rfl hl (by decide) rfl (fun ls hl => ?_)
    refine lv_iload_n S.1 S.2.1 dX7_signal_49 rfl (lv_at hl 0 rfl) ?_
    refine lv_if_eq (tgt := 60) S.1 S.2.1 dX7_signal_50 (by decide) (fun c50 => ?_) (fun c50 => ?_)
    · refine lv_aload_n S.1 S.2.1 dX7_signal_60 rfl (lv_at hl 1 rfl) ?_
      refine lv_iload_n S.1 S.2.1 dX7_signal_61 rfl (lv_at hl 0 rfl) ?_
      refine cq_i C w [0, 2] [1] [1, 0, 2] (wr := [(mS, .inl (G.2.1 2, 49, .inl fS))]) (w' := fun u : (Nat → Int32) => [(mO, .inr (7, [.ref mS, .ref mD, .ref mR, .ref mT, .int mt, .int ma, .int mn, .ref mW, .ref mQ, .ref mC, .int my, .ref mU, .ref mV, .int mm, .int mf, .int mg])), (mR, .inl (G.2.1 2, 3, .inl u))]) (ws2 := fun u : (Nat → Int32) => [(mO, .inr (7, [.ref mS, .ref mD, .ref mR, .ref mT, .int mt, .int ma, .int mn, .ref mW, .ref mQ, .ref mC, .int my, .ref mU, .ref mV, .int mm, .int mf, .int mg])), (mS, .inl (G.2.1 2, 49, .inl fS)), (mR, .inl (G.2.1 2, 3, .inl u))]) rfl rfl rfl (by decide) rfl (fun _ => rfl) (va_runV (As := [.int z48]) (rest := []) S (c_X7_none l G mO mR _ mS mD mT mW mQ mC mU mV mt ma mn my mm mf mg fR z48) (cwV 1 S.2.2.2.2 gX7_signal_X7_none rfl rfl rfl (by decide +kernel) ⟨Nat.le_of_ble_eq_true rfl, Nat.le_of_ble_eq_true rfl⟩) ⟨wPre_blind, va_recv C.1 w.1 (ci := 7) (q0 := 0) rfl rfl, wPre_at C w [0, 2] rfl rfl⟩ rfl rfl hl.1 rfl (lv_room (Nat.le_of_ble_eq_true rfl)) dX7_signal_62 ⟨Nat.le_of_ble_eq_true rfl, Nat.le_of_ble_eq_true rfl⟩) (fun r62 u62 H locs h62 w => ?_)
      have w : Wd G _ s [(mO, .inr (7, [.ref mS, .ref mD, .ref mR, .ref mT, .int mt, .int ma, .int mn, .ref mW, .ref mQ, .ref mC, .int my, .ref mU, .ref mV, .int mm, .int mf, .int mg])), (mS, .inl (G.2.1 2, 49, .inl fS)), (mR, .inl (G.2.1 2, 3, .inl u62))] H locs := w
      exact W.iret (v := r62) S.1 S.2.1 hr (fun t ht _ => ⟨⟨r62, u62, rfl, trivial, by rw [ht]; exact w.1, w.2.1⟩, w.2.2.F ht⟩) w.2.2.2.2 dX7_signal_65
    · refine lv_aload_n S.1 S.2.1 dX7_signal_53 rfl (lv_at hl 1 rfl) ?_
      refine cs_i (va_runV (As := []) (rest := []) S (c_X7_isThere l G mO mS _ mD mR mT mW mQ mC mU mV mt ma mn my mm mf mg fS) (cwV 0 S.2.2.2.2 gX7_signal_X7_isThere rfl rfl rfl (by decide +kernel) ⟨Nat.le_of_ble_eq_true rfl, Nat.le_of_ble_eq_true rfl⟩) ⟨wPre_blind, va_recv C.1 w.1 (ci := 7) (q0 := 0) rfl rfl, wPre_at C w [0, 1] rfl rfl⟩ rfl rfl hl.1 rfl (lv_room (Nat.le_of_ble_eq_true rfl)) dX7_signal_54 ⟨Nat.le_of_ble_eq_true rfl, Nat.le_of_ble_eq_true rfl⟩) (fun r54 h54 => ?_)
      refine w_topi (y := (thereM fS)) h54 ?_
      refine lv_if_ne (tgt := 66) S.1 S.2.1 dX7_signal_57 (by decide) (fun c57 => ?_) (fun c57 => ?_)
      · refine lv_aload_n S.1 S.2.1 dX7_signal_66 rfl (lv_at hl 1 rfl) ?_
        refine lv_iload_n S.1 S.2.1 dX7_signal_67 rfl (lv_at hl 3 rfl) ?_
        refine cs_i (va_runV (As := [.int j0]) (rest := []) S (c_X7_signals l G mO mS _ mD mR mT mW mQ mC mU mV mt ma mn my mm mf mg fS gN j0 (hg) (hgN)) (cwV 1 S.2.2.2.2 gX7_signal_X7_signals rfl rfl rfl (by decide +kernel) ⟨Nat.le_of_ble_eq_true rfl, Nat.le_of_ble_eq_true rfl⟩) ⟨wPre_blind, va_recv C.1 w.1 (ci := 7) (q0 := 0) rfl rfl, wPre_at C w [0, 1] rfl rfl⟩ rfl rfl hl.1 rfl (lv_room (Nat.le_of_ble_eq_true rfl)) dX7_signal_68 ⟨Nat.le_of_ble_eq_true rfl, Nat.le_of_ble_eq_true rfl⟩) (fun r68 h68 => ?_)
        refine lv_iload_n S.1 S.2.1 dX7_signal_71 rfl (lv_at hl 2 rfl) ?_
        refine lv_ishr S.1 S.2.1 dX7_signal_72 ?_
        refine lv_iconst (v := 1) S.1 S.2.1 dX7_signal_73 (by decide) ?_
        refine lv_iand S.1 S.2.1 dX7_signal_74 ?_
        exact W.iret (v := ((r68 >>> (i0 &&& 31)) &&& 1)) S.1 S.2.1 hr (fun t ht _ => ⟨⟨((r68 >>> (i0 &&& 31)) &&& 1), fR, rfl, trivial, by rw [ht]; exact w.1, w.2.1⟩, w.2.2.F ht⟩) w.2.2.2.2 dX7_signal_75
      · refine lv_aload_n S.1 S.2.1 dX7_signal_60 rfl (lv_at hl 1 rfl) ?_
        refine lv_iload_n S.1 S.2.1 dX7_signal_61 rfl (lv_at hl 0 rfl) ?_
        refine cq_i C w [0, 2] [1] [1, 0, 2] (wr := [(mS, .inl (G.2.1 2, 49, .inl fS))]) (w' := fun u : (Nat → Int32) => [(mO, .inr (7, [.ref mS, .ref mD, .ref mR, .ref mT, .int mt, .int ma, .int mn, .ref mW, .ref mQ, .ref mC, .int my, .ref mU, .ref mV, .int mm, .int mf, .int mg])), (mR, .inl (G.2.1 2, 3, .inl u))]) (ws2 := fun u : (Nat → Int32) => [(mO, .inr (7, [.ref mS, .ref mD, .ref mR, .ref mT, .int mt, .int ma, .int mn, .ref mW, .ref mQ, .ref mC, .int my, .ref mU, .ref mV, .int mm, .int mf, .int mg])), (mS, .inl (G.2.1 2, 49, .inl fS)), (mR, .inl (G.2.1 2, 3, .inl u))]) rfl rfl rfl (by decide) rfl (fun _ => rfl) (va_runV (As := [.int z48]) (rest := []) S (c_X7_none l G mO mR _ mS mD mT mW mQ mC mU mV mt ma mn my mm mf mg fR z48) (cwV 1 S.2.2.2.2 gX7_signal_X7_none rfl rfl rfl (by decide +kernel) ⟨Nat.le_of_ble_eq_true rfl, Nat.le_of_ble_eq_true rfl⟩) ⟨wPre_blind, va_recv C.1 w.1 (ci := 7) (q0 := 0) rfl rfl, wPre_at C w [0, 2] rfl rfl⟩ rfl rfl hl.1 rfl (lv_room (Nat.le_of_ble_eq_true rfl)) dX7_signal_62 ⟨Nat.le_of_ble_eq_true rfl, Nat.le_of_ble_eq_true rfl⟩) (fun r62_1 u62_1 H locs h62_1 w => ?_)
        have w : Wd G _ s [(mO, .inr (7, [.ref mS, .ref mD, .ref mR, .ref mT, .int mt, .int ma, .int mn, .ref mW, .ref mQ, .ref mC, .int my, .ref mU, .ref mV, .int mm, .int mf, .int mg])), (mS, .inl (G.2.1 2, 49, .inl fS)), (mR, .inl (G.2.1 2, 3, .inl u62_1))] H locs := w
        exact W.iret (v := r62_1) S.1 S.2.1 hr (fun t ht _ => ⟨⟨r62_1, u62_1, rfl, trivial, by rw [ht]; exact w.1, w.2.1⟩, w.2.2.F ht⟩) w.2.2.2.2 dX7_signal_65
  · refine lv_iload_n S.1 S.2.1 dX7_signal_0 rfl (lv_at hl 1 rfl) ?_
    refine lv_iconst (v := 0) S.1 S.2.1 dX7_signal_1 (by decide) ?_
    refine lv_aload_n S.1 S.2.1 dX7_signal_2 rfl (lv_at hl 0 rfl) ?_
    refine cs_i (va_runV (As := []) (rest := [.int 0, .int i0]) S (c_X7_isThere l G mO mS _ mD mR mT mW mQ mC mU mV mt ma mn my mm mf mg fS) (cwV 0 S.2.2.2.2 gX7_signal_X7_isThere rfl rfl rfl (by decide +kernel) ⟨Nat.le_of_ble_eq_true rfl, Nat.le_of_ble_eq_true rfl⟩) ⟨wPre_blind, va_recv C.1 w.1 (ci := 7) (q0 := 0) rfl rfl, wPre_at C w [0, 1] rfl rfl⟩ rfl rfl hl.1 rfl (lv_room (Nat.le_of_ble_eq_true rfl)) dX7_signal_3 ⟨Nat.le_of_ble_eq_true rfl, Nat.le_of_ble_eq_true rfl⟩) (fun r3 h3 => ?_)
    refine w_topi (y := (thereM fS)) h3 ?_
    refine lv_if_eq (tgt := 27) S.1 S.2.1 dX7_signal_6 (by decide) (fun c6 => ?_) (fun c6 => ?_)
    · refine lv_bipush (v := 17) S.1 S.2.1 dX7_signal_27 (by decide) ?_
      refine cs_i (va_runS (As := [.int i0, .int 0, .int 17]) (rest := []) S (c_X7_in l G _ i0 0 17) (va_cwS 3 S.2.2.2.2 gX7_signal_X7_in rfl rfl rfl (by decide +kernel) ⟨Nat.le_of_ble_eq_true rfl, Nat.le_of_ble_eq_true rfl⟩) ⟨wPre_blind, wPre_at C w [] rfl rfl⟩ rfl rfl hl.1 rfl (lv_room (Nat.le_of_ble_eq_true rfl)) dX7_signal_29 ⟨Nat.le_of_ble_eq_true rfl, Nat.le_of_ble_eq_true rfl⟩) (fun r29 h29 => ?_)
      refine w_topi (y := (inF i0 0 17)) h29 ?_
      refine lv_if_eq (tgt := 47) S.1 S.2.1 dX7_signal_32 (by decide) (fun c32 => ?_) (fun c32 => ?_)
      · refine lv_iconst (v := 0) S.1 S.2.1 dX7_signal_47 (by decide) ?_
        exact J48 0 (trivial)
      · refine lv_aload_n S.1 S.2.1 dX7_signal_35 rfl (lv_at hl 0 rfl) ?_
        refine lv_iload_n S.1 S.2.1 dX7_signal_36 rfl (lv_at hl 2 rfl) ?_
        refine cs_i (va_runV (As := [.int j0]) (rest := []) S (c_X7_isInput l G mO mS _ mD mR mT mW mQ mC mU mV mt ma mn my mm mf mg fS j0) (cwV 1 S.2.2.2.2 gX7_signal_X7_isInput rfl rfl rfl (by decide +kernel) ⟨Nat.le_of_ble_eq_true rfl, Nat.le_of_ble_eq_true rfl⟩) ⟨wPre_blind, va_recv C.1 w.1 (ci := 7) (q0 := 0) rfl rfl, wPre_at C w [0, 1] rfl rfl⟩ rfl rfl hl.1 rfl (lv_room (Nat.le_of_ble_eq_true rfl)) dX7_signal_37 ⟨Nat.le_of_ble_eq_true rfl, Nat.le_of_ble_eq_true rfl⟩) (fun r37 h37 => ?_)
        refine w_topi (y := (inpM fS j0)) h37 ?_
        refine lv_if_eq (tgt := 47) S.1 S.2.1 dX7_signal_40 (by decide) (fun c40 => ?_) (fun c40 => ?_)
        · refine lv_iconst (v := 0) S.1 S.2.1 dX7_signal_47 (by decide) ?_
          exact J48 0 (trivial)
        · refine lv_iconst (v := 1) S.1 S.2.1 dX7_signal_43 (by decide) ?_
          refine lv_goto (tgt := 48) S.1 S.2.1 dX7_signal_44 (by decide) ?_
          exact J48 1 (trivial)
    · refine lv_aload_n S.1 S.2.1 dX7_signal_9 rfl (lv_at hl 0 rfl) ?_
      refine w_get S C w (CC := RX7) (T := TX7) (N := 16) (ref := "GateSumsModel") im_X7_signal_X7 0 rfl rfl 0 (by decide) (List.mem_of_getElem? (i := 1) rfl) (fun _ h => h) rfl dX7_signal_10 ?_
      refine lv_iconst (v := 0) S.1 S.2.1 dX7_signal_13 (by decide) ?_
      refine w_iald S C w 1 rfl (by unfold vp_in; decide) dX7_signal_14 ?_
      refine lv_aload_n S.1 S.2.1 dX7_signal_15 rfl (lv_at hl 0 rfl) ?_
      refine w_get S C w (CC := RX7) (T := TX7) (N := 16) (ref := "GateSumsModel") im_X7_signal_X7 0 rfl rfl 0 (by decide) (List.mem_of_getElem? (i := 1) rfl) (fun _ h => h) rfl dX7_signal_16 ?_
      refine lv_iconst (v := 1) S.1 S.2.1 dX7_signal_19 (by decide) ?_
      refine w_iald S C w 1 rfl (by unfold vp_in; decide) dX7_signal_20 ?_
      refine lv_iadd S.1 S.2.1 dX7_signal_21 ?_
      refine lv_iconst (v := 1) S.1 S.2.1 dX7_signal_22 (by decide) ?_
      refine lv_isub S.1 S.2.1 dX7_signal_23 ?_
      refine lv_goto (tgt := 29) S.1 S.2.1 dX7_signal_24 (by decide) ?_
      refine cs_i (va_runS (As := [.int i0, .int 0, .int (((fS (0 : Int32).toNatClampNeg) + (fS (1 : Int32).toNatClampNeg)) - 1)]) (rest := []) S (c_X7_in l G _ i0 0 (((fS (0 : Int32).toNatClampNeg) + (fS (1 : Int32).toNatClampNeg)) - 1)) (va_cwS 3 S.2.2.2.2 gX7_signal_X7_in rfl rfl rfl (by decide +kernel) ⟨Nat.le_of_ble_eq_true rfl, Nat.le_of_ble_eq_true rfl⟩) ⟨wPre_blind, wPre_at C w [] rfl rfl⟩ rfl rfl hl.1 rfl (lv_room (Nat.le_of_ble_eq_true rfl)) dX7_signal_29 ⟨Nat.le_of_ble_eq_true rfl, Nat.le_of_ble_eq_true rfl⟩) (fun r29_1 h29_1 => ?_)
      refine w_topi (y := (inF i0 0 (((fS (0 : Int32).toNatClampNeg) + (fS (1 : Int32).toNatClampNeg)) - 1))) h29_1 ?_
      refine lv_if_eq (tgt := 47) S.1 S.2.1 dX7_signal_32 (by decide) (fun c32_1 => ?_) (fun c32_1 => ?_)
      · refine lv_iconst (v := 0) S.1 S.2.1 dX7_signal_47 (by decide) ?_
        exact J48 0 (trivial)
      · refine lv_aload_n S.1 S.2.1 dX7_signal_35 rfl (lv_at hl 0 rfl) ?_
        refine lv_iload_n S.1 S.2.1 dX7_signal_36 rfl (lv_at hl 2 rfl) ?_
        refine cs_i (va_runV (As := [.int j0]) (rest := []) S (c_X7_isInput l G mO mS _ mD mR mT mW mQ mC mU mV mt ma mn my mm mf mg fS j0) (cwV 1 S.2.2.2.2 gX7_signal_X7_isInput rfl rfl rfl (by decide +kernel) ⟨Nat.le_of_ble_eq_true rfl, Nat.le_of_ble_eq_true rfl⟩) ⟨wPre_blind, va_recv C.1 w.1 (ci := 7) (q0 := 0) rfl rfl, wPre_at C w [0, 1] rfl rfl⟩ rfl rfl hl.1 rfl (lv_room (Nat.le_of_ble_eq_true rfl)) dX7_signal_37 ⟨Nat.le_of_ble_eq_true rfl, Nat.le_of_ble_eq_true rfl⟩) (fun r37_1 h37_1 => ?_)
        refine w_topi (y := (inpM fS j0)) h37_1 ?_
        refine lv_if_eq (tgt := 47) S.1 S.2.1 dX7_signal_40 (by decide) (fun c40_1 => ?_) (fun c40_1 => ?_)
        · refine lv_iconst (v := 0) S.1 S.2.1 dX7_signal_47 (by decide) ?_
          exact J48 0 (trivial)
        · refine lv_iconst (v := 1) S.1 S.2.1 dX7_signal_43 (by decide) ?_
          refine lv_goto (tgt := 48) S.1 S.2.1 dX7_signal_44 (by decide) ?_
          exact J48 1 (trivial)
set_option maxHeartbeats 4000000 in
set_option maxRecDepth 100000 in
theorem w_X7_wrong (l : Launch) (G : GT) (mO mS mR : Nat) (sz : Nat) (mD mT mW mQ mC mU mV : Nat) (mt ma mn my mm mf mg : Int32) (fS fR : Nat → Int32) (i0 : Int32) (hok : okM fS) : Met l yX7_wrong wsX7_wrong ({ frames := 4, cells := 0, slots := 0, locals := 96 }) (va_Pc [.ref mO, .int i0] (wPre G [(mO, .inr (7, [.ref mS, .ref mD, .ref mR, .ref mT, .int mt, .int ma, .int mn, .ref mW, .ref mQ, .ref mC, .int my, .ref mU, .ref mV, .int mm, .int mf, .int mg])), (mS, .inl (G.2.1 2, 49, .inl fS)), (mR, .inl (G.2.1 2, 3, .inl fR))] sz)) (va_Qi (fun (r : Int32) (u : (Nat → Int32)) => True) (bW G (va_A [(mO, .inr (7, [.ref mS, .ref mD, .ref mR, .ref mT, .int mt, .int ma, .int mn, .ref mW, .ref mQ, .ref mC, .int my, .ref mU, .ref mV, .int mm, .int mf, .int mg])), (mS, .inl (G.2.1 2, 49, .inl fS)), (mR, .inl (G.2.1 2, 3, .inl fR))] sz) (fun u : (Nat → Int32) => [(mO, .inr (7, [.ref mS, .ref mD, .ref mR, .ref mT, .int mt, .int ma, .int mn, .ref mW, .ref mQ, .ref mC, .int my, .ref mU, .ref mV, .int mm, .int mf, .int mg])), (mS, .inl (G.2.1 2, 49, .inl fS)), (mR, .inl (G.2.1 2, 3, .inl u))])) (va_A [(mO, .inr (7, [.ref mS, .ref mD, .ref mR, .ref mT, .int mt, .int ma, .int mn, .ref mW, .ref mQ, .ref mC, .int my, .ref mU, .ref mV, .int mm, .int mf, .int mg])), (mS, .inl (G.2.1 2, 49, .inl fS)), (mR, .inl (G.2.1 2, 3, .inl fR))] sz)) 0 0 (va_A [(mO, .inr (7, [.ref mS, .ref mD, .ref mR, .ref mT, .int mt, .int ma, .int mn, .ref mW, .ref mQ, .ref mC, .int my, .ref mU, .ref mV, .int mm, .int mf, .int mg])), (mS, .inl (G.2.1 2, 49, .inl fS)), (mR, .inl (G.2.1 2, 3, .inl fR))] sz) := by
  refine met_go (cc := cX7_wrong) (maxL := 3) (ret := (some .int)) (own := RX7) (by decide) rfl rfl (Nat.le_of_ble_eq_true rfl) ?_
  intro p e s m below meth c ls S hr hlocks hname hsz C w hl
  obtain ⟨nN, gN, oN, pN, qN, h0_, hnN, hg, hgN, ho, hoN, hp, hpN, hq, hqN⟩ := id hok
  have hl : lv_has ls 3 [(0, .ref mO), (1, .int i0)] := hl
  refine lv_iload_n S.1 S.2.1 dX7_wrong_0 rfl (lv_at hl 1 rfl) ?_
  refine lv_iconst (v := 0) S.1 S.2.1 dX7_wrong_1 (by decide) ?_
  refine lv_iconst (v := 1) S.1 S.2.1 dX7_wrong_2 (by decide) ?_
  refine cs_i (va_runS (As := [.int i0, .int 0, .int 1]) (rest := []) S (c_X7_in l G _ i0 0 1) (va_cwS 3 S.2.2.2.2 gX7_wrong_X7_in rfl rfl rfl (by decide +kernel) ⟨Nat.le_of_ble_eq_true rfl, Nat.le_of_ble_eq_true rfl⟩) ⟨wPre_blind, wPre_at C w [] rfl rfl⟩ rfl rfl hl.1 rfl (lv_room (Nat.le_of_ble_eq_true rfl)) dX7_wrong_3 ⟨Nat.le_of_ble_eq_true rfl, Nat.le_of_ble_eq_true rfl⟩) (fun r3 h3 => ?_)
  refine w_topi (y := (inF i0 0 1)) h3 ?_
  refine lv_istore_n (lv' := [(2, .int (inF i0 0 1)), (0, .ref mO), (1, .int i0)]) S.1 S.2.1 dX7_wrong_6 rfl hl (by decide) rfl (fun ls hl => ?_)
  refine lv_iload_n S.1 S.2.1 dX7_wrong_7 rfl (lv_at hl 0 rfl) ?_
  refine lv_if_eq (tgt := 18) S.1 S.2.1 dX7_wrong_8 (by decide) (fun c8 => ?_) (fun c8 => ?_)
  · refine lv_aload_n S.1 S.2.1 dX7_wrong_18 rfl (lv_at hl 1 rfl) ?_
    refine lv_iload_n S.1 S.2.1 dX7_wrong_19 rfl (lv_at hl 0 rfl) ?_
    refine cq_i C w [0, 2] [1] [1, 0, 2] (wr := [(mS, .inl (G.2.1 2, 49, .inl fS))]) (w' := fun u : (Nat → Int32) => [(mO, .inr (7, [.ref mS, .ref mD, .ref mR, .ref mT, .int mt, .int ma, .int mn, .ref mW, .ref mQ, .ref mC, .int my, .ref mU, .ref mV, .int mm, .int mf, .int mg])), (mR, .inl (G.2.1 2, 3, .inl u))]) (ws2 := fun u : (Nat → Int32) => [(mO, .inr (7, [.ref mS, .ref mD, .ref mR, .ref mT, .int mt, .int ma, .int mn, .ref mW, .ref mQ, .ref mC, .int my, .ref mU, .ref mV, .int mm, .int mf, .int mg])), (mS, .inl (G.2.1 2, 49, .inl fS)), (mR, .inl (G.2.1 2, 3, .inl u))]) rfl rfl rfl (by decide) rfl (fun _ => rfl) (va_runV (As := [.int (inF i0 0 1)]) (rest := []) S (c_X7_none l G mO mR _ mS mD mT mW mQ mC mU mV mt ma mn my mm mf mg fR (inF i0 0 1)) (cwV 1 S.2.2.2.2 gX7_wrong_X7_none rfl rfl rfl (by decide +kernel) ⟨Nat.le_of_ble_eq_true rfl, Nat.le_of_ble_eq_true rfl⟩) ⟨wPre_blind, va_recv C.1 w.1 (ci := 7) (q0 := 0) rfl rfl, wPre_at C w [0, 2] rfl rfl⟩ rfl rfl hl.1 rfl (lv_room (Nat.le_of_ble_eq_true rfl)) dX7_wrong_20 ⟨Nat.le_of_ble_eq_true rfl, Nat.le_of_ble_eq_true rfl⟩) (fun r20 u20 H locs h20 w => ?_)
    have w : Wd G _ s [(mO, .inr (7, [.ref mS, .ref mD, .ref mR, .ref mT, .int mt, .int ma, .int mn, .ref mW, .ref mQ, .ref mC, .int my, .ref mU, .ref mV, .int mm, .int mf, .int mg])), (mS, .inl (G.2.1 2, 49, .inl fS)), (mR, .inl (G.2.1 2, 3, .inl u20))] H locs := w
    exact W.iret (v := r20) S.1 S.2.1 hr (fun t ht _ => ⟨⟨r20, u20, rfl, trivial, by rw [ht]; exact w.1, w.2.1⟩, w.2.2.F ht⟩) w.2.2.2.2 dX7_wrong_23
  · refine lv_aload_n S.1 S.2.1 dX7_wrong_11 rfl (lv_at hl 1 rfl) ?_
    refine cs_i (va_runV (As := []) (rest := []) S (c_X7_isThere l G mO mS _ mD mR mT mW mQ mC mU mV mt ma mn my mm mf mg fS) (cwV 0 S.2.2.2.2 gX7_wrong_X7_isThere rfl rfl rfl (by decide +kernel) ⟨Nat.le_of_ble_eq_true rfl, Nat.le_of_ble_eq_true rfl⟩) ⟨wPre_blind, va_recv C.1 w.1 (ci := 7) (q0 := 0) rfl rfl, wPre_at C w [0, 1] rfl rfl⟩ rfl rfl hl.1 rfl (lv_room (Nat.le_of_ble_eq_true rfl)) dX7_wrong_12 ⟨Nat.le_of_ble_eq_true rfl, Nat.le_of_ble_eq_true rfl⟩) (fun r12 h12 => ?_)
    refine w_topi (y := (thereM fS)) h12 ?_
    refine lv_if_ne (tgt := 24) S.1 S.2.1 dX7_wrong_15 (by decide) (fun c15 => ?_) (fun c15 => ?_)
    · refine lv_aload_n S.1 S.2.1 dX7_wrong_24 rfl (lv_at hl 1 rfl) ?_
      refine lv_iload_n S.1 S.2.1 dX7_wrong_25 rfl (lv_at hl 2 rfl) ?_
      refine lv_if_ne (tgt := 33) S.1 S.2.1 dX7_wrong_26 (by decide) (fun c26 => ?_) (fun c26 => ?_)
      · refine lv_iconst (v := 0) S.1 S.2.1 dX7_wrong_33 (by decide) ?_
        refine cs_i (va_runV (As := [.int 0]) (rest := []) S (c_X7_wrongOnes l G mO mS _ mD mR mT mW mQ mC mU mV mt ma mn my mm mf mg fS gN oN 0 (hg) (hgN) (ho) (hoN)) (cwV 1 S.2.2.2.2 gX7_wrong_X7_wrongOnes rfl rfl rfl (by decide +kernel) ⟨Nat.le_of_ble_eq_true rfl, Nat.le_of_ble_eq_true rfl⟩) ⟨wPre_blind, va_recv C.1 w.1 (ci := 7) (q0 := 0) rfl rfl, wPre_at C w [0, 1] rfl rfl⟩ rfl rfl hl.1 rfl (lv_room (Nat.le_of_ble_eq_true rfl)) dX7_wrong_34 ⟨Nat.le_of_ble_eq_true rfl, Nat.le_of_ble_eq_true rfl⟩) (fun r34 h34 => ?_)
        exact W.iret (v := r34) S.1 S.2.1 hr (fun t ht _ => ⟨⟨r34, fR, rfl, trivial, by rw [ht]; exact w.1, w.2.1⟩, w.2.2.F ht⟩) w.2.2.2.2 dX7_wrong_37
      · refine lv_iconst (v := 1) S.1 S.2.1 dX7_wrong_29 (by decide) ?_
        refine lv_goto (tgt := 34) S.1 S.2.1 dX7_wrong_30 (by decide) ?_
        refine cs_i (va_runV (As := [.int 1]) (rest := []) S (c_X7_wrongOnes l G mO mS _ mD mR mT mW mQ mC mU mV mt ma mn my mm mf mg fS gN oN 1 (hg) (hgN) (ho) (hoN)) (cwV 1 S.2.2.2.2 gX7_wrong_X7_wrongOnes rfl rfl rfl (by decide +kernel) ⟨Nat.le_of_ble_eq_true rfl, Nat.le_of_ble_eq_true rfl⟩) ⟨wPre_blind, va_recv C.1 w.1 (ci := 7) (q0 := 0) rfl rfl, wPre_at C w [0, 1] rfl rfl⟩ rfl rfl hl.1 rfl (lv_room (Nat.le_of_ble_eq_true rfl)) dX7_wrong_34 ⟨Nat.le_of_ble_eq_true rfl, Nat.le_of_ble_eq_true rfl⟩) (fun r34_1 h34_1 => ?_)
        exact W.iret (v := r34_1) S.1 S.2.1 hr (fun t ht _ => ⟨⟨r34_1, fR, rfl, trivial, by rw [ht]; exact w.1, w.2.1⟩, w.2.2.F ht⟩) w.2.2.2.2 dX7_wrong_37
    · refine lv_aload_n S.1 S.2.1 dX7_wrong_18 rfl (lv_at hl 1 rfl) ?_
      refine lv_iload_n S.1 S.2.1 dX7_wrong_19 rfl (lv_at hl 0 rfl) ?_
      refine cq_i C w [0, 2] [1] [1, 0, 2] (wr := [(mS, .inl (G.2.1 2, 49, .inl fS))]) (w' := fun u : (Nat → Int32) => [(mO, .inr (7, [.ref mS, .ref mD, .ref mR, .ref mT, .int mt, .int ma, .int mn, .ref mW, .ref mQ, .ref mC, .int my, .ref mU, .ref mV, .int mm, .int mf, .int mg])), (mR, .inl (G.2.1 2, 3, .inl u))]) (ws2 := fun u : (Nat → Int32) => [(mO, .inr (7, [.ref mS, .ref mD, .ref mR, .ref mT, .int mt, .int ma, .int mn, .ref mW, .ref mQ, .ref mC, .int my, .ref mU, .ref mV, .int mm, .int mf, .int mg])), (mS, .inl (G.2.1 2, 49, .inl fS)), (mR, .inl (G.2.1 2, 3, .inl u))]) rfl rfl rfl (by decide) rfl (fun _ => rfl) (va_runV (As := [.int (inF i0 0 1)]) (rest := []) S (c_X7_none l G mO mR _ mS mD mT mW mQ mC mU mV mt ma mn my mm mf mg fR (inF i0 0 1)) (cwV 1 S.2.2.2.2 gX7_wrong_X7_none rfl rfl rfl (by decide +kernel) ⟨Nat.le_of_ble_eq_true rfl, Nat.le_of_ble_eq_true rfl⟩) ⟨wPre_blind, va_recv C.1 w.1 (ci := 7) (q0 := 0) rfl rfl, wPre_at C w [0, 2] rfl rfl⟩ rfl rfl hl.1 rfl (lv_room (Nat.le_of_ble_eq_true rfl)) dX7_wrong_20 ⟨Nat.le_of_ble_eq_true rfl, Nat.le_of_ble_eq_true rfl⟩) (fun r20_1 u20_1 H locs h20_1 w => ?_)
      have w : Wd G _ s [(mO, .inr (7, [.ref mS, .ref mD, .ref mR, .ref mT, .int mt, .int ma, .int mn, .ref mW, .ref mQ, .ref mC, .int my, .ref mU, .ref mV, .int mm, .int mf, .int mg])), (mS, .inl (G.2.1 2, 49, .inl fS)), (mR, .inl (G.2.1 2, 3, .inl u20_1))] H locs := w
      exact W.iret (v := r20_1) S.1 S.2.1 hr (fun t ht _ => ⟨⟨r20_1, u20_1, rfl, trivial, by rw [ht]; exact w.1, w.2.1⟩, w.2.2.F ht⟩) w.2.2.2.2 dX7_wrong_23
