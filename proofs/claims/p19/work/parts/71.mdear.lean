set_option maxHeartbeats 4000000 in
set_option maxRecDepth 100000 in
theorem k_X7_size (l : Launch) (G : GT) (sz : Nat) (x0 : Int64) : Met l yX7_size wsX7_size ({ frames := 0, cells := 0, slots := 0, locals := 0 }) (va_Pc [.long x0] (wPre G [] sz)) (vp_Sl (fun r : Int64 => r = (szL x0))) 0 0 (fun _ => False) := by
  refine met_go (cc := cX7_size) (maxL := 2) (ret := (some .long)) (own := RX7) (by decide) rfl rfl (Nat.le_of_ble_eq_true rfl) ?_
  intro p e s m below meth c ls S hr hlocks hname hsz C w hl
  have hl : lv_has ls 2 [(0, .long x0)] := hl
  refine lv_lload_n S.1 S.2.1 dX7_size_0 rfl (lv_at hl 0 rfl) ?_
  refine lv_lconst (v := 0) S.1 S.2.1 dX7_size_1 (by decide) ?_
  refine W.lcmp S.1 S.2.1 dX7_size_2 ?_
  refine lv_if_ge (tgt := 11) S.1 S.2.1 dX7_size_3 (by decide) (fun c3 => ?_) (fun c3 => ?_)
  · refine lv_lload_n S.1 S.2.1 dX7_size_11 rfl (lv_at hl 0 rfl) ?_
    exact W.lret (v := x0) S.1 S.2.1 hr (fun t ht _ => ⟨x0, rfl, by unfold szL; first | exact (if_pos c3).symm | exact (if_neg c3).symm, ht⟩) (fun q h => absurd h List.not_mem_nil) dX7_size_12
  · refine lv_lload_n S.1 S.2.1 dX7_size_6 rfl (lv_at hl 0 rfl) ?_
    refine lv_lneg S.1 S.2.1 dX7_size_7 ?_
    refine lv_goto (tgt := 12) S.1 S.2.1 dX7_size_8 (by decide) ?_
    exact W.lret (v := (-x0)) S.1 S.2.1 hr (fun t ht _ => ⟨(-x0), rfl, by unfold szL; first | exact (if_pos c3).symm | exact (if_neg c3).symm, ht⟩) (fun q h => absurd h List.not_mem_nil) dX7_size_12
set_option maxHeartbeats 4000000 in
set_option maxRecDepth 100000 in
theorem k_X7_dearest (l : Launch) (G : GT) (mO mS mR mQ mC mU mV : Nat) (sz : Nat) (mD mT mW : Nat) (mt ma mn my mm mf mg : Int32) (fS fR fQ fU : Nat → Int32) (lC lV : Nat → Int64) (i0 j0 : Int32) (hwk : ¬ thereM fS = 0 → WK fS) : Met l yX7_dearest wsX7_dearest ({ frames := 4, cells := 0, slots := 0, locals := 104 }) (va_Pc [.ref mO, .int i0, .int j0] (wPre G [(mO, .inr (7, [.ref mS, .ref mD, .ref mR, .ref mT, .int mt, .int ma, .int mn, .ref mW, .ref mQ, .ref mC, .int my, .ref mU, .ref mV, .int mm, .int mf, .int mg])), (mS, .inl (G.2.1 2, 49, .inl fS)), (mR, .inl (G.2.1 2, 3, .inl fR)), (mQ, .inl (G.2.1 2, 200, .inl fQ)), (mC, .inl (G.2.1 3, 200, .inr (.inl lC))), (mU, .inl (G.2.1 2, 200, .inl fU)), (mV, .inl (G.2.1 3, 200, .inr (.inl lV)))] sz)) (va_Qi (fun (r : Int32) (u : Int32 × Int32 × Int32 × Int32 × (Nat → Int32) × (Nat → Int32) × (Nat → Int64) × (Nat → Int32) × (Nat → Int64)) => r = (if (zDear (stgM fS i0) j0) = 0 then -2 else if thereM fS = 0 then -3 else dearV fS i0 j0)) (bW G (va_A [(mO, .inr (7, [.ref mS, .ref mD, .ref mR, .ref mT, .int mt, .int ma, .int mn, .ref mW, .ref mQ, .ref mC, .int my, .ref mU, .ref mV, .int mm, .int mf, .int mg])), (mS, .inl (G.2.1 2, 49, .inl fS)), (mR, .inl (G.2.1 2, 3, .inl fR)), (mQ, .inl (G.2.1 2, 200, .inl fQ)), (mC, .inl (G.2.1 3, 200, .inr (.inl lC))), (mU, .inl (G.2.1 2, 200, .inl fU)), (mV, .inl (G.2.1 3, 200, .inr (.inl lV)))] sz) (fun u : Int32 × Int32 × Int32 × Int32 × (Nat → Int32) × (Nat → Int32) × (Nat → Int64) × (Nat → Int32) × (Nat → Int64) => [(mO, .inr (7, [.ref mS, .ref mD, .ref mR, .ref mT, .int mt, .int ma, .int mn, .ref mW, .ref mQ, .ref mC, .int u.1, .ref mU, .ref mV, .int u.2.1, .int u.2.2.1, .int u.2.2.2.1])), (mS, .inl (G.2.1 2, 49, .inl fS)), (mR, .inl (G.2.1 2, 3, .inl u.2.2.2.2.1)), (mQ, .inl (G.2.1 2, 200, .inl u.2.2.2.2.2.1)), (mC, .inl (G.2.1 3, 200, .inr (.inl u.2.2.2.2.2.2.1))), (mU, .inl (G.2.1 2, 200, .inl u.2.2.2.2.2.2.2.1)), (mV, .inl (G.2.1 3, 200, .inr (.inl u.2.2.2.2.2.2.2.2)))])) (va_A [(mO, .inr (7, [.ref mS, .ref mD, .ref mR, .ref mT, .int mt, .int ma, .int mn, .ref mW, .ref mQ, .ref mC, .int my, .ref mU, .ref mV, .int mm, .int mf, .int mg])), (mS, .inl (G.2.1 2, 49, .inl fS)), (mR, .inl (G.2.1 2, 3, .inl fR)), (mQ, .inl (G.2.1 2, 200, .inl fQ)), (mC, .inl (G.2.1 3, 200, .inr (.inl lC))), (mU, .inl (G.2.1 2, 200, .inl fU)), (mV, .inl (G.2.1 3, 200, .inr (.inl lV)))] sz)) 0 0 (va_A [(mO, .inr (7, [.ref mS, .ref mD, .ref mR, .ref mT, .int mt, .int ma, .int mn, .ref mW, .ref mQ, .ref mC, .int my, .ref mU, .ref mV, .int mm, .int mf, .int mg])), (mS, .inl (G.2.1 2, 49, .inl fS)), (mR, .inl (G.2.1 2, 3, .inl fR)), (mQ, .inl (G.2.1 2, 200, .inl fQ)), (mC, .inl (G.2.1 3, 200, .inr (.inl lC))), (mU, .inl (G.2.1 2, 200, .inl fU)), (mV, .inl (G.2.1 3, 200, .inr (.inl lV)))] sz) := by
  refine met_go (cc := cX7_dearest) (maxL := 10) (ret := (some .int)) (own := RX7) (by decide) rfl rfl (Nat.le_of_ble_eq_true rfl) ?_
  intro p e s m below meth c ls S hr hlocks hname hsz C w hl
  have hl : lv_has ls 10 [(0, .ref mO), (1, .int i0), (2, .int j0)] := hl
  refine w_joini 17 [] (fun z17 => z17 = (zDear (stgM fS i0) j0)) (fun z17 hz17 => ?_) (fun J17 => ?_)
  · refine lv_istore_n (lv' := [(3, .int z17), (0, .ref mO), (1, .int i0), (2, .int j0)]) S.1 S.2.1 dX7_dearest_17 rfl hl (by decide) rfl (fun ls hl => ?_)
    refine lv_iload_n S.1 S.2.1 dX7_dearest_18 rfl (lv_at hl 0 rfl) ?_
    refine lv_if_eq (tgt := 29) S.1 S.2.1 dX7_dearest_19 (by decide) (fun c19 => ?_) (fun c19 => ?_)
    · refine lv_aload_n S.1 S.2.1 dX7_dearest_29 rfl (lv_at hl 1 rfl) ?_
      refine lv_iload_n S.1 S.2.1 dX7_dearest_30 rfl (lv_at hl 0 rfl) ?_
      refine cq_i C w [0, 2] [1, 3, 4, 5, 6] [5, 0, 6, 1, 2, 3, 4] (wr := [(mS, .inl (G.2.1 2, 49, .inl fS)), (mQ, .inl (G.2.1 2, 200, .inl fQ)), (mC, .inl (G.2.1 3, 200, .inr (.inl lC))), (mU, .inl (G.2.1 2, 200, .inl fU)), (mV, .inl (G.2.1 3, 200, .inr (.inl lV)))]) (w' := fun u : (Nat → Int32) => [(mO, .inr (7, [.ref mS, .ref mD, .ref mR, .ref mT, .int mt, .int ma, .int mn, .ref mW, .ref mQ, .ref mC, .int my, .ref mU, .ref mV, .int mm, .int mf, .int mg])), (mR, .inl (G.2.1 2, 3, .inl u))]) (ws2 := fun u : (Nat → Int32) => [(mO, .inr (7, [.ref mS, .ref mD, .ref mR, .ref mT, .int mt, .int ma, .int mn, .ref mW, .ref mQ, .ref mC, .int my, .ref mU, .ref mV, .int mm, .int mf, .int mg])), (mS, .inl (G.2.1 2, 49, .inl fS)), (mR, .inl (G.2.1 2, 3, .inl u)), (mQ, .inl (G.2.1 2, 200, .inl fQ)), (mC, .inl (G.2.1 3, 200, .inr (.inl lC))), (mU, .inl (G.2.1 2, 200, .inl fU)), (mV, .inl (G.2.1 3, 200, .inr (.inl lV)))]) rfl rfl rfl (by decide) rfl (fun _ => rfl) (va_runV (As := [.int z17]) (rest := []) S (c_X7_none l G mO mR _ mS mD mT mW mQ mC mU mV mt ma mn my mm mf mg fR z17) (cwV 1 S.2.2.2.2 gX7_dearest_X7_none rfl rfl rfl (by decide +kernel) ⟨Nat.le_of_ble_eq_true rfl, Nat.le_of_ble_eq_true rfl⟩) ⟨wPre_blind, va_recv C.1 w.1 (ci := 7) (q0 := 0) rfl rfl, wPre_at C w [0, 2] rfl rfl⟩ rfl rfl hl.1 rfl (lv_room (Nat.le_of_ble_eq_true rfl)) dX7_dearest_31 ⟨Nat.le_of_ble_eq_true rfl, Nat.le_of_ble_eq_true rfl⟩) (fun r31 u31 H locs h31 w => ?_)
      have w : Wd G _ s [(mO, .inr (7, [.ref mS, .ref mD, .ref mR, .ref mT, .int mt, .int ma, .int mn, .ref mW, .ref mQ, .ref mC, .int my, .ref mU, .ref mV, .int mm, .int mf, .int mg])), (mS, .inl (G.2.1 2, 49, .inl fS)), (mR, .inl (G.2.1 2, 3, .inl u31)), (mQ, .inl (G.2.1 2, 200, .inl fQ)), (mC, .inl (G.2.1 3, 200, .inr (.inl lC))), (mU, .inl (G.2.1 2, 200, .inl fU)), (mV, .inl (G.2.1 3, 200, .inr (.inl lV)))] H locs := w
      exact W.iret (v := r31) S.1 S.2.1 hr (fun t ht _ => ⟨⟨r31, (my, mm, mf, mg, u31, fQ, lC, fU, lV), rfl, by first | (rw [h31]; unfold noneF; rw [← hz17, if_pos c19, if_pos c19]; done) | (rw [h31]; unfold noneF; rw [← hz17, if_neg c19, if_neg c19, if_pos @c26]; done), by rw [ht]; exact w.1, w.2.1⟩, w.2.2.F ht⟩) w.2.2.2.2 dX7_dearest_34
    · refine lv_aload_n S.1 S.2.1 dX7_dearest_22 rfl (lv_at hl 1 rfl) ?_
      refine cs_i (va_runV (As := []) (rest := []) S (c_X7_isThere l G mO mS _ mD mR mT mW mQ mC mU mV mt ma mn my mm mf mg fS) (cwV 0 S.2.2.2.2 gX7_dearest_X7_isThere rfl rfl rfl (by decide +kernel) ⟨Nat.le_of_ble_eq_true rfl, Nat.le_of_ble_eq_true rfl⟩) ⟨wPre_blind, va_recv C.1 w.1 (ci := 7) (q0 := 0) rfl rfl, wPre_at C w [0, 1] rfl rfl⟩ rfl rfl hl.1 rfl (lv_room (Nat.le_of_ble_eq_true rfl)) dX7_dearest_23 ⟨Nat.le_of_ble_eq_true rfl, Nat.le_of_ble_eq_true rfl⟩) (fun r23 h23 => ?_)
      refine w_topi (y := (thereM fS)) h23 ?_
      refine lv_if_ne (tgt := 35) S.1 S.2.1 dX7_dearest_26 (by decide) (fun c26 => ?_) (fun c26 => ?_)
      · have hW := hwk c26
        obtain ⟨iN, hw0, hw1, hw2, hw4, hw5, hoN, hpN, hqN, hwf, hwo, hkd⟩ := id hW
        obtain ⟨kN, hkN, hke⟩ := stage_ok hw1 hW.g12 (zD_s (fun q => c19 (hz17.trans q))) c26
        have hic : i0.toNatClampNeg = kN := by rw [hke]; exact nIc (by have := hW.g12; omega)
        refine lv_aload_n S.1 S.2.1 dX7_dearest_35 rfl (lv_at hl 1 rfl) ?_
        refine lv_iload_n S.1 S.2.1 dX7_dearest_36 rfl (lv_at hl 2 rfl) ?_
        refine w_topi (y := (nI kN)) (hke) ?_
        refine cq_i C w [0, 1, 3, 4, 5, 6] [2] [1, 2, 0, 3, 4, 5, 6] (wr := [(mR, .inl (G.2.1 2, 3, .inl fR))]) (w' := fun u : Nat × (Nat → Int32) × (Nat → Int64) × (Nat → Int32) × (Nat → Int64) × Nat => [(mO, .inr (7, [.ref mS, .ref mD, .ref mR, .ref mT, .int mt, .int ma, .int mn, .ref mW, .ref mQ, .ref mC, .int (nI u.1), .ref mU, .ref mV, .int 0, .int mf, .int (nI u.2.2.2.2.2)])), (mS, .inl (G.2.1 2, 49, .inl fS)), (mQ, .inl (G.2.1 2, 200, .inl u.2.1)), (mC, .inl (G.2.1 3, 200, .inr (.inl u.2.2.1))), (mU, .inl (G.2.1 2, 200, .inl u.2.2.2.1)), (mV, .inl (G.2.1 3, 200, .inr (.inl u.2.2.2.2.1)))]) (ws2 := fun u : Nat × (Nat → Int32) × (Nat → Int64) × (Nat → Int32) × (Nat → Int64) × Nat => [(mO, .inr (7, [.ref mS, .ref mD, .ref mR, .ref mT, .int mt, .int ma, .int mn, .ref mW, .ref mQ, .ref mC, .int (nI u.1), .ref mU, .ref mV, .int 0, .int mf, .int (nI u.2.2.2.2.2)])), (mS, .inl (G.2.1 2, 49, .inl fS)), (mR, .inl (G.2.1 2, 3, .inl fR)), (mQ, .inl (G.2.1 2, 200, .inl u.2.1)), (mC, .inl (G.2.1 3, 200, .inr (.inl u.2.2.1))), (mU, .inl (G.2.1 2, 200, .inl u.2.2.2.1)), (mV, .inl (G.2.1 3, 200, .inr (.inl u.2.2.2.2.1)))]) rfl rfl rfl (by decide) rfl (fun _ => rfl) (va_runV (As := [.int (nI kN)]) (rest := []) S (k_X7_comes l G mO mS mQ mC mU mV _ mD mR mT mW mt ma mn my mm mf mg fS fQ fU lC lV iN (gf fS) (of_ fS) (pf_ fS) (qf_ fS) kN (hw1) (hW.g12) (hw2) (hoN) (hw4) (hpN) (hw5) (hqN) (hwf) (hwo) (hkd) (hkN)) (cwV 1 S.2.2.2.2 gX7_dearest_X7_comes rfl rfl rfl (by decide +kernel) ⟨Nat.le_of_ble_eq_true rfl, Nat.le_of_ble_eq_true rfl⟩) ⟨wPre_blind, va_recv C.1 w.1 (ci := 7) (q0 := 0) rfl rfl, wPre_at C w [0, 1, 3, 4, 5, 6] rfl rfl⟩ rfl rfl hl.1 rfl (lv_room (Nat.le_of_ble_eq_true rfl)) dX7_dearest_37 ⟨Nat.le_of_ble_eq_true rfl, Nat.le_of_ble_eq_true rfl⟩) (fun r37 u37 H locs h37 w => ?_)
        have w : Wd G _ s [(mO, .inr (7, [.ref mS, .ref mD, .ref mR, .ref mT, .int mt, .int ma, .int mn, .ref mW, .ref mQ, .ref mC, .int (nI u37.1), .ref mU, .ref mV, .int 0, .int mf, .int (nI u37.2.2.2.2.2)])), (mS, .inl (G.2.1 2, 49, .inl fS)), (mR, .inl (G.2.1 2, 3, .inl fR)), (mQ, .inl (G.2.1 2, 200, .inl u37.2.1)), (mC, .inl (G.2.1 3, 200, .inr (.inl u37.2.2.1))), (mU, .inl (G.2.1 2, 200, .inl u37.2.2.2.1)), (mV, .inl (G.2.1 3, 200, .inr (.inl u37.2.2.2.2.1)))] H locs := w
        refine lv_if_ne (tgt := 50) S.1 S.2.1 dX7_dearest_40 (by decide) (fun c40 => ?_) (fun c40 => ?_)
        · have hv := CI.val hW (hkN) (h37).2 c40
          have hnf := (CI.full_iff hW (hkN) (h37).2).2 c40
          have hv40 := hv.2.1
          refine lv_iconst (v := (-1)) S.1 S.2.1 dX7_dearest_50 (by decide) ?_
          refine lv_istore (lv' := [(4, .int (-1)), (3, .int z17), (0, .ref mO), (1, .int i0), (2, .int j0)]) S.1 S.2.1 dX7_dearest_51 hl (by decide) rfl (fun ls hl => ?_)
          refine lv_iconst (v := 0) S.1 S.2.1 dX7_dearest_53 (by decide) ?_
          refine lv_istore (lv' := [(5, .int 0), (4, .int (-1)), (3, .int z17), (0, .ref mO), (1, .int i0), (2, .int j0)]) S.1 S.2.1 dX7_dearest_54 hl (by decide) rfl (fun ls hl => ?_)
          refine w_loop (G := G) (σ := Nat × Int32) (nL := 10) 56 (fun x56 => u37.1 - x56.1) (fun x56 => x56.1 ≤ u37.1 ∧ x56.2 = fdL (PQ fS kN) u37.1 j0 x56.1) (fun x56 => [(mO, .inr (7, [.ref mS, .ref mD, .ref mR, .ref mT, .int mt, .int ma, .int mn, .ref mW, .ref mQ, .ref mC, .int (nI u37.1), .ref mU, .ref mV, .int 0, .int mf, .int (nI u37.2.2.2.2.2)])), (mS, .inl (G.2.1 2, 49, .inl fS)), (mR, .inl (G.2.1 2, 3, .inl fR)), (mQ, .inl (G.2.1 2, 200, .inl u37.2.1)), (mC, .inl (G.2.1 3, 200, .inr (.inl u37.2.2.1))), (mU, .inl (G.2.1 2, 200, .inl u37.2.2.2.1)), (mV, .inl (G.2.1 3, 200, .inr (.inl u37.2.2.2.2.1)))]) (fun x56 => [(5, .int (nI x56.1)), (4, .int x56.2), (3, .int z17), (0, .ref mO), (1, .int i0), (2, .int j0)]) (fun _ => []) ?_ (0, -1) ls _ _ (⟨Nat.zero_le _, rfl⟩) w (lv_sub hl [0, 1, 2, 3, 4, 5] rfl)
          intro x56 ls H locs hI56 w hl ih56
          have w : Wd G _ s [(mO, .inr (7, [.ref mS, .ref mD, .ref mR, .ref mT, .int mt, .int ma, .int mn, .ref mW, .ref mQ, .ref mC, .int (nI u37.1), .ref mU, .ref mV, .int 0, .int mf, .int (nI u37.2.2.2.2.2)])), (mS, .inl (G.2.1 2, 49, .inl fS)), (mR, .inl (G.2.1 2, 3, .inl fR)), (mQ, .inl (G.2.1 2, 200, .inl u37.2.1)), (mC, .inl (G.2.1 3, 200, .inr (.inl u37.2.2.1))), (mU, .inl (G.2.1 2, 200, .inl u37.2.2.2.1)), (mV, .inl (G.2.1 3, 200, .inr (.inl u37.2.2.2.2.1)))] H locs := w
          have hl : lv_has ls 10 [(5, .int (nI x56.1)), (4, .int x56.2), (3, .int z17), (0, .ref mO), (1, .int i0), (2, .int j0)] := hl
          have hJ1 := hI56.1
          refine lv_iload S.1 S.2.1 dX7_dearest_56 (lv_at hl 0 rfl) ?_
          refine lv_aload_n S.1 S.2.1 dX7_dearest_58 rfl (lv_at hl 3 rfl) ?_
          refine w_get S C w (CC := RX7) (T := TX7) (N := 16) (ref := "GateSumsModel") im_X7_dearest_X7 0 rfl rfl 10 (by decide) (List.mem_of_getElem? (i := 1) rfl) (fun _ h => h) rfl dX7_dearest_59 ?_
          refine lv_icmp_ge (tgt := 166) S.1 S.2.1 dX7_dearest_62 (by decide) (fun c62 => ?_) (fun c62 => ?_)
          · refine lv_iload S.1 S.2.1 dX7_dearest_166 (lv_at hl 1 rfl) ?_
            exact W.iret (v := x56.2) S.1 S.2.1 hr (fun t ht _ => ⟨⟨x56.2, ((nI u37.1), 0, mf, (nI u37.2.2.2.2.2), fR, u37.2.1, u37.2.2.1, u37.2.2.2.1, u37.2.2.2.2.1), rfl, (by have e : x56.1 = u37.1 := (by have h := c62; rw [nI_leI (by omega) (by omega)] at h; omega); rw [← hz17, if_neg c19, if_neg c26]; unfold dearV; rw [hic, stV_fits hnf, ← hv.1, dear_eq (hW.bd hkN).1 hv40, hI56.2, e]), by rw [ht]; exact w.1, w.2.1⟩, w.2.2.F ht⟩) w.2.2.2.2 dX7_dearest_168
          · have hlt : x56.1 < u37.1 := by have h := c62; rw [nI_leI (by omega) (by omega)] at h; omega
            refine lv_iconst (v := 0) S.1 S.2.1 dX7_dearest_65 (by decide) ?_
            refine lv_istore (lv' := [(6, .int 0), (5, .int (nI x56.1)), (4, .int x56.2), (3, .int z17), (0, .ref mO), (1, .int i0), (2, .int j0)]) S.1 S.2.1 dX7_dearest_66 hl (by decide) rfl (fun ls hl => ?_)
            refine lv_iconst (v := 0) S.1 S.2.1 dX7_dearest_68 (by decide) ?_
            refine lv_istore (lv' := [(7, .int 0), (6, .int 0), (5, .int (nI x56.1)), (4, .int x56.2), (3, .int z17), (0, .ref mO), (1, .int i0), (2, .int j0)]) S.1 S.2.1 dX7_dearest_69 hl (by decide) rfl (fun ls hl => ?_)
            refine w_loop (G := G) (σ := Nat) (nL := 10) 71 (fun x71 => u37.1 - x71) (fun x71 => x71 ≤ u37.1) (fun x71 => [(mO, .inr (7, [.ref mS, .ref mD, .ref mR, .ref mT, .int mt, .int ma, .int mn, .ref mW, .ref mQ, .ref mC, .int (nI u37.1), .ref mU, .ref mV, .int 0, .int mf, .int (nI u37.2.2.2.2.2)])), (mS, .inl (G.2.1 2, 49, .inl fS)), (mR, .inl (G.2.1 2, 3, .inl fR)), (mQ, .inl (G.2.1 2, 200, .inl u37.2.1)), (mC, .inl (G.2.1 3, 200, .inr (.inl u37.2.2.1))), (mU, .inl (G.2.1 2, 200, .inl u37.2.2.2.1)), (mV, .inl (G.2.1 3, 200, .inr (.inl u37.2.2.2.2.1)))]) (fun x71 => [(7, .int (nI x71)), (6, .int (foldF (dl1 (PQ fS kN) x56.1) x71 0)), (5, .int (nI x56.1)), (4, .int x56.2), (3, .int z17), (0, .ref mO), (1, .int i0), (2, .int j0)]) (fun _ => []) ?_ 0 ls _ _ (Nat.zero_le _) w (lv_sub hl [0, 1, 2, 3, 4, 5, 6, 7] rfl)
            intro x71 ls H locs hI71 w hl ih71
            have w : Wd G _ s [(mO, .inr (7, [.ref mS, .ref mD, .ref mR, .ref mT, .int mt, .int ma, .int mn, .ref mW, .ref mQ, .ref mC, .int (nI u37.1), .ref mU, .ref mV, .int 0, .int mf, .int (nI u37.2.2.2.2.2)])), (mS, .inl (G.2.1 2, 49, .inl fS)), (mR, .inl (G.2.1 2, 3, .inl fR)), (mQ, .inl (G.2.1 2, 200, .inl u37.2.1)), (mC, .inl (G.2.1 3, 200, .inr (.inl u37.2.2.1))), (mU, .inl (G.2.1 2, 200, .inl u37.2.2.2.1)), (mV, .inl (G.2.1 3, 200, .inr (.inl u37.2.2.2.2.1)))] H locs := w
            have hl : lv_has ls 10 [(7, .int (nI x71)), (6, .int (foldF (dl1 (PQ fS kN) x56.1) x71 0)), (5, .int (nI x56.1)), (4, .int x56.2), (3, .int z17), (0, .ref mO), (1, .int i0), (2, .int j0)] := hl
            refine lv_iload S.1 S.2.1 dX7_dearest_71 (lv_at hl 0 rfl) ?_
            refine lv_aload_n S.1 S.2.1 dX7_dearest_73 rfl (lv_at hl 5 rfl) ?_
            refine w_get S C w (CC := RX7) (T := TX7) (N := 16) (ref := "GateSumsModel") im_X7_dearest_X7 0 rfl rfl 10 (by decide) (List.mem_of_getElem? (i := 1) rfl) (fun _ h => h) rfl dX7_dearest_74 ?_
            refine lv_icmp_ge (tgt := 140) S.1 S.2.1 dX7_dearest_77 (by decide) (fun c77 => ?_) (fun c77 => ?_)
            · refine w_joini 158 [] (fun z158 => z158 = fdL (PQ fS kN) u37.1 j0 (x56.1 + 1)) (fun z158 hz158 => ?_) (fun J158 => ?_)
              · refine lv_istore (lv' := [(4, .int z158), (7, .int (nI x71)), (6, .int (foldF (dl1 (PQ fS kN) x56.1) x71 0)), (5, .int (nI x56.1)), (3, .int z17), (0, .ref mO), (1, .int i0), (2, .int j0)]) S.1 S.2.1 dX7_dearest_158 hl (by decide) rfl (fun ls hl => ?_)
                refine lv_iinc (v := (nI (x56.1 + 1))) (lv' := [(5, .int (nI (x56.1 + 1))), (4, .int z158), (7, .int (nI x71)), (6, .int (foldF (dl1 (PQ fS kN) x56.1) x71 0)), (3, .int z17), (0, .ref mO), (1, .int i0), (2, .int j0)]) S.1 S.2.1 dX7_dearest_160 hl (k := 3) rfl (nI_1 _) (by decide) rfl (fun ls hl => ?_)
                refine lv_goto (tgt := 56) S.1 S.2.1 dX7_dearest_163 (by decide) ?_
                have hlt : x56.1 < u37.1 := by have h := c62; rw [nI_leI (by omega) (by omega)] at h; omega
                exact ih56 (x56.1 + 1, z158) ls _ _ (⟨hlt, hz158⟩) (by dsimp only; omega) w (lv_sub hl [0, 1, 4, 5, 6, 7] rfl)
              · refine lv_iload S.1 S.2.1 dX7_dearest_140 (lv_at hl 1 rfl) ?_
                have hke2 : x71 = u37.1 := by have h := c77; rw [nI_leI (by omega) (by omega)] at h; omega
                refine w_topi (y := (foldF (dl1 (PQ fS kN) x56.1) u37.1 0)) (by rw [hke2]) ?_
                refine lv_iload_n S.1 S.2.1 dX7_dearest_142 rfl (lv_at hl 7 rfl) ?_
                refine lv_icmp_ne (tgt := 156) S.1 S.2.1 dX7_dearest_143 (by decide) (fun c143 => ?_) (fun c143 => ?_)
                · refine lv_iload S.1 S.2.1 dX7_dearest_156 (lv_at hl 3 rfl) ?_
                  exact J158 x56.2 (by show _ = (if foldF (dl1 (PQ fS kN) x56.1) u37.1 0 = j0 then cset (PQ fS kN) x56.1 else fdL (PQ fS kN) u37.1 j0 x56.1); exact ((if_neg c143).trans hI56.2.symm).symm)
                · refine lv_aload_n S.1 S.2.1 dX7_dearest_146 rfl (lv_at hl 5 rfl) ?_
                  refine w_get S C w (CC := RX7) (T := TX7) (N := 16) (ref := "GateSumsModel") im_X7_dearest_X7 0 rfl rfl 8 (by decide) (List.mem_of_getElem? (i := 3) rfl) (fun _ h => h) rfl dX7_dearest_147 ?_
                  refine lv_iload S.1 S.2.1 dX7_dearest_150 (lv_at hl 2 rfl) ?_
                  refine w_iald S C w 3 rfl (nIin (by omega) (by decide)) dX7_dearest_152 ?_
                  refine w_topi (y := (cset (PQ fS kN) x56.1)) ((congrArg u37.2.1 (nIc (by omega))).trans (hv.2.2.1 _ (by omega))) ?_
                  refine lv_goto (tgt := 158) S.1 S.2.1 dX7_dearest_153 (by decide) ?_
                  exact J158 (cset (PQ fS kN) x56.1) (by show _ = (if foldF (dl1 (PQ fS kN) x56.1) u37.1 0 = j0 then cset (PQ fS kN) x56.1 else fdL (PQ fS kN) u37.1 j0 x56.1); exact (if_pos c143).symm)
            · have hlt2 : x71 < u37.1 := by have h := c77; rw [nI_leI (by omega) (by omega)] at h; omega
              refine lv_aload_n S.1 S.2.1 dX7_dearest_80 rfl (lv_at hl 5 rfl) ?_
              refine w_get S C w (CC := RX7) (T := TX7) (N := 16) (ref := "GateSumsModel") im_X7_dearest_X7 0 rfl rfl 9 (by decide) (List.mem_of_getElem? (i := 2) rfl) (fun _ h => h) rfl dX7_dearest_81 ?_
              refine lv_iload S.1 S.2.1 dX7_dearest_84 (lv_at hl 0 rfl) ?_
              refine w_lald S C w 4 rfl (nIin (by omega) (by decide)) dX7_dearest_86 ?_
              refine w_topl (y := (Lc (PQ fS kN) x71)) ((congrArg u37.2.2.1 (nIc (by omega))).trans (hv.2.2.2 _ (by omega))) ?_
              refine cs_l (va_runS (As := [.long (Lc (PQ fS kN) x71)]) (rest := []) S (k_X7_size l G _ (Lc (PQ fS kN) x71)) (va_cwS 1 S.2.2.2.2 gX7_dearest_X7_size rfl rfl rfl (by decide +kernel) ⟨Nat.le_of_ble_eq_true rfl, Nat.le_of_ble_eq_true rfl⟩) ⟨wPre_blind, wPre_at C w [] rfl rfl⟩ rfl rfl hl.1 rfl (lv_room (Nat.le_of_ble_eq_true rfl)) dX7_dearest_87 ⟨Nat.le_of_ble_eq_true rfl, Nat.le_of_ble_eq_true rfl⟩) (fun r87 h87 => ?_)
              refine w_topl (y := (szL (Lc (PQ fS kN) x71))) h87 ?_
              refine lv_aload_n S.1 S.2.1 dX7_dearest_90 rfl (lv_at hl 5 rfl) ?_
              refine w_get S C w (CC := RX7) (T := TX7) (N := 16) (ref := "GateSumsModel") im_X7_dearest_X7 0 rfl rfl 9 (by decide) (List.mem_of_getElem? (i := 2) rfl) (fun _ h => h) rfl dX7_dearest_91 ?_
              refine lv_iload S.1 S.2.1 dX7_dearest_94 (lv_at hl 2 rfl) ?_
              refine w_lald S C w 4 rfl (nIin (by omega) (by decide)) dX7_dearest_96 ?_
              refine w_topl (y := (Lc (PQ fS kN) x56.1)) ((congrArg u37.2.2.1 (nIc (by omega))).trans (hv.2.2.2 _ (by omega))) ?_
              refine cs_l (va_runS (As := [.long (Lc (PQ fS kN) x56.1)]) (rest := [.long (szL (Lc (PQ fS kN) x71))]) S (k_X7_size l G _ (Lc (PQ fS kN) x56.1)) (va_cwS 1 S.2.2.2.2 gX7_dearest_X7_size rfl rfl rfl (by decide +kernel) ⟨Nat.le_of_ble_eq_true rfl, Nat.le_of_ble_eq_true rfl⟩) ⟨wPre_blind, wPre_at C w [] rfl rfl⟩ rfl rfl hl.1 rfl (lv_room (Nat.le_of_ble_eq_true rfl)) dX7_dearest_97 ⟨Nat.le_of_ble_eq_true rfl, Nat.le_of_ble_eq_true rfl⟩) (fun r97 h97 => ?_)
              refine w_topl (y := (szL (Lc (PQ fS kN) x56.1))) h97 ?_
              refine lv_lsub S.1 S.2.1 dX7_dearest_100 ?_
              refine lv_lstore (lv' := [(8, .long ((szL (Lc (PQ fS kN) x71)) - (szL (Lc (PQ fS kN) x56.1)))), (7, .int (nI x71)), (6, .int (foldF (dl1 (PQ fS kN) x56.1) x71 0)), (5, .int (nI x56.1)), (4, .int x56.2), (3, .int z17), (0, .ref mO), (1, .int i0), (2, .int j0)]) S.1 S.2.1 dX7_dearest_101 hl (by decide) rfl (fun ls hl => ?_)
              refine lv_iload S.1 S.2.1 dX7_dearest_103 (lv_at hl 2 rfl) ?_
              refine w_joini 131 [.int (foldF (dl1 (PQ fS kN) x56.1) x71 0)] (fun z131 => z131 = dzL (PQ fS kN) x56.1 x71) (fun z131 hz131 => ?_) (fun J131 => ?_)
              · refine w_topi (y := (dzL (PQ fS kN) x56.1 x71)) (hz131) ?_
                refine lv_iadd S.1 S.2.1 dX7_dearest_131 ?_
                refine lv_istore (lv' := [(6, .int ((foldF (dl1 (PQ fS kN) x56.1) x71 0) + (dzL (PQ fS kN) x56.1 x71))), (8, .long ((szL (Lc (PQ fS kN) x71)) - (szL (Lc (PQ fS kN) x56.1)))), (7, .int (nI x71)), (5, .int (nI x56.1)), (4, .int x56.2), (3, .int z17), (0, .ref mO), (1, .int i0), (2, .int j0)]) S.1 S.2.1 dX7_dearest_132 hl (by decide) rfl (fun ls hl => ?_)
                refine lv_iinc (v := (nI (x71 + 1))) (lv' := [(7, .int (nI (x71 + 1))), (6, .int ((foldF (dl1 (PQ fS kN) x56.1) x71 0) + (dzL (PQ fS kN) x56.1 x71))), (8, .long ((szL (Lc (PQ fS kN) x71)) - (szL (Lc (PQ fS kN) x56.1)))), (5, .int (nI x56.1)), (4, .int x56.2), (3, .int z17), (0, .ref mO), (1, .int i0), (2, .int j0)]) S.1 S.2.1 dX7_dearest_134 hl (k := 2) rfl (nI_1 _) (by decide) rfl (fun ls hl => ?_)
                refine lv_goto (tgt := 71) S.1 S.2.1 dX7_dearest_137 (by decide) ?_
                have hlt2 : x71 < u37.1 := by have h := c77; rw [nI_leI (by omega) (by omega)] at h; omega
                exact ih71 (x71 + 1) ls _ _ (hlt2) (by omega) w (lv_sub hl [0, 1, 3, 4, 5, 6, 7, 8] rfl)
              · refine lv_lload S.1 S.2.1 dX7_dearest_105 (lv_at hl 0 rfl) ?_
                refine lv_lconst (v := 0) S.1 S.2.1 dX7_dearest_107 (by decide) ?_
                refine W.lcmp S.1 S.2.1 dX7_dearest_108 ?_
                refine lv_if_gt (tgt := 126) S.1 S.2.1 dX7_dearest_109 (by decide) (fun c109 => ?_) (fun c109 => ?_)
                · refine lv_iconst (v := 1) S.1 S.2.1 dX7_dearest_126 (by decide) ?_
                  refine lv_goto (tgt := 131) S.1 S.2.1 dX7_dearest_127 (by decide) ?_
                  exact J131 1 ((show _ = dzL _ _ _ by unfold dzL; exact (if_pos c109).symm))
                · refine lv_lload S.1 S.2.1 dX7_dearest_112 (lv_at hl 0 rfl) ?_
                  refine lv_lconst (v := 0) S.1 S.2.1 dX7_dearest_114 (by decide) ?_
                  refine W.lcmp S.1 S.2.1 dX7_dearest_115 ?_
                  refine lv_if_ne (tgt := 130) S.1 S.2.1 dX7_dearest_116 (by decide) (fun c116 => ?_) (fun c116 => ?_)
                  · refine lv_iconst (v := 0) S.1 S.2.1 dX7_dearest_130 (by decide) ?_
                    exact J131 0 ((show _ = dzL _ _ _ by unfold dzL; exact ((if_neg c109).trans (if_neg c116)).symm))
                  · refine lv_iload S.1 S.2.1 dX7_dearest_119 (lv_at hl 1 rfl) ?_
                    refine lv_iload S.1 S.2.1 dX7_dearest_121 (lv_at hl 3 rfl) ?_
                    refine lv_icmp_ge (tgt := 130) S.1 S.2.1 dX7_dearest_123 (by decide) (fun c123 => ?_) (fun c123 => ?_)
                    · refine lv_iconst (v := 0) S.1 S.2.1 dX7_dearest_130 (by decide) ?_
                      exact J131 0 ((show _ = dzL _ _ _ by unfold dzL; exact ((if_neg c109).trans ((if_pos c116).trans (if_pos c123))).symm))
                    · refine lv_iconst (v := 1) S.1 S.2.1 dX7_dearest_126 (by decide) ?_
                      refine lv_goto (tgt := 131) S.1 S.2.1 dX7_dearest_127 (by decide) ?_
                      exact J131 1 ((show _ = dzL _ _ _ by unfold dzL; exact ((if_neg c109).trans ((if_pos c116).trans (if_neg c123))).symm))
        · have hfu := (CI.full_iff hW (hkN) (h37).2).1 c40
          refine lv_aload_n S.1 S.2.1 dX7_dearest_43 rfl (lv_at hl 1 rfl) ?_
          refine lv_bipush (v := (-4)) S.1 S.2.1 dX7_dearest_44 (by decide) ?_
          refine cq_i C w [0, 2] [1, 3, 4, 5, 6] [5, 0, 6, 1, 2, 3, 4] (wr := [(mS, .inl (G.2.1 2, 49, .inl fS)), (mQ, .inl (G.2.1 2, 200, .inl u37.2.1)), (mC, .inl (G.2.1 3, 200, .inr (.inl u37.2.2.1))), (mU, .inl (G.2.1 2, 200, .inl u37.2.2.2.1)), (mV, .inl (G.2.1 3, 200, .inr (.inl u37.2.2.2.2.1)))]) (w' := fun u : Unit => [(mO, .inr (7, [.ref mS, .ref mD, .ref mR, .ref mT, .int mt, .int ma, .int mn, .ref mW, .ref mQ, .ref mC, .int (nI u37.1), .ref mU, .ref mV, .int 0, .int mf, .int (nI u37.2.2.2.2.2)])), (mR, .inl (G.2.1 2, 3, .inl (upd fR 2 (fR 2 + 1))))]) (ws2 := fun u : Unit => [(mO, .inr (7, [.ref mS, .ref mD, .ref mR, .ref mT, .int mt, .int ma, .int mn, .ref mW, .ref mQ, .ref mC, .int (nI u37.1), .ref mU, .ref mV, .int 0, .int mf, .int (nI u37.2.2.2.2.2)])), (mS, .inl (G.2.1 2, 49, .inl fS)), (mR, .inl (G.2.1 2, 3, .inl (upd fR 2 (fR 2 + 1)))), (mQ, .inl (G.2.1 2, 200, .inl u37.2.1)), (mC, .inl (G.2.1 3, 200, .inr (.inl u37.2.2.1))), (mU, .inl (G.2.1 2, 200, .inl u37.2.2.2.1)), (mV, .inl (G.2.1 3, 200, .inr (.inl u37.2.2.2.2.1)))]) rfl rfl rfl (by decide) rfl (fun _ => rfl) (va_runV (As := [.int (-4)]) (rest := []) S (c_X7_refuses_F l G mO mR _ mS mD mT mW mQ mC mU mV mt ma mn (nI u37.1) 0 mf (nI u37.2.2.2.2.2) fR) (cwV 1 S.2.2.2.2 gX7_dearest_X7_refuses rfl rfl rfl (by decide +kernel) ⟨Nat.le_of_ble_eq_true rfl, Nat.le_of_ble_eq_true rfl⟩) ⟨wPre_blind, va_recv C.1 w.1 (ci := 7) (q0 := 0) rfl rfl, wPre_at C w [0, 2] rfl rfl⟩ rfl rfl hl.1 rfl (lv_room (Nat.le_of_ble_eq_true rfl)) dX7_dearest_46 ⟨Nat.le_of_ble_eq_true rfl, Nat.le_of_ble_eq_true rfl⟩) (fun r46 u46 H locs h46 w => ?_)
          have w : Wd G _ s [(mO, .inr (7, [.ref mS, .ref mD, .ref mR, .ref mT, .int mt, .int ma, .int mn, .ref mW, .ref mQ, .ref mC, .int (nI u37.1), .ref mU, .ref mV, .int 0, .int mf, .int (nI u37.2.2.2.2.2)])), (mS, .inl (G.2.1 2, 49, .inl fS)), (mR, .inl (G.2.1 2, 3, .inl (upd fR 2 (fR 2 + 1)))), (mQ, .inl (G.2.1 2, 200, .inl u37.2.1)), (mC, .inl (G.2.1 3, 200, .inr (.inl u37.2.2.1))), (mU, .inl (G.2.1 2, 200, .inl u37.2.2.2.1)), (mV, .inl (G.2.1 3, 200, .inr (.inl u37.2.2.2.2.1)))] H locs := w
          exact W.iret (v := r46) S.1 S.2.1 hr (fun t ht _ => ⟨⟨r46, ((nI u37.1), 0, mf, (nI u37.2.2.2.2.2), (upd fR 2 (fR 2 + 1)), u37.2.1, u37.2.2.1, u37.2.2.2.1, u37.2.2.2.2.1), rfl, by rw [h46, ← hz17, if_neg c19, if_neg c26]; unfold dearV; rw [hic, stV_full hfu], by rw [ht]; exact w.1, w.2.1⟩, w.2.2.F ht⟩) w.2.2.2.2 dX7_dearest_49
      · refine lv_aload_n S.1 S.2.1 dX7_dearest_29 rfl (lv_at hl 1 rfl) ?_
        refine lv_iload_n S.1 S.2.1 dX7_dearest_30 rfl (lv_at hl 0 rfl) ?_
        refine cq_i C w [0, 2] [1, 3, 4, 5, 6] [5, 0, 6, 1, 2, 3, 4] (wr := [(mS, .inl (G.2.1 2, 49, .inl fS)), (mQ, .inl (G.2.1 2, 200, .inl fQ)), (mC, .inl (G.2.1 3, 200, .inr (.inl lC))), (mU, .inl (G.2.1 2, 200, .inl fU)), (mV, .inl (G.2.1 3, 200, .inr (.inl lV)))]) (w' := fun u : (Nat → Int32) => [(mO, .inr (7, [.ref mS, .ref mD, .ref mR, .ref mT, .int mt, .int ma, .int mn, .ref mW, .ref mQ, .ref mC, .int my, .ref mU, .ref mV, .int mm, .int mf, .int mg])), (mR, .inl (G.2.1 2, 3, .inl u))]) (ws2 := fun u : (Nat → Int32) => [(mO, .inr (7, [.ref mS, .ref mD, .ref mR, .ref mT, .int mt, .int ma, .int mn, .ref mW, .ref mQ, .ref mC, .int my, .ref mU, .ref mV, .int mm, .int mf, .int mg])), (mS, .inl (G.2.1 2, 49, .inl fS)), (mR, .inl (G.2.1 2, 3, .inl u)), (mQ, .inl (G.2.1 2, 200, .inl fQ)), (mC, .inl (G.2.1 3, 200, .inr (.inl lC))), (mU, .inl (G.2.1 2, 200, .inl fU)), (mV, .inl (G.2.1 3, 200, .inr (.inl lV)))]) rfl rfl rfl (by decide) rfl (fun _ => rfl) (va_runV (As := [.int z17]) (rest := []) S (c_X7_none l G mO mR _ mS mD mT mW mQ mC mU mV mt ma mn my mm mf mg fR z17) (cwV 1 S.2.2.2.2 gX7_dearest_X7_none rfl rfl rfl (by decide +kernel) ⟨Nat.le_of_ble_eq_true rfl, Nat.le_of_ble_eq_true rfl⟩) ⟨wPre_blind, va_recv C.1 w.1 (ci := 7) (q0 := 0) rfl rfl, wPre_at C w [0, 2] rfl rfl⟩ rfl rfl hl.1 rfl (lv_room (Nat.le_of_ble_eq_true rfl)) dX7_dearest_31 ⟨Nat.le_of_ble_eq_true rfl, Nat.le_of_ble_eq_true rfl⟩) (fun r31_1 u31_1 H locs h31_1 w => ?_)
        have w : Wd G _ s [(mO, .inr (7, [.ref mS, .ref mD, .ref mR, .ref mT, .int mt, .int ma, .int mn, .ref mW, .ref mQ, .ref mC, .int my, .ref mU, .ref mV, .int mm, .int mf, .int mg])), (mS, .inl (G.2.1 2, 49, .inl fS)), (mR, .inl (G.2.1 2, 3, .inl u31_1)), (mQ, .inl (G.2.1 2, 200, .inl fQ)), (mC, .inl (G.2.1 3, 200, .inr (.inl lC))), (mU, .inl (G.2.1 2, 200, .inl fU)), (mV, .inl (G.2.1 3, 200, .inr (.inl lV)))] H locs := w
        exact W.iret (v := r31_1) S.1 S.2.1 hr (fun t ht _ => ⟨⟨r31_1, (my, mm, mf, mg, u31_1, fQ, lC, fU, lV), rfl, by first | (rw [h31_1]; unfold noneF; rw [← hz17, if_pos c19, if_pos c19]; done) | (rw [h31_1]; unfold noneF; rw [← hz17, if_neg c19, if_neg c19, if_pos c26]; done), by rw [ht]; exact w.1, w.2.1⟩, w.2.2.F ht⟩) w.2.2.2.2 dX7_dearest_34
  · refine lv_aload_n S.1 S.2.1 dX7_dearest_0 rfl (lv_at hl 0 rfl) ?_
    refine lv_iload_n S.1 S.2.1 dX7_dearest_1 rfl (lv_at hl 1 rfl) ?_
    refine cs_i (va_runV (As := [.int i0]) (rest := []) S (c_X7_isStage l G mO mS _ mD mR mT mW mQ mC mU mV mt ma mn my mm mf mg fS i0) (cwV 1 S.2.2.2.2 gX7_dearest_X7_isStage rfl rfl rfl (by decide +kernel) ⟨Nat.le_of_ble_eq_true rfl, Nat.le_of_ble_eq_true rfl⟩) ⟨wPre_blind, va_recv C.1 w.1 (ci := 7) (q0 := 0) rfl rfl, wPre_at C w [0, 1] rfl rfl⟩ rfl rfl hl.1 rfl (lv_room (Nat.le_of_ble_eq_true rfl)) dX7_dearest_2 ⟨Nat.le_of_ble_eq_true rfl, Nat.le_of_ble_eq_true rfl⟩) (fun r2 h2 => ?_)
    refine w_topi (y := (stgM fS i0)) h2 ?_
    refine lv_if_eq (tgt := 16) S.1 S.2.1 dX7_dearest_5 (by decide) (fun c5 => ?_) (fun c5 => ?_)
    · refine lv_iconst (v := 0) S.1 S.2.1 dX7_dearest_16 (by decide) ?_
      exact J17 0 (by simp only [zDear, if_pos c5])
    · refine lv_iload_n S.1 S.2.1 dX7_dearest_8 rfl (lv_at hl 2 rfl) ?_
      refine lv_if_lt (tgt := 16) S.1 S.2.1 dX7_dearest_9 (by decide) (fun c9 => ?_) (fun c9 => ?_)
      · refine lv_iconst (v := 0) S.1 S.2.1 dX7_dearest_16 (by decide) ?_
        exact J17 0 (by simp only [zDear, if_neg c5, if_pos c9])
      · refine lv_iconst (v := 1) S.1 S.2.1 dX7_dearest_12 (by decide) ?_
        refine lv_goto (tgt := 17) S.1 S.2.1 dX7_dearest_13 (by decide) ?_
        exact J17 1 (by simp only [zDear, if_neg c5, if_neg c9])
