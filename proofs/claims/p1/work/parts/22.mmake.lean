set_option maxHeartbeats 4000000 in
set_option maxRecDepth 100000 in
theorem c_X7_lays (l : Launch) (G : GT) (mS : Nat) (sz : Nat) (fS : Nat → Int32) (jL : Nat) (k0 x0 y0 : Int32) (hj : fS 1 = nI jL) (hl12 : jL < 12) : Met l yX7_lays wsX7_lays ({ frames := 0, cells := 0, slots := 0, locals := 0 }) (va_Pc [.ref mS, .int k0, .int x0, .int y0] (wPre G [(mS, .inl (G.2.1 2, 49, .inl fS))] sz)) (va_Qi (fun (r : Int32) (u : Unit) => r = fS 0 + nI jL) (bW G (va_A [(mS, .inl (G.2.1 2, 49, .inl fS))] sz) (fun u : Unit => [(mS, .inl (G.2.1 2, 49, .inl (laysF fS jL k0 x0 y0)))])) (va_A [(mS, .inl (G.2.1 2, 49, .inl fS))] sz)) 0 0 (va_A [(mS, .inl (G.2.1 2, 49, .inl fS))] sz) := by
  refine met_go (cc := cX7_lays) (maxL := 5) (ret := (some .int)) (own := RX7) (by decide) rfl rfl (Nat.le_of_ble_eq_true rfl) ?_
  intro p e s m below meth c ls S hr hlocks hname hsz C w hl
  have hl : lv_has ls 5 [(0, .ref mS), (1, .int k0), (2, .int x0), (3, .int y0)] := hl
  refine lv_aload_n S.1 S.2.1 dX7_lays_0 rfl (lv_at hl 0 rfl) ?_
  refine lv_iconst (v := 1) S.1 S.2.1 dX7_lays_1 (by decide) ?_
  refine w_iald S C w 0 rfl (by unfold vp_in; decide) dX7_lays_2 ?_
  refine w_topi (y := (nI jL)) (hj) ?_
  refine lv_istore (lv' := [(4, .int (nI jL)), (0, .ref mS), (1, .int k0), (2, .int x0), (3, .int y0)]) S.1 S.2.1 dX7_lays_3 hl (by decide) rfl (fun ls hl => ?_)
  refine lv_aload_n S.1 S.2.1 dX7_lays_5 rfl (lv_at hl 1 rfl) ?_
  refine lv_bipush (v := 6) S.1 S.2.1 dX7_lays_6 (by decide) ?_
  refine lv_iload S.1 S.2.1 dX7_lays_8 (lv_at hl 0 rfl) ?_
  refine lv_iadd S.1 S.2.1 dX7_lays_10 ?_
  refine w_topi (y := (nI (6 + jL))) (nI_add 6 jL) ?_
  refine lv_iload_n S.1 S.2.1 dX7_lays_11 rfl (lv_at hl 2 rfl) ?_
  refine w_iast S C w 0 rfl (nIin (by omega) (by decide)) (ws2 := [(mS, .inl (G.2.1 2, 49, .inl (upd fS (nI (6 + jL)).toNatClampNeg k0)))]) rfl dX7_lays_12 (fun H locs w => ?_)
  have w : Wd G (va_A [(mS, .inl (G.2.1 2, 49, .inl fS))] sz) s [(mS, .inl (G.2.1 2, 49, .inl (upd fS (6 + jL) k0)))] H locs := by have h := nIc (j := 6 + jL) (by omega); rw [h] at w; exact w
  refine lv_aload_n S.1 S.2.1 dX7_lays_13 rfl (lv_at hl 1 rfl) ?_
  refine lv_bipush (v := 18) S.1 S.2.1 dX7_lays_14 (by decide) ?_
  refine lv_iload S.1 S.2.1 dX7_lays_16 (lv_at hl 0 rfl) ?_
  refine lv_iadd S.1 S.2.1 dX7_lays_18 ?_
  refine w_topi (y := (nI (18 + jL))) (nI_add 18 jL) ?_
  refine lv_iload_n S.1 S.2.1 dX7_lays_19 rfl (lv_at hl 3 rfl) ?_
  refine w_iast S C w 0 rfl (nIin (by omega) (by decide)) (ws2 := [(mS, .inl (G.2.1 2, 49, .inl (upd (upd fS (6 + jL) k0) (nI (18 + jL)).toNatClampNeg x0)))]) rfl dX7_lays_20 (fun H locs w => ?_)
  have w : Wd G (va_A [(mS, .inl (G.2.1 2, 49, .inl fS))] sz) s [(mS, .inl (G.2.1 2, 49, .inl (upd (upd fS (6 + jL) k0) (18 + jL) x0)))] H locs := by have h := nIc (j := 18 + jL) (by omega); rw [h] at w; exact w
  refine lv_aload_n S.1 S.2.1 dX7_lays_21 rfl (lv_at hl 1 rfl) ?_
  refine lv_bipush (v := 30) S.1 S.2.1 dX7_lays_22 (by decide) ?_
  refine lv_iload S.1 S.2.1 dX7_lays_24 (lv_at hl 0 rfl) ?_
  refine lv_iadd S.1 S.2.1 dX7_lays_26 ?_
  refine w_topi (y := (nI (30 + jL))) (nI_add 30 jL) ?_
  refine lv_iload_n S.1 S.2.1 dX7_lays_27 rfl (lv_at hl 2 rfl) ?_
  refine w_joini 36 [.int (nI (30 + jL)), .ref mS] (fun z36 => z36 = if k0 = 0 then (-1) else y0) (fun z36 hz36 => ?_) (fun J36 => ?_)
  · refine w_topi (y := (if k0 = 0 then (-1) else y0)) (hz36) ?_
    refine w_iast S C w 0 rfl (nIin (by omega) (by decide)) (ws2 := [(mS, .inl (G.2.1 2, 49, .inl (upd (upd (upd fS (6 + jL) k0) (18 + jL) x0) (nI (30 + jL)).toNatClampNeg (if k0 = 0 then (-1) else y0))))]) rfl dX7_lays_36 (fun H locs w => ?_)
    have w : Wd G (va_A [(mS, .inl (G.2.1 2, 49, .inl fS))] sz) s [(mS, .inl (G.2.1 2, 49, .inl (upd (upd (upd fS (6 + jL) k0) (18 + jL) x0) (30 + jL) (if k0 = 0 then (-1) else y0))))] H locs := by have h := nIc (j := 30 + jL) (by omega); rw [h] at w; exact w
    refine lv_aload_n S.1 S.2.1 dX7_lays_37 rfl (lv_at hl 1 rfl) ?_
    refine lv_iconst (v := 1) S.1 S.2.1 dX7_lays_38 (by decide) ?_
    refine lv_dup2_11 S.1 S.2.1 dX7_lays_39 rfl rfl ?_
    refine w_iald S C w 0 rfl (by unfold vp_in; decide) dX7_lays_40 ?_
    refine w_topi (y := (nI jL)) (show upd (upd (upd fS (6 + jL) k0) (18 + jL) x0) (30 + jL) _ 1 = nI jL by rw [pk_un (by omega), pk_un (by omega), pk_un (by omega)]; exact hj) ?_
    refine lv_iconst (v := 1) S.1 S.2.1 dX7_lays_41 (by decide) ?_
    refine lv_iadd S.1 S.2.1 dX7_lays_42 ?_
    refine w_topi (y := (nI (jL + 1))) (nI_1 _) ?_
    refine w_iast S C w 0 rfl (by unfold vp_in; decide) (ws2 := [(mS, .inl (G.2.1 2, 49, .inl (upd (upd (upd (upd fS (6 + jL) k0) (18 + jL) x0) (30 + jL) (if k0 = 0 then (-1) else y0)) (1 : Int32).toNatClampNeg (nI (jL + 1)))))]) rfl dX7_lays_43 (fun H locs w => ?_)
    refine lv_aload_n S.1 S.2.1 dX7_lays_44 rfl (lv_at hl 1 rfl) ?_
    refine lv_iconst (v := 0) S.1 S.2.1 dX7_lays_45 (by decide) ?_
    refine w_iald S C w 0 rfl (by unfold vp_in; decide) dX7_lays_46 ?_
    refine w_topi (y := (fS 0)) ((show laysF fS jL k0 x0 y0 0 = fS 0 from laysF_0)) ?_
    refine lv_iload S.1 S.2.1 dX7_lays_47 (lv_at hl 0 rfl) ?_
    refine lv_iadd S.1 S.2.1 dX7_lays_49 ?_
    have w : Wd G (va_A [(mS, .inl (G.2.1 2, 49, .inl fS))] sz) s [(mS, .inl (G.2.1 2, 49, .inl (laysF fS jL k0 x0 y0)))] H locs := w
    exact W.iret (v := ((fS 0) + (nI jL))) S.1 S.2.1 hr (fun t ht _ => ⟨⟨((fS 0) + (nI jL)), (), rfl, rfl, by rw [ht]; exact w.1, w.2.1⟩, w.2.2.F ht⟩) w.2.2.2.2 dX7_lays_50
  · refine lv_if_ne (tgt := 35) S.1 S.2.1 dX7_lays_28 (by decide) (fun c28 => ?_) (fun c28 => ?_)
    · refine lv_iload_n S.1 S.2.1 dX7_lays_35 rfl (lv_at hl 4 rfl) ?_
      exact J36 y0 (by simp only [if_neg c28])
    · refine lv_iconst (v := (-1)) S.1 S.2.1 dX7_lays_31 (by decide) ?_
      refine lv_goto (tgt := 36) S.1 S.2.1 dX7_lays_32 (by decide) ?_
      exact J36 (-1) (by simp only [if_pos c28])
theorem im_X7_outs_X7 : ∀ w ∈ u_ws RX7 TX7 16, w ∈ wsX7_outs := by decide +kernel
set_option maxHeartbeats 4000000 in
set_option maxRecDepth 100000 in
theorem c_X7_outs (l : Launch) (G : GT) (mO mS : Nat) (sz : Nat) (mD mR mT mW mQ mC mU mV : Nat) (mt ma mn my mm mf mg : Int32) (fS : Nat → Int32) (oL : Nat) (x0 : Int32) (ho : fS 2 = nI oL) (hl7 : oL < 7) : Met l yX7_outs wsX7_outs ({ frames := 0, cells := 0, slots := 0, locals := 0 }) (va_Pc [.ref mO, .int x0] (wPre G [(mO, .inr (7, [.ref mS, .ref mD, .ref mR, .ref mT, .int mt, .int ma, .int mn, .ref mW, .ref mQ, .ref mC, .int my, .ref mU, .ref mV, .int mm, .int mf, .int mg])), (mS, .inl (G.2.1 2, 49, .inl fS))] sz)) (va_Qv (fun u : Unit => True) (bW G (va_A [(mO, .inr (7, [.ref mS, .ref mD, .ref mR, .ref mT, .int mt, .int ma, .int mn, .ref mW, .ref mQ, .ref mC, .int my, .ref mU, .ref mV, .int mm, .int mf, .int mg])), (mS, .inl (G.2.1 2, 49, .inl fS))] sz) (fun u : Unit => [(mO, .inr (7, [.ref mS, .ref mD, .ref mR, .ref mT, .int mt, .int ma, .int mn, .ref mW, .ref mQ, .ref mC, .int my, .ref mU, .ref mV, .int mm, .int mf, .int mg])), (mS, .inl (G.2.1 2, 49, .inl (outsF fS oL x0)))])) (va_A [(mO, .inr (7, [.ref mS, .ref mD, .ref mR, .ref mT, .int mt, .int ma, .int mn, .ref mW, .ref mQ, .ref mC, .int my, .ref mU, .ref mV, .int mm, .int mf, .int mg])), (mS, .inl (G.2.1 2, 49, .inl fS))] sz)) 0 0 (va_A [(mO, .inr (7, [.ref mS, .ref mD, .ref mR, .ref mT, .int mt, .int ma, .int mn, .ref mW, .ref mQ, .ref mC, .int my, .ref mU, .ref mV, .int mm, .int mf, .int mg])), (mS, .inl (G.2.1 2, 49, .inl fS))] sz) := by
  refine met_go (cc := cX7_outs) (maxL := 2) (ret := none) (own := RX7) (by decide) rfl rfl (Nat.le_of_ble_eq_true rfl) ?_
  intro p e s m below meth c ls S hr hlocks hname hsz C w hl
  have hl : lv_has ls 2 [(0, .ref mO), (1, .int x0)] := hl
  refine lv_aload_n S.1 S.2.1 dX7_outs_0 rfl (lv_at hl 0 rfl) ?_
  refine w_get S C w (CC := RX7) (T := TX7) (N := 16) (ref := "GateSumsModel") im_X7_outs_X7 0 rfl rfl 0 (by decide) (List.mem_of_getElem? (i := 1) rfl) (fun _ h => h) rfl dX7_outs_1 ?_
  refine lv_bipush (v := 42) S.1 S.2.1 dX7_outs_4 (by decide) ?_
  refine lv_aload_n S.1 S.2.1 dX7_outs_6 rfl (lv_at hl 0 rfl) ?_
  refine w_get S C w (CC := RX7) (T := TX7) (N := 16) (ref := "GateSumsModel") im_X7_outs_X7 0 rfl rfl 0 (by decide) (List.mem_of_getElem? (i := 1) rfl) (fun _ h => h) rfl dX7_outs_7 ?_
  refine lv_iconst (v := 2) S.1 S.2.1 dX7_outs_10 (by decide) ?_
  refine w_iald S C w 1 rfl (by unfold vp_in; decide) dX7_outs_11 ?_
  refine w_topi (y := (nI oL)) (ho) ?_
  refine lv_iadd S.1 S.2.1 dX7_outs_12 ?_
  refine w_topi (y := (nI (42 + oL))) (nI_add 42 oL) ?_
  refine lv_iload_n S.1 S.2.1 dX7_outs_13 rfl (lv_at hl 1 rfl) ?_
  refine w_iast S C w 1 rfl (nIin (by omega) (by decide)) (ws2 := [(mO, .inr (7, [.ref mS, .ref mD, .ref mR, .ref mT, .int mt, .int ma, .int mn, .ref mW, .ref mQ, .ref mC, .int my, .ref mU, .ref mV, .int mm, .int mf, .int mg])), (mS, .inl (G.2.1 2, 49, .inl (upd fS (nI (42 + oL)).toNatClampNeg x0)))]) rfl dX7_outs_14 (fun H locs w => ?_)
  have w : Wd G (va_A [(mO, .inr (7, [.ref mS, .ref mD, .ref mR, .ref mT, .int mt, .int ma, .int mn, .ref mW, .ref mQ, .ref mC, .int my, .ref mU, .ref mV, .int mm, .int mf, .int mg])), (mS, .inl (G.2.1 2, 49, .inl fS))] sz) s [(mO, .inr (7, [.ref mS, .ref mD, .ref mR, .ref mT, .int mt, .int ma, .int mn, .ref mW, .ref mQ, .ref mC, .int my, .ref mU, .ref mV, .int mm, .int mf, .int mg])), (mS, .inl (G.2.1 2, 49, .inl (upd fS (42 + oL) x0)))] H locs := by have h := nIc (j := 42 + oL) (by omega); rw [h] at w; exact w
  refine lv_aload_n S.1 S.2.1 dX7_outs_15 rfl (lv_at hl 0 rfl) ?_
  refine w_get S C w (CC := RX7) (T := TX7) (N := 16) (ref := "GateSumsModel") im_X7_outs_X7 0 rfl rfl 0 (by decide) (List.mem_of_getElem? (i := 1) rfl) (fun _ h => h) rfl dX7_outs_16 ?_
  refine lv_iconst (v := 2) S.1 S.2.1 dX7_outs_19 (by decide) ?_
  refine lv_dup2_11 S.1 S.2.1 dX7_outs_20 rfl rfl ?_
  refine w_iald S C w 1 rfl (by unfold vp_in; decide) dX7_outs_21 ?_
  refine w_topi (y := (nI oL)) (show upd fS (42 + oL) x0 2 = nI oL by rw [pk_un (by omega)]; exact ho) ?_
  refine lv_iconst (v := 1) S.1 S.2.1 dX7_outs_22 (by decide) ?_
  refine lv_iadd S.1 S.2.1 dX7_outs_23 ?_
  refine w_topi (y := (nI (oL + 1))) (nI_1 _) ?_
  refine w_iast S C w 1 rfl (by unfold vp_in; decide) (ws2 := [(mO, .inr (7, [.ref mS, .ref mD, .ref mR, .ref mT, .int mt, .int ma, .int mn, .ref mW, .ref mQ, .ref mC, .int my, .ref mU, .ref mV, .int mm, .int mf, .int mg])), (mS, .inl (G.2.1 2, 49, .inl (upd (upd fS (42 + oL) x0) (2 : Int32).toNatClampNeg (nI (oL + 1)))))]) rfl dX7_outs_24 (fun H locs w => ?_)
  have w : Wd G (va_A [(mO, .inr (7, [.ref mS, .ref mD, .ref mR, .ref mT, .int mt, .int ma, .int mn, .ref mW, .ref mQ, .ref mC, .int my, .ref mU, .ref mV, .int mm, .int mf, .int mg])), (mS, .inl (G.2.1 2, 49, .inl fS))] sz) s [(mO, .inr (7, [.ref mS, .ref mD, .ref mR, .ref mT, .int mt, .int ma, .int mn, .ref mW, .ref mQ, .ref mC, .int my, .ref mU, .ref mV, .int mm, .int mf, .int mg])), (mS, .inl (G.2.1 2, 49, .inl (outsF fS oL x0)))] H locs := w
  exact W.vret S.1 S.2.1 hr (fun t ht _ => ⟨⟨(), rfl, trivial, by rw [ht]; exact w.1, w.2.1⟩, w.2.2.F ht⟩) w.2.2.2.2 dX7_outs_25
theorem im_X7_begins_X7 : ∀ w ∈ u_ws RX7 TX7 16, w ∈ wsX7_begins := by decide +kernel
set_option maxHeartbeats 4000000 in
set_option maxRecDepth 100000 in
theorem c_X7_begins (l : Launch) (G : GT) (mO mS : Nat) (sz : Nat) (mD mR mT mW mQ mC mU mV : Nat) (mt ma mn my mm mf mg : Int32) (fS : Nat → Int32) (n0 t0 p0 q0 : Int32) : Met l yX7_begins wsX7_begins ({ frames := 0, cells := 0, slots := 0, locals := 0 }) (va_Pc [.ref mO, .int n0, .int t0, .int p0, .int q0] (wPre G [(mO, .inr (7, [.ref mS, .ref mD, .ref mR, .ref mT, .int mt, .int ma, .int mn, .ref mW, .ref mQ, .ref mC, .int my, .ref mU, .ref mV, .int mm, .int mf, .int mg])), (mS, .inl (G.2.1 2, 49, .inl fS))] sz)) (va_Qv (fun u : Unit => True) (bW G (va_A [(mO, .inr (7, [.ref mS, .ref mD, .ref mR, .ref mT, .int mt, .int ma, .int mn, .ref mW, .ref mQ, .ref mC, .int my, .ref mU, .ref mV, .int mm, .int mf, .int mg])), (mS, .inl (G.2.1 2, 49, .inl fS))] sz) (fun u : Unit => [(mO, .inr (7, [.ref mS, .ref mD, .ref mR, .ref mT, .int mt, .int ma, .int mn, .ref mW, .ref mQ, .ref mC, .int my, .ref mU, .ref mV, .int mm, .int mf, .int mg])), (mS, .inl (G.2.1 2, 49, .inl (begF n0 t0 p0 q0 fS)))])) (va_A [(mO, .inr (7, [.ref mS, .ref mD, .ref mR, .ref mT, .int mt, .int ma, .int mn, .ref mW, .ref mQ, .ref mC, .int my, .ref mU, .ref mV, .int mm, .int mf, .int mg])), (mS, .inl (G.2.1 2, 49, .inl fS))] sz)) 0 0 (va_A [(mO, .inr (7, [.ref mS, .ref mD, .ref mR, .ref mT, .int mt, .int ma, .int mn, .ref mW, .ref mQ, .ref mC, .int my, .ref mU, .ref mV, .int mm, .int mf, .int mg])), (mS, .inl (G.2.1 2, 49, .inl fS))] sz) := by
  refine met_go (cc := cX7_begins) (maxL := 6) (ret := none) (own := RX7) (by decide) rfl rfl (Nat.le_of_ble_eq_true rfl) ?_
  intro p e s m below meth c ls S hr hlocks hname hsz C w hl
  have hl : lv_has ls 6 [(0, .ref mO), (1, .int n0), (2, .int t0), (3, .int p0), (4, .int q0)] := hl
  refine lv_iconst (v := 0) S.1 S.2.1 dX7_begins_0 (by decide) ?_
  refine lv_istore (lv' := [(5, .int 0), (0, .ref mO), (1, .int n0), (2, .int t0), (3, .int p0), (4, .int q0)]) S.1 S.2.1 dX7_begins_1 hl (by decide) rfl (fun ls hl => ?_)
  refine w_loop (G := G) (σ := Nat) (nL := 6) 3 (fun x3 => 49 - x3) (fun x3 => x3 ≤ 49) (fun x3 => [(mO, .inr (7, [.ref mS, .ref mD, .ref mR, .ref mT, .int mt, .int ma, .int mn, .ref mW, .ref mQ, .ref mC, .int my, .ref mU, .ref mV, .int mm, .int mf, .int mg])), (mS, .inl (G.2.1 2, 49, .inl (zeroF x3 fS)))]) (fun x3 => [(5, .int (nI x3)), (0, .ref mO), (1, .int n0), (2, .int t0), (3, .int p0), (4, .int q0)]) (fun _ => []) ?_ 0 ls _ _ (Nat.zero_le _) w (lv_sub hl [0, 1, 2, 3, 4, 5] rfl)
  intro x3 ls H locs hI3 w hl ih3
  have w : Wd G _ s [(mO, .inr (7, [.ref mS, .ref mD, .ref mR, .ref mT, .int mt, .int ma, .int mn, .ref mW, .ref mQ, .ref mC, .int my, .ref mU, .ref mV, .int mm, .int mf, .int mg])), (mS, .inl (G.2.1 2, 49, .inl (zeroF x3 fS)))] H locs := w
  have hl : lv_has ls 6 [(5, .int (nI x3)), (0, .ref mO), (1, .int n0), (2, .int t0), (3, .int p0), (4, .int q0)] := hl
  refine lv_iload S.1 S.2.1 dX7_begins_3 (lv_at hl 0 rfl) ?_
  refine lv_bipush (v := 49) S.1 S.2.1 dX7_begins_5 (by decide) ?_
  refine lv_icmp_ge (tgt := 24) S.1 S.2.1 dX7_begins_7 (by decide) (fun c7 => ?_) (fun c7 => ?_)
  · refine lv_aload_n S.1 S.2.1 dX7_begins_24 rfl (lv_at hl 1 rfl) ?_
    refine w_get S C w (CC := RX7) (T := TX7) (N := 16) (ref := "GateSumsModel") im_X7_begins_X7 0 rfl rfl 0 (by decide) (List.mem_of_getElem? (i := 1) rfl) (fun _ h => h) rfl dX7_begins_25 ?_
    refine lv_iconst (v := 0) S.1 S.2.1 dX7_begins_28 (by decide) ?_
    refine lv_iload_n S.1 S.2.1 dX7_begins_29 rfl (lv_at hl 2 rfl) ?_
    refine w_iast S C w 1 rfl (by unfold vp_in; decide) (ws2 := [(mO, .inr (7, [.ref mS, .ref mD, .ref mR, .ref mT, .int mt, .int ma, .int mn, .ref mW, .ref mQ, .ref mC, .int my, .ref mU, .ref mV, .int mm, .int mf, .int mg])), (mS, .inl (G.2.1 2, 49, .inl (upd (zeroF x3 fS) (0 : Int32).toNatClampNeg n0)))]) rfl dX7_begins_30 (fun H locs w => ?_)
    refine lv_aload_n S.1 S.2.1 dX7_begins_31 rfl (lv_at hl 1 rfl) ?_
    refine w_get S C w (CC := RX7) (T := TX7) (N := 16) (ref := "GateSumsModel") im_X7_begins_X7 0 rfl rfl 0 (by decide) (List.mem_of_getElem? (i := 1) rfl) (fun _ h => h) rfl dX7_begins_32 ?_
    refine lv_iconst (v := 3) S.1 S.2.1 dX7_begins_35 (by decide) ?_
    refine lv_iload_n S.1 S.2.1 dX7_begins_36 rfl (lv_at hl 3 rfl) ?_
    refine w_iast S C w 1 rfl (by unfold vp_in; decide) (ws2 := [(mO, .inr (7, [.ref mS, .ref mD, .ref mR, .ref mT, .int mt, .int ma, .int mn, .ref mW, .ref mQ, .ref mC, .int my, .ref mU, .ref mV, .int mm, .int mf, .int mg])), (mS, .inl (G.2.1 2, 49, .inl (upd (upd (zeroF x3 fS) (0 : Int32).toNatClampNeg n0) (3 : Int32).toNatClampNeg t0)))]) rfl dX7_begins_37 (fun H locs w => ?_)
    refine lv_aload_n S.1 S.2.1 dX7_begins_38 rfl (lv_at hl 1 rfl) ?_
    refine w_get S C w (CC := RX7) (T := TX7) (N := 16) (ref := "GateSumsModel") im_X7_begins_X7 0 rfl rfl 0 (by decide) (List.mem_of_getElem? (i := 1) rfl) (fun _ h => h) rfl dX7_begins_39 ?_
    refine lv_iconst (v := 4) S.1 S.2.1 dX7_begins_42 (by decide) ?_
    refine lv_iload_n S.1 S.2.1 dX7_begins_43 rfl (lv_at hl 4 rfl) ?_
    refine w_iast S C w 1 rfl (by unfold vp_in; decide) (ws2 := [(mO, .inr (7, [.ref mS, .ref mD, .ref mR, .ref mT, .int mt, .int ma, .int mn, .ref mW, .ref mQ, .ref mC, .int my, .ref mU, .ref mV, .int mm, .int mf, .int mg])), (mS, .inl (G.2.1 2, 49, .inl (upd (upd (upd (zeroF x3 fS) (0 : Int32).toNatClampNeg n0) (3 : Int32).toNatClampNeg t0) (4 : Int32).toNatClampNeg p0)))]) rfl dX7_begins_44 (fun H locs w => ?_)
    refine lv_aload_n S.1 S.2.1 dX7_begins_45 rfl (lv_at hl 1 rfl) ?_
    refine w_get S C w (CC := RX7) (T := TX7) (N := 16) (ref := "GateSumsModel") im_X7_begins_X7 0 rfl rfl 0 (by decide) (List.mem_of_getElem? (i := 1) rfl) (fun _ h => h) rfl dX7_begins_46 ?_
    refine lv_iconst (v := 5) S.1 S.2.1 dX7_begins_49 (by decide) ?_
    refine lv_iload S.1 S.2.1 dX7_begins_50 (lv_at hl 5 rfl) ?_
    refine w_iast S C w 1 rfl (by unfold vp_in; decide) (ws2 := [(mO, .inr (7, [.ref mS, .ref mD, .ref mR, .ref mT, .int mt, .int ma, .int mn, .ref mW, .ref mQ, .ref mC, .int my, .ref mU, .ref mV, .int mm, .int mf, .int mg])), (mS, .inl (G.2.1 2, 49, .inl (upd (upd (upd (upd (zeroF x3 fS) (0 : Int32).toNatClampNeg n0) (3 : Int32).toNatClampNeg t0) (4 : Int32).toNatClampNeg p0) (5 : Int32).toNatClampNeg q0)))]) rfl dX7_begins_52 (fun H locs w => ?_)
    have w : Wd G (va_A [(mO, .inr (7, [.ref mS, .ref mD, .ref mR, .ref mT, .int mt, .int ma, .int mn, .ref mW, .ref mQ, .ref mC, .int my, .ref mU, .ref mV, .int mm, .int mf, .int mg])), (mS, .inl (G.2.1 2, 49, .inl fS))] sz) s [(mO, .inr (7, [.ref mS, .ref mD, .ref mR, .ref mT, .int mt, .int ma, .int mn, .ref mW, .ref mQ, .ref mC, .int my, .ref mU, .ref mV, .int mm, .int mf, .int mg])), (mS, .inl (G.2.1 2, 49, .inl (begF n0 t0 p0 q0 fS)))] H locs := by have h := c7; rw [show (49 : Int32) = nI 49 from rfl, nI_leI (by decide) (by omega)] at h; have e : x3 = 49 := (by omega); subst e; exact w
    exact W.vret S.1 S.2.1 hr (fun t ht _ => ⟨⟨(), rfl, trivial, by rw [ht]; exact w.1, w.2.1⟩, w.2.2.F ht⟩) w.2.2.2.2 dX7_begins_53
  · refine lv_aload_n S.1 S.2.1 dX7_begins_10 rfl (lv_at hl 1 rfl) ?_
    refine w_get S C w (CC := RX7) (T := TX7) (N := 16) (ref := "GateSumsModel") im_X7_begins_X7 0 rfl rfl 0 (by decide) (List.mem_of_getElem? (i := 1) rfl) (fun _ h => h) rfl dX7_begins_11 ?_
    refine lv_iload S.1 S.2.1 dX7_begins_14 (lv_at hl 0 rfl) ?_
    refine lv_iconst (v := 0) S.1 S.2.1 dX7_begins_16 (by decide) ?_
    refine w_iast S C w 1 rfl (nIin (by have h := c7; rw [show (49 : Int32) = nI 49 from rfl, nI_leI (by decide) (by omega)] at h; omega) (by decide)) (ws2 := [(mO, .inr (7, [.ref mS, .ref mD, .ref mR, .ref mT, .int mt, .int ma, .int mn, .ref mW, .ref mQ, .ref mC, .int my, .ref mU, .ref mV, .int mm, .int mf, .int mg])), (mS, .inl (G.2.1 2, 49, .inl (upd (zeroF x3 fS) (nI x3).toNatClampNeg 0)))]) rfl dX7_begins_17 (fun H locs w => ?_)
    have w : Wd G (va_A [(mO, .inr (7, [.ref mS, .ref mD, .ref mR, .ref mT, .int mt, .int ma, .int mn, .ref mW, .ref mQ, .ref mC, .int my, .ref mU, .ref mV, .int mm, .int mf, .int mg])), (mS, .inl (G.2.1 2, 49, .inl fS))] sz) s [(mO, .inr (7, [.ref mS, .ref mD, .ref mR, .ref mT, .int mt, .int ma, .int mn, .ref mW, .ref mQ, .ref mC, .int my, .ref mU, .ref mV, .int mm, .int mf, .int mg])), (mS, .inl (G.2.1 2, 49, .inl (upd (zeroF x3 fS) x3 0)))] H locs := by have h := nIc (j := x3) (by omega); rw [h] at w; exact w
    refine lv_iinc (v := (nI (x3 + 1))) (lv' := [(5, .int (nI (x3 + 1))), (0, .ref mO), (1, .int n0), (2, .int t0), (3, .int p0), (4, .int q0)]) S.1 S.2.1 dX7_begins_18 hl (k := 0) rfl (nI_1 _) (by decide) rfl (fun ls hl => ?_)
    refine lv_goto (tgt := 3) S.1 S.2.1 dX7_begins_21 (by decide) ?_
    have w : Wd G (va_A [(mO, .inr (7, [.ref mS, .ref mD, .ref mR, .ref mT, .int mt, .int ma, .int mn, .ref mW, .ref mQ, .ref mC, .int my, .ref mU, .ref mV, .int mm, .int mf, .int mg])), (mS, .inl (G.2.1 2, 49, .inl fS))] sz) s [(mO, .inr (7, [.ref mS, .ref mD, .ref mR, .ref mT, .int mt, .int ma, .int mn, .ref mW, .ref mQ, .ref mC, .int my, .ref mU, .ref mV, .int mm, .int mf, .int mg])), (mS, .inl (G.2.1 2, 49, .inl (zeroF (x3 + 1) fS)))] H locs := by rw [show (zeroF (x3 + 1) fS) = (upd (zeroF x3 fS) x3 0) from rfl]; exact w
    exact ih3 (x3 + 1) ls _ _ (by have h := c7; rw [show (49 : Int32) = nI 49 from rfl, nI_leI (by decide) (by omega)] at h; omega) (by have h := c7; rw [show (49 : Int32) = nI 49 from rfl, nI_leI (by decide) (by omega)] at h; omega) w (lv_sub hl [0, 1, 2, 3, 4, 5] rfl)
theorem im_X7_adder_X7 : ∀ w ∈ u_ws RX7 TX7 16, w ∈ wsX7_adder := by decide +kernel
set_option maxHeartbeats 4000000 in
set_option maxRecDepth 100000 in
theorem c_X7_adder (l : Launch) (G : GT) (mO mS mR : Nat) (sz : Nat) (mD mT mW mQ mC mU mV : Nat) (mt ma mn my mm mf mg : Int32) (fS fR : Nat → Int32) (b0 : Int32) : Met l yX7_adder wsX7_adder ({ frames := 1, cells := 0, slots := 0, locals := 25 }) (va_Pc [.ref mO, .int b0] (wPre G [(mO, .inr (7, [.ref mS, .ref mD, .ref mR, .ref mT, .int mt, .int ma, .int mn, .ref mW, .ref mQ, .ref mC, .int my, .ref mU, .ref mV, .int mm, .int mf, .int mg])), (mS, .inl (G.2.1 2, 49, .inl fS)), (mR, .inl (G.2.1 2, 3, .inl fR))] sz)) (va_Qi (fun (r : Int32) (u : (Nat → Int32) × (Nat → Int32)) => r = adderRm b0) (bW G (va_A [(mO, .inr (7, [.ref mS, .ref mD, .ref mR, .ref mT, .int mt, .int ma, .int mn, .ref mW, .ref mQ, .ref mC, .int my, .ref mU, .ref mV, .int mm, .int mf, .int mg])), (mS, .inl (G.2.1 2, 49, .inl fS)), (mR, .inl (G.2.1 2, 3, .inl fR))] sz) (fun u : (Nat → Int32) × (Nat → Int32) => [(mO, .inr (7, [.ref mS, .ref mD, .ref mR, .ref mT, .int mt, .int ma, .int mn, .ref mW, .ref mQ, .ref mC, .int my, .ref mU, .ref mV, .int mm, .int mf, .int mg])), (mS, .inl (G.2.1 2, 49, .inl u.1)), (mR, .inl (G.2.1 2, 3, .inl u.2))])) (va_A [(mO, .inr (7, [.ref mS, .ref mD, .ref mR, .ref mT, .int mt, .int ma, .int mn, .ref mW, .ref mQ, .ref mC, .int my, .ref mU, .ref mV, .int mm, .int mf, .int mg])), (mS, .inl (G.2.1 2, 49, .inl fS)), (mR, .inl (G.2.1 2, 3, .inl fR))] sz)) 0 0 (va_A [(mO, .inr (7, [.ref mS, .ref mD, .ref mR, .ref mT, .int mt, .int ma, .int mn, .ref mW, .ref mQ, .ref mC, .int my, .ref mU, .ref mV, .int mm, .int mf, .int mg])), (mS, .inl (G.2.1 2, 49, .inl fS)), (mR, .inl (G.2.1 2, 3, .inl fR))] sz) := by
  refine met_go (cc := cX7_adder) (maxL := 7) (ret := (some .int)) (own := RX7) (by decide) rfl rfl (Nat.le_of_ble_eq_true rfl) ?_
  intro p e s m below meth c ls S hr hlocks hname hsz C w hl
  have hl : lv_has ls 7 [(0, .ref mO), (1, .int b0)] := hl
  refine lv_iload_n S.1 S.2.1 dX7_adder_0 rfl (lv_at hl 1 rfl) ?_
  refine lv_iconst (v := 1) S.1 S.2.1 dX7_adder_1 (by decide) ?_
  refine lv_iconst (v := 3) S.1 S.2.1 dX7_adder_2 (by decide) ?_
  refine cs_i (va_runS (As := [.int b0, .int 1, .int 3]) (rest := []) S (c_X7_in l G _ b0 1 3) (cwS 3 S.2.2.2.2 gX7_adder_X7_in rfl rfl rfl (by decide +kernel) ⟨Nat.le_of_ble_eq_true rfl, Nat.le_of_ble_eq_true rfl⟩) ⟨wPre_blind, wPre_at C w [] rfl rfl⟩ rfl rfl hl.1 rfl (lv_room (Nat.le_of_ble_eq_true rfl)) dX7_adder_3 ⟨Nat.le_of_ble_eq_true rfl, Nat.le_of_ble_eq_true rfl⟩) (fun r3 h3 => ?_)
  refine w_topi (y := (inF b0 1 3)) h3 ?_
  refine lv_if_ne (tgt := 16) S.1 S.2.1 dX7_adder_6 (by decide) (fun c6 => ?_) (fun c6 => ?_)
  · rcases threeM c6 with hcs | hcs | hcs
    · subst hcs
      refine lv_aload_n S.1 S.2.1 dX7_adder_16 rfl (lv_at hl 0 rfl) ?_
      refine lv_iconst (v := 2) S.1 S.2.1 dX7_adder_17 (by decide) ?_
      refine lv_iload_n S.1 S.2.1 dX7_adder_18 rfl (lv_at hl 1 rfl) ?_
      refine lv_imul S.1 S.2.1 dX7_adder_19 ?_
      refine w_topi (y := 2) (by decide) ?_
      refine lv_iconst (v := 0) S.1 S.2.1 dX7_adder_20 (by decide) ?_
      refine lv_iload_n S.1 S.2.1 dX7_adder_21 rfl (lv_at hl 1 rfl) ?_
      refine lv_iload_n S.1 S.2.1 dX7_adder_22 rfl (lv_at hl 1 rfl) ?_
      refine cq_v C w [0, 1] [2] [1, 2, 0] (wr := [(mR, .inl (G.2.1 2, 3, .inl fR))]) (w' := fun u : Unit => [(mO, .inr (7, [.ref mS, .ref mD, .ref mR, .ref mT, .int mt, .int ma, .int mn, .ref mW, .ref mQ, .ref mC, .int my, .ref mU, .ref mV, .int mm, .int mf, .int mg])), (mS, .inl (G.2.1 2, 49, .inl (begF 2 0 1 1 fS)))]) (ws2 := fun u : Unit => [(mO, .inr (7, [.ref mS, .ref mD, .ref mR, .ref mT, .int mt, .int ma, .int mn, .ref mW, .ref mQ, .ref mC, .int my, .ref mU, .ref mV, .int mm, .int mf, .int mg])), (mS, .inl (G.2.1 2, 49, .inl (begF 2 0 1 1 fS))), (mR, .inl (G.2.1 2, 3, .inl fR))]) rfl rfl rfl (by decide) rfl (fun _ => rfl) (va_runV (As := [.int 2, .int 0, .int 1, .int 1]) (rest := []) S (c_X7_begins l G mO mS _ mD mR mT mW mQ mC mU mV mt ma mn my mm mf mg fS 2 0 1 1) (cwV 4 S.2.2.2.2 gX7_adder_X7_begins rfl rfl rfl (by decide +kernel) ⟨Nat.le_of_ble_eq_true rfl, Nat.le_of_ble_eq_true rfl⟩) ⟨wPre_blind, va_recv C.1 w.1 (ci := 7) (q0 := 0) rfl rfl, wPre_at C w [0, 1] rfl rfl⟩ rfl rfl hl.1 rfl (lv_room (Nat.le_of_ble_eq_true rfl)) dX7_adder_23 ⟨Nat.le_of_ble_eq_true rfl, Nat.le_of_ble_eq_true rfl⟩) (fun u23 H locs h23 w => ?_)
      have w : Wd G _ s [(mO, .inr (7, [.ref mS, .ref mD, .ref mR, .ref mT, .int mt, .int ma, .int mn, .ref mW, .ref mQ, .ref mC, .int my, .ref mU, .ref mV, .int mm, .int mf, .int mg])), (mS, .inl (G.2.1 2, 49, .inl (begF 2 0 1 1 fS))), (mR, .inl (G.2.1 2, 3, .inl fR))] H locs := w
      refine lv_aload_n S.1 S.2.1 dX7_adder_26 rfl (lv_at hl 0 rfl) ?_
      refine lv_aload_n S.1 S.2.1 dX7_adder_27 rfl (lv_at hl 0 rfl) ?_
      refine w_get S C w (CC := RX7) (T := TX7) (N := 16) (ref := "GateSumsModel") im_X7_adder_X7 0 rfl rfl 0 (by decide) (List.mem_of_getElem? (i := 1) rfl) (fun _ h => h) rfl dX7_adder_28 ?_
      refine lv_iconst (v := 3) S.1 S.2.1 dX7_adder_31 (by decide) ?_
      refine lv_iconst (v := 0) S.1 S.2.1 dX7_adder_32 (by decide) ?_
      refine lv_iload_n S.1 S.2.1 dX7_adder_33 rfl (lv_at hl 1 rfl) ?_
      refine cq_i C w [1] [0, 2] [0, 2, 1] (wr := [(mO, .inr (7, [.ref mS, .ref mD, .ref mR, .ref mT, .int mt, .int ma, .int mn, .ref mW, .ref mQ, .ref mC, .int my, .ref mU, .ref mV, .int mm, .int mf, .int mg])), (mR, .inl (G.2.1 2, 3, .inl fR))]) (w' := fun u : Unit => [(mS, .inl (G.2.1 2, 49, .inl (laysF (begF 2 0 1 1 fS) 0 3 0 1)))]) (ws2 := fun u : Unit => [(mO, .inr (7, [.ref mS, .ref mD, .ref mR, .ref mT, .int mt, .int ma, .int mn, .ref mW, .ref mQ, .ref mC, .int my, .ref mU, .ref mV, .int mm, .int mf, .int mg])), (mS, .inl (G.2.1 2, 49, .inl (laysF (begF 2 0 1 1 fS) 0 3 0 1))), (mR, .inl (G.2.1 2, 3, .inl fR))]) rfl rfl rfl (by decide) rfl (fun _ => rfl) (va_runS (As := [.ref mS, .int 3, .int 0, .int 1]) (rest := [.ref mO]) S (c_X7_lays l G mS _ (begF 2 0 1 1 fS) 0 3 0 1 (by simp only [laysF_0, laysF_1, laysF_2, outsF_0, outsF_1, outsF_2, begF_0, begF_1, begF_2]) (by decide)) (cwS 4 S.2.2.2.2 gX7_adder_X7_lays rfl rfl rfl (by decide +kernel) ⟨Nat.le_of_ble_eq_true rfl, Nat.le_of_ble_eq_true rfl⟩) ⟨wPre_blind, wPre_at C w [1] rfl rfl⟩ rfl rfl hl.1 rfl (lv_room (Nat.le_of_ble_eq_true rfl)) dX7_adder_34 ⟨Nat.le_of_ble_eq_true rfl, Nat.le_of_ble_eq_true rfl⟩) (fun r34 u34 H locs h34 w => ?_)
      have w : Wd G _ s [(mO, .inr (7, [.ref mS, .ref mD, .ref mR, .ref mT, .int mt, .int ma, .int mn, .ref mW, .ref mQ, .ref mC, .int my, .ref mU, .ref mV, .int mm, .int mf, .int mg])), (mS, .inl (G.2.1 2, 49, .inl (laysF (begF 2 0 1 1 fS) 0 3 0 1))), (mR, .inl (G.2.1 2, 3, .inl fR))] H locs := w
      refine w_topi (y := 2) (h34.trans (by simp only [laysF_0, laysF_1, laysF_2, outsF_0, outsF_1, outsF_2, begF_0, begF_1, begF_2]; decide)) ?_
      refine cq_v C w [0, 1] [2] [1, 2, 0] (wr := [(mR, .inl (G.2.1 2, 3, .inl fR))]) (w' := fun u : Unit => [(mO, .inr (7, [.ref mS, .ref mD, .ref mR, .ref mT, .int mt, .int ma, .int mn, .ref mW, .ref mQ, .ref mC, .int my, .ref mU, .ref mV, .int mm, .int mf, .int mg])), (mS, .inl (G.2.1 2, 49, .inl (outsF (laysF (begF 2 0 1 1 fS) 0 3 0 1) 0 2)))]) (ws2 := fun u : Unit => [(mO, .inr (7, [.ref mS, .ref mD, .ref mR, .ref mT, .int mt, .int ma, .int mn, .ref mW, .ref mQ, .ref mC, .int my, .ref mU, .ref mV, .int mm, .int mf, .int mg])), (mS, .inl (G.2.1 2, 49, .inl (outsF (laysF (begF 2 0 1 1 fS) 0 3 0 1) 0 2))), (mR, .inl (G.2.1 2, 3, .inl fR))]) rfl rfl rfl (by decide) rfl (fun _ => rfl) (va_runV (As := [.int 2]) (rest := []) S (c_X7_outs l G mO mS _ mD mR mT mW mQ mC mU mV mt ma mn my mm mf mg (laysF (begF 2 0 1 1 fS) 0 3 0 1) 0 2 (by simp only [laysF_0, laysF_1, laysF_2, outsF_0, outsF_1, outsF_2, begF_0, begF_1, begF_2]) (by decide)) (cwV 1 S.2.2.2.2 gX7_adder_X7_outs rfl rfl rfl (by decide +kernel) ⟨Nat.le_of_ble_eq_true rfl, Nat.le_of_ble_eq_true rfl⟩) ⟨wPre_blind, va_recv C.1 w.1 (ci := 7) (q0 := 0) rfl rfl, wPre_at C w [0, 1] rfl rfl⟩ rfl rfl hl.1 rfl (lv_room (Nat.le_of_ble_eq_true rfl)) dX7_adder_37 ⟨Nat.le_of_ble_eq_true rfl, Nat.le_of_ble_eq_true rfl⟩) (fun u37 H locs h37 w => ?_)
      have w : Wd G _ s [(mO, .inr (7, [.ref mS, .ref mD, .ref mR, .ref mT, .int mt, .int ma, .int mn, .ref mW, .ref mQ, .ref mC, .int my, .ref mU, .ref mV, .int mm, .int mf, .int mg])), (mS, .inl (G.2.1 2, 49, .inl (outsF (laysF (begF 2 0 1 1 fS) 0 3 0 1) 0 2))), (mR, .inl (G.2.1 2, 3, .inl fR))] H locs := w
      refine lv_aload_n S.1 S.2.1 dX7_adder_40 rfl (lv_at hl 0 rfl) ?_
      refine w_get S C w (CC := RX7) (T := TX7) (N := 16) (ref := "GateSumsModel") im_X7_adder_X7 0 rfl rfl 0 (by decide) (List.mem_of_getElem? (i := 1) rfl) (fun _ h => h) rfl dX7_adder_41 ?_
      refine lv_iconst (v := 1) S.1 S.2.1 dX7_adder_44 (by decide) ?_
      refine lv_iconst (v := 0) S.1 S.2.1 dX7_adder_45 (by decide) ?_
      refine lv_iload_n S.1 S.2.1 dX7_adder_46 rfl (lv_at hl 1 rfl) ?_
      refine cq_i C w [1] [0, 2] [0, 2, 1] (wr := [(mO, .inr (7, [.ref mS, .ref mD, .ref mR, .ref mT, .int mt, .int ma, .int mn, .ref mW, .ref mQ, .ref mC, .int my, .ref mU, .ref mV, .int mm, .int mf, .int mg])), (mR, .inl (G.2.1 2, 3, .inl fR))]) (w' := fun u : Unit => [(mS, .inl (G.2.1 2, 49, .inl (laysF (outsF (laysF (begF 2 0 1 1 fS) 0 3 0 1) 0 2) 1 1 0 1)))]) (ws2 := fun u : Unit => [(mO, .inr (7, [.ref mS, .ref mD, .ref mR, .ref mT, .int mt, .int ma, .int mn, .ref mW, .ref mQ, .ref mC, .int my, .ref mU, .ref mV, .int mm, .int mf, .int mg])), (mS, .inl (G.2.1 2, 49, .inl (laysF (outsF (laysF (begF 2 0 1 1 fS) 0 3 0 1) 0 2) 1 1 0 1))), (mR, .inl (G.2.1 2, 3, .inl fR))]) rfl rfl rfl (by decide) rfl (fun _ => rfl) (va_runS (As := [.ref mS, .int 1, .int 0, .int 1]) (rest := []) S (c_X7_lays l G mS _ (outsF (laysF (begF 2 0 1 1 fS) 0 3 0 1) 0 2) 1 1 0 1 (by simp only [laysF_0, laysF_1, laysF_2, outsF_0, outsF_1, outsF_2, begF_0, begF_1, begF_2]) (by decide)) (cwS 4 S.2.2.2.2 gX7_adder_X7_lays rfl rfl rfl (by decide +kernel) ⟨Nat.le_of_ble_eq_true rfl, Nat.le_of_ble_eq_true rfl⟩) ⟨wPre_blind, wPre_at C w [1] rfl rfl⟩ rfl rfl hl.1 rfl (lv_room (Nat.le_of_ble_eq_true rfl)) dX7_adder_47 ⟨Nat.le_of_ble_eq_true rfl, Nat.le_of_ble_eq_true rfl⟩) (fun r47 u47 H locs h47 w => ?_)
      have w : Wd G _ s [(mO, .inr (7, [.ref mS, .ref mD, .ref mR, .ref mT, .int mt, .int ma, .int mn, .ref mW, .ref mQ, .ref mC, .int my, .ref mU, .ref mV, .int mm, .int mf, .int mg])), (mS, .inl (G.2.1 2, 49, .inl (laysF (outsF (laysF (begF 2 0 1 1 fS) 0 3 0 1) 0 2) 1 1 0 1))), (mR, .inl (G.2.1 2, 3, .inl fR))] H locs := w
      refine w_topi (y := 3) (h47.trans (by simp only [laysF_0, laysF_1, laysF_2, outsF_0, outsF_1, outsF_2, begF_0, begF_1, begF_2]; decide)) ?_
      refine lv_istore_n (lv' := [(2, .int 3), (0, .ref mO), (1, .int 1)]) S.1 S.2.1 dX7_adder_50 rfl hl (by decide) rfl (fun ls hl => ?_)
      refine lv_iconst (v := 1) S.1 S.2.1 dX7_adder_51 (by decide) ?_
      refine lv_istore_n (lv' := [(3, .int 1), (2, .int 3), (0, .ref mO), (1, .int 1)]) S.1 S.2.1 dX7_adder_52 rfl hl (by decide) rfl (fun ls hl => ?_)
      refine lv_iload_n S.1 S.2.1 dX7_adder_53 rfl (lv_at hl 0 rfl) ?_
      refine lv_iload_n S.1 S.2.1 dX7_adder_54 rfl (lv_at hl 3 rfl) ?_
      refine lv_icmp_ge (tgt := 133) S.1 S.2.1 dX7_adder_55 (by decide) (fun c55 => ?_) (fun c55 => ?_)
      · refine lv_aload_n S.1 S.2.1 dX7_adder_133 rfl (lv_at hl 2 rfl) ?_
        refine lv_iload_n S.1 S.2.1 dX7_adder_134 rfl (lv_at hl 1 rfl) ?_
        refine cq_v C w [0, 1] [2] [1, 2, 0] (wr := [(mR, .inl (G.2.1 2, 3, .inl fR))]) (w' := fun u : Unit => [(mO, .inr (7, [.ref mS, .ref mD, .ref mR, .ref mT, .int mt, .int ma, .int mn, .ref mW, .ref mQ, .ref mC, .int my, .ref mU, .ref mV, .int mm, .int mf, .int mg])), (mS, .inl (G.2.1 2, 49, .inl (outsF (laysF (outsF (laysF (begF 2 0 1 1 fS) 0 3 0 1) 0 2) 1 1 0 1) 1 3)))]) (ws2 := fun u : Unit => [(mO, .inr (7, [.ref mS, .ref mD, .ref mR, .ref mT, .int mt, .int ma, .int mn, .ref mW, .ref mQ, .ref mC, .int my, .ref mU, .ref mV, .int mm, .int mf, .int mg])), (mS, .inl (G.2.1 2, 49, .inl (outsF (laysF (outsF (laysF (begF 2 0 1 1 fS) 0 3 0 1) 0 2) 1 1 0 1) 1 3))), (mR, .inl (G.2.1 2, 3, .inl fR))]) rfl rfl rfl (by decide) rfl (fun _ => rfl) (va_runV (As := [.int 3]) (rest := []) S (c_X7_outs l G mO mS _ mD mR mT mW mQ mC mU mV mt ma mn my mm mf mg (laysF (outsF (laysF (begF 2 0 1 1 fS) 0 3 0 1) 0 2) 1 1 0 1) 1 3 (by simp only [laysF_0, laysF_1, laysF_2, outsF_0, outsF_1, outsF_2, begF_0, begF_1, begF_2]) (by decide)) (cwV 1 S.2.2.2.2 gX7_adder_X7_outs rfl rfl rfl (by decide +kernel) ⟨Nat.le_of_ble_eq_true rfl, Nat.le_of_ble_eq_true rfl⟩) ⟨wPre_blind, va_recv C.1 w.1 (ci := 7) (q0 := 0) rfl rfl, wPre_at C w [0, 1] rfl rfl⟩ rfl rfl hl.1 rfl (lv_room (Nat.le_of_ble_eq_true rfl)) dX7_adder_135 ⟨Nat.le_of_ble_eq_true rfl, Nat.le_of_ble_eq_true rfl⟩) (fun u135 H locs h135 w => ?_)
        have w : Wd G _ s [(mO, .inr (7, [.ref mS, .ref mD, .ref mR, .ref mT, .int mt, .int ma, .int mn, .ref mW, .ref mQ, .ref mC, .int my, .ref mU, .ref mV, .int mm, .int mf, .int mg])), (mS, .inl (G.2.1 2, 49, .inl (outsF (laysF (outsF (laysF (begF 2 0 1 1 fS) 0 3 0 1) 0 2) 1 1 0 1) 1 3))), (mR, .inl (G.2.1 2, 3, .inl fR))] H locs := w
        refine lv_aload_n S.1 S.2.1 dX7_adder_138 rfl (lv_at hl 2 rfl) ?_
        refine w_get S C w (CC := RX7) (T := TX7) (N := 16) (ref := "GateSumsModel") im_X7_adder_X7 0 rfl rfl 0 (by decide) (List.mem_of_getElem? (i := 1) rfl) (fun _ h => h) rfl dX7_adder_139 ?_
        refine lv_iconst (v := 1) S.1 S.2.1 dX7_adder_142 (by decide) ?_
        refine w_iald S C w 1 rfl (by unfold vp_in; decide) dX7_adder_143 ?_
        refine w_topi (y := 2) ((show (outsF (laysF (outsF (laysF (begF 2 0 1 1 fS) 0 3 0 1) 0 2) 1 1 0 1) 1 3) 1 = 2 by simp only [laysF_0, laysF_1, laysF_2, outsF_0, outsF_1, outsF_2, begF_0, begF_1, begF_2]; decide)) ?_
        exact W.iret (v := 2) S.1 S.2.1 hr (fun t ht _ => ⟨⟨2, ((outsF (laysF (outsF (laysF (begF 2 0 1 1 fS) 0 3 0 1) 0 2) 1 1 0 1) 1 3), fR), rfl, by show _ = adderRm _; decide, by rw [ht]; exact w.1, w.2.1⟩, w.2.2.F ht⟩) w.2.2.2.2 dX7_adder_144
      · exact absurd c55 (by decide)
    · subst hcs
      refine lv_aload_n S.1 S.2.1 dX7_adder_16 rfl (lv_at hl 0 rfl) ?_
      refine lv_iconst (v := 2) S.1 S.2.1 dX7_adder_17 (by decide) ?_
      refine lv_iload_n S.1 S.2.1 dX7_adder_18 rfl (lv_at hl 1 rfl) ?_
      refine lv_imul S.1 S.2.1 dX7_adder_19 ?_
      refine w_topi (y := 4) (by decide) ?_
      refine lv_iconst (v := 0) S.1 S.2.1 dX7_adder_20 (by decide) ?_
      refine lv_iload_n S.1 S.2.1 dX7_adder_21 rfl (lv_at hl 1 rfl) ?_
      refine lv_iload_n S.1 S.2.1 dX7_adder_22 rfl (lv_at hl 1 rfl) ?_
      refine cq_v C w [0, 1] [2] [1, 2, 0] (wr := [(mR, .inl (G.2.1 2, 3, .inl fR))]) (w' := fun u : Unit => [(mO, .inr (7, [.ref mS, .ref mD, .ref mR, .ref mT, .int mt, .int ma, .int mn, .ref mW, .ref mQ, .ref mC, .int my, .ref mU, .ref mV, .int mm, .int mf, .int mg])), (mS, .inl (G.2.1 2, 49, .inl (begF 4 0 2 2 fS)))]) (ws2 := fun u : Unit => [(mO, .inr (7, [.ref mS, .ref mD, .ref mR, .ref mT, .int mt, .int ma, .int mn, .ref mW, .ref mQ, .ref mC, .int my, .ref mU, .ref mV, .int mm, .int mf, .int mg])), (mS, .inl (G.2.1 2, 49, .inl (begF 4 0 2 2 fS))), (mR, .inl (G.2.1 2, 3, .inl fR))]) rfl rfl rfl (by decide) rfl (fun _ => rfl) (va_runV (As := [.int 4, .int 0, .int 2, .int 2]) (rest := []) S (c_X7_begins l G mO mS _ mD mR mT mW mQ mC mU mV mt ma mn my mm mf mg fS 4 0 2 2) (cwV 4 S.2.2.2.2 gX7_adder_X7_begins rfl rfl rfl (by decide +kernel) ⟨Nat.le_of_ble_eq_true rfl, Nat.le_of_ble_eq_true rfl⟩) ⟨wPre_blind, va_recv C.1 w.1 (ci := 7) (q0 := 0) rfl rfl, wPre_at C w [0, 1] rfl rfl⟩ rfl rfl hl.1 rfl (lv_room (Nat.le_of_ble_eq_true rfl)) dX7_adder_23 ⟨Nat.le_of_ble_eq_true rfl, Nat.le_of_ble_eq_true rfl⟩) (fun u23_1 H locs h23_1 w => ?_)
      have w : Wd G _ s [(mO, .inr (7, [.ref mS, .ref mD, .ref mR, .ref mT, .int mt, .int ma, .int mn, .ref mW, .ref mQ, .ref mC, .int my, .ref mU, .ref mV, .int mm, .int mf, .int mg])), (mS, .inl (G.2.1 2, 49, .inl (begF 4 0 2 2 fS))), (mR, .inl (G.2.1 2, 3, .inl fR))] H locs := w
      refine lv_aload_n S.1 S.2.1 dX7_adder_26 rfl (lv_at hl 0 rfl) ?_
      refine lv_aload_n S.1 S.2.1 dX7_adder_27 rfl (lv_at hl 0 rfl) ?_
      refine w_get S C w (CC := RX7) (T := TX7) (N := 16) (ref := "GateSumsModel") im_X7_adder_X7 0 rfl rfl 0 (by decide) (List.mem_of_getElem? (i := 1) rfl) (fun _ h => h) rfl dX7_adder_28 ?_
      refine lv_iconst (v := 3) S.1 S.2.1 dX7_adder_31 (by decide) ?_
      refine lv_iconst (v := 0) S.1 S.2.1 dX7_adder_32 (by decide) ?_
      refine lv_iload_n S.1 S.2.1 dX7_adder_33 rfl (lv_at hl 1 rfl) ?_
      refine cq_i C w [1] [0, 2] [0, 2, 1] (wr := [(mO, .inr (7, [.ref mS, .ref mD, .ref mR, .ref mT, .int mt, .int ma, .int mn, .ref mW, .ref mQ, .ref mC, .int my, .ref mU, .ref mV, .int mm, .int mf, .int mg])), (mR, .inl (G.2.1 2, 3, .inl fR))]) (w' := fun u : Unit => [(mS, .inl (G.2.1 2, 49, .inl (laysF (begF 4 0 2 2 fS) 0 3 0 2)))]) (ws2 := fun u : Unit => [(mO, .inr (7, [.ref mS, .ref mD, .ref mR, .ref mT, .int mt, .int ma, .int mn, .ref mW, .ref mQ, .ref mC, .int my, .ref mU, .ref mV, .int mm, .int mf, .int mg])), (mS, .inl (G.2.1 2, 49, .inl (laysF (begF 4 0 2 2 fS) 0 3 0 2))), (mR, .inl (G.2.1 2, 3, .inl fR))]) rfl rfl rfl (by decide) rfl (fun _ => rfl) (va_runS (As := [.ref mS, .int 3, .int 0, .int 2]) (rest := [.ref mO]) S (c_X7_lays l G mS _ (begF 4 0 2 2 fS) 0 3 0 2 (by simp only [laysF_0, laysF_1, laysF_2, outsF_0, outsF_1, outsF_2, begF_0, begF_1, begF_2]) (by decide)) (cwS 4 S.2.2.2.2 gX7_adder_X7_lays rfl rfl rfl (by decide +kernel) ⟨Nat.le_of_ble_eq_true rfl, Nat.le_of_ble_eq_true rfl⟩) ⟨wPre_blind, wPre_at C w [1] rfl rfl⟩ rfl rfl hl.1 rfl (lv_room (Nat.le_of_ble_eq_true rfl)) dX7_adder_34 ⟨Nat.le_of_ble_eq_true rfl, Nat.le_of_ble_eq_true rfl⟩) (fun r34_1 u34_1 H locs h34_1 w => ?_)
      have w : Wd G _ s [(mO, .inr (7, [.ref mS, .ref mD, .ref mR, .ref mT, .int mt, .int ma, .int mn, .ref mW, .ref mQ, .ref mC, .int my, .ref mU, .ref mV, .int mm, .int mf, .int mg])), (mS, .inl (G.2.1 2, 49, .inl (laysF (begF 4 0 2 2 fS) 0 3 0 2))), (mR, .inl (G.2.1 2, 3, .inl fR))] H locs := w
      refine w_topi (y := 4) (h34_1.trans (by simp only [laysF_0, laysF_1, laysF_2, outsF_0, outsF_1, outsF_2, begF_0, begF_1, begF_2]; decide)) ?_
      refine cq_v C w [0, 1] [2] [1, 2, 0] (wr := [(mR, .inl (G.2.1 2, 3, .inl fR))]) (w' := fun u : Unit => [(mO, .inr (7, [.ref mS, .ref mD, .ref mR, .ref mT, .int mt, .int ma, .int mn, .ref mW, .ref mQ, .ref mC, .int my, .ref mU, .ref mV, .int mm, .int mf, .int mg])), (mS, .inl (G.2.1 2, 49, .inl (outsF (laysF (begF 4 0 2 2 fS) 0 3 0 2) 0 4)))]) (ws2 := fun u : Unit => [(mO, .inr (7, [.ref mS, .ref mD, .ref mR, .ref mT, .int mt, .int ma, .int mn, .ref mW, .ref mQ, .ref mC, .int my, .ref mU, .ref mV, .int mm, .int mf, .int mg])), (mS, .inl (G.2.1 2, 49, .inl (outsF (laysF (begF 4 0 2 2 fS) 0 3 0 2) 0 4))), (mR, .inl (G.2.1 2, 3, .inl fR))]) rfl rfl rfl (by decide) rfl (fun _ => rfl) (va_runV (As := [.int 4]) (rest := []) S (c_X7_outs l G mO mS _ mD mR mT mW mQ mC mU mV mt ma mn my mm mf mg (laysF (begF 4 0 2 2 fS) 0 3 0 2) 0 4 (by simp only [laysF_0, laysF_1, laysF_2, outsF_0, outsF_1, outsF_2, begF_0, begF_1, begF_2]) (by decide)) (cwV 1 S.2.2.2.2 gX7_adder_X7_outs rfl rfl rfl (by decide +kernel) ⟨Nat.le_of_ble_eq_true rfl, Nat.le_of_ble_eq_true rfl⟩) ⟨wPre_blind, va_recv C.1 w.1 (ci := 7) (q0 := 0) rfl rfl, wPre_at C w [0, 1] rfl rfl⟩ rfl rfl hl.1 rfl (lv_room (Nat.le_of_ble_eq_true rfl)) dX7_adder_37 ⟨Nat.le_of_ble_eq_true rfl, Nat.le_of_ble_eq_true rfl⟩) (fun u37_1 H locs h37_1 w => ?_)
      have w : Wd G _ s [(mO, .inr (7, [.ref mS, .ref mD, .ref mR, .ref mT, .int mt, .int ma, .int mn, .ref mW, .ref mQ, .ref mC, .int my, .ref mU, .ref mV, .int mm, .int mf, .int mg])), (mS, .inl (G.2.1 2, 49, .inl (outsF (laysF (begF 4 0 2 2 fS) 0 3 0 2) 0 4))), (mR, .inl (G.2.1 2, 3, .inl fR))] H locs := w
      refine lv_aload_n S.1 S.2.1 dX7_adder_40 rfl (lv_at hl 0 rfl) ?_
      refine w_get S C w (CC := RX7) (T := TX7) (N := 16) (ref := "GateSumsModel") im_X7_adder_X7 0 rfl rfl 0 (by decide) (List.mem_of_getElem? (i := 1) rfl) (fun _ h => h) rfl dX7_adder_41 ?_
      refine lv_iconst (v := 1) S.1 S.2.1 dX7_adder_44 (by decide) ?_
      refine lv_iconst (v := 0) S.1 S.2.1 dX7_adder_45 (by decide) ?_
      refine lv_iload_n S.1 S.2.1 dX7_adder_46 rfl (lv_at hl 1 rfl) ?_
      refine cq_i C w [1] [0, 2] [0, 2, 1] (wr := [(mO, .inr (7, [.ref mS, .ref mD, .ref mR, .ref mT, .int mt, .int ma, .int mn, .ref mW, .ref mQ, .ref mC, .int my, .ref mU, .ref mV, .int mm, .int mf, .int mg])), (mR, .inl (G.2.1 2, 3, .inl fR))]) (w' := fun u : Unit => [(mS, .inl (G.2.1 2, 49, .inl (laysF (outsF (laysF (begF 4 0 2 2 fS) 0 3 0 2) 0 4) 1 1 0 2)))]) (ws2 := fun u : Unit => [(mO, .inr (7, [.ref mS, .ref mD, .ref mR, .ref mT, .int mt, .int ma, .int mn, .ref mW, .ref mQ, .ref mC, .int my, .ref mU, .ref mV, .int mm, .int mf, .int mg])), (mS, .inl (G.2.1 2, 49, .inl (laysF (outsF (laysF (begF 4 0 2 2 fS) 0 3 0 2) 0 4) 1 1 0 2))), (mR, .inl (G.2.1 2, 3, .inl fR))]) rfl rfl rfl (by decide) rfl (fun _ => rfl) (va_runS (As := [.ref mS, .int 1, .int 0, .int 2]) (rest := []) S (c_X7_lays l G mS _ (outsF (laysF (begF 4 0 2 2 fS) 0 3 0 2) 0 4) 1 1 0 2 (by simp only [laysF_0, laysF_1, laysF_2, outsF_0, outsF_1, outsF_2, begF_0, begF_1, begF_2]) (by decide)) (cwS 4 S.2.2.2.2 gX7_adder_X7_lays rfl rfl rfl (by decide +kernel) ⟨Nat.le_of_ble_eq_true rfl, Nat.le_of_ble_eq_true rfl⟩) ⟨wPre_blind, wPre_at C w [1] rfl rfl⟩ rfl rfl hl.1 rfl (lv_room (Nat.le_of_ble_eq_true rfl)) dX7_adder_47 ⟨Nat.le_of_ble_eq_true rfl, Nat.le_of_ble_eq_true rfl⟩) (fun r47_1 u47_1 H locs h47_1 w => ?_)
      have w : Wd G _ s [(mO, .inr (7, [.ref mS, .ref mD, .ref mR, .ref mT, .int mt, .int ma, .int mn, .ref mW, .ref mQ, .ref mC, .int my, .ref mU, .ref mV, .int mm, .int mf, .int mg])), (mS, .inl (G.2.1 2, 49, .inl (laysF (outsF (laysF (begF 4 0 2 2 fS) 0 3 0 2) 0 4) 1 1 0 2))), (mR, .inl (G.2.1 2, 3, .inl fR))] H locs := w
      refine w_topi (y := 5) (h47_1.trans (by simp only [laysF_0, laysF_1, laysF_2, outsF_0, outsF_1, outsF_2, begF_0, begF_1, begF_2]; decide)) ?_
      refine lv_istore_n (lv' := [(2, .int 5), (0, .ref mO), (1, .int 2)]) S.1 S.2.1 dX7_adder_50 rfl hl (by decide) rfl (fun ls hl => ?_)
      refine lv_iconst (v := 1) S.1 S.2.1 dX7_adder_51 (by decide) ?_
      refine lv_istore_n (lv' := [(3, .int 1), (2, .int 5), (0, .ref mO), (1, .int 2)]) S.1 S.2.1 dX7_adder_52 rfl hl (by decide) rfl (fun ls hl => ?_)
      refine lv_iload_n S.1 S.2.1 dX7_adder_53 rfl (lv_at hl 0 rfl) ?_
      refine lv_iload_n S.1 S.2.1 dX7_adder_54 rfl (lv_at hl 3 rfl) ?_
      refine lv_icmp_ge (tgt := 133) S.1 S.2.1 dX7_adder_55 (by decide) (fun c55_1 => ?_) (fun c55_1 => ?_)
      · exact absurd c55_1 (by decide)
      · refine lv_aload_n S.1 S.2.1 dX7_adder_58 rfl (lv_at hl 2 rfl) ?_
        refine w_get S C w (CC := RX7) (T := TX7) (N := 16) (ref := "GateSumsModel") im_X7_adder_X7 0 rfl rfl 0 (by decide) (List.mem_of_getElem? (i := 1) rfl) (fun _ h => h) rfl dX7_adder_59 ?_
        refine lv_iconst (v := 3) S.1 S.2.1 dX7_adder_62 (by decide) ?_
        refine lv_iload_n S.1 S.2.1 dX7_adder_63 rfl (lv_at hl 0 rfl) ?_
        refine lv_iload_n S.1 S.2.1 dX7_adder_64 rfl (lv_at hl 3 rfl) ?_
        refine lv_iload_n S.1 S.2.1 dX7_adder_65 rfl (lv_at hl 0 rfl) ?_
        refine lv_iadd S.1 S.2.1 dX7_adder_66 ?_
        refine w_topi (y := 3) (by decide) ?_
        refine cq_i C w [1] [0, 2] [0, 2, 1] (wr := [(mO, .inr (7, [.ref mS, .ref mD, .ref mR, .ref mT, .int mt, .int ma, .int mn, .ref mW, .ref mQ, .ref mC, .int my, .ref mU, .ref mV, .int mm, .int mf, .int mg])), (mR, .inl (G.2.1 2, 3, .inl fR))]) (w' := fun u : Unit => [(mS, .inl (G.2.1 2, 49, .inl (laysF (laysF (outsF (laysF (begF 4 0 2 2 fS) 0 3 0 2) 0 4) 1 1 0 2) 2 3 1 3)))]) (ws2 := fun u : Unit => [(mO, .inr (7, [.ref mS, .ref mD, .ref mR, .ref mT, .int mt, .int ma, .int mn, .ref mW, .ref mQ, .ref mC, .int my, .ref mU, .ref mV, .int mm, .int mf, .int mg])), (mS, .inl (G.2.1 2, 49, .inl (laysF (laysF (outsF (laysF (begF 4 0 2 2 fS) 0 3 0 2) 0 4) 1 1 0 2) 2 3 1 3))), (mR, .inl (G.2.1 2, 3, .inl fR))]) rfl rfl rfl (by decide) rfl (fun _ => rfl) (va_runS (As := [.ref mS, .int 3, .int 1, .int 3]) (rest := []) S (c_X7_lays l G mS _ (laysF (outsF (laysF (begF 4 0 2 2 fS) 0 3 0 2) 0 4) 1 1 0 2) 2 3 1 3 (by simp only [laysF_0, laysF_1, laysF_2, outsF_0, outsF_1, outsF_2, begF_0, begF_1, begF_2]) (by decide)) (cwS 4 S.2.2.2.2 gX7_adder_X7_lays rfl rfl rfl (by decide +kernel) ⟨Nat.le_of_ble_eq_true rfl, Nat.le_of_ble_eq_true rfl⟩) ⟨wPre_blind, wPre_at C w [1] rfl rfl⟩ rfl rfl hl.1 rfl (lv_room (Nat.le_of_ble_eq_true rfl)) dX7_adder_67 ⟨Nat.le_of_ble_eq_true rfl, Nat.le_of_ble_eq_true rfl⟩) (fun r67 u67 H locs h67 w => ?_)
        have w : Wd G _ s [(mO, .inr (7, [.ref mS, .ref mD, .ref mR, .ref mT, .int mt, .int ma, .int mn, .ref mW, .ref mQ, .ref mC, .int my, .ref mU, .ref mV, .int mm, .int mf, .int mg])), (mS, .inl (G.2.1 2, 49, .inl (laysF (laysF (outsF (laysF (begF 4 0 2 2 fS) 0 3 0 2) 0 4) 1 1 0 2) 2 3 1 3))), (mR, .inl (G.2.1 2, 3, .inl fR))] H locs := w
        refine w_topi (y := 6) (h67.trans (by simp only [laysF_0, laysF_1, laysF_2, outsF_0, outsF_1, outsF_2, begF_0, begF_1, begF_2]; decide)) ?_
        refine lv_istore (lv' := [(4, .int 6), (3, .int 1), (2, .int 5), (0, .ref mO), (1, .int 2)]) S.1 S.2.1 dX7_adder_70 hl (by decide) rfl (fun ls hl => ?_)
        refine lv_aload_n S.1 S.2.1 dX7_adder_72 rfl (lv_at hl 3 rfl) ?_
        refine lv_aload_n S.1 S.2.1 dX7_adder_73 rfl (lv_at hl 3 rfl) ?_
        refine w_get S C w (CC := RX7) (T := TX7) (N := 16) (ref := "GateSumsModel") im_X7_adder_X7 0 rfl rfl 0 (by decide) (List.mem_of_getElem? (i := 1) rfl) (fun _ h => h) rfl dX7_adder_74 ?_
        refine lv_iconst (v := 3) S.1 S.2.1 dX7_adder_77 (by decide) ?_
        refine lv_iload S.1 S.2.1 dX7_adder_78 (lv_at hl 0 rfl) ?_
        refine lv_iload_n S.1 S.2.1 dX7_adder_80 rfl (lv_at hl 2 rfl) ?_
        refine cq_i C w [1] [0, 2] [0, 2, 1] (wr := [(mO, .inr (7, [.ref mS, .ref mD, .ref mR, .ref mT, .int mt, .int ma, .int mn, .ref mW, .ref mQ, .ref mC, .int my, .ref mU, .ref mV, .int mm, .int mf, .int mg])), (mR, .inl (G.2.1 2, 3, .inl fR))]) (w' := fun u : Unit => [(mS, .inl (G.2.1 2, 49, .inl (laysF (laysF (laysF (outsF (laysF (begF 4 0 2 2 fS) 0 3 0 2) 0 4) 1 1 0 2) 2 3 1 3) 3 3 6 5)))]) (ws2 := fun u : Unit => [(mO, .inr (7, [.ref mS, .ref mD, .ref mR, .ref mT, .int mt, .int ma, .int mn, .ref mW, .ref mQ, .ref mC, .int my, .ref mU, .ref mV, .int mm, .int mf, .int mg])), (mS, .inl (G.2.1 2, 49, .inl (laysF (laysF (laysF (outsF (laysF (begF 4 0 2 2 fS) 0 3 0 2) 0 4) 1 1 0 2) 2 3 1 3) 3 3 6 5))), (mR, .inl (G.2.1 2, 3, .inl fR))]) rfl rfl rfl (by decide) rfl (fun _ => rfl) (va_runS (As := [.ref mS, .int 3, .int 6, .int 5]) (rest := [.ref mO]) S (c_X7_lays l G mS _ (laysF (laysF (outsF (laysF (begF 4 0 2 2 fS) 0 3 0 2) 0 4) 1 1 0 2) 2 3 1 3) 3 3 6 5 (by simp only [laysF_0, laysF_1, laysF_2, outsF_0, outsF_1, outsF_2, begF_0, begF_1, begF_2]) (by decide)) (cwS 4 S.2.2.2.2 gX7_adder_X7_lays rfl rfl rfl (by decide +kernel) ⟨Nat.le_of_ble_eq_true rfl, Nat.le_of_ble_eq_true rfl⟩) ⟨wPre_blind, wPre_at C w [1] rfl rfl⟩ rfl rfl hl.1 rfl (lv_room (Nat.le_of_ble_eq_true rfl)) dX7_adder_81 ⟨Nat.le_of_ble_eq_true rfl, Nat.le_of_ble_eq_true rfl⟩) (fun r81 u81 H locs h81 w => ?_)
        have w : Wd G _ s [(mO, .inr (7, [.ref mS, .ref mD, .ref mR, .ref mT, .int mt, .int ma, .int mn, .ref mW, .ref mQ, .ref mC, .int my, .ref mU, .ref mV, .int mm, .int mf, .int mg])), (mS, .inl (G.2.1 2, 49, .inl (laysF (laysF (laysF (outsF (laysF (begF 4 0 2 2 fS) 0 3 0 2) 0 4) 1 1 0 2) 2 3 1 3) 3 3 6 5))), (mR, .inl (G.2.1 2, 3, .inl fR))] H locs := w
        refine w_topi (y := 7) (h81.trans (by simp only [laysF_0, laysF_1, laysF_2, outsF_0, outsF_1, outsF_2, begF_0, begF_1, begF_2]; decide)) ?_
        refine cq_v C w [0, 1] [2] [1, 2, 0] (wr := [(mR, .inl (G.2.1 2, 3, .inl fR))]) (w' := fun u : Unit => [(mO, .inr (7, [.ref mS, .ref mD, .ref mR, .ref mT, .int mt, .int ma, .int mn, .ref mW, .ref mQ, .ref mC, .int my, .ref mU, .ref mV, .int mm, .int mf, .int mg])), (mS, .inl (G.2.1 2, 49, .inl (outsF (laysF (laysF (laysF (outsF (laysF (begF 4 0 2 2 fS) 0 3 0 2) 0 4) 1 1 0 2) 2 3 1 3) 3 3 6 5) 1 7)))]) (ws2 := fun u : Unit => [(mO, .inr (7, [.ref mS, .ref mD, .ref mR, .ref mT, .int mt, .int ma, .int mn, .ref mW, .ref mQ, .ref mC, .int my, .ref mU, .ref mV, .int mm, .int mf, .int mg])), (mS, .inl (G.2.1 2, 49, .inl (outsF (laysF (laysF (laysF (outsF (laysF (begF 4 0 2 2 fS) 0 3 0 2) 0 4) 1 1 0 2) 2 3 1 3) 3 3 6 5) 1 7))), (mR, .inl (G.2.1 2, 3, .inl fR))]) rfl rfl rfl (by decide) rfl (fun _ => rfl) (va_runV (As := [.int 7]) (rest := []) S (c_X7_outs l G mO mS _ mD mR mT mW mQ mC mU mV mt ma mn my mm mf mg (laysF (laysF (laysF (outsF (laysF (begF 4 0 2 2 fS) 0 3 0 2) 0 4) 1 1 0 2) 2 3 1 3) 3 3 6 5) 1 7 (by simp only [laysF_0, laysF_1, laysF_2, outsF_0, outsF_1, outsF_2, begF_0, begF_1, begF_2]) (by decide)) (cwV 1 S.2.2.2.2 gX7_adder_X7_outs rfl rfl rfl (by decide +kernel) ⟨Nat.le_of_ble_eq_true rfl, Nat.le_of_ble_eq_true rfl⟩) ⟨wPre_blind, va_recv C.1 w.1 (ci := 7) (q0 := 0) rfl rfl, wPre_at C w [0, 1] rfl rfl⟩ rfl rfl hl.1 rfl (lv_room (Nat.le_of_ble_eq_true rfl)) dX7_adder_84 ⟨Nat.le_of_ble_eq_true rfl, Nat.le_of_ble_eq_true rfl⟩) (fun u84 H locs h84 w => ?_)
        have w : Wd G _ s [(mO, .inr (7, [.ref mS, .ref mD, .ref mR, .ref mT, .int mt, .int ma, .int mn, .ref mW, .ref mQ, .ref mC, .int my, .ref mU, .ref mV, .int mm, .int mf, .int mg])), (mS, .inl (G.2.1 2, 49, .inl (outsF (laysF (laysF (laysF (outsF (laysF (begF 4 0 2 2 fS) 0 3 0 2) 0 4) 1 1 0 2) 2 3 1 3) 3 3 6 5) 1 7))), (mR, .inl (G.2.1 2, 3, .inl fR))] H locs := w
        refine lv_aload_n S.1 S.2.1 dX7_adder_87 rfl (lv_at hl 3 rfl) ?_
        refine w_get S C w (CC := RX7) (T := TX7) (N := 16) (ref := "GateSumsModel") im_X7_adder_X7 0 rfl rfl 0 (by decide) (List.mem_of_getElem? (i := 1) rfl) (fun _ h => h) rfl dX7_adder_88 ?_
        refine lv_iconst (v := 1) S.1 S.2.1 dX7_adder_91 (by decide) ?_
        refine lv_iload_n S.1 S.2.1 dX7_adder_92 rfl (lv_at hl 1 rfl) ?_
        refine lv_iload_n S.1 S.2.1 dX7_adder_93 rfl (lv_at hl 4 rfl) ?_
        refine lv_iload_n S.1 S.2.1 dX7_adder_94 rfl (lv_at hl 1 rfl) ?_
        refine lv_iadd S.1 S.2.1 dX7_adder_95 ?_
        refine w_topi (y := 3) (by decide) ?_
        refine cq_i C w [1] [0, 2] [0, 2, 1] (wr := [(mO, .inr (7, [.ref mS, .ref mD, .ref mR, .ref mT, .int mt, .int ma, .int mn, .ref mW, .ref mQ, .ref mC, .int my, .ref mU, .ref mV, .int mm, .int mf, .int mg])), (mR, .inl (G.2.1 2, 3, .inl fR))]) (w' := fun u : Unit => [(mS, .inl (G.2.1 2, 49, .inl (laysF (outsF (laysF (laysF (laysF (outsF (laysF (begF 4 0 2 2 fS) 0 3 0 2) 0 4) 1 1 0 2) 2 3 1 3) 3 3 6 5) 1 7) 4 1 1 3)))]) (ws2 := fun u : Unit => [(mO, .inr (7, [.ref mS, .ref mD, .ref mR, .ref mT, .int mt, .int ma, .int mn, .ref mW, .ref mQ, .ref mC, .int my, .ref mU, .ref mV, .int mm, .int mf, .int mg])), (mS, .inl (G.2.1 2, 49, .inl (laysF (outsF (laysF (laysF (laysF (outsF (laysF (begF 4 0 2 2 fS) 0 3 0 2) 0 4) 1 1 0 2) 2 3 1 3) 3 3 6 5) 1 7) 4 1 1 3))), (mR, .inl (G.2.1 2, 3, .inl fR))]) rfl rfl rfl (by decide) rfl (fun _ => rfl) (va_runS (As := [.ref mS, .int 1, .int 1, .int 3]) (rest := []) S (c_X7_lays l G mS _ (outsF (laysF (laysF (laysF (outsF (laysF (begF 4 0 2 2 fS) 0 3 0 2) 0 4) 1 1 0 2) 2 3 1 3) 3 3 6 5) 1 7) 4 1 1 3 (by simp only [laysF_0, laysF_1, laysF_2, outsF_0, outsF_1, outsF_2, begF_0, begF_1, begF_2]) (by decide)) (cwS 4 S.2.2.2.2 gX7_adder_X7_lays rfl rfl rfl (by decide +kernel) ⟨Nat.le_of_ble_eq_true rfl, Nat.le_of_ble_eq_true rfl⟩) ⟨wPre_blind, wPre_at C w [1] rfl rfl⟩ rfl rfl hl.1 rfl (lv_room (Nat.le_of_ble_eq_true rfl)) dX7_adder_96 ⟨Nat.le_of_ble_eq_true rfl, Nat.le_of_ble_eq_true rfl⟩) (fun r96 u96 H locs h96 w => ?_)
        have w : Wd G _ s [(mO, .inr (7, [.ref mS, .ref mD, .ref mR, .ref mT, .int mt, .int ma, .int mn, .ref mW, .ref mQ, .ref mC, .int my, .ref mU, .ref mV, .int mm, .int mf, .int mg])), (mS, .inl (G.2.1 2, 49, .inl (laysF (outsF (laysF (laysF (laysF (outsF (laysF (begF 4 0 2 2 fS) 0 3 0 2) 0 4) 1 1 0 2) 2 3 1 3) 3 3 6 5) 1 7) 4 1 1 3))), (mR, .inl (G.2.1 2, 3, .inl fR))] H locs := w
        refine w_topi (y := 8) (h96.trans (by simp only [laysF_0, laysF_1, laysF_2, outsF_0, outsF_1, outsF_2, begF_0, begF_1, begF_2]; decide)) ?_
        refine lv_istore (lv' := [(5, .int 8), (4, .int 6), (3, .int 1), (2, .int 5), (0, .ref mO), (1, .int 2)]) S.1 S.2.1 dX7_adder_99 hl (by decide) rfl (fun ls hl => ?_)
        refine lv_aload_n S.1 S.2.1 dX7_adder_101 rfl (lv_at hl 4 rfl) ?_
        refine w_get S C w (CC := RX7) (T := TX7) (N := 16) (ref := "GateSumsModel") im_X7_adder_X7 0 rfl rfl 0 (by decide) (List.mem_of_getElem? (i := 1) rfl) (fun _ h => h) rfl dX7_adder_102 ?_
        refine lv_iconst (v := 1) S.1 S.2.1 dX7_adder_105 (by decide) ?_
        refine lv_iload S.1 S.2.1 dX7_adder_106 (lv_at hl 1 rfl) ?_
        refine lv_iload_n S.1 S.2.1 dX7_adder_108 rfl (lv_at hl 3 rfl) ?_
        refine cq_i C w [1] [0, 2] [0, 2, 1] (wr := [(mO, .inr (7, [.ref mS, .ref mD, .ref mR, .ref mT, .int mt, .int ma, .int mn, .ref mW, .ref mQ, .ref mC, .int my, .ref mU, .ref mV, .int mm, .int mf, .int mg])), (mR, .inl (G.2.1 2, 3, .inl fR))]) (w' := fun u : Unit => [(mS, .inl (G.2.1 2, 49, .inl (laysF (laysF (outsF (laysF (laysF (laysF (outsF (laysF (begF 4 0 2 2 fS) 0 3 0 2) 0 4) 1 1 0 2) 2 3 1 3) 3 3 6 5) 1 7) 4 1 1 3) 5 1 6 5)))]) (ws2 := fun u : Unit => [(mO, .inr (7, [.ref mS, .ref mD, .ref mR, .ref mT, .int mt, .int ma, .int mn, .ref mW, .ref mQ, .ref mC, .int my, .ref mU, .ref mV, .int mm, .int mf, .int mg])), (mS, .inl (G.2.1 2, 49, .inl (laysF (laysF (outsF (laysF (laysF (laysF (outsF (laysF (begF 4 0 2 2 fS) 0 3 0 2) 0 4) 1 1 0 2) 2 3 1 3) 3 3 6 5) 1 7) 4 1 1 3) 5 1 6 5))), (mR, .inl (G.2.1 2, 3, .inl fR))]) rfl rfl rfl (by decide) rfl (fun _ => rfl) (va_runS (As := [.ref mS, .int 1, .int 6, .int 5]) (rest := []) S (c_X7_lays l G mS _ (laysF (outsF (laysF (laysF (laysF (outsF (laysF (begF 4 0 2 2 fS) 0 3 0 2) 0 4) 1 1 0 2) 2 3 1 3) 3 3 6 5) 1 7) 4 1 1 3) 5 1 6 5 (by simp only [laysF_0, laysF_1, laysF_2, outsF_0, outsF_1, outsF_2, begF_0, begF_1, begF_2]) (by decide)) (cwS 4 S.2.2.2.2 gX7_adder_X7_lays rfl rfl rfl (by decide +kernel) ⟨Nat.le_of_ble_eq_true rfl, Nat.le_of_ble_eq_true rfl⟩) ⟨wPre_blind, wPre_at C w [1] rfl rfl⟩ rfl rfl hl.1 rfl (lv_room (Nat.le_of_ble_eq_true rfl)) dX7_adder_109 ⟨Nat.le_of_ble_eq_true rfl, Nat.le_of_ble_eq_true rfl⟩) (fun r109 u109 H locs h109 w => ?_)
        have w : Wd G _ s [(mO, .inr (7, [.ref mS, .ref mD, .ref mR, .ref mT, .int mt, .int ma, .int mn, .ref mW, .ref mQ, .ref mC, .int my, .ref mU, .ref mV, .int mm, .int mf, .int mg])), (mS, .inl (G.2.1 2, 49, .inl (laysF (laysF (outsF (laysF (laysF (laysF (outsF (laysF (begF 4 0 2 2 fS) 0 3 0 2) 0 4) 1 1 0 2) 2 3 1 3) 3 3 6 5) 1 7) 4 1 1 3) 5 1 6 5))), (mR, .inl (G.2.1 2, 3, .inl fR))] H locs := w
        refine w_topi (y := 9) (h109.trans (by simp only [laysF_0, laysF_1, laysF_2, outsF_0, outsF_1, outsF_2, begF_0, begF_1, begF_2]; decide)) ?_
        refine lv_istore (lv' := [(6, .int 9), (5, .int 8), (4, .int 6), (3, .int 1), (2, .int 5), (0, .ref mO), (1, .int 2)]) S.1 S.2.1 dX7_adder_112 hl (by decide) rfl (fun ls hl => ?_)
        refine lv_aload_n S.1 S.2.1 dX7_adder_114 rfl (lv_at hl 5 rfl) ?_
        refine w_get S C w (CC := RX7) (T := TX7) (N := 16) (ref := "GateSumsModel") im_X7_adder_X7 0 rfl rfl 0 (by decide) (List.mem_of_getElem? (i := 1) rfl) (fun _ h => h) rfl dX7_adder_115 ?_
        refine lv_iconst (v := 2) S.1 S.2.1 dX7_adder_118 (by decide) ?_
        refine lv_iload S.1 S.2.1 dX7_adder_119 (lv_at hl 1 rfl) ?_
        refine lv_iload S.1 S.2.1 dX7_adder_121 (lv_at hl 0 rfl) ?_
        refine cq_i C w [1] [0, 2] [0, 2, 1] (wr := [(mO, .inr (7, [.ref mS, .ref mD, .ref mR, .ref mT, .int mt, .int ma, .int mn, .ref mW, .ref mQ, .ref mC, .int my, .ref mU, .ref mV, .int mm, .int mf, .int mg])), (mR, .inl (G.2.1 2, 3, .inl fR))]) (w' := fun u : Unit => [(mS, .inl (G.2.1 2, 49, .inl (laysF (laysF (laysF (outsF (laysF (laysF (laysF (outsF (laysF (begF 4 0 2 2 fS) 0 3 0 2) 0 4) 1 1 0 2) 2 3 1 3) 3 3 6 5) 1 7) 4 1 1 3) 5 1 6 5) 6 2 8 9)))]) (ws2 := fun u : Unit => [(mO, .inr (7, [.ref mS, .ref mD, .ref mR, .ref mT, .int mt, .int ma, .int mn, .ref mW, .ref mQ, .ref mC, .int my, .ref mU, .ref mV, .int mm, .int mf, .int mg])), (mS, .inl (G.2.1 2, 49, .inl (laysF (laysF (laysF (outsF (laysF (laysF (laysF (outsF (laysF (begF 4 0 2 2 fS) 0 3 0 2) 0 4) 1 1 0 2) 2 3 1 3) 3 3 6 5) 1 7) 4 1 1 3) 5 1 6 5) 6 2 8 9))), (mR, .inl (G.2.1 2, 3, .inl fR))]) rfl rfl rfl (by decide) rfl (fun _ => rfl) (va_runS (As := [.ref mS, .int 2, .int 8, .int 9]) (rest := []) S (c_X7_lays l G mS _ (laysF (laysF (outsF (laysF (laysF (laysF (outsF (laysF (begF 4 0 2 2 fS) 0 3 0 2) 0 4) 1 1 0 2) 2 3 1 3) 3 3 6 5) 1 7) 4 1 1 3) 5 1 6 5) 6 2 8 9 (by simp only [laysF_0, laysF_1, laysF_2, outsF_0, outsF_1, outsF_2, begF_0, begF_1, begF_2]) (by decide)) (cwS 4 S.2.2.2.2 gX7_adder_X7_lays rfl rfl rfl (by decide +kernel) ⟨Nat.le_of_ble_eq_true rfl, Nat.le_of_ble_eq_true rfl⟩) ⟨wPre_blind, wPre_at C w [1] rfl rfl⟩ rfl rfl hl.1 rfl (lv_room (Nat.le_of_ble_eq_true rfl)) dX7_adder_123 ⟨Nat.le_of_ble_eq_true rfl, Nat.le_of_ble_eq_true rfl⟩) (fun r123 u123 H locs h123 w => ?_)
        have w : Wd G _ s [(mO, .inr (7, [.ref mS, .ref mD, .ref mR, .ref mT, .int mt, .int ma, .int mn, .ref mW, .ref mQ, .ref mC, .int my, .ref mU, .ref mV, .int mm, .int mf, .int mg])), (mS, .inl (G.2.1 2, 49, .inl (laysF (laysF (laysF (outsF (laysF (laysF (laysF (outsF (laysF (begF 4 0 2 2 fS) 0 3 0 2) 0 4) 1 1 0 2) 2 3 1 3) 3 3 6 5) 1 7) 4 1 1 3) 5 1 6 5) 6 2 8 9))), (mR, .inl (G.2.1 2, 3, .inl fR))] H locs := w
        refine w_topi (y := 10) (h123.trans (by simp only [laysF_0, laysF_1, laysF_2, outsF_0, outsF_1, outsF_2, begF_0, begF_1, begF_2]; decide)) ?_
        refine lv_istore_n (lv' := [(2, .int 10), (6, .int 9), (5, .int 8), (4, .int 6), (3, .int 1), (0, .ref mO), (1, .int 2)]) S.1 S.2.1 dX7_adder_126 rfl hl (by decide) rfl (fun ls hl => ?_)
        refine lv_iinc (v := 2) (lv' := [(3, .int 2), (2, .int 10), (6, .int 9), (5, .int 8), (4, .int 6), (0, .ref mO), (1, .int 2)]) S.1 S.2.1 dX7_adder_127 hl (k := 4) rfl (by decide) (by decide) rfl (fun ls hl => ?_)
        refine lv_goto (tgt := 53) S.1 S.2.1 dX7_adder_130 (by decide) ?_
        refine lv_iload_n S.1 S.2.1 dX7_adder_53 rfl (lv_at hl 0 rfl) ?_
        refine lv_iload_n S.1 S.2.1 dX7_adder_54 rfl (lv_at hl 6 rfl) ?_
        refine lv_icmp_ge (tgt := 133) S.1 S.2.1 dX7_adder_55 (by decide) (fun c55_2 => ?_) (fun c55_2 => ?_)
        · refine lv_aload_n S.1 S.2.1 dX7_adder_133 rfl (lv_at hl 5 rfl) ?_
          refine lv_iload_n S.1 S.2.1 dX7_adder_134 rfl (lv_at hl 1 rfl) ?_
          refine cq_v C w [0, 1] [2] [1, 2, 0] (wr := [(mR, .inl (G.2.1 2, 3, .inl fR))]) (w' := fun u : Unit => [(mO, .inr (7, [.ref mS, .ref mD, .ref mR, .ref mT, .int mt, .int ma, .int mn, .ref mW, .ref mQ, .ref mC, .int my, .ref mU, .ref mV, .int mm, .int mf, .int mg])), (mS, .inl (G.2.1 2, 49, .inl (outsF (laysF (laysF (laysF (outsF (laysF (laysF (laysF (outsF (laysF (begF 4 0 2 2 fS) 0 3 0 2) 0 4) 1 1 0 2) 2 3 1 3) 3 3 6 5) 1 7) 4 1 1 3) 5 1 6 5) 6 2 8 9) 2 10)))]) (ws2 := fun u : Unit => [(mO, .inr (7, [.ref mS, .ref mD, .ref mR, .ref mT, .int mt, .int ma, .int mn, .ref mW, .ref mQ, .ref mC, .int my, .ref mU, .ref mV, .int mm, .int mf, .int mg])), (mS, .inl (G.2.1 2, 49, .inl (outsF (laysF (laysF (laysF (outsF (laysF (laysF (laysF (outsF (laysF (begF 4 0 2 2 fS) 0 3 0 2) 0 4) 1 1 0 2) 2 3 1 3) 3 3 6 5) 1 7) 4 1 1 3) 5 1 6 5) 6 2 8 9) 2 10))), (mR, .inl (G.2.1 2, 3, .inl fR))]) rfl rfl rfl (by decide) rfl (fun _ => rfl) (va_runV (As := [.int 10]) (rest := []) S (c_X7_outs l G mO mS _ mD mR mT mW mQ mC mU mV mt ma mn my mm mf mg (laysF (laysF (laysF (outsF (laysF (laysF (laysF (outsF (laysF (begF 4 0 2 2 fS) 0 3 0 2) 0 4) 1 1 0 2) 2 3 1 3) 3 3 6 5) 1 7) 4 1 1 3) 5 1 6 5) 6 2 8 9) 2 10 (by simp only [laysF_0, laysF_1, laysF_2, outsF_0, outsF_1, outsF_2, begF_0, begF_1, begF_2]) (by decide)) (cwV 1 S.2.2.2.2 gX7_adder_X7_outs rfl rfl rfl (by decide +kernel) ⟨Nat.le_of_ble_eq_true rfl, Nat.le_of_ble_eq_true rfl⟩) ⟨wPre_blind, va_recv C.1 w.1 (ci := 7) (q0 := 0) rfl rfl, wPre_at C w [0, 1] rfl rfl⟩ rfl rfl hl.1 rfl (lv_room (Nat.le_of_ble_eq_true rfl)) dX7_adder_135 ⟨Nat.le_of_ble_eq_true rfl, Nat.le_of_ble_eq_true rfl⟩) (fun u135_1 H locs h135_1 w => ?_)
          have w : Wd G _ s [(mO, .inr (7, [.ref mS, .ref mD, .ref mR, .ref mT, .int mt, .int ma, .int mn, .ref mW, .ref mQ, .ref mC, .int my, .ref mU, .ref mV, .int mm, .int mf, .int mg])), (mS, .inl (G.2.1 2, 49, .inl (outsF (laysF (laysF (laysF (outsF (laysF (laysF (laysF (outsF (laysF (begF 4 0 2 2 fS) 0 3 0 2) 0 4) 1 1 0 2) 2 3 1 3) 3 3 6 5) 1 7) 4 1 1 3) 5 1 6 5) 6 2 8 9) 2 10))), (mR, .inl (G.2.1 2, 3, .inl fR))] H locs := w
          refine lv_aload_n S.1 S.2.1 dX7_adder_138 rfl (lv_at hl 5 rfl) ?_
          refine w_get S C w (CC := RX7) (T := TX7) (N := 16) (ref := "GateSumsModel") im_X7_adder_X7 0 rfl rfl 0 (by decide) (List.mem_of_getElem? (i := 1) rfl) (fun _ h => h) rfl dX7_adder_139 ?_
          refine lv_iconst (v := 1) S.1 S.2.1 dX7_adder_142 (by decide) ?_
          refine w_iald S C w 1 rfl (by unfold vp_in; decide) dX7_adder_143 ?_
          refine w_topi (y := 7) ((show (outsF (laysF (laysF (laysF (outsF (laysF (laysF (laysF (outsF (laysF (begF 4 0 2 2 fS) 0 3 0 2) 0 4) 1 1 0 2) 2 3 1 3) 3 3 6 5) 1 7) 4 1 1 3) 5 1 6 5) 6 2 8 9) 2 10) 1 = 7 by simp only [laysF_0, laysF_1, laysF_2, outsF_0, outsF_1, outsF_2, begF_0, begF_1, begF_2]; decide)) ?_
          exact W.iret (v := 7) S.1 S.2.1 hr (fun t ht _ => ⟨⟨7, ((outsF (laysF (laysF (laysF (outsF (laysF (laysF (laysF (outsF (laysF (begF 4 0 2 2 fS) 0 3 0 2) 0 4) 1 1 0 2) 2 3 1 3) 3 3 6 5) 1 7) 4 1 1 3) 5 1 6 5) 6 2 8 9) 2 10), fR), rfl, by show _ = adderRm _; decide, by rw [ht]; exact w.1, w.2.1⟩, w.2.2.F ht⟩) w.2.2.2.2 dX7_adder_144
        · exact absurd c55_2 (by decide)
    · subst hcs
      refine lv_aload_n S.1 S.2.1 dX7_adder_16 rfl (lv_at hl 0 rfl) ?_
      refine lv_iconst (v := 2) S.1 S.2.1 dX7_adder_17 (by decide) ?_
      refine lv_iload_n S.1 S.2.1 dX7_adder_18 rfl (lv_at hl 1 rfl) ?_
      refine lv_imul S.1 S.2.1 dX7_adder_19 ?_
      refine w_topi (y := 6) (by decide) ?_
      refine lv_iconst (v := 0) S.1 S.2.1 dX7_adder_20 (by decide) ?_
      refine lv_iload_n S.1 S.2.1 dX7_adder_21 rfl (lv_at hl 1 rfl) ?_
      refine lv_iload_n S.1 S.2.1 dX7_adder_22 rfl (lv_at hl 1 rfl) ?_
      refine cq_v C w [0, 1] [2] [1, 2, 0] (wr := [(mR, .inl (G.2.1 2, 3, .inl fR))]) (w' := fun u : Unit => [(mO, .inr (7, [.ref mS, .ref mD, .ref mR, .ref mT, .int mt, .int ma, .int mn, .ref mW, .ref mQ, .ref mC, .int my, .ref mU, .ref mV, .int mm, .int mf, .int mg])), (mS, .inl (G.2.1 2, 49, .inl (begF 6 0 3 3 fS)))]) (ws2 := fun u : Unit => [(mO, .inr (7, [.ref mS, .ref mD, .ref mR, .ref mT, .int mt, .int ma, .int mn, .ref mW, .ref mQ, .ref mC, .int my, .ref mU, .ref mV, .int mm, .int mf, .int mg])), (mS, .inl (G.2.1 2, 49, .inl (begF 6 0 3 3 fS))), (mR, .inl (G.2.1 2, 3, .inl fR))]) rfl rfl rfl (by decide) rfl (fun _ => rfl) (va_runV (As := [.int 6, .int 0, .int 3, .int 3]) (rest := []) S (c_X7_begins l G mO mS _ mD mR mT mW mQ mC mU mV mt ma mn my mm mf mg fS 6 0 3 3) (cwV 4 S.2.2.2.2 gX7_adder_X7_begins rfl rfl rfl (by decide +kernel) ⟨Nat.le_of_ble_eq_true rfl, Nat.le_of_ble_eq_true rfl⟩) ⟨wPre_blind, va_recv C.1 w.1 (ci := 7) (q0 := 0) rfl rfl, wPre_at C w [0, 1] rfl rfl⟩ rfl rfl hl.1 rfl (lv_room (Nat.le_of_ble_eq_true rfl)) dX7_adder_23 ⟨Nat.le_of_ble_eq_true rfl, Nat.le_of_ble_eq_true rfl⟩) (fun u23_2 H locs h23_2 w => ?_)
      have w : Wd G _ s [(mO, .inr (7, [.ref mS, .ref mD, .ref mR, .ref mT, .int mt, .int ma, .int mn, .ref mW, .ref mQ, .ref mC, .int my, .ref mU, .ref mV, .int mm, .int mf, .int mg])), (mS, .inl (G.2.1 2, 49, .inl (begF 6 0 3 3 fS))), (mR, .inl (G.2.1 2, 3, .inl fR))] H locs := w
      refine lv_aload_n S.1 S.2.1 dX7_adder_26 rfl (lv_at hl 0 rfl) ?_
      refine lv_aload_n S.1 S.2.1 dX7_adder_27 rfl (lv_at hl 0 rfl) ?_
      refine w_get S C w (CC := RX7) (T := TX7) (N := 16) (ref := "GateSumsModel") im_X7_adder_X7 0 rfl rfl 0 (by decide) (List.mem_of_getElem? (i := 1) rfl) (fun _ h => h) rfl dX7_adder_28 ?_
      refine lv_iconst (v := 3) S.1 S.2.1 dX7_adder_31 (by decide) ?_
      refine lv_iconst (v := 0) S.1 S.2.1 dX7_adder_32 (by decide) ?_
      refine lv_iload_n S.1 S.2.1 dX7_adder_33 rfl (lv_at hl 1 rfl) ?_
      refine cq_i C w [1] [0, 2] [0, 2, 1] (wr := [(mO, .inr (7, [.ref mS, .ref mD, .ref mR, .ref mT, .int mt, .int ma, .int mn, .ref mW, .ref mQ, .ref mC, .int my, .ref mU, .ref mV, .int mm, .int mf, .int mg])), (mR, .inl (G.2.1 2, 3, .inl fR))]) (w' := fun u : Unit => [(mS, .inl (G.2.1 2, 49, .inl (laysF (begF 6 0 3 3 fS) 0 3 0 3)))]) (ws2 := fun u : Unit => [(mO, .inr (7, [.ref mS, .ref mD, .ref mR, .ref mT, .int mt, .int ma, .int mn, .ref mW, .ref mQ, .ref mC, .int my, .ref mU, .ref mV, .int mm, .int mf, .int mg])), (mS, .inl (G.2.1 2, 49, .inl (laysF (begF 6 0 3 3 fS) 0 3 0 3))), (mR, .inl (G.2.1 2, 3, .inl fR))]) rfl rfl rfl (by decide) rfl (fun _ => rfl) (va_runS (As := [.ref mS, .int 3, .int 0, .int 3]) (rest := [.ref mO]) S (c_X7_lays l G mS _ (begF 6 0 3 3 fS) 0 3 0 3 (by simp only [laysF_0, laysF_1, laysF_2, outsF_0, outsF_1, outsF_2, begF_0, begF_1, begF_2]) (by decide)) (cwS 4 S.2.2.2.2 gX7_adder_X7_lays rfl rfl rfl (by decide +kernel) ⟨Nat.le_of_ble_eq_true rfl, Nat.le_of_ble_eq_true rfl⟩) ⟨wPre_blind, wPre_at C w [1] rfl rfl⟩ rfl rfl hl.1 rfl (lv_room (Nat.le_of_ble_eq_true rfl)) dX7_adder_34 ⟨Nat.le_of_ble_eq_true rfl, Nat.le_of_ble_eq_true rfl⟩) (fun r34_2 u34_2 H locs h34_2 w => ?_)
      have w : Wd G _ s [(mO, .inr (7, [.ref mS, .ref mD, .ref mR, .ref mT, .int mt, .int ma, .int mn, .ref mW, .ref mQ, .ref mC, .int my, .ref mU, .ref mV, .int mm, .int mf, .int mg])), (mS, .inl (G.2.1 2, 49, .inl (laysF (begF 6 0 3 3 fS) 0 3 0 3))), (mR, .inl (G.2.1 2, 3, .inl fR))] H locs := w
      refine w_topi (y := 6) (h34_2.trans (by simp only [laysF_0, laysF_1, laysF_2, outsF_0, outsF_1, outsF_2, begF_0, begF_1, begF_2]; decide)) ?_
      refine cq_v C w [0, 1] [2] [1, 2, 0] (wr := [(mR, .inl (G.2.1 2, 3, .inl fR))]) (w' := fun u : Unit => [(mO, .inr (7, [.ref mS, .ref mD, .ref mR, .ref mT, .int mt, .int ma, .int mn, .ref mW, .ref mQ, .ref mC, .int my, .ref mU, .ref mV, .int mm, .int mf, .int mg])), (mS, .inl (G.2.1 2, 49, .inl (outsF (laysF (begF 6 0 3 3 fS) 0 3 0 3) 0 6)))]) (ws2 := fun u : Unit => [(mO, .inr (7, [.ref mS, .ref mD, .ref mR, .ref mT, .int mt, .int ma, .int mn, .ref mW, .ref mQ, .ref mC, .int my, .ref mU, .ref mV, .int mm, .int mf, .int mg])), (mS, .inl (G.2.1 2, 49, .inl (outsF (laysF (begF 6 0 3 3 fS) 0 3 0 3) 0 6))), (mR, .inl (G.2.1 2, 3, .inl fR))]) rfl rfl rfl (by decide) rfl (fun _ => rfl) (va_runV (As := [.int 6]) (rest := []) S (c_X7_outs l G mO mS _ mD mR mT mW mQ mC mU mV mt ma mn my mm mf mg (laysF (begF 6 0 3 3 fS) 0 3 0 3) 0 6 (by simp only [laysF_0, laysF_1, laysF_2, outsF_0, outsF_1, outsF_2, begF_0, begF_1, begF_2]) (by decide)) (cwV 1 S.2.2.2.2 gX7_adder_X7_outs rfl rfl rfl (by decide +kernel) ⟨Nat.le_of_ble_eq_true rfl, Nat.le_of_ble_eq_true rfl⟩) ⟨wPre_blind, va_recv C.1 w.1 (ci := 7) (q0 := 0) rfl rfl, wPre_at C w [0, 1] rfl rfl⟩ rfl rfl hl.1 rfl (lv_room (Nat.le_of_ble_eq_true rfl)) dX7_adder_37 ⟨Nat.le_of_ble_eq_true rfl, Nat.le_of_ble_eq_true rfl⟩) (fun u37_2 H locs h37_2 w => ?_)
      have w : Wd G _ s [(mO, .inr (7, [.ref mS, .ref mD, .ref mR, .ref mT, .int mt, .int ma, .int mn, .ref mW, .ref mQ, .ref mC, .int my, .ref mU, .ref mV, .int mm, .int mf, .int mg])), (mS, .inl (G.2.1 2, 49, .inl (outsF (laysF (begF 6 0 3 3 fS) 0 3 0 3) 0 6))), (mR, .inl (G.2.1 2, 3, .inl fR))] H locs := w
      refine lv_aload_n S.1 S.2.1 dX7_adder_40 rfl (lv_at hl 0 rfl) ?_
      refine w_get S C w (CC := RX7) (T := TX7) (N := 16) (ref := "GateSumsModel") im_X7_adder_X7 0 rfl rfl 0 (by decide) (List.mem_of_getElem? (i := 1) rfl) (fun _ h => h) rfl dX7_adder_41 ?_
      refine lv_iconst (v := 1) S.1 S.2.1 dX7_adder_44 (by decide) ?_
      refine lv_iconst (v := 0) S.1 S.2.1 dX7_adder_45 (by decide) ?_
      refine lv_iload_n S.1 S.2.1 dX7_adder_46 rfl (lv_at hl 1 rfl) ?_
      refine cq_i C w [1] [0, 2] [0, 2, 1] (wr := [(mO, .inr (7, [.ref mS, .ref mD, .ref mR, .ref mT, .int mt, .int ma, .int mn, .ref mW, .ref mQ, .ref mC, .int my, .ref mU, .ref mV, .int mm, .int mf, .int mg])), (mR, .inl (G.2.1 2, 3, .inl fR))]) (w' := fun u : Unit => [(mS, .inl (G.2.1 2, 49, .inl (laysF (outsF (laysF (begF 6 0 3 3 fS) 0 3 0 3) 0 6) 1 1 0 3)))]) (ws2 := fun u : Unit => [(mO, .inr (7, [.ref mS, .ref mD, .ref mR, .ref mT, .int mt, .int ma, .int mn, .ref mW, .ref mQ, .ref mC, .int my, .ref mU, .ref mV, .int mm, .int mf, .int mg])), (mS, .inl (G.2.1 2, 49, .inl (laysF (outsF (laysF (begF 6 0 3 3 fS) 0 3 0 3) 0 6) 1 1 0 3))), (mR, .inl (G.2.1 2, 3, .inl fR))]) rfl rfl rfl (by decide) rfl (fun _ => rfl) (va_runS (As := [.ref mS, .int 1, .int 0, .int 3]) (rest := []) S (c_X7_lays l G mS _ (outsF (laysF (begF 6 0 3 3 fS) 0 3 0 3) 0 6) 1 1 0 3 (by simp only [laysF_0, laysF_1, laysF_2, outsF_0, outsF_1, outsF_2, begF_0, begF_1, begF_2]) (by decide)) (cwS 4 S.2.2.2.2 gX7_adder_X7_lays rfl rfl rfl (by decide +kernel) ⟨Nat.le_of_ble_eq_true rfl, Nat.le_of_ble_eq_true rfl⟩) ⟨wPre_blind, wPre_at C w [1] rfl rfl⟩ rfl rfl hl.1 rfl (lv_room (Nat.le_of_ble_eq_true rfl)) dX7_adder_47 ⟨Nat.le_of_ble_eq_true rfl, Nat.le_of_ble_eq_true rfl⟩) (fun r47_2 u47_2 H locs h47_2 w => ?_)
      have w : Wd G _ s [(mO, .inr (7, [.ref mS, .ref mD, .ref mR, .ref mT, .int mt, .int ma, .int mn, .ref mW, .ref mQ, .ref mC, .int my, .ref mU, .ref mV, .int mm, .int mf, .int mg])), (mS, .inl (G.2.1 2, 49, .inl (laysF (outsF (laysF (begF 6 0 3 3 fS) 0 3 0 3) 0 6) 1 1 0 3))), (mR, .inl (G.2.1 2, 3, .inl fR))] H locs := w
      refine w_topi (y := 7) (h47_2.trans (by simp only [laysF_0, laysF_1, laysF_2, outsF_0, outsF_1, outsF_2, begF_0, begF_1, begF_2]; decide)) ?_
      refine lv_istore_n (lv' := [(2, .int 7), (0, .ref mO), (1, .int 3)]) S.1 S.2.1 dX7_adder_50 rfl hl (by decide) rfl (fun ls hl => ?_)
      refine lv_iconst (v := 1) S.1 S.2.1 dX7_adder_51 (by decide) ?_
      refine lv_istore_n (lv' := [(3, .int 1), (2, .int 7), (0, .ref mO), (1, .int 3)]) S.1 S.2.1 dX7_adder_52 rfl hl (by decide) rfl (fun ls hl => ?_)
      refine lv_iload_n S.1 S.2.1 dX7_adder_53 rfl (lv_at hl 0 rfl) ?_
      refine lv_iload_n S.1 S.2.1 dX7_adder_54 rfl (lv_at hl 3 rfl) ?_
      refine lv_icmp_ge (tgt := 133) S.1 S.2.1 dX7_adder_55 (by decide) (fun c55_3 => ?_) (fun c55_3 => ?_)
      · exact absurd c55_3 (by decide)
      · refine lv_aload_n S.1 S.2.1 dX7_adder_58 rfl (lv_at hl 2 rfl) ?_
        refine w_get S C w (CC := RX7) (T := TX7) (N := 16) (ref := "GateSumsModel") im_X7_adder_X7 0 rfl rfl 0 (by decide) (List.mem_of_getElem? (i := 1) rfl) (fun _ h => h) rfl dX7_adder_59 ?_
        refine lv_iconst (v := 3) S.1 S.2.1 dX7_adder_62 (by decide) ?_
        refine lv_iload_n S.1 S.2.1 dX7_adder_63 rfl (lv_at hl 0 rfl) ?_
        refine lv_iload_n S.1 S.2.1 dX7_adder_64 rfl (lv_at hl 3 rfl) ?_
        refine lv_iload_n S.1 S.2.1 dX7_adder_65 rfl (lv_at hl 0 rfl) ?_
        refine lv_iadd S.1 S.2.1 dX7_adder_66 ?_
        refine w_topi (y := 4) (by decide) ?_
        refine cq_i C w [1] [0, 2] [0, 2, 1] (wr := [(mO, .inr (7, [.ref mS, .ref mD, .ref mR, .ref mT, .int mt, .int ma, .int mn, .ref mW, .ref mQ, .ref mC, .int my, .ref mU, .ref mV, .int mm, .int mf, .int mg])), (mR, .inl (G.2.1 2, 3, .inl fR))]) (w' := fun u : Unit => [(mS, .inl (G.2.1 2, 49, .inl (laysF (laysF (outsF (laysF (begF 6 0 3 3 fS) 0 3 0 3) 0 6) 1 1 0 3) 2 3 1 4)))]) (ws2 := fun u : Unit => [(mO, .inr (7, [.ref mS, .ref mD, .ref mR, .ref mT, .int mt, .int ma, .int mn, .ref mW, .ref mQ, .ref mC, .int my, .ref mU, .ref mV, .int mm, .int mf, .int mg])), (mS, .inl (G.2.1 2, 49, .inl (laysF (laysF (outsF (laysF (begF 6 0 3 3 fS) 0 3 0 3) 0 6) 1 1 0 3) 2 3 1 4))), (mR, .inl (G.2.1 2, 3, .inl fR))]) rfl rfl rfl (by decide) rfl (fun _ => rfl) (va_runS (As := [.ref mS, .int 3, .int 1, .int 4]) (rest := []) S (c_X7_lays l G mS _ (laysF (outsF (laysF (begF 6 0 3 3 fS) 0 3 0 3) 0 6) 1 1 0 3) 2 3 1 4 (by simp only [laysF_0, laysF_1, laysF_2, outsF_0, outsF_1, outsF_2, begF_0, begF_1, begF_2]) (by decide)) (cwS 4 S.2.2.2.2 gX7_adder_X7_lays rfl rfl rfl (by decide +kernel) ⟨Nat.le_of_ble_eq_true rfl, Nat.le_of_ble_eq_true rfl⟩) ⟨wPre_blind, wPre_at C w [1] rfl rfl⟩ rfl rfl hl.1 rfl (lv_room (Nat.le_of_ble_eq_true rfl)) dX7_adder_67 ⟨Nat.le_of_ble_eq_true rfl, Nat.le_of_ble_eq_true rfl⟩) (fun r67_1 u67_1 H locs h67_1 w => ?_)
        have w : Wd G _ s [(mO, .inr (7, [.ref mS, .ref mD, .ref mR, .ref mT, .int mt, .int ma, .int mn, .ref mW, .ref mQ, .ref mC, .int my, .ref mU, .ref mV, .int mm, .int mf, .int mg])), (mS, .inl (G.2.1 2, 49, .inl (laysF (laysF (outsF (laysF (begF 6 0 3 3 fS) 0 3 0 3) 0 6) 1 1 0 3) 2 3 1 4))), (mR, .inl (G.2.1 2, 3, .inl fR))] H locs := w
        refine w_topi (y := 8) (h67_1.trans (by simp only [laysF_0, laysF_1, laysF_2, outsF_0, outsF_1, outsF_2, begF_0, begF_1, begF_2]; decide)) ?_
        refine lv_istore (lv' := [(4, .int 8), (3, .int 1), (2, .int 7), (0, .ref mO), (1, .int 3)]) S.1 S.2.1 dX7_adder_70 hl (by decide) rfl (fun ls hl => ?_)
        refine lv_aload_n S.1 S.2.1 dX7_adder_72 rfl (lv_at hl 3 rfl) ?_
        refine lv_aload_n S.1 S.2.1 dX7_adder_73 rfl (lv_at hl 3 rfl) ?_
        refine w_get S C w (CC := RX7) (T := TX7) (N := 16) (ref := "GateSumsModel") im_X7_adder_X7 0 rfl rfl 0 (by decide) (List.mem_of_getElem? (i := 1) rfl) (fun _ h => h) rfl dX7_adder_74 ?_
        refine lv_iconst (v := 3) S.1 S.2.1 dX7_adder_77 (by decide) ?_
        refine lv_iload S.1 S.2.1 dX7_adder_78 (lv_at hl 0 rfl) ?_
        refine lv_iload_n S.1 S.2.1 dX7_adder_80 rfl (lv_at hl 2 rfl) ?_
        refine cq_i C w [1] [0, 2] [0, 2, 1] (wr := [(mO, .inr (7, [.ref mS, .ref mD, .ref mR, .ref mT, .int mt, .int ma, .int mn, .ref mW, .ref mQ, .ref mC, .int my, .ref mU, .ref mV, .int mm, .int mf, .int mg])), (mR, .inl (G.2.1 2, 3, .inl fR))]) (w' := fun u : Unit => [(mS, .inl (G.2.1 2, 49, .inl (laysF (laysF (laysF (outsF (laysF (begF 6 0 3 3 fS) 0 3 0 3) 0 6) 1 1 0 3) 2 3 1 4) 3 3 8 7)))]) (ws2 := fun u : Unit => [(mO, .inr (7, [.ref mS, .ref mD, .ref mR, .ref mT, .int mt, .int ma, .int mn, .ref mW, .ref mQ, .ref mC, .int my, .ref mU, .ref mV, .int mm, .int mf, .int mg])), (mS, .inl (G.2.1 2, 49, .inl (laysF (laysF (laysF (outsF (laysF (begF 6 0 3 3 fS) 0 3 0 3) 0 6) 1 1 0 3) 2 3 1 4) 3 3 8 7))), (mR, .inl (G.2.1 2, 3, .inl fR))]) rfl rfl rfl (by decide) rfl (fun _ => rfl) (va_runS (As := [.ref mS, .int 3, .int 8, .int 7]) (rest := [.ref mO]) S (c_X7_lays l G mS _ (laysF (laysF (outsF (laysF (begF 6 0 3 3 fS) 0 3 0 3) 0 6) 1 1 0 3) 2 3 1 4) 3 3 8 7 (by simp only [laysF_0, laysF_1, laysF_2, outsF_0, outsF_1, outsF_2, begF_0, begF_1, begF_2]) (by decide)) (cwS 4 S.2.2.2.2 gX7_adder_X7_lays rfl rfl rfl (by decide +kernel) ⟨Nat.le_of_ble_eq_true rfl, Nat.le_of_ble_eq_true rfl⟩) ⟨wPre_blind, wPre_at C w [1] rfl rfl⟩ rfl rfl hl.1 rfl (lv_room (Nat.le_of_ble_eq_true rfl)) dX7_adder_81 ⟨Nat.le_of_ble_eq_true rfl, Nat.le_of_ble_eq_true rfl⟩) (fun r81_1 u81_1 H locs h81_1 w => ?_)
        have w : Wd G _ s [(mO, .inr (7, [.ref mS, .ref mD, .ref mR, .ref mT, .int mt, .int ma, .int mn, .ref mW, .ref mQ, .ref mC, .int my, .ref mU, .ref mV, .int mm, .int mf, .int mg])), (mS, .inl (G.2.1 2, 49, .inl (laysF (laysF (laysF (outsF (laysF (begF 6 0 3 3 fS) 0 3 0 3) 0 6) 1 1 0 3) 2 3 1 4) 3 3 8 7))), (mR, .inl (G.2.1 2, 3, .inl fR))] H locs := w
        refine w_topi (y := 9) (h81_1.trans (by simp only [laysF_0, laysF_1, laysF_2, outsF_0, outsF_1, outsF_2, begF_0, begF_1, begF_2]; decide)) ?_
        refine cq_v C w [0, 1] [2] [1, 2, 0] (wr := [(mR, .inl (G.2.1 2, 3, .inl fR))]) (w' := fun u : Unit => [(mO, .inr (7, [.ref mS, .ref mD, .ref mR, .ref mT, .int mt, .int ma, .int mn, .ref mW, .ref mQ, .ref mC, .int my, .ref mU, .ref mV, .int mm, .int mf, .int mg])), (mS, .inl (G.2.1 2, 49, .inl (outsF (laysF (laysF (laysF (outsF (laysF (begF 6 0 3 3 fS) 0 3 0 3) 0 6) 1 1 0 3) 2 3 1 4) 3 3 8 7) 1 9)))]) (ws2 := fun u : Unit => [(mO, .inr (7, [.ref mS, .ref mD, .ref mR, .ref mT, .int mt, .int ma, .int mn, .ref mW, .ref mQ, .ref mC, .int my, .ref mU, .ref mV, .int mm, .int mf, .int mg])), (mS, .inl (G.2.1 2, 49, .inl (outsF (laysF (laysF (laysF (outsF (laysF (begF 6 0 3 3 fS) 0 3 0 3) 0 6) 1 1 0 3) 2 3 1 4) 3 3 8 7) 1 9))), (mR, .inl (G.2.1 2, 3, .inl fR))]) rfl rfl rfl (by decide) rfl (fun _ => rfl) (va_runV (As := [.int 9]) (rest := []) S (c_X7_outs l G mO mS _ mD mR mT mW mQ mC mU mV mt ma mn my mm mf mg (laysF (laysF (laysF (outsF (laysF (begF 6 0 3 3 fS) 0 3 0 3) 0 6) 1 1 0 3) 2 3 1 4) 3 3 8 7) 1 9 (by simp only [laysF_0, laysF_1, laysF_2, outsF_0, outsF_1, outsF_2, begF_0, begF_1, begF_2]) (by decide)) (cwV 1 S.2.2.2.2 gX7_adder_X7_outs rfl rfl rfl (by decide +kernel) ⟨Nat.le_of_ble_eq_true rfl, Nat.le_of_ble_eq_true rfl⟩) ⟨wPre_blind, va_recv C.1 w.1 (ci := 7) (q0 := 0) rfl rfl, wPre_at C w [0, 1] rfl rfl⟩ rfl rfl hl.1 rfl (lv_room (Nat.le_of_ble_eq_true rfl)) dX7_adder_84 ⟨Nat.le_of_ble_eq_true rfl, Nat.le_of_ble_eq_true rfl⟩) (fun u84_1 H locs h84_1 w => ?_)
        have w : Wd G _ s [(mO, .inr (7, [.ref mS, .ref mD, .ref mR, .ref mT, .int mt, .int ma, .int mn, .ref mW, .ref mQ, .ref mC, .int my, .ref mU, .ref mV, .int mm, .int mf, .int mg])), (mS, .inl (G.2.1 2, 49, .inl (outsF (laysF (laysF (laysF (outsF (laysF (begF 6 0 3 3 fS) 0 3 0 3) 0 6) 1 1 0 3) 2 3 1 4) 3 3 8 7) 1 9))), (mR, .inl (G.2.1 2, 3, .inl fR))] H locs := w
        refine lv_aload_n S.1 S.2.1 dX7_adder_87 rfl (lv_at hl 3 rfl) ?_
        refine w_get S C w (CC := RX7) (T := TX7) (N := 16) (ref := "GateSumsModel") im_X7_adder_X7 0 rfl rfl 0 (by decide) (List.mem_of_getElem? (i := 1) rfl) (fun _ h => h) rfl dX7_adder_88 ?_
        refine lv_iconst (v := 1) S.1 S.2.1 dX7_adder_91 (by decide) ?_
        refine lv_iload_n S.1 S.2.1 dX7_adder_92 rfl (lv_at hl 1 rfl) ?_
        refine lv_iload_n S.1 S.2.1 dX7_adder_93 rfl (lv_at hl 4 rfl) ?_
        refine lv_iload_n S.1 S.2.1 dX7_adder_94 rfl (lv_at hl 1 rfl) ?_
        refine lv_iadd S.1 S.2.1 dX7_adder_95 ?_
        refine w_topi (y := 4) (by decide) ?_
        refine cq_i C w [1] [0, 2] [0, 2, 1] (wr := [(mO, .inr (7, [.ref mS, .ref mD, .ref mR, .ref mT, .int mt, .int ma, .int mn, .ref mW, .ref mQ, .ref mC, .int my, .ref mU, .ref mV, .int mm, .int mf, .int mg])), (mR, .inl (G.2.1 2, 3, .inl fR))]) (w' := fun u : Unit => [(mS, .inl (G.2.1 2, 49, .inl (laysF (outsF (laysF (laysF (laysF (outsF (laysF (begF 6 0 3 3 fS) 0 3 0 3) 0 6) 1 1 0 3) 2 3 1 4) 3 3 8 7) 1 9) 4 1 1 4)))]) (ws2 := fun u : Unit => [(mO, .inr (7, [.ref mS, .ref mD, .ref mR, .ref mT, .int mt, .int ma, .int mn, .ref mW, .ref mQ, .ref mC, .int my, .ref mU, .ref mV, .int mm, .int mf, .int mg])), (mS, .inl (G.2.1 2, 49, .inl (laysF (outsF (laysF (laysF (laysF (outsF (laysF (begF 6 0 3 3 fS) 0 3 0 3) 0 6) 1 1 0 3) 2 3 1 4) 3 3 8 7) 1 9) 4 1 1 4))), (mR, .inl (G.2.1 2, 3, .inl fR))]) rfl rfl rfl (by decide) rfl (fun _ => rfl) (va_runS (As := [.ref mS, .int 1, .int 1, .int 4]) (rest := []) S (c_X7_lays l G mS _ (outsF (laysF (laysF (laysF (outsF (laysF (begF 6 0 3 3 fS) 0 3 0 3) 0 6) 1 1 0 3) 2 3 1 4) 3 3 8 7) 1 9) 4 1 1 4 (by simp only [laysF_0, laysF_1, laysF_2, outsF_0, outsF_1, outsF_2, begF_0, begF_1, begF_2]) (by decide)) (cwS 4 S.2.2.2.2 gX7_adder_X7_lays rfl rfl rfl (by decide +kernel) ⟨Nat.le_of_ble_eq_true rfl, Nat.le_of_ble_eq_true rfl⟩) ⟨wPre_blind, wPre_at C w [1] rfl rfl⟩ rfl rfl hl.1 rfl (lv_room (Nat.le_of_ble_eq_true rfl)) dX7_adder_96 ⟨Nat.le_of_ble_eq_true rfl, Nat.le_of_ble_eq_true rfl⟩) (fun r96_1 u96_1 H locs h96_1 w => ?_)
        have w : Wd G _ s [(mO, .inr (7, [.ref mS, .ref mD, .ref mR, .ref mT, .int mt, .int ma, .int mn, .ref mW, .ref mQ, .ref mC, .int my, .ref mU, .ref mV, .int mm, .int mf, .int mg])), (mS, .inl (G.2.1 2, 49, .inl (laysF (outsF (laysF (laysF (laysF (outsF (laysF (begF 6 0 3 3 fS) 0 3 0 3) 0 6) 1 1 0 3) 2 3 1 4) 3 3 8 7) 1 9) 4 1 1 4))), (mR, .inl (G.2.1 2, 3, .inl fR))] H locs := w
        refine w_topi (y := 10) (h96_1.trans (by simp only [laysF_0, laysF_1, laysF_2, outsF_0, outsF_1, outsF_2, begF_0, begF_1, begF_2]; decide)) ?_
        refine lv_istore (lv' := [(5, .int 10), (4, .int 8), (3, .int 1), (2, .int 7), (0, .ref mO), (1, .int 3)]) S.1 S.2.1 dX7_adder_99 hl (by decide) rfl (fun ls hl => ?_)
        refine lv_aload_n S.1 S.2.1 dX7_adder_101 rfl (lv_at hl 4 rfl) ?_
        refine w_get S C w (CC := RX7) (T := TX7) (N := 16) (ref := "GateSumsModel") im_X7_adder_X7 0 rfl rfl 0 (by decide) (List.mem_of_getElem? (i := 1) rfl) (fun _ h => h) rfl dX7_adder_102 ?_
        refine lv_iconst (v := 1) S.1 S.2.1 dX7_adder_105 (by decide) ?_
        refine lv_iload S.1 S.2.1 dX7_adder_106 (lv_at hl 1 rfl) ?_
        refine lv_iload_n S.1 S.2.1 dX7_adder_108 rfl (lv_at hl 3 rfl) ?_
        refine cq_i C w [1] [0, 2] [0, 2, 1] (wr := [(mO, .inr (7, [.ref mS, .ref mD, .ref mR, .ref mT, .int mt, .int ma, .int mn, .ref mW, .ref mQ, .ref mC, .int my, .ref mU, .ref mV, .int mm, .int mf, .int mg])), (mR, .inl (G.2.1 2, 3, .inl fR))]) (w' := fun u : Unit => [(mS, .inl (G.2.1 2, 49, .inl (laysF (laysF (outsF (laysF (laysF (laysF (outsF (laysF (begF 6 0 3 3 fS) 0 3 0 3) 0 6) 1 1 0 3) 2 3 1 4) 3 3 8 7) 1 9) 4 1 1 4) 5 1 8 7)))]) (ws2 := fun u : Unit => [(mO, .inr (7, [.ref mS, .ref mD, .ref mR, .ref mT, .int mt, .int ma, .int mn, .ref mW, .ref mQ, .ref mC, .int my, .ref mU, .ref mV, .int mm, .int mf, .int mg])), (mS, .inl (G.2.1 2, 49, .inl (laysF (laysF (outsF (laysF (laysF (laysF (outsF (laysF (begF 6 0 3 3 fS) 0 3 0 3) 0 6) 1 1 0 3) 2 3 1 4) 3 3 8 7) 1 9) 4 1 1 4) 5 1 8 7))), (mR, .inl (G.2.1 2, 3, .inl fR))]) rfl rfl rfl (by decide) rfl (fun _ => rfl) (va_runS (As := [.ref mS, .int 1, .int 8, .int 7]) (rest := []) S (c_X7_lays l G mS _ (laysF (outsF (laysF (laysF (laysF (outsF (laysF (begF 6 0 3 3 fS) 0 3 0 3) 0 6) 1 1 0 3) 2 3 1 4) 3 3 8 7) 1 9) 4 1 1 4) 5 1 8 7 (by simp only [laysF_0, laysF_1, laysF_2, outsF_0, outsF_1, outsF_2, begF_0, begF_1, begF_2]) (by decide)) (cwS 4 S.2.2.2.2 gX7_adder_X7_lays rfl rfl rfl (by decide +kernel) ⟨Nat.le_of_ble_eq_true rfl, Nat.le_of_ble_eq_true rfl⟩) ⟨wPre_blind, wPre_at C w [1] rfl rfl⟩ rfl rfl hl.1 rfl (lv_room (Nat.le_of_ble_eq_true rfl)) dX7_adder_109 ⟨Nat.le_of_ble_eq_true rfl, Nat.le_of_ble_eq_true rfl⟩) (fun r109_1 u109_1 H locs h109_1 w => ?_)
        have w : Wd G _ s [(mO, .inr (7, [.ref mS, .ref mD, .ref mR, .ref mT, .int mt, .int ma, .int mn, .ref mW, .ref mQ, .ref mC, .int my, .ref mU, .ref mV, .int mm, .int mf, .int mg])), (mS, .inl (G.2.1 2, 49, .inl (laysF (laysF (outsF (laysF (laysF (laysF (outsF (laysF (begF 6 0 3 3 fS) 0 3 0 3) 0 6) 1 1 0 3) 2 3 1 4) 3 3 8 7) 1 9) 4 1 1 4) 5 1 8 7))), (mR, .inl (G.2.1 2, 3, .inl fR))] H locs := w
        refine w_topi (y := 11) (h109_1.trans (by simp only [laysF_0, laysF_1, laysF_2, outsF_0, outsF_1, outsF_2, begF_0, begF_1, begF_2]; decide)) ?_
        refine lv_istore (lv' := [(6, .int 11), (5, .int 10), (4, .int 8), (3, .int 1), (2, .int 7), (0, .ref mO), (1, .int 3)]) S.1 S.2.1 dX7_adder_112 hl (by decide) rfl (fun ls hl => ?_)
        refine lv_aload_n S.1 S.2.1 dX7_adder_114 rfl (lv_at hl 5 rfl) ?_
        refine w_get S C w (CC := RX7) (T := TX7) (N := 16) (ref := "GateSumsModel") im_X7_adder_X7 0 rfl rfl 0 (by decide) (List.mem_of_getElem? (i := 1) rfl) (fun _ h => h) rfl dX7_adder_115 ?_
        refine lv_iconst (v := 2) S.1 S.2.1 dX7_adder_118 (by decide) ?_
        refine lv_iload S.1 S.2.1 dX7_adder_119 (lv_at hl 1 rfl) ?_
        refine lv_iload S.1 S.2.1 dX7_adder_121 (lv_at hl 0 rfl) ?_
        refine cq_i C w [1] [0, 2] [0, 2, 1] (wr := [(mO, .inr (7, [.ref mS, .ref mD, .ref mR, .ref mT, .int mt, .int ma, .int mn, .ref mW, .ref mQ, .ref mC, .int my, .ref mU, .ref mV, .int mm, .int mf, .int mg])), (mR, .inl (G.2.1 2, 3, .inl fR))]) (w' := fun u : Unit => [(mS, .inl (G.2.1 2, 49, .inl (laysF (laysF (laysF (outsF (laysF (laysF (laysF (outsF (laysF (begF 6 0 3 3 fS) 0 3 0 3) 0 6) 1 1 0 3) 2 3 1 4) 3 3 8 7) 1 9) 4 1 1 4) 5 1 8 7) 6 2 10 11)))]) (ws2 := fun u : Unit => [(mO, .inr (7, [.ref mS, .ref mD, .ref mR, .ref mT, .int mt, .int ma, .int mn, .ref mW, .ref mQ, .ref mC, .int my, .ref mU, .ref mV, .int mm, .int mf, .int mg])), (mS, .inl (G.2.1 2, 49, .inl (laysF (laysF (laysF (outsF (laysF (laysF (laysF (outsF (laysF (begF 6 0 3 3 fS) 0 3 0 3) 0 6) 1 1 0 3) 2 3 1 4) 3 3 8 7) 1 9) 4 1 1 4) 5 1 8 7) 6 2 10 11))), (mR, .inl (G.2.1 2, 3, .inl fR))]) rfl rfl rfl (by decide) rfl (fun _ => rfl) (va_runS (As := [.ref mS, .int 2, .int 10, .int 11]) (rest := []) S (c_X7_lays l G mS _ (laysF (laysF (outsF (laysF (laysF (laysF (outsF (laysF (begF 6 0 3 3 fS) 0 3 0 3) 0 6) 1 1 0 3) 2 3 1 4) 3 3 8 7) 1 9) 4 1 1 4) 5 1 8 7) 6 2 10 11 (by simp only [laysF_0, laysF_1, laysF_2, outsF_0, outsF_1, outsF_2, begF_0, begF_1, begF_2]) (by decide)) (cwS 4 S.2.2.2.2 gX7_adder_X7_lays rfl rfl rfl (by decide +kernel) ⟨Nat.le_of_ble_eq_true rfl, Nat.le_of_ble_eq_true rfl⟩) ⟨wPre_blind, wPre_at C w [1] rfl rfl⟩ rfl rfl hl.1 rfl (lv_room (Nat.le_of_ble_eq_true rfl)) dX7_adder_123 ⟨Nat.le_of_ble_eq_true rfl, Nat.le_of_ble_eq_true rfl⟩) (fun r123_1 u123_1 H locs h123_1 w => ?_)
        have w : Wd G _ s [(mO, .inr (7, [.ref mS, .ref mD, .ref mR, .ref mT, .int mt, .int ma, .int mn, .ref mW, .ref mQ, .ref mC, .int my, .ref mU, .ref mV, .int mm, .int mf, .int mg])), (mS, .inl (G.2.1 2, 49, .inl (laysF (laysF (laysF (outsF (laysF (laysF (laysF (outsF (laysF (begF 6 0 3 3 fS) 0 3 0 3) 0 6) 1 1 0 3) 2 3 1 4) 3 3 8 7) 1 9) 4 1 1 4) 5 1 8 7) 6 2 10 11))), (mR, .inl (G.2.1 2, 3, .inl fR))] H locs := w
        refine w_topi (y := 12) (h123_1.trans (by simp only [laysF_0, laysF_1, laysF_2, outsF_0, outsF_1, outsF_2, begF_0, begF_1, begF_2]; decide)) ?_
        refine lv_istore_n (lv' := [(2, .int 12), (6, .int 11), (5, .int 10), (4, .int 8), (3, .int 1), (0, .ref mO), (1, .int 3)]) S.1 S.2.1 dX7_adder_126 rfl hl (by decide) rfl (fun ls hl => ?_)
        refine lv_iinc (v := 2) (lv' := [(3, .int 2), (2, .int 12), (6, .int 11), (5, .int 10), (4, .int 8), (0, .ref mO), (1, .int 3)]) S.1 S.2.1 dX7_adder_127 hl (k := 4) rfl (by decide) (by decide) rfl (fun ls hl => ?_)
        refine lv_goto (tgt := 53) S.1 S.2.1 dX7_adder_130 (by decide) ?_
        refine lv_iload_n S.1 S.2.1 dX7_adder_53 rfl (lv_at hl 0 rfl) ?_
        refine lv_iload_n S.1 S.2.1 dX7_adder_54 rfl (lv_at hl 6 rfl) ?_
        refine lv_icmp_ge (tgt := 133) S.1 S.2.1 dX7_adder_55 (by decide) (fun c55_4 => ?_) (fun c55_4 => ?_)
        · exact absurd c55_4 (by decide)
        · refine lv_aload_n S.1 S.2.1 dX7_adder_58 rfl (lv_at hl 5 rfl) ?_
          refine w_get S C w (CC := RX7) (T := TX7) (N := 16) (ref := "GateSumsModel") im_X7_adder_X7 0 rfl rfl 0 (by decide) (List.mem_of_getElem? (i := 1) rfl) (fun _ h => h) rfl dX7_adder_59 ?_
          refine lv_iconst (v := 3) S.1 S.2.1 dX7_adder_62 (by decide) ?_
          refine lv_iload_n S.1 S.2.1 dX7_adder_63 rfl (lv_at hl 0 rfl) ?_
          refine lv_iload_n S.1 S.2.1 dX7_adder_64 rfl (lv_at hl 6 rfl) ?_
          refine lv_iload_n S.1 S.2.1 dX7_adder_65 rfl (lv_at hl 0 rfl) ?_
          refine lv_iadd S.1 S.2.1 dX7_adder_66 ?_
          refine w_topi (y := 5) (by decide) ?_
          refine cq_i C w [1] [0, 2] [0, 2, 1] (wr := [(mO, .inr (7, [.ref mS, .ref mD, .ref mR, .ref mT, .int mt, .int ma, .int mn, .ref mW, .ref mQ, .ref mC, .int my, .ref mU, .ref mV, .int mm, .int mf, .int mg])), (mR, .inl (G.2.1 2, 3, .inl fR))]) (w' := fun u : Unit => [(mS, .inl (G.2.1 2, 49, .inl (laysF (laysF (laysF (laysF (outsF (laysF (laysF (laysF (outsF (laysF (begF 6 0 3 3 fS) 0 3 0 3) 0 6) 1 1 0 3) 2 3 1 4) 3 3 8 7) 1 9) 4 1 1 4) 5 1 8 7) 6 2 10 11) 7 3 2 5)))]) (ws2 := fun u : Unit => [(mO, .inr (7, [.ref mS, .ref mD, .ref mR, .ref mT, .int mt, .int ma, .int mn, .ref mW, .ref mQ, .ref mC, .int my, .ref mU, .ref mV, .int mm, .int mf, .int mg])), (mS, .inl (G.2.1 2, 49, .inl (laysF (laysF (laysF (laysF (outsF (laysF (laysF (laysF (outsF (laysF (begF 6 0 3 3 fS) 0 3 0 3) 0 6) 1 1 0 3) 2 3 1 4) 3 3 8 7) 1 9) 4 1 1 4) 5 1 8 7) 6 2 10 11) 7 3 2 5))), (mR, .inl (G.2.1 2, 3, .inl fR))]) rfl rfl rfl (by decide) rfl (fun _ => rfl) (va_runS (As := [.ref mS, .int 3, .int 2, .int 5]) (rest := []) S (c_X7_lays l G mS _ (laysF (laysF (laysF (outsF (laysF (laysF (laysF (outsF (laysF (begF 6 0 3 3 fS) 0 3 0 3) 0 6) 1 1 0 3) 2 3 1 4) 3 3 8 7) 1 9) 4 1 1 4) 5 1 8 7) 6 2 10 11) 7 3 2 5 (by simp only [laysF_0, laysF_1, laysF_2, outsF_0, outsF_1, outsF_2, begF_0, begF_1, begF_2]) (by decide)) (cwS 4 S.2.2.2.2 gX7_adder_X7_lays rfl rfl rfl (by decide +kernel) ⟨Nat.le_of_ble_eq_true rfl, Nat.le_of_ble_eq_true rfl⟩) ⟨wPre_blind, wPre_at C w [1] rfl rfl⟩ rfl rfl hl.1 rfl (lv_room (Nat.le_of_ble_eq_true rfl)) dX7_adder_67 ⟨Nat.le_of_ble_eq_true rfl, Nat.le_of_ble_eq_true rfl⟩) (fun r67_2 u67_2 H locs h67_2 w => ?_)
          have w : Wd G _ s [(mO, .inr (7, [.ref mS, .ref mD, .ref mR, .ref mT, .int mt, .int ma, .int mn, .ref mW, .ref mQ, .ref mC, .int my, .ref mU, .ref mV, .int mm, .int mf, .int mg])), (mS, .inl (G.2.1 2, 49, .inl (laysF (laysF (laysF (laysF (outsF (laysF (laysF (laysF (outsF (laysF (begF 6 0 3 3 fS) 0 3 0 3) 0 6) 1 1 0 3) 2 3 1 4) 3 3 8 7) 1 9) 4 1 1 4) 5 1 8 7) 6 2 10 11) 7 3 2 5))), (mR, .inl (G.2.1 2, 3, .inl fR))] H locs := w
          refine w_topi (y := 13) (h67_2.trans (by simp only [laysF_0, laysF_1, laysF_2, outsF_0, outsF_1, outsF_2, begF_0, begF_1, begF_2]; decide)) ?_
          refine lv_istore (lv' := [(4, .int 13), (3, .int 2), (2, .int 12), (6, .int 11), (5, .int 10), (0, .ref mO), (1, .int 3)]) S.1 S.2.1 dX7_adder_70 hl (by decide) rfl (fun ls hl => ?_)
          refine lv_aload_n S.1 S.2.1 dX7_adder_72 rfl (lv_at hl 5 rfl) ?_
          refine lv_aload_n S.1 S.2.1 dX7_adder_73 rfl (lv_at hl 5 rfl) ?_
          refine w_get S C w (CC := RX7) (T := TX7) (N := 16) (ref := "GateSumsModel") im_X7_adder_X7 0 rfl rfl 0 (by decide) (List.mem_of_getElem? (i := 1) rfl) (fun _ h => h) rfl dX7_adder_74 ?_
          refine lv_iconst (v := 3) S.1 S.2.1 dX7_adder_77 (by decide) ?_
          refine lv_iload S.1 S.2.1 dX7_adder_78 (lv_at hl 0 rfl) ?_
          refine lv_iload_n S.1 S.2.1 dX7_adder_80 rfl (lv_at hl 2 rfl) ?_
          refine cq_i C w [1] [0, 2] [0, 2, 1] (wr := [(mO, .inr (7, [.ref mS, .ref mD, .ref mR, .ref mT, .int mt, .int ma, .int mn, .ref mW, .ref mQ, .ref mC, .int my, .ref mU, .ref mV, .int mm, .int mf, .int mg])), (mR, .inl (G.2.1 2, 3, .inl fR))]) (w' := fun u : Unit => [(mS, .inl (G.2.1 2, 49, .inl (laysF (laysF (laysF (laysF (laysF (outsF (laysF (laysF (laysF (outsF (laysF (begF 6 0 3 3 fS) 0 3 0 3) 0 6) 1 1 0 3) 2 3 1 4) 3 3 8 7) 1 9) 4 1 1 4) 5 1 8 7) 6 2 10 11) 7 3 2 5) 8 3 13 12)))]) (ws2 := fun u : Unit => [(mO, .inr (7, [.ref mS, .ref mD, .ref mR, .ref mT, .int mt, .int ma, .int mn, .ref mW, .ref mQ, .ref mC, .int my, .ref mU, .ref mV, .int mm, .int mf, .int mg])), (mS, .inl (G.2.1 2, 49, .inl (laysF (laysF (laysF (laysF (laysF (outsF (laysF (laysF (laysF (outsF (laysF (begF 6 0 3 3 fS) 0 3 0 3) 0 6) 1 1 0 3) 2 3 1 4) 3 3 8 7) 1 9) 4 1 1 4) 5 1 8 7) 6 2 10 11) 7 3 2 5) 8 3 13 12))), (mR, .inl (G.2.1 2, 3, .inl fR))]) rfl rfl rfl (by decide) rfl (fun _ => rfl) (va_runS (As := [.ref mS, .int 3, .int 13, .int 12]) (rest := [.ref mO]) S (c_X7_lays l G mS _ (laysF (laysF (laysF (laysF (outsF (laysF (laysF (laysF (outsF (laysF (begF 6 0 3 3 fS) 0 3 0 3) 0 6) 1 1 0 3) 2 3 1 4) 3 3 8 7) 1 9) 4 1 1 4) 5 1 8 7) 6 2 10 11) 7 3 2 5) 8 3 13 12 (by simp only [laysF_0, laysF_1, laysF_2, outsF_0, outsF_1, outsF_2, begF_0, begF_1, begF_2]) (by decide)) (cwS 4 S.2.2.2.2 gX7_adder_X7_lays rfl rfl rfl (by decide +kernel) ⟨Nat.le_of_ble_eq_true rfl, Nat.le_of_ble_eq_true rfl⟩) ⟨wPre_blind, wPre_at C w [1] rfl rfl⟩ rfl rfl hl.1 rfl (lv_room (Nat.le_of_ble_eq_true rfl)) dX7_adder_81 ⟨Nat.le_of_ble_eq_true rfl, Nat.le_of_ble_eq_true rfl⟩) (fun r81_2 u81_2 H locs h81_2 w => ?_)
          have w : Wd G _ s [(mO, .inr (7, [.ref mS, .ref mD, .ref mR, .ref mT, .int mt, .int ma, .int mn, .ref mW, .ref mQ, .ref mC, .int my, .ref mU, .ref mV, .int mm, .int mf, .int mg])), (mS, .inl (G.2.1 2, 49, .inl (laysF (laysF (laysF (laysF (laysF (outsF (laysF (laysF (laysF (outsF (laysF (begF 6 0 3 3 fS) 0 3 0 3) 0 6) 1 1 0 3) 2 3 1 4) 3 3 8 7) 1 9) 4 1 1 4) 5 1 8 7) 6 2 10 11) 7 3 2 5) 8 3 13 12))), (mR, .inl (G.2.1 2, 3, .inl fR))] H locs := w
          refine w_topi (y := 14) (h81_2.trans (by simp only [laysF_0, laysF_1, laysF_2, outsF_0, outsF_1, outsF_2, begF_0, begF_1, begF_2]; decide)) ?_
          refine cq_v C w [0, 1] [2] [1, 2, 0] (wr := [(mR, .inl (G.2.1 2, 3, .inl fR))]) (w' := fun u : Unit => [(mO, .inr (7, [.ref mS, .ref mD, .ref mR, .ref mT, .int mt, .int ma, .int mn, .ref mW, .ref mQ, .ref mC, .int my, .ref mU, .ref mV, .int mm, .int mf, .int mg])), (mS, .inl (G.2.1 2, 49, .inl (outsF (laysF (laysF (laysF (laysF (laysF (outsF (laysF (laysF (laysF (outsF (laysF (begF 6 0 3 3 fS) 0 3 0 3) 0 6) 1 1 0 3) 2 3 1 4) 3 3 8 7) 1 9) 4 1 1 4) 5 1 8 7) 6 2 10 11) 7 3 2 5) 8 3 13 12) 2 14)))]) (ws2 := fun u : Unit => [(mO, .inr (7, [.ref mS, .ref mD, .ref mR, .ref mT, .int mt, .int ma, .int mn, .ref mW, .ref mQ, .ref mC, .int my, .ref mU, .ref mV, .int mm, .int mf, .int mg])), (mS, .inl (G.2.1 2, 49, .inl (outsF (laysF (laysF (laysF (laysF (laysF (outsF (laysF (laysF (laysF (outsF (laysF (begF 6 0 3 3 fS) 0 3 0 3) 0 6) 1 1 0 3) 2 3 1 4) 3 3 8 7) 1 9) 4 1 1 4) 5 1 8 7) 6 2 10 11) 7 3 2 5) 8 3 13 12) 2 14))), (mR, .inl (G.2.1 2, 3, .inl fR))]) rfl rfl rfl (by decide) rfl (fun _ => rfl) (va_runV (As := [.int 14]) (rest := []) S (c_X7_outs l G mO mS _ mD mR mT mW mQ mC mU mV mt ma mn my mm mf mg (laysF (laysF (laysF (laysF (laysF (outsF (laysF (laysF (laysF (outsF (laysF (begF 6 0 3 3 fS) 0 3 0 3) 0 6) 1 1 0 3) 2 3 1 4) 3 3 8 7) 1 9) 4 1 1 4) 5 1 8 7) 6 2 10 11) 7 3 2 5) 8 3 13 12) 2 14 (by simp only [laysF_0, laysF_1, laysF_2, outsF_0, outsF_1, outsF_2, begF_0, begF_1, begF_2]) (by decide)) (cwV 1 S.2.2.2.2 gX7_adder_X7_outs rfl rfl rfl (by decide +kernel) ⟨Nat.le_of_ble_eq_true rfl, Nat.le_of_ble_eq_true rfl⟩) ⟨wPre_blind, va_recv C.1 w.1 (ci := 7) (q0 := 0) rfl rfl, wPre_at C w [0, 1] rfl rfl⟩ rfl rfl hl.1 rfl (lv_room (Nat.le_of_ble_eq_true rfl)) dX7_adder_84 ⟨Nat.le_of_ble_eq_true rfl, Nat.le_of_ble_eq_true rfl⟩) (fun u84_2 H locs h84_2 w => ?_)
          have w : Wd G _ s [(mO, .inr (7, [.ref mS, .ref mD, .ref mR, .ref mT, .int mt, .int ma, .int mn, .ref mW, .ref mQ, .ref mC, .int my, .ref mU, .ref mV, .int mm, .int mf, .int mg])), (mS, .inl (G.2.1 2, 49, .inl (outsF (laysF (laysF (laysF (laysF (laysF (outsF (laysF (laysF (laysF (outsF (laysF (begF 6 0 3 3 fS) 0 3 0 3) 0 6) 1 1 0 3) 2 3 1 4) 3 3 8 7) 1 9) 4 1 1 4) 5 1 8 7) 6 2 10 11) 7 3 2 5) 8 3 13 12) 2 14))), (mR, .inl (G.2.1 2, 3, .inl fR))] H locs := w
          refine lv_aload_n S.1 S.2.1 dX7_adder_87 rfl (lv_at hl 5 rfl) ?_
          refine w_get S C w (CC := RX7) (T := TX7) (N := 16) (ref := "GateSumsModel") im_X7_adder_X7 0 rfl rfl 0 (by decide) (List.mem_of_getElem? (i := 1) rfl) (fun _ h => h) rfl dX7_adder_88 ?_
          refine lv_iconst (v := 1) S.1 S.2.1 dX7_adder_91 (by decide) ?_
          refine lv_iload_n S.1 S.2.1 dX7_adder_92 rfl (lv_at hl 1 rfl) ?_
          refine lv_iload_n S.1 S.2.1 dX7_adder_93 rfl (lv_at hl 6 rfl) ?_
          refine lv_iload_n S.1 S.2.1 dX7_adder_94 rfl (lv_at hl 1 rfl) ?_
          refine lv_iadd S.1 S.2.1 dX7_adder_95 ?_
          refine w_topi (y := 5) (by decide) ?_
          refine cq_i C w [1] [0, 2] [0, 2, 1] (wr := [(mO, .inr (7, [.ref mS, .ref mD, .ref mR, .ref mT, .int mt, .int ma, .int mn, .ref mW, .ref mQ, .ref mC, .int my, .ref mU, .ref mV, .int mm, .int mf, .int mg])), (mR, .inl (G.2.1 2, 3, .inl fR))]) (w' := fun u : Unit => [(mS, .inl (G.2.1 2, 49, .inl (laysF (outsF (laysF (laysF (laysF (laysF (laysF (outsF (laysF (laysF (laysF (outsF (laysF (begF 6 0 3 3 fS) 0 3 0 3) 0 6) 1 1 0 3) 2 3 1 4) 3 3 8 7) 1 9) 4 1 1 4) 5 1 8 7) 6 2 10 11) 7 3 2 5) 8 3 13 12) 2 14) 9 1 2 5)))]) (ws2 := fun u : Unit => [(mO, .inr (7, [.ref mS, .ref mD, .ref mR, .ref mT, .int mt, .int ma, .int mn, .ref mW, .ref mQ, .ref mC, .int my, .ref mU, .ref mV, .int mm, .int mf, .int mg])), (mS, .inl (G.2.1 2, 49, .inl (laysF (outsF (laysF (laysF (laysF (laysF (laysF (outsF (laysF (laysF (laysF (outsF (laysF (begF 6 0 3 3 fS) 0 3 0 3) 0 6) 1 1 0 3) 2 3 1 4) 3 3 8 7) 1 9) 4 1 1 4) 5 1 8 7) 6 2 10 11) 7 3 2 5) 8 3 13 12) 2 14) 9 1 2 5))), (mR, .inl (G.2.1 2, 3, .inl fR))]) rfl rfl rfl (by decide) rfl (fun _ => rfl) (va_runS (As := [.ref mS, .int 1, .int 2, .int 5]) (rest := []) S (c_X7_lays l G mS _ (outsF (laysF (laysF (laysF (laysF (laysF (outsF (laysF (laysF (laysF (outsF (laysF (begF 6 0 3 3 fS) 0 3 0 3) 0 6) 1 1 0 3) 2 3 1 4) 3 3 8 7) 1 9) 4 1 1 4) 5 1 8 7) 6 2 10 11) 7 3 2 5) 8 3 13 12) 2 14) 9 1 2 5 (by simp only [laysF_0, laysF_1, laysF_2, outsF_0, outsF_1, outsF_2, begF_0, begF_1, begF_2]) (by decide)) (cwS 4 S.2.2.2.2 gX7_adder_X7_lays rfl rfl rfl (by decide +kernel) ⟨Nat.le_of_ble_eq_true rfl, Nat.le_of_ble_eq_true rfl⟩) ⟨wPre_blind, wPre_at C w [1] rfl rfl⟩ rfl rfl hl.1 rfl (lv_room (Nat.le_of_ble_eq_true rfl)) dX7_adder_96 ⟨Nat.le_of_ble_eq_true rfl, Nat.le_of_ble_eq_true rfl⟩) (fun r96_2 u96_2 H locs h96_2 w => ?_)
          have w : Wd G _ s [(mO, .inr (7, [.ref mS, .ref mD, .ref mR, .ref mT, .int mt, .int ma, .int mn, .ref mW, .ref mQ, .ref mC, .int my, .ref mU, .ref mV, .int mm, .int mf, .int mg])), (mS, .inl (G.2.1 2, 49, .inl (laysF (outsF (laysF (laysF (laysF (laysF (laysF (outsF (laysF (laysF (laysF (outsF (laysF (begF 6 0 3 3 fS) 0 3 0 3) 0 6) 1 1 0 3) 2 3 1 4) 3 3 8 7) 1 9) 4 1 1 4) 5 1 8 7) 6 2 10 11) 7 3 2 5) 8 3 13 12) 2 14) 9 1 2 5))), (mR, .inl (G.2.1 2, 3, .inl fR))] H locs := w
          refine w_topi (y := 15) (h96_2.trans (by simp only [laysF_0, laysF_1, laysF_2, outsF_0, outsF_1, outsF_2, begF_0, begF_1, begF_2]; decide)) ?_
          refine lv_istore (lv' := [(5, .int 15), (4, .int 13), (3, .int 2), (2, .int 12), (6, .int 11), (0, .ref mO), (1, .int 3)]) S.1 S.2.1 dX7_adder_99 hl (by decide) rfl (fun ls hl => ?_)
          refine lv_aload_n S.1 S.2.1 dX7_adder_101 rfl (lv_at hl 5 rfl) ?_
          refine w_get S C w (CC := RX7) (T := TX7) (N := 16) (ref := "GateSumsModel") im_X7_adder_X7 0 rfl rfl 0 (by decide) (List.mem_of_getElem? (i := 1) rfl) (fun _ h => h) rfl dX7_adder_102 ?_
          refine lv_iconst (v := 1) S.1 S.2.1 dX7_adder_105 (by decide) ?_
          refine lv_iload S.1 S.2.1 dX7_adder_106 (lv_at hl 1 rfl) ?_
          refine lv_iload_n S.1 S.2.1 dX7_adder_108 rfl (lv_at hl 3 rfl) ?_
          refine cq_i C w [1] [0, 2] [0, 2, 1] (wr := [(mO, .inr (7, [.ref mS, .ref mD, .ref mR, .ref mT, .int mt, .int ma, .int mn, .ref mW, .ref mQ, .ref mC, .int my, .ref mU, .ref mV, .int mm, .int mf, .int mg])), (mR, .inl (G.2.1 2, 3, .inl fR))]) (w' := fun u : Unit => [(mS, .inl (G.2.1 2, 49, .inl (laysF (laysF (outsF (laysF (laysF (laysF (laysF (laysF (outsF (laysF (laysF (laysF (outsF (laysF (begF 6 0 3 3 fS) 0 3 0 3) 0 6) 1 1 0 3) 2 3 1 4) 3 3 8 7) 1 9) 4 1 1 4) 5 1 8 7) 6 2 10 11) 7 3 2 5) 8 3 13 12) 2 14) 9 1 2 5) 10 1 13 12)))]) (ws2 := fun u : Unit => [(mO, .inr (7, [.ref mS, .ref mD, .ref mR, .ref mT, .int mt, .int ma, .int mn, .ref mW, .ref mQ, .ref mC, .int my, .ref mU, .ref mV, .int mm, .int mf, .int mg])), (mS, .inl (G.2.1 2, 49, .inl (laysF (laysF (outsF (laysF (laysF (laysF (laysF (laysF (outsF (laysF (laysF (laysF (outsF (laysF (begF 6 0 3 3 fS) 0 3 0 3) 0 6) 1 1 0 3) 2 3 1 4) 3 3 8 7) 1 9) 4 1 1 4) 5 1 8 7) 6 2 10 11) 7 3 2 5) 8 3 13 12) 2 14) 9 1 2 5) 10 1 13 12))), (mR, .inl (G.2.1 2, 3, .inl fR))]) rfl rfl rfl (by decide) rfl (fun _ => rfl) (va_runS (As := [.ref mS, .int 1, .int 13, .int 12]) (rest := []) S (c_X7_lays l G mS _ (laysF (outsF (laysF (laysF (laysF (laysF (laysF (outsF (laysF (laysF (laysF (outsF (laysF (begF 6 0 3 3 fS) 0 3 0 3) 0 6) 1 1 0 3) 2 3 1 4) 3 3 8 7) 1 9) 4 1 1 4) 5 1 8 7) 6 2 10 11) 7 3 2 5) 8 3 13 12) 2 14) 9 1 2 5) 10 1 13 12 (by simp only [laysF_0, laysF_1, laysF_2, outsF_0, outsF_1, outsF_2, begF_0, begF_1, begF_2]) (by decide)) (cwS 4 S.2.2.2.2 gX7_adder_X7_lays rfl rfl rfl (by decide +kernel) ⟨Nat.le_of_ble_eq_true rfl, Nat.le_of_ble_eq_true rfl⟩) ⟨wPre_blind, wPre_at C w [1] rfl rfl⟩ rfl rfl hl.1 rfl (lv_room (Nat.le_of_ble_eq_true rfl)) dX7_adder_109 ⟨Nat.le_of_ble_eq_true rfl, Nat.le_of_ble_eq_true rfl⟩) (fun r109_2 u109_2 H locs h109_2 w => ?_)
          have w : Wd G _ s [(mO, .inr (7, [.ref mS, .ref mD, .ref mR, .ref mT, .int mt, .int ma, .int mn, .ref mW, .ref mQ, .ref mC, .int my, .ref mU, .ref mV, .int mm, .int mf, .int mg])), (mS, .inl (G.2.1 2, 49, .inl (laysF (laysF (outsF (laysF (laysF (laysF (laysF (laysF (outsF (laysF (laysF (laysF (outsF (laysF (begF 6 0 3 3 fS) 0 3 0 3) 0 6) 1 1 0 3) 2 3 1 4) 3 3 8 7) 1 9) 4 1 1 4) 5 1 8 7) 6 2 10 11) 7 3 2 5) 8 3 13 12) 2 14) 9 1 2 5) 10 1 13 12))), (mR, .inl (G.2.1 2, 3, .inl fR))] H locs := w
          refine w_topi (y := 16) (h109_2.trans (by simp only [laysF_0, laysF_1, laysF_2, outsF_0, outsF_1, outsF_2, begF_0, begF_1, begF_2]; decide)) ?_
          refine lv_istore (lv' := [(6, .int 16), (5, .int 15), (4, .int 13), (3, .int 2), (2, .int 12), (0, .ref mO), (1, .int 3)]) S.1 S.2.1 dX7_adder_112 hl (by decide) rfl (fun ls hl => ?_)
          refine lv_aload_n S.1 S.2.1 dX7_adder_114 rfl (lv_at hl 5 rfl) ?_
          refine w_get S C w (CC := RX7) (T := TX7) (N := 16) (ref := "GateSumsModel") im_X7_adder_X7 0 rfl rfl 0 (by decide) (List.mem_of_getElem? (i := 1) rfl) (fun _ h => h) rfl dX7_adder_115 ?_
          refine lv_iconst (v := 2) S.1 S.2.1 dX7_adder_118 (by decide) ?_
          refine lv_iload S.1 S.2.1 dX7_adder_119 (lv_at hl 1 rfl) ?_
          refine lv_iload S.1 S.2.1 dX7_adder_121 (lv_at hl 0 rfl) ?_
          refine cq_i C w [1] [0, 2] [0, 2, 1] (wr := [(mO, .inr (7, [.ref mS, .ref mD, .ref mR, .ref mT, .int mt, .int ma, .int mn, .ref mW, .ref mQ, .ref mC, .int my, .ref mU, .ref mV, .int mm, .int mf, .int mg])), (mR, .inl (G.2.1 2, 3, .inl fR))]) (w' := fun u : Unit => [(mS, .inl (G.2.1 2, 49, .inl (laysF (laysF (laysF (outsF (laysF (laysF (laysF (laysF (laysF (outsF (laysF (laysF (laysF (outsF (laysF (begF 6 0 3 3 fS) 0 3 0 3) 0 6) 1 1 0 3) 2 3 1 4) 3 3 8 7) 1 9) 4 1 1 4) 5 1 8 7) 6 2 10 11) 7 3 2 5) 8 3 13 12) 2 14) 9 1 2 5) 10 1 13 12) 11 2 15 16)))]) (ws2 := fun u : Unit => [(mO, .inr (7, [.ref mS, .ref mD, .ref mR, .ref mT, .int mt, .int ma, .int mn, .ref mW, .ref mQ, .ref mC, .int my, .ref mU, .ref mV, .int mm, .int mf, .int mg])), (mS, .inl (G.2.1 2, 49, .inl (laysF (laysF (laysF (outsF (laysF (laysF (laysF (laysF (laysF (outsF (laysF (laysF (laysF (outsF (laysF (begF 6 0 3 3 fS) 0 3 0 3) 0 6) 1 1 0 3) 2 3 1 4) 3 3 8 7) 1 9) 4 1 1 4) 5 1 8 7) 6 2 10 11) 7 3 2 5) 8 3 13 12) 2 14) 9 1 2 5) 10 1 13 12) 11 2 15 16))), (mR, .inl (G.2.1 2, 3, .inl fR))]) rfl rfl rfl (by decide) rfl (fun _ => rfl) (va_runS (As := [.ref mS, .int 2, .int 15, .int 16]) (rest := []) S (c_X7_lays l G mS _ (laysF (laysF (outsF (laysF (laysF (laysF (laysF (laysF (outsF (laysF (laysF (laysF (outsF (laysF (begF 6 0 3 3 fS) 0 3 0 3) 0 6) 1 1 0 3) 2 3 1 4) 3 3 8 7) 1 9) 4 1 1 4) 5 1 8 7) 6 2 10 11) 7 3 2 5) 8 3 13 12) 2 14) 9 1 2 5) 10 1 13 12) 11 2 15 16 (by simp only [laysF_0, laysF_1, laysF_2, outsF_0, outsF_1, outsF_2, begF_0, begF_1, begF_2]) (by decide)) (cwS 4 S.2.2.2.2 gX7_adder_X7_lays rfl rfl rfl (by decide +kernel) ⟨Nat.le_of_ble_eq_true rfl, Nat.le_of_ble_eq_true rfl⟩) ⟨wPre_blind, wPre_at C w [1] rfl rfl⟩ rfl rfl hl.1 rfl (lv_room (Nat.le_of_ble_eq_true rfl)) dX7_adder_123 ⟨Nat.le_of_ble_eq_true rfl, Nat.le_of_ble_eq_true rfl⟩) (fun r123_2 u123_2 H locs h123_2 w => ?_)
          have w : Wd G _ s [(mO, .inr (7, [.ref mS, .ref mD, .ref mR, .ref mT, .int mt, .int ma, .int mn, .ref mW, .ref mQ, .ref mC, .int my, .ref mU, .ref mV, .int mm, .int mf, .int mg])), (mS, .inl (G.2.1 2, 49, .inl (laysF (laysF (laysF (outsF (laysF (laysF (laysF (laysF (laysF (outsF (laysF (laysF (laysF (outsF (laysF (begF 6 0 3 3 fS) 0 3 0 3) 0 6) 1 1 0 3) 2 3 1 4) 3 3 8 7) 1 9) 4 1 1 4) 5 1 8 7) 6 2 10 11) 7 3 2 5) 8 3 13 12) 2 14) 9 1 2 5) 10 1 13 12) 11 2 15 16))), (mR, .inl (G.2.1 2, 3, .inl fR))] H locs := w
          refine w_topi (y := 17) (h123_2.trans (by simp only [laysF_0, laysF_1, laysF_2, outsF_0, outsF_1, outsF_2, begF_0, begF_1, begF_2]; decide)) ?_
          refine lv_istore_n (lv' := [(2, .int 17), (6, .int 16), (5, .int 15), (4, .int 13), (3, .int 2), (0, .ref mO), (1, .int 3)]) S.1 S.2.1 dX7_adder_126 rfl hl (by decide) rfl (fun ls hl => ?_)
          refine lv_iinc (v := 3) (lv' := [(3, .int 3), (2, .int 17), (6, .int 16), (5, .int 15), (4, .int 13), (0, .ref mO), (1, .int 3)]) S.1 S.2.1 dX7_adder_127 hl (k := 4) rfl (by decide) (by decide) rfl (fun ls hl => ?_)
          refine lv_goto (tgt := 53) S.1 S.2.1 dX7_adder_130 (by decide) ?_
          refine lv_iload_n S.1 S.2.1 dX7_adder_53 rfl (lv_at hl 0 rfl) ?_
          refine lv_iload_n S.1 S.2.1 dX7_adder_54 rfl (lv_at hl 6 rfl) ?_
          refine lv_icmp_ge (tgt := 133) S.1 S.2.1 dX7_adder_55 (by decide) (fun c55_5 => ?_) (fun c55_5 => ?_)
          · refine lv_aload_n S.1 S.2.1 dX7_adder_133 rfl (lv_at hl 5 rfl) ?_
            refine lv_iload_n S.1 S.2.1 dX7_adder_134 rfl (lv_at hl 1 rfl) ?_
            refine cq_v C w [0, 1] [2] [1, 2, 0] (wr := [(mR, .inl (G.2.1 2, 3, .inl fR))]) (w' := fun u : Unit => [(mO, .inr (7, [.ref mS, .ref mD, .ref mR, .ref mT, .int mt, .int ma, .int mn, .ref mW, .ref mQ, .ref mC, .int my, .ref mU, .ref mV, .int mm, .int mf, .int mg])), (mS, .inl (G.2.1 2, 49, .inl (outsF (laysF (laysF (laysF (outsF (laysF (laysF (laysF (laysF (laysF (outsF (laysF (laysF (laysF (outsF (laysF (begF 6 0 3 3 fS) 0 3 0 3) 0 6) 1 1 0 3) 2 3 1 4) 3 3 8 7) 1 9) 4 1 1 4) 5 1 8 7) 6 2 10 11) 7 3 2 5) 8 3 13 12) 2 14) 9 1 2 5) 10 1 13 12) 11 2 15 16) 3 17)))]) (ws2 := fun u : Unit => [(mO, .inr (7, [.ref mS, .ref mD, .ref mR, .ref mT, .int mt, .int ma, .int mn, .ref mW, .ref mQ, .ref mC, .int my, .ref mU, .ref mV, .int mm, .int mf, .int mg])), (mS, .inl (G.2.1 2, 49, .inl (outsF (laysF (laysF (laysF (outsF (laysF (laysF (laysF (laysF (laysF (outsF (laysF (laysF (laysF (outsF (laysF (begF 6 0 3 3 fS) 0 3 0 3) 0 6) 1 1 0 3) 2 3 1 4) 3 3 8 7) 1 9) 4 1 1 4) 5 1 8 7) 6 2 10 11) 7 3 2 5) 8 3 13 12) 2 14) 9 1 2 5) 10 1 13 12) 11 2 15 16) 3 17))), (mR, .inl (G.2.1 2, 3, .inl fR))]) rfl rfl rfl (by decide) rfl (fun _ => rfl) (va_runV (As := [.int 17]) (rest := []) S (c_X7_outs l G mO mS _ mD mR mT mW mQ mC mU mV mt ma mn my mm mf mg (laysF (laysF (laysF (outsF (laysF (laysF (laysF (laysF (laysF (outsF (laysF (laysF (laysF (outsF (laysF (begF 6 0 3 3 fS) 0 3 0 3) 0 6) 1 1 0 3) 2 3 1 4) 3 3 8 7) 1 9) 4 1 1 4) 5 1 8 7) 6 2 10 11) 7 3 2 5) 8 3 13 12) 2 14) 9 1 2 5) 10 1 13 12) 11 2 15 16) 3 17 (by simp only [laysF_0, laysF_1, laysF_2, outsF_0, outsF_1, outsF_2, begF_0, begF_1, begF_2]) (by decide)) (cwV 1 S.2.2.2.2 gX7_adder_X7_outs rfl rfl rfl (by decide +kernel) ⟨Nat.le_of_ble_eq_true rfl, Nat.le_of_ble_eq_true rfl⟩) ⟨wPre_blind, va_recv C.1 w.1 (ci := 7) (q0 := 0) rfl rfl, wPre_at C w [0, 1] rfl rfl⟩ rfl rfl hl.1 rfl (lv_room (Nat.le_of_ble_eq_true rfl)) dX7_adder_135 ⟨Nat.le_of_ble_eq_true rfl, Nat.le_of_ble_eq_true rfl⟩) (fun u135_2 H locs h135_2 w => ?_)
            have w : Wd G _ s [(mO, .inr (7, [.ref mS, .ref mD, .ref mR, .ref mT, .int mt, .int ma, .int mn, .ref mW, .ref mQ, .ref mC, .int my, .ref mU, .ref mV, .int mm, .int mf, .int mg])), (mS, .inl (G.2.1 2, 49, .inl (outsF (laysF (laysF (laysF (outsF (laysF (laysF (laysF (laysF (laysF (outsF (laysF (laysF (laysF (outsF (laysF (begF 6 0 3 3 fS) 0 3 0 3) 0 6) 1 1 0 3) 2 3 1 4) 3 3 8 7) 1 9) 4 1 1 4) 5 1 8 7) 6 2 10 11) 7 3 2 5) 8 3 13 12) 2 14) 9 1 2 5) 10 1 13 12) 11 2 15 16) 3 17))), (mR, .inl (G.2.1 2, 3, .inl fR))] H locs := w
            refine lv_aload_n S.1 S.2.1 dX7_adder_138 rfl (lv_at hl 5 rfl) ?_
            refine w_get S C w (CC := RX7) (T := TX7) (N := 16) (ref := "GateSumsModel") im_X7_adder_X7 0 rfl rfl 0 (by decide) (List.mem_of_getElem? (i := 1) rfl) (fun _ h => h) rfl dX7_adder_139 ?_
            refine lv_iconst (v := 1) S.1 S.2.1 dX7_adder_142 (by decide) ?_
            refine w_iald S C w 1 rfl (by unfold vp_in; decide) dX7_adder_143 ?_
            refine w_topi (y := 12) ((show (outsF (laysF (laysF (laysF (outsF (laysF (laysF (laysF (laysF (laysF (outsF (laysF (laysF (laysF (outsF (laysF (begF 6 0 3 3 fS) 0 3 0 3) 0 6) 1 1 0 3) 2 3 1 4) 3 3 8 7) 1 9) 4 1 1 4) 5 1 8 7) 6 2 10 11) 7 3 2 5) 8 3 13 12) 2 14) 9 1 2 5) 10 1 13 12) 11 2 15 16) 3 17) 1 = 12 by simp only [laysF_0, laysF_1, laysF_2, outsF_0, outsF_1, outsF_2, begF_0, begF_1, begF_2]; decide)) ?_
            exact W.iret (v := 12) S.1 S.2.1 hr (fun t ht _ => ⟨⟨12, ((outsF (laysF (laysF (laysF (outsF (laysF (laysF (laysF (laysF (laysF (outsF (laysF (laysF (laysF (outsF (laysF (begF 6 0 3 3 fS) 0 3 0 3) 0 6) 1 1 0 3) 2 3 1 4) 3 3 8 7) 1 9) 4 1 1 4) 5 1 8 7) 6 2 10 11) 7 3 2 5) 8 3 13 12) 2 14) 9 1 2 5) 10 1 13 12) 11 2 15 16) 3 17), fR), rfl, by show _ = adderRm _; decide, by rw [ht]; exact w.1, w.2.1⟩, w.2.2.F ht⟩) w.2.2.2.2 dX7_adder_144
          · exact absurd c55_5 (by decide)
  · refine lv_aload_n S.1 S.2.1 dX7_adder_9 rfl (lv_at hl 0 rfl) ?_
    refine lv_bipush (v := (-2)) S.1 S.2.1 dX7_adder_10 (by decide) ?_
    refine cq_i C w [0, 2] [1] [1, 0, 2] (wr := [(mS, .inl (G.2.1 2, 49, .inl fS))]) (w' := fun u : Unit => [(mO, .inr (7, [.ref mS, .ref mD, .ref mR, .ref mT, .int mt, .int ma, .int mn, .ref mW, .ref mQ, .ref mC, .int my, .ref mU, .ref mV, .int mm, .int mf, .int mg])), (mR, .inl (G.2.1 2, 3, .inl (upd fR 0 (fR 0 + 1))))]) (ws2 := fun u : Unit => [(mO, .inr (7, [.ref mS, .ref mD, .ref mR, .ref mT, .int mt, .int ma, .int mn, .ref mW, .ref mQ, .ref mC, .int my, .ref mU, .ref mV, .int mm, .int mf, .int mg])), (mS, .inl (G.2.1 2, 49, .inl fS)), (mR, .inl (G.2.1 2, 3, .inl (upd fR 0 (fR 0 + 1))))]) rfl rfl rfl (by decide) rfl (fun _ => rfl) (va_runV (As := [.int (-2)]) (rest := []) S (c_X7_refuses_B l G mO mR _ mS mD mT mW mQ mC mU mV mt ma mn my mm mf mg fR) (cwV 1 S.2.2.2.2 gX7_adder_X7_refuses rfl rfl rfl (by decide +kernel) ⟨Nat.le_of_ble_eq_true rfl, Nat.le_of_ble_eq_true rfl⟩) ⟨wPre_blind, va_recv C.1 w.1 (ci := 7) (q0 := 0) rfl rfl, wPre_at C w [0, 2] rfl rfl⟩ rfl rfl hl.1 rfl (lv_room (Nat.le_of_ble_eq_true rfl)) dX7_adder_12 ⟨Nat.le_of_ble_eq_true rfl, Nat.le_of_ble_eq_true rfl⟩) (fun r12 u12 H locs h12 w => ?_)
    have w : Wd G _ s [(mO, .inr (7, [.ref mS, .ref mD, .ref mR, .ref mT, .int mt, .int ma, .int mn, .ref mW, .ref mQ, .ref mC, .int my, .ref mU, .ref mV, .int mm, .int mf, .int mg])), (mS, .inl (G.2.1 2, 49, .inl fS)), (mR, .inl (G.2.1 2, 3, .inl (upd fR 0 (fR 0 + 1))))] H locs := w
    exact W.iret (v := r12) S.1 S.2.1 hr (fun t ht _ => ⟨⟨r12, (fS, (upd fR 0 (fR 0 + 1))), rfl, by rw [h12]; simp only [adderRm, if_pos c6], by rw [ht]; exact w.1, w.2.1⟩, w.2.2.F ht⟩) w.2.2.2.2 dX7_adder_15
theorem im_X7_draw_X7 : ∀ w ∈ u_ws RX7 TX7 16, w ∈ wsX7_draw := by decide +kernel
set_option maxHeartbeats 4000000 in
set_option maxRecDepth 100000 in
theorem c_X7_draw (l : Launch) (G : GT) (mO mS mR : Nat) (sz : Nat) (mD mT mW mQ mC mU mV : Nat) (mt ma mn my mm mf mg : Int32) (fS fR : Nat → Int32) (i0 j0 k0 : Int32) : Met l yX7_draw wsX7_draw ({ frames := 1, cells := 0, slots := 0, locals := 25 }) (va_Pc [.ref mO, .int i0, .int j0, .int k0] (wPre G [(mO, .inr (7, [.ref mS, .ref mD, .ref mR, .ref mT, .int mt, .int ma, .int mn, .ref mW, .ref mQ, .ref mC, .int my, .ref mU, .ref mV, .int mm, .int mf, .int mg])), (mS, .inl (G.2.1 2, 49, .inl fS)), (mR, .inl (G.2.1 2, 3, .inl fR))] sz)) (va_Qi (fun (r : Int32) (u : (Nat → Int32) × (Nat → Int32)) => r = drawRm i0 j0 k0) (bW G (va_A [(mO, .inr (7, [.ref mS, .ref mD, .ref mR, .ref mT, .int mt, .int ma, .int mn, .ref mW, .ref mQ, .ref mC, .int my, .ref mU, .ref mV, .int mm, .int mf, .int mg])), (mS, .inl (G.2.1 2, 49, .inl fS)), (mR, .inl (G.2.1 2, 3, .inl fR))] sz) (fun u : (Nat → Int32) × (Nat → Int32) => [(mO, .inr (7, [.ref mS, .ref mD, .ref mR, .ref mT, .int mt, .int ma, .int mn, .ref mW, .ref mQ, .ref mC, .int my, .ref mU, .ref mV, .int mm, .int mf, .int mg])), (mS, .inl (G.2.1 2, 49, .inl u.1)), (mR, .inl (G.2.1 2, 3, .inl u.2))])) (va_A [(mO, .inr (7, [.ref mS, .ref mD, .ref mR, .ref mT, .int mt, .int ma, .int mn, .ref mW, .ref mQ, .ref mC, .int my, .ref mU, .ref mV, .int mm, .int mf, .int mg])), (mS, .inl (G.2.1 2, 49, .inl fS)), (mR, .inl (G.2.1 2, 3, .inl fR))] sz)) 0 0 (va_A [(mO, .inr (7, [.ref mS, .ref mD, .ref mR, .ref mT, .int mt, .int ma, .int mn, .ref mW, .ref mQ, .ref mC, .int my, .ref mU, .ref mV, .int mm, .int mf, .int mg])), (mS, .inl (G.2.1 2, 49, .inl fS)), (mR, .inl (G.2.1 2, 3, .inl fR))] sz) := by
  refine met_go (cc := cX7_draw) (maxL := 8) (ret := (some .int)) (own := RX7) (by decide) rfl rfl (Nat.le_of_ble_eq_true rfl) ?_
  intro p e s m below meth c ls S hr hlocks hname hsz C w hl
  have hl : lv_has ls 8 [(0, .ref mO), (1, .int i0), (2, .int j0), (3, .int k0)] := hl
  refine lv_iload_n S.1 S.2.1 dX7_draw_0 rfl (lv_at hl 1 rfl) ?_
  refine lv_iconst (v := 0) S.1 S.2.1 dX7_draw_1 (by decide) ?_
  refine lv_ldc (own := RX7) (v := 999999) S.1 S.2.1 S.2.2.2.1 (S.2.2.2.2 _ (List.mem_of_getElem? (i := 1) rfl)) dX7_draw_2 ?_
  refine cs_i (va_runS (As := [.int i0, .int 0, .int 999999]) (rest := []) S (c_X7_in l G _ i0 0 999999) (cwS 3 S.2.2.2.2 gX7_draw_X7_in rfl rfl rfl (by decide +kernel) ⟨Nat.le_of_ble_eq_true rfl, Nat.le_of_ble_eq_true rfl⟩) ⟨wPre_blind, wPre_at C w [] rfl rfl⟩ rfl rfl hl.1 rfl (lv_room (Nat.le_of_ble_eq_true rfl)) dX7_draw_4 ⟨Nat.le_of_ble_eq_true rfl, Nat.le_of_ble_eq_true rfl⟩) (fun r4 h4 => ?_)
  refine w_topi (y := (inF i0 0 999999)) h4 ?_
  refine lv_if_eq (tgt := 30) S.1 S.2.1 dX7_draw_7 (by decide) (fun c7 => ?_) (fun c7 => ?_)
  · refine lv_aload_n S.1 S.2.1 dX7_draw_30 rfl (lv_at hl 0 rfl) ?_
    refine lv_bipush (v := (-2)) S.1 S.2.1 dX7_draw_31 (by decide) ?_
    refine cq_i C w [0, 2] [1] [1, 0, 2] (wr := [(mS, .inl (G.2.1 2, 49, .inl fS))]) (w' := fun u : Unit => [(mO, .inr (7, [.ref mS, .ref mD, .ref mR, .ref mT, .int mt, .int ma, .int mn, .ref mW, .ref mQ, .ref mC, .int my, .ref mU, .ref mV, .int mm, .int mf, .int mg])), (mR, .inl (G.2.1 2, 3, .inl (upd fR 0 (fR 0 + 1))))]) (ws2 := fun u : Unit => [(mO, .inr (7, [.ref mS, .ref mD, .ref mR, .ref mT, .int mt, .int ma, .int mn, .ref mW, .ref mQ, .ref mC, .int my, .ref mU, .ref mV, .int mm, .int mf, .int mg])), (mS, .inl (G.2.1 2, 49, .inl fS)), (mR, .inl (G.2.1 2, 3, .inl (upd fR 0 (fR 0 + 1))))]) rfl rfl rfl (by decide) rfl (fun _ => rfl) (va_runV (As := [.int (-2)]) (rest := []) S (c_X7_refuses_B l G mO mR _ mS mD mT mW mQ mC mU mV mt ma mn my mm mf mg fR) (cwV 1 S.2.2.2.2 gX7_draw_X7_refuses rfl rfl rfl (by decide +kernel) ⟨Nat.le_of_ble_eq_true rfl, Nat.le_of_ble_eq_true rfl⟩) ⟨wPre_blind, va_recv C.1 w.1 (ci := 7) (q0 := 0) rfl rfl, wPre_at C w [0, 2] rfl rfl⟩ rfl rfl hl.1 rfl (lv_room (Nat.le_of_ble_eq_true rfl)) dX7_draw_33 ⟨Nat.le_of_ble_eq_true rfl, Nat.le_of_ble_eq_true rfl⟩) (fun r33 u33 H locs h33 w => ?_)
    have w : Wd G _ s [(mO, .inr (7, [.ref mS, .ref mD, .ref mR, .ref mT, .int mt, .int ma, .int mn, .ref mW, .ref mQ, .ref mC, .int my, .ref mU, .ref mV, .int mm, .int mf, .int mg])), (mS, .inl (G.2.1 2, 49, .inl fS)), (mR, .inl (G.2.1 2, 3, .inl (upd fR 0 (fR 0 + 1))))] H locs := w
    exact W.iret (v := r33) S.1 S.2.1 hr (fun t ht _ => ⟨⟨r33, (fS, (upd fR 0 (fR 0 + 1))), rfl, by rw [h33]; simp only [drawRm, if_pos c7], by rw [ht]; exact w.1, w.2.1⟩, w.2.2.F ht⟩) w.2.2.2.2 dX7_draw_36
  · refine lv_iload_n S.1 S.2.1 dX7_draw_10 rfl (lv_at hl 2 rfl) ?_
    refine lv_iconst (v := 1) S.1 S.2.1 dX7_draw_11 (by decide) ?_
    refine lv_bipush (v := 6) S.1 S.2.1 dX7_draw_12 (by decide) ?_
    refine cs_i (va_runS (As := [.int j0, .int 1, .int 6]) (rest := []) S (c_X7_in l G _ j0 1 6) (cwS 3 S.2.2.2.2 gX7_draw_X7_in rfl rfl rfl (by decide +kernel) ⟨Nat.le_of_ble_eq_true rfl, Nat.le_of_ble_eq_true rfl⟩) ⟨wPre_blind, wPre_at C w [] rfl rfl⟩ rfl rfl hl.1 rfl (lv_room (Nat.le_of_ble_eq_true rfl)) dX7_draw_14 ⟨Nat.le_of_ble_eq_true rfl, Nat.le_of_ble_eq_true rfl⟩) (fun r14 h14 => ?_)
    refine w_topi (y := (inF j0 1 6)) h14 ?_
    refine lv_if_eq (tgt := 30) S.1 S.2.1 dX7_draw_17 (by decide) (fun c17 => ?_) (fun c17 => ?_)
    · refine lv_aload_n S.1 S.2.1 dX7_draw_30 rfl (lv_at hl 0 rfl) ?_
      refine lv_bipush (v := (-2)) S.1 S.2.1 dX7_draw_31 (by decide) ?_
      refine cq_i C w [0, 2] [1] [1, 0, 2] (wr := [(mS, .inl (G.2.1 2, 49, .inl fS))]) (w' := fun u : Unit => [(mO, .inr (7, [.ref mS, .ref mD, .ref mR, .ref mT, .int mt, .int ma, .int mn, .ref mW, .ref mQ, .ref mC, .int my, .ref mU, .ref mV, .int mm, .int mf, .int mg])), (mR, .inl (G.2.1 2, 3, .inl (upd fR 0 (fR 0 + 1))))]) (ws2 := fun u : Unit => [(mO, .inr (7, [.ref mS, .ref mD, .ref mR, .ref mT, .int mt, .int ma, .int mn, .ref mW, .ref mQ, .ref mC, .int my, .ref mU, .ref mV, .int mm, .int mf, .int mg])), (mS, .inl (G.2.1 2, 49, .inl fS)), (mR, .inl (G.2.1 2, 3, .inl (upd fR 0 (fR 0 + 1))))]) rfl rfl rfl (by decide) rfl (fun _ => rfl) (va_runV (As := [.int (-2)]) (rest := []) S (c_X7_refuses_B l G mO mR _ mS mD mT mW mQ mC mU mV mt ma mn my mm mf mg fR) (cwV 1 S.2.2.2.2 gX7_draw_X7_refuses rfl rfl rfl (by decide +kernel) ⟨Nat.le_of_ble_eq_true rfl, Nat.le_of_ble_eq_true rfl⟩) ⟨wPre_blind, va_recv C.1 w.1 (ci := 7) (q0 := 0) rfl rfl, wPre_at C w [0, 2] rfl rfl⟩ rfl rfl hl.1 rfl (lv_room (Nat.le_of_ble_eq_true rfl)) dX7_draw_33 ⟨Nat.le_of_ble_eq_true rfl, Nat.le_of_ble_eq_true rfl⟩) (fun r33_1 u33_1 H locs h33_1 w => ?_)
      have w : Wd G _ s [(mO, .inr (7, [.ref mS, .ref mD, .ref mR, .ref mT, .int mt, .int ma, .int mn, .ref mW, .ref mQ, .ref mC, .int my, .ref mU, .ref mV, .int mm, .int mf, .int mg])), (mS, .inl (G.2.1 2, 49, .inl fS)), (mR, .inl (G.2.1 2, 3, .inl (upd fR 0 (fR 0 + 1))))] H locs := w
      exact W.iret (v := r33_1) S.1 S.2.1 hr (fun t ht _ => ⟨⟨r33_1, (fS, (upd fR 0 (fR 0 + 1))), rfl, by rw [h33_1]; simp only [drawRm, if_neg c7, if_pos c17], by rw [ht]; exact w.1, w.2.1⟩, w.2.2.F ht⟩) w.2.2.2.2 dX7_draw_36
    · refine lv_iload_n S.1 S.2.1 dX7_draw_20 rfl (lv_at hl 3 rfl) ?_
      refine lv_iconst (v := 1) S.1 S.2.1 dX7_draw_21 (by decide) ?_
      refine lv_bipush (v := 12) S.1 S.2.1 dX7_draw_22 (by decide) ?_
      refine cs_i (va_runS (As := [.int k0, .int 1, .int 12]) (rest := []) S (c_X7_in l G _ k0 1 12) (cwS 3 S.2.2.2.2 gX7_draw_X7_in rfl rfl rfl (by decide +kernel) ⟨Nat.le_of_ble_eq_true rfl, Nat.le_of_ble_eq_true rfl⟩) ⟨wPre_blind, wPre_at C w [] rfl rfl⟩ rfl rfl hl.1 rfl (lv_room (Nat.le_of_ble_eq_true rfl)) dX7_draw_24 ⟨Nat.le_of_ble_eq_true rfl, Nat.le_of_ble_eq_true rfl⟩) (fun r24 h24 => ?_)
      refine w_topi (y := (inF k0 1 12)) h24 ?_
      refine lv_if_ne (tgt := 37) S.1 S.2.1 dX7_draw_27 (by decide) (fun c27 => ?_) (fun c27 => ?_)
      · obtain ⟨nN, hnN1, hnN2, hnNe⟩ := inF_ok (lo := 1) (hi := 6) rfl rfl (by decide) (by decide) c17
        obtain ⟨gN, hgN1, hgN2, hgNe⟩ := inF_ok (lo := 1) (hi := 12) rfl rfl (by decide) (by decide) c27
        have hgC : k0.toNatClampNeg = gN := by rw [hgNe]; exact nI_clamp (by omega)
        refine lv_aload_n S.1 S.2.1 dX7_draw_37 rfl (lv_at hl 0 rfl) ?_
        refine lv_iload_n S.1 S.2.1 dX7_draw_38 rfl (lv_at hl 2 rfl) ?_
        refine lv_iconst (v := 0) S.1 S.2.1 dX7_draw_39 (by decide) ?_
        refine lv_iconst (v := 1) S.1 S.2.1 dX7_draw_40 (by decide) ?_
        refine lv_iconst (v := 0) S.1 S.2.1 dX7_draw_41 (by decide) ?_
        refine cq_v C w [0, 1] [2] [1, 2, 0] (wr := [(mR, .inl (G.2.1 2, 3, .inl fR))]) (w' := fun u : Unit => [(mO, .inr (7, [.ref mS, .ref mD, .ref mR, .ref mT, .int mt, .int ma, .int mn, .ref mW, .ref mQ, .ref mC, .int my, .ref mU, .ref mV, .int mm, .int mf, .int mg])), (mS, .inl (G.2.1 2, 49, .inl (begF j0 0 1 0 fS)))]) (ws2 := fun u : Unit => [(mO, .inr (7, [.ref mS, .ref mD, .ref mR, .ref mT, .int mt, .int ma, .int mn, .ref mW, .ref mQ, .ref mC, .int my, .ref mU, .ref mV, .int mm, .int mf, .int mg])), (mS, .inl (G.2.1 2, 49, .inl (begF j0 0 1 0 fS))), (mR, .inl (G.2.1 2, 3, .inl fR))]) rfl rfl rfl (by decide) rfl (fun _ => rfl) (va_runV (As := [.int j0, .int 0, .int 1, .int 0]) (rest := []) S (c_X7_begins l G mO mS _ mD mR mT mW mQ mC mU mV mt ma mn my mm mf mg fS j0 0 1 0) (cwV 4 S.2.2.2.2 gX7_draw_X7_begins rfl rfl rfl (by decide +kernel) ⟨Nat.le_of_ble_eq_true rfl, Nat.le_of_ble_eq_true rfl⟩) ⟨wPre_blind, va_recv C.1 w.1 (ci := 7) (q0 := 0) rfl rfl, wPre_at C w [0, 1] rfl rfl⟩ rfl rfl hl.1 rfl (lv_room (Nat.le_of_ble_eq_true rfl)) dX7_draw_42 ⟨Nat.le_of_ble_eq_true rfl, Nat.le_of_ble_eq_true rfl⟩) (fun u42 H locs h42 w => ?_)
        have w : Wd G _ s [(mO, .inr (7, [.ref mS, .ref mD, .ref mR, .ref mT, .int mt, .int ma, .int mn, .ref mW, .ref mQ, .ref mC, .int my, .ref mU, .ref mV, .int mm, .int mf, .int mg])), (mS, .inl (G.2.1 2, 49, .inl (begF j0 0 1 0 fS))), (mR, .inl (G.2.1 2, 3, .inl fR))] H locs := w
        refine lv_iload_n S.1 S.2.1 dX7_draw_45 rfl (lv_at hl 1 rfl) ?_
        refine lv_i2l (v := i0.toInt64) S.1 S.2.1 dX7_draw_46 rfl ?_
        refine lv_lstore (lv' := [(4, .long i0.toInt64), (0, .ref mO), (1, .int i0), (2, .int j0), (3, .int k0)]) S.1 S.2.1 dX7_draw_47 hl (by decide) rfl (fun ls hl => ?_)
        refine lv_iconst (v := 0) S.1 S.2.1 dX7_draw_49 (by decide) ?_
        refine lv_istore (lv' := [(6, .int 0), (4, .long i0.toInt64), (0, .ref mO), (1, .int i0), (2, .int j0), (3, .int k0)]) S.1 S.2.1 dX7_draw_50 hl (by decide) rfl (fun ls hl => ?_)
        refine w_loop (G := G) (σ := Nat) (nL := 8) 52 (fun x52 => gN - x52) (fun x52 => x52 ≤ gN) (fun x52 => [(mO, .inr (7, [.ref mS, .ref mD, .ref mR, .ref mT, .int mt, .int ma, .int mn, .ref mW, .ref mQ, .ref mC, .int my, .ref mU, .ref mV, .int mm, .int mf, .int mg])), (mS, .inl (G.2.1 2, 49, .inl (laysN (drawKm i0.toInt64) (drawXm i0.toInt64 j0) (drawYm i0.toInt64 j0) x52 (begF j0 0 1 0 fS)))), (mR, .inl (G.2.1 2, 3, .inl fR))]) (fun x52 => [(6, .int (nI x52)), (4, .long (drawX i0.toInt64 x52)), (0, .ref mO), (1, .int i0), (2, .int j0), (3, .int k0)]) (fun _ => []) ?_ 0 ls _ _ (Nat.zero_le _) w (lv_sub hl [0, 1, 2, 3, 4, 5] rfl)
        intro x52 ls H locs hI52 w hl ih52
        have w : Wd G _ s [(mO, .inr (7, [.ref mS, .ref mD, .ref mR, .ref mT, .int mt, .int ma, .int mn, .ref mW, .ref mQ, .ref mC, .int my, .ref mU, .ref mV, .int mm, .int mf, .int mg])), (mS, .inl (G.2.1 2, 49, .inl (laysN (drawKm i0.toInt64) (drawXm i0.toInt64 j0) (drawYm i0.toInt64 j0) x52 (begF j0 0 1 0 fS)))), (mR, .inl (G.2.1 2, 3, .inl fR))] H locs := w
        have hl : lv_has ls 8 [(6, .int (nI x52)), (4, .long (drawX i0.toInt64 x52)), (0, .ref mO), (1, .int i0), (2, .int j0), (3, .int k0)] := hl
        refine lv_iload S.1 S.2.1 dX7_draw_52 (lv_at hl 0 rfl) ?_
        refine lv_iload_n S.1 S.2.1 dX7_draw_54 rfl (lv_at hl 5 rfl) ?_
        refine lv_icmp_ge (tgt := 127) S.1 S.2.1 dX7_draw_55 (by decide) (fun c55 => ?_) (fun c55 => ?_)
        · refine lv_aload_n S.1 S.2.1 dX7_draw_127 rfl (lv_at hl 2 rfl) ?_
          refine lv_iload_n S.1 S.2.1 dX7_draw_128 rfl (lv_at hl 4 rfl) ?_
          refine lv_iload_n S.1 S.2.1 dX7_draw_129 rfl (lv_at hl 5 rfl) ?_
          refine lv_iadd S.1 S.2.1 dX7_draw_130 ?_
          refine lv_iconst (v := 1) S.1 S.2.1 dX7_draw_131 (by decide) ?_
          refine lv_isub S.1 S.2.1 dX7_draw_132 ?_
          refine cq_v C w [0, 1] [2] [1, 2, 0] (wr := [(mR, .inl (G.2.1 2, 3, .inl fR))]) (w' := fun u : Unit => [(mO, .inr (7, [.ref mS, .ref mD, .ref mR, .ref mT, .int mt, .int ma, .int mn, .ref mW, .ref mQ, .ref mC, .int my, .ref mU, .ref mV, .int mm, .int mf, .int mg])), (mS, .inl (G.2.1 2, 49, .inl (outsF (laysN (drawKm i0.toInt64) (drawXm i0.toInt64 j0) (drawYm i0.toInt64 j0) x52 (begF j0 0 1 0 fS)) 0 ((j0 + k0) - 1))))]) (ws2 := fun u : Unit => [(mO, .inr (7, [.ref mS, .ref mD, .ref mR, .ref mT, .int mt, .int ma, .int mn, .ref mW, .ref mQ, .ref mC, .int my, .ref mU, .ref mV, .int mm, .int mf, .int mg])), (mS, .inl (G.2.1 2, 49, .inl (outsF (laysN (drawKm i0.toInt64) (drawXm i0.toInt64 j0) (drawYm i0.toInt64 j0) x52 (begF j0 0 1 0 fS)) 0 ((j0 + k0) - 1)))), (mR, .inl (G.2.1 2, 3, .inl fR))]) rfl rfl rfl (by decide) rfl (fun _ => rfl) (va_runV (As := [.int ((j0 + k0) - 1)]) (rest := []) S (c_X7_outs l G mO mS _ mD mR mT mW mQ mC mU mV mt ma mn my mm mf mg (laysN (drawKm i0.toInt64) (drawXm i0.toInt64 j0) (drawYm i0.toInt64 j0) x52 (begF j0 0 1 0 fS)) 0 ((j0 + k0) - 1) (by rw [laysN_2]; exact begF_2) (by decide)) (cwV 1 S.2.2.2.2 gX7_draw_X7_outs rfl rfl rfl (by decide +kernel) ⟨Nat.le_of_ble_eq_true rfl, Nat.le_of_ble_eq_true rfl⟩) ⟨wPre_blind, va_recv C.1 w.1 (ci := 7) (q0 := 0) rfl rfl, wPre_at C w [0, 1] rfl rfl⟩ rfl rfl hl.1 rfl (lv_room (Nat.le_of_ble_eq_true rfl)) dX7_draw_133 ⟨Nat.le_of_ble_eq_true rfl, Nat.le_of_ble_eq_true rfl⟩) (fun u133 H locs h133 w => ?_)
          have w : Wd G _ s [(mO, .inr (7, [.ref mS, .ref mD, .ref mR, .ref mT, .int mt, .int ma, .int mn, .ref mW, .ref mQ, .ref mC, .int my, .ref mU, .ref mV, .int mm, .int mf, .int mg])), (mS, .inl (G.2.1 2, 49, .inl (outsF (laysN (drawKm i0.toInt64) (drawXm i0.toInt64 j0) (drawYm i0.toInt64 j0) x52 (begF j0 0 1 0 fS)) 0 ((j0 + k0) - 1)))), (mR, .inl (G.2.1 2, 3, .inl fR))] H locs := w
          refine lv_iload_n S.1 S.2.1 dX7_draw_136 rfl (lv_at hl 5 rfl) ?_
          refine lv_iconst (v := 1) S.1 S.2.1 dX7_draw_137 (by decide) ?_
          refine lv_icmp_le (tgt := 150) S.1 S.2.1 dX7_draw_138 (by decide) (fun c138 => ?_) (fun c138 => ?_)
          · refine lv_iload_n S.1 S.2.1 dX7_draw_150 rfl (lv_at hl 5 rfl) ?_
            exact W.iret (v := k0) S.1 S.2.1 hr (fun t ht _ => ⟨⟨k0, ((outsF (laysN (drawKm i0.toInt64) (drawXm i0.toInt64 j0) (drawYm i0.toInt64 j0) x52 (begF j0 0 1 0 fS)) 0 ((j0 + k0) - 1)), fR), rfl, by simp only [drawRm, if_neg c7, if_neg c17, if_neg c27], by rw [ht]; exact w.1, w.2.1⟩, w.2.2.F ht⟩) w.2.2.2.2 dX7_draw_151
          · refine lv_aload_n S.1 S.2.1 dX7_draw_141 rfl (lv_at hl 2 rfl) ?_
            refine lv_iload_n S.1 S.2.1 dX7_draw_142 rfl (lv_at hl 4 rfl) ?_
            refine lv_iload_n S.1 S.2.1 dX7_draw_143 rfl (lv_at hl 5 rfl) ?_
            refine lv_iadd S.1 S.2.1 dX7_draw_144 ?_
            refine lv_iconst (v := 2) S.1 S.2.1 dX7_draw_145 (by decide) ?_
            refine lv_isub S.1 S.2.1 dX7_draw_146 ?_
            refine cq_v C w [0, 1] [2] [1, 2, 0] (wr := [(mR, .inl (G.2.1 2, 3, .inl fR))]) (w' := fun u : Unit => [(mO, .inr (7, [.ref mS, .ref mD, .ref mR, .ref mT, .int mt, .int ma, .int mn, .ref mW, .ref mQ, .ref mC, .int my, .ref mU, .ref mV, .int mm, .int mf, .int mg])), (mS, .inl (G.2.1 2, 49, .inl (outsF (outsF (laysN (drawKm i0.toInt64) (drawXm i0.toInt64 j0) (drawYm i0.toInt64 j0) x52 (begF j0 0 1 0 fS)) 0 ((j0 + k0) - 1)) 1 ((j0 + k0) - 2))))]) (ws2 := fun u : Unit => [(mO, .inr (7, [.ref mS, .ref mD, .ref mR, .ref mT, .int mt, .int ma, .int mn, .ref mW, .ref mQ, .ref mC, .int my, .ref mU, .ref mV, .int mm, .int mf, .int mg])), (mS, .inl (G.2.1 2, 49, .inl (outsF (outsF (laysN (drawKm i0.toInt64) (drawXm i0.toInt64 j0) (drawYm i0.toInt64 j0) x52 (begF j0 0 1 0 fS)) 0 ((j0 + k0) - 1)) 1 ((j0 + k0) - 2)))), (mR, .inl (G.2.1 2, 3, .inl fR))]) rfl rfl rfl (by decide) rfl (fun _ => rfl) (va_runV (As := [.int ((j0 + k0) - 2)]) (rest := []) S (c_X7_outs l G mO mS _ mD mR mT mW mQ mC mU mV mt ma mn my mm mf mg (outsF (laysN (drawKm i0.toInt64) (drawXm i0.toInt64 j0) (drawYm i0.toInt64 j0) x52 (begF j0 0 1 0 fS)) 0 ((j0 + k0) - 1)) 1 ((j0 + k0) - 2) (by rw [outsF_2]) (by decide)) (cwV 1 S.2.2.2.2 gX7_draw_X7_outs rfl rfl rfl (by decide +kernel) ⟨Nat.le_of_ble_eq_true rfl, Nat.le_of_ble_eq_true rfl⟩) ⟨wPre_blind, va_recv C.1 w.1 (ci := 7) (q0 := 0) rfl rfl, wPre_at C w [0, 1] rfl rfl⟩ rfl rfl hl.1 rfl (lv_room (Nat.le_of_ble_eq_true rfl)) dX7_draw_147 ⟨Nat.le_of_ble_eq_true rfl, Nat.le_of_ble_eq_true rfl⟩) (fun u147 H locs h147 w => ?_)
            have w : Wd G _ s [(mO, .inr (7, [.ref mS, .ref mD, .ref mR, .ref mT, .int mt, .int ma, .int mn, .ref mW, .ref mQ, .ref mC, .int my, .ref mU, .ref mV, .int mm, .int mf, .int mg])), (mS, .inl (G.2.1 2, 49, .inl (outsF (outsF (laysN (drawKm i0.toInt64) (drawXm i0.toInt64 j0) (drawYm i0.toInt64 j0) x52 (begF j0 0 1 0 fS)) 0 ((j0 + k0) - 1)) 1 ((j0 + k0) - 2)))), (mR, .inl (G.2.1 2, 3, .inl fR))] H locs := w
            refine lv_iload_n S.1 S.2.1 dX7_draw_150 rfl (lv_at hl 5 rfl) ?_
            exact W.iret (v := k0) S.1 S.2.1 hr (fun t ht _ => ⟨⟨k0, ((outsF (outsF (laysN (drawKm i0.toInt64) (drawXm i0.toInt64 j0) (drawYm i0.toInt64 j0) x52 (begF j0 0 1 0 fS)) 0 ((j0 + k0) - 1)) 1 ((j0 + k0) - 2)), fR), rfl, by simp only [drawRm, if_neg c7, if_neg c17, if_neg c27], by rw [ht]; exact w.1, w.2.1⟩, w.2.2.F ht⟩) w.2.2.2.2 dX7_draw_151
        · refine lv_lload S.1 S.2.1 dX7_draw_58 (lv_at hl 1 rfl) ?_
          refine lv_ldc2 (own := RX7) (v := 1103515245) S.1 S.2.1 S.2.2.2.1 (S.2.2.2.2 _ (List.mem_of_getElem? (i := 2) rfl)) dX7_draw_60 ?_
          refine lv_lmul S.1 S.2.1 dX7_draw_63 ?_
          refine lv_ldc2 (own := RX7) (v := 12345) S.1 S.2.1 S.2.2.2.1 (S.2.2.2.2 _ (List.mem_of_getElem? (i := 3) rfl)) dX7_draw_64 ?_
          refine lv_ladd S.1 S.2.1 dX7_draw_67 ?_
          refine lv_ldc2 (own := RX7) (v := 2147483648) S.1 S.2.1 S.2.2.2.1 (S.2.2.2.2 _ (List.mem_of_getElem? (i := 4) rfl)) dX7_draw_68 ?_
          refine lv_lrem S.1 S.2.1 dX7_draw_71 (by decide) ?_
          refine w_topl (y := (drawX i0.toInt64 (x52 + 1))) (rfl) ?_
          refine lv_lstore (lv' := [(4, .long (drawX i0.toInt64 (x52 + 1))), (6, .int (nI x52)), (0, .ref mO), (1, .int i0), (2, .int j0), (3, .int k0)]) S.1 S.2.1 dX7_draw_72 hl (by decide) rfl (fun ls hl => ?_)
          refine lv_iload_n S.1 S.2.1 dX7_draw_74 rfl (lv_at hl 4 rfl) ?_
          refine lv_iload S.1 S.2.1 dX7_draw_75 (lv_at hl 1 rfl) ?_
          refine lv_iadd S.1 S.2.1 dX7_draw_77 ?_
          refine lv_istore (lv' := [(7, .int (j0 + (nI x52))), (4, .long (drawX i0.toInt64 (x52 + 1))), (6, .int (nI x52)), (0, .ref mO), (1, .int i0), (2, .int j0), (3, .int k0)]) S.1 S.2.1 dX7_draw_78 hl (by decide) rfl (fun ls hl => ?_)
          refine lv_aload_n S.1 S.2.1 dX7_draw_80 rfl (lv_at hl 3 rfl) ?_
          refine w_get S C w (CC := RX7) (T := TX7) (N := 16) (ref := "GateSumsModel") im_X7_draw_X7 0 rfl rfl 0 (by decide) (List.mem_of_getElem? (i := 5) rfl) (fun _ h => h) rfl dX7_draw_81 ?_
          refine lv_lload S.1 S.2.1 dX7_draw_84 (lv_at hl 1 rfl) ?_
          refine lv_ldc2 (own := RX7) (v := 65536) S.1 S.2.1 S.2.2.2.1 (S.2.2.2.2 _ (List.mem_of_getElem? (i := 6) rfl)) dX7_draw_86 ?_
          refine lv_ldiv S.1 S.2.1 dX7_draw_89 (by decide) ?_
          refine lv_ldc2 (own := RX7) (v := 8) S.1 S.2.1 S.2.2.2.1 (S.2.2.2.2 _ (List.mem_of_getElem? (i := 7) rfl)) dX7_draw_90 ?_
          refine lv_lrem S.1 S.2.1 dX7_draw_93 (by decide) ?_
          refine lv_l2i (v := ((((drawX i0.toInt64 (x52 + 1)) / 65536) - ((drawX i0.toInt64 (x52 + 1)) / 65536) / 8 * 8).toInt32)) S.1 S.2.1 dX7_draw_94 rfl ?_
          refine w_topi (y := (drawKm i0.toInt64 x52)) (rfl) ?_
          refine lv_lload S.1 S.2.1 dX7_draw_95 (lv_at hl 1 rfl) ?_
          refine lv_ldc2 (own := RX7) (v := 1024) S.1 S.2.1 S.2.2.2.1 (S.2.2.2.2 _ (List.mem_of_getElem? (i := 8) rfl)) dX7_draw_97 ?_
          refine lv_ldiv S.1 S.2.1 dX7_draw_100 (by decide) ?_
          have hne := wide_ne0 (show ¬ j0 + nI x52 ≤ 0 by rw [hnNe, nI_add]; exact nI_nle (by omega) (by have := clt (by omega) c55; omega))
          refine lv_iload S.1 S.2.1 dX7_draw_101 (lv_at hl 0 rfl) ?_
          refine lv_i2l (v := ((j0 + (nI x52)).toInt64)) S.1 S.2.1 dX7_draw_103 rfl ?_
          refine lv_lrem S.1 S.2.1 dX7_draw_104 (hne) ?_
          refine lv_l2i (v := ((((drawX i0.toInt64 (x52 + 1)) / 1024) - ((drawX i0.toInt64 (x52 + 1)) / 1024) / ((j0 + (nI x52)).toInt64) * ((j0 + (nI x52)).toInt64)).toInt32)) S.1 S.2.1 dX7_draw_105 rfl ?_
          refine w_topi (y := (drawXm i0.toInt64 j0 x52)) (rfl) ?_
          refine lv_lload S.1 S.2.1 dX7_draw_106 (lv_at hl 1 rfl) ?_
          refine lv_ldc2 (own := RX7) (v := 32768) S.1 S.2.1 S.2.2.2.1 (S.2.2.2.2 _ (List.mem_of_getElem? (i := 9) rfl)) dX7_draw_108 ?_
          refine lv_ldiv S.1 S.2.1 dX7_draw_111 (by decide) ?_
          refine lv_iload S.1 S.2.1 dX7_draw_112 (lv_at hl 0 rfl) ?_
          refine lv_i2l (v := ((j0 + (nI x52)).toInt64)) S.1 S.2.1 dX7_draw_114 rfl ?_
          refine lv_lrem S.1 S.2.1 dX7_draw_115 (hne) ?_
          refine lv_l2i (v := ((((drawX i0.toInt64 (x52 + 1)) / 32768) - ((drawX i0.toInt64 (x52 + 1)) / 32768) / ((j0 + (nI x52)).toInt64) * ((j0 + (nI x52)).toInt64)).toInt32)) S.1 S.2.1 dX7_draw_116 rfl ?_
          refine w_topi (y := (drawYm i0.toInt64 j0 x52)) (rfl) ?_
          refine cq_i C w [1] [0, 2] [0, 2, 1] (wr := [(mO, .inr (7, [.ref mS, .ref mD, .ref mR, .ref mT, .int mt, .int ma, .int mn, .ref mW, .ref mQ, .ref mC, .int my, .ref mU, .ref mV, .int mm, .int mf, .int mg])), (mR, .inl (G.2.1 2, 3, .inl fR))]) (w' := fun u : Unit => [(mS, .inl (G.2.1 2, 49, .inl (laysF (laysN (drawKm i0.toInt64) (drawXm i0.toInt64 j0) (drawYm i0.toInt64 j0) x52 (begF j0 0 1 0 fS)) x52 (drawKm i0.toInt64 x52) (drawXm i0.toInt64 j0 x52) (drawYm i0.toInt64 j0 x52))))]) (ws2 := fun u : Unit => [(mO, .inr (7, [.ref mS, .ref mD, .ref mR, .ref mT, .int mt, .int ma, .int mn, .ref mW, .ref mQ, .ref mC, .int my, .ref mU, .ref mV, .int mm, .int mf, .int mg])), (mS, .inl (G.2.1 2, 49, .inl (laysF (laysN (drawKm i0.toInt64) (drawXm i0.toInt64 j0) (drawYm i0.toInt64 j0) x52 (begF j0 0 1 0 fS)) x52 (drawKm i0.toInt64 x52) (drawXm i0.toInt64 j0 x52) (drawYm i0.toInt64 j0 x52)))), (mR, .inl (G.2.1 2, 3, .inl fR))]) rfl rfl rfl (by decide) rfl (fun _ => rfl) (va_runS (As := [.ref mS, .int (drawKm i0.toInt64 x52), .int (drawXm i0.toInt64 j0 x52), .int (drawYm i0.toInt64 j0 x52)]) (rest := []) S (c_X7_lays l G mS _ (laysN (drawKm i0.toInt64) (drawXm i0.toInt64 j0) (drawYm i0.toInt64 j0) x52 (begF j0 0 1 0 fS)) x52 (drawKm i0.toInt64 x52) (drawXm i0.toInt64 j0 x52) (drawYm i0.toInt64 j0 x52) (laysN_1 begF_1 _) (by have := clt (by omega) c55; omega)) (cwS 4 S.2.2.2.2 gX7_draw_X7_lays rfl rfl rfl (by decide +kernel) ⟨Nat.le_of_ble_eq_true rfl, Nat.le_of_ble_eq_true rfl⟩) ⟨wPre_blind, wPre_at C w [1] rfl rfl⟩ rfl rfl hl.1 rfl (lv_room (Nat.le_of_ble_eq_true rfl)) dX7_draw_117 ⟨Nat.le_of_ble_eq_true rfl, Nat.le_of_ble_eq_true rfl⟩) (fun r117 u117 H locs h117 w => ?_)
          have w : Wd G _ s [(mO, .inr (7, [.ref mS, .ref mD, .ref mR, .ref mT, .int mt, .int ma, .int mn, .ref mW, .ref mQ, .ref mC, .int my, .ref mU, .ref mV, .int mm, .int mf, .int mg])), (mS, .inl (G.2.1 2, 49, .inl (laysF (laysN (drawKm i0.toInt64) (drawXm i0.toInt64 j0) (drawYm i0.toInt64 j0) x52 (begF j0 0 1 0 fS)) x52 (drawKm i0.toInt64 x52) (drawXm i0.toInt64 j0 x52) (drawYm i0.toInt64 j0 x52)))), (mR, .inl (G.2.1 2, 3, .inl fR))] H locs := w
          refine lv_pop S.1 S.2.1 dX7_draw_120 rfl ?_
          refine lv_iinc (v := (nI (x52 + 1))) (lv' := [(6, .int (nI (x52 + 1))), (7, .int (j0 + (nI x52))), (4, .long (drawX i0.toInt64 (x52 + 1))), (0, .ref mO), (1, .int i0), (2, .int j0), (3, .int k0)]) S.1 S.2.1 dX7_draw_121 hl (k := 2) rfl (nI_1 _) (by decide) rfl (fun ls hl => ?_)
          refine lv_goto (tgt := 52) S.1 S.2.1 dX7_draw_124 (by decide) ?_
          have w : Wd G (va_A [(mO, .inr (7, [.ref mS, .ref mD, .ref mR, .ref mT, .int mt, .int ma, .int mn, .ref mW, .ref mQ, .ref mC, .int my, .ref mU, .ref mV, .int mm, .int mf, .int mg])), (mS, .inl (G.2.1 2, 49, .inl fS)), (mR, .inl (G.2.1 2, 3, .inl fR))] sz) s [(mO, .inr (7, [.ref mS, .ref mD, .ref mR, .ref mT, .int mt, .int ma, .int mn, .ref mW, .ref mQ, .ref mC, .int my, .ref mU, .ref mV, .int mm, .int mf, .int mg])), (mS, .inl (G.2.1 2, 49, .inl (laysN (drawKm i0.toInt64) (drawXm i0.toInt64 j0) (drawYm i0.toInt64 j0) (x52 + 1) (begF j0 0 1 0 fS)))), (mR, .inl (G.2.1 2, 3, .inl fR))] H locs := by rw [show (laysN (drawKm i0.toInt64) (drawXm i0.toInt64 j0) (drawYm i0.toInt64 j0) (x52 + 1) (begF j0 0 1 0 fS)) = (laysF (laysN (drawKm i0.toInt64) (drawXm i0.toInt64 j0) (drawYm i0.toInt64 j0) x52 (begF j0 0 1 0 fS)) x52 (drawKm i0.toInt64 x52) (drawXm i0.toInt64 j0 x52) (drawYm i0.toInt64 j0 x52)) from rfl]; exact w
          exact ih52 (x52 + 1) ls _ _ (by have := clt (by omega) c55; omega) (by have := clt (by omega) c55; omega) w (lv_sub hl [0, 2, 3, 4, 5, 6] rfl)
      · refine lv_aload_n S.1 S.2.1 dX7_draw_30 rfl (lv_at hl 0 rfl) ?_
        refine lv_bipush (v := (-2)) S.1 S.2.1 dX7_draw_31 (by decide) ?_
        refine cq_i C w [0, 2] [1] [1, 0, 2] (wr := [(mS, .inl (G.2.1 2, 49, .inl fS))]) (w' := fun u : Unit => [(mO, .inr (7, [.ref mS, .ref mD, .ref mR, .ref mT, .int mt, .int ma, .int mn, .ref mW, .ref mQ, .ref mC, .int my, .ref mU, .ref mV, .int mm, .int mf, .int mg])), (mR, .inl (G.2.1 2, 3, .inl (upd fR 0 (fR 0 + 1))))]) (ws2 := fun u : Unit => [(mO, .inr (7, [.ref mS, .ref mD, .ref mR, .ref mT, .int mt, .int ma, .int mn, .ref mW, .ref mQ, .ref mC, .int my, .ref mU, .ref mV, .int mm, .int mf, .int mg])), (mS, .inl (G.2.1 2, 49, .inl fS)), (mR, .inl (G.2.1 2, 3, .inl (upd fR 0 (fR 0 + 1))))]) rfl rfl rfl (by decide) rfl (fun _ => rfl) (va_runV (As := [.int (-2)]) (rest := []) S (c_X7_refuses_B l G mO mR _ mS mD mT mW mQ mC mU mV mt ma mn my mm mf mg fR) (cwV 1 S.2.2.2.2 gX7_draw_X7_refuses rfl rfl rfl (by decide +kernel) ⟨Nat.le_of_ble_eq_true rfl, Nat.le_of_ble_eq_true rfl⟩) ⟨wPre_blind, va_recv C.1 w.1 (ci := 7) (q0 := 0) rfl rfl, wPre_at C w [0, 2] rfl rfl⟩ rfl rfl hl.1 rfl (lv_room (Nat.le_of_ble_eq_true rfl)) dX7_draw_33 ⟨Nat.le_of_ble_eq_true rfl, Nat.le_of_ble_eq_true rfl⟩) (fun r33_2 u33_2 H locs h33_2 w => ?_)
        have w : Wd G _ s [(mO, .inr (7, [.ref mS, .ref mD, .ref mR, .ref mT, .int mt, .int ma, .int mn, .ref mW, .ref mQ, .ref mC, .int my, .ref mU, .ref mV, .int mm, .int mf, .int mg])), (mS, .inl (G.2.1 2, 49, .inl fS)), (mR, .inl (G.2.1 2, 3, .inl (upd fR 0 (fR 0 + 1))))] H locs := w
        exact W.iret (v := r33_2) S.1 S.2.1 hr (fun t ht _ => ⟨⟨r33_2, (fS, (upd fR 0 (fR 0 + 1))), rfl, by rw [h33_2]; simp only [drawRm, if_neg c7, if_neg c17, if_pos c27], by rw [ht]; exact w.1, w.2.1⟩, w.2.2.F ht⟩) w.2.2.2.2 dX7_draw_36
theorem im_X7_countOf_X7 : ∀ w ∈ u_ws RX7 TX7 16, w ∈ wsX7_countOf := by decide +kernel
set_option maxHeartbeats 4000000 in
set_option maxRecDepth 100000 in
theorem c_X7_countOf (l : Launch) (G : GT) (mO mS mR : Nat) (sz : Nat) (mD mT mW mQ mC mU mV : Nat) (mt ma mn my mm mf mg : Int32) (fS fR : Nat → Int32) (x0 : Int32) : Met l yX7_countOf wsX7_countOf ({ frames := 0, cells := 0, slots := 0, locals := 0 }) (va_Pc [.ref mO, .int x0] (wPre G [(mO, .inr (7, [.ref mS, .ref mD, .ref mR, .ref mT, .int mt, .int ma, .int mn, .ref mW, .ref mQ, .ref mC, .int my, .ref mU, .ref mV, .int mm, .int mf, .int mg])), (mS, .inl (G.2.1 2, 49, .inl fS)), (mR, .inl (G.2.1 2, 3, .inl fR))] sz)) (vp_Si (fun r : Int32 => r = (countM fR mt fS x0))) 0 0 (fun _ => False) := by
  refine met_go (cc := cX7_countOf) (maxL := 2) (ret := (some .int)) (own := RX7) (by decide) rfl rfl (Nat.le_of_ble_eq_true rfl) ?_
  intro p e s m below meth c ls S hr hlocks hname hsz C w hl
  have hl : lv_has ls 2 [(0, .ref mO), (1, .int x0)] := hl
  refine lv_iload_n S.1 S.2.1 dX7_countOf_0 rfl (lv_at hl 1 rfl) ?_
  rcases sw_cases 0 5 x0.toInt (by decide) with c1 | ⟨c1n, c1l, c1q⟩
  · refine lv_tableOut (tgt := 66) S.1 S.2.1 dX7_countOf_1 c1 (by decide) ?_
    refine lv_aload_n S.1 S.2.1 dX7_countOf_66 rfl (lv_at hl 0 rfl) ?_
    refine w_get S C w (CC := RX7) (T := TX7) (N := 16) (ref := "GateSumsModel") im_X7_countOf_X7 0 rfl rfl 0 (by decide) (List.mem_of_getElem? (i := 3) rfl) (fun _ h => h) rfl dX7_countOf_67 ?_
    refine lv_iconst (v := 2) S.1 S.2.1 dX7_countOf_70 (by decide) ?_
    refine w_iald S C w 1 rfl (by unfold vp_in; decide) dX7_countOf_71 ?_
    exact W.iret (v := (fS (2 : Int32).toNatClampNeg)) S.1 S.2.1 hr (fun t ht _ => ⟨(fS (2 : Int32).toNatClampNeg), rfl, by first | (unfold countM; rw [if_pos (by omega)]; done) | (unfold countM; rw [if_neg (by omega), if_pos c1]; done) | (unfold countM; rw [if_neg (by omega), if_neg (by omega), if_pos c1]; rfl) | (unfold countM; rw [if_neg (by omega), if_neg (by omega), if_neg (by omega), if_pos c1]; rfl) | (unfold countM; rw [if_neg (by omega), if_neg (by omega), if_neg (by omega), if_neg (by omega)]; rfl), ht⟩) (fun q h => absurd h List.not_mem_nil) dX7_countOf_72
  · have c1l2 : c1n < 6 := by omega
    rcases Nat.lt_or_ge c1n 1 with c1a | c1a
    · have c1e : c1n = 0 := by omega
      subst c1e
      have c1 : x0.toInt = 0 := by omega
      refine lv_tableIn (off := 39) (tgt := 40) S.1 S.2.1 dX7_countOf_1 (by omega) (by omega) (by rw [c1]; rfl) (by decide) ?_
      refine lv_aload_n S.1 S.2.1 dX7_countOf_40 rfl (lv_at hl 0 rfl) ?_
      refine w_get S C w (CC := RX7) (T := TX7) (N := 16) (ref := "GateSumsModel") im_X7_countOf_X7 0 rfl rfl 2 (by decide) (List.mem_of_getElem? (i := 1) rfl) (fun _ h => h) rfl dX7_countOf_41 ?_
      refine lv_iload_n S.1 S.2.1 dX7_countOf_44 rfl (lv_at hl 1 rfl) ?_
      refine w_iald S C w 2 rfl (in3 (by omega)) dX7_countOf_45 ?_
      exact W.iret (v := (fR x0.toNatClampNeg)) S.1 S.2.1 hr (fun t ht _ => ⟨(fR x0.toNatClampNeg), rfl, by first | (unfold countM; rw [if_pos (by omega)]; done) | (unfold countM; rw [if_neg (by omega), if_pos c1]; done) | (unfold countM; rw [if_neg (by omega), if_neg (by omega), if_pos c1]; rfl) | (unfold countM; rw [if_neg (by omega), if_neg (by omega), if_neg (by omega), if_pos c1]; rfl) | (unfold countM; rw [if_neg (by omega), if_neg (by omega), if_neg (by omega), if_neg (by omega)]; rfl), ht⟩) (fun q h => absurd h List.not_mem_nil) dX7_countOf_46
    rcases Nat.lt_or_ge c1n 2 with c1a | c1a
    · have c1e : c1n = 1 := by omega
      subst c1e
      have c1 : x0.toInt = 1 := by omega
      refine lv_tableIn (off := 39) (tgt := 40) S.1 S.2.1 dX7_countOf_1 (by omega) (by omega) (by rw [c1]; rfl) (by decide) ?_
      refine lv_aload_n S.1 S.2.1 dX7_countOf_40 rfl (lv_at hl 0 rfl) ?_
      refine w_get S C w (CC := RX7) (T := TX7) (N := 16) (ref := "GateSumsModel") im_X7_countOf_X7 0 rfl rfl 2 (by decide) (List.mem_of_getElem? (i := 1) rfl) (fun _ h => h) rfl dX7_countOf_41 ?_
      refine lv_iload_n S.1 S.2.1 dX7_countOf_44 rfl (lv_at hl 1 rfl) ?_
      refine w_iald S C w 2 rfl (in3 (by omega)) dX7_countOf_45 ?_
      exact W.iret (v := (fR x0.toNatClampNeg)) S.1 S.2.1 hr (fun t ht _ => ⟨(fR x0.toNatClampNeg), rfl, by first | (unfold countM; rw [if_pos (by omega)]; done) | (unfold countM; rw [if_neg (by omega), if_pos c1]; done) | (unfold countM; rw [if_neg (by omega), if_neg (by omega), if_pos c1]; rfl) | (unfold countM; rw [if_neg (by omega), if_neg (by omega), if_neg (by omega), if_pos c1]; rfl) | (unfold countM; rw [if_neg (by omega), if_neg (by omega), if_neg (by omega), if_neg (by omega)]; rfl), ht⟩) (fun q h => absurd h List.not_mem_nil) dX7_countOf_46
    rcases Nat.lt_or_ge c1n 3 with c1a | c1a
    · have c1e : c1n = 2 := by omega
      subst c1e
      have c1 : x0.toInt = 2 := by omega
      refine lv_tableIn (off := 39) (tgt := 40) S.1 S.2.1 dX7_countOf_1 (by omega) (by omega) (by rw [c1]; rfl) (by decide) ?_
      refine lv_aload_n S.1 S.2.1 dX7_countOf_40 rfl (lv_at hl 0 rfl) ?_
      refine w_get S C w (CC := RX7) (T := TX7) (N := 16) (ref := "GateSumsModel") im_X7_countOf_X7 0 rfl rfl 2 (by decide) (List.mem_of_getElem? (i := 1) rfl) (fun _ h => h) rfl dX7_countOf_41 ?_
      refine lv_iload_n S.1 S.2.1 dX7_countOf_44 rfl (lv_at hl 1 rfl) ?_
      refine w_iald S C w 2 rfl (in3 (by omega)) dX7_countOf_45 ?_
      exact W.iret (v := (fR x0.toNatClampNeg)) S.1 S.2.1 hr (fun t ht _ => ⟨(fR x0.toNatClampNeg), rfl, by first | (unfold countM; rw [if_pos (by omega)]; done) | (unfold countM; rw [if_neg (by omega), if_pos c1]; done) | (unfold countM; rw [if_neg (by omega), if_neg (by omega), if_pos c1]; rfl) | (unfold countM; rw [if_neg (by omega), if_neg (by omega), if_neg (by omega), if_pos c1]; rfl) | (unfold countM; rw [if_neg (by omega), if_neg (by omega), if_neg (by omega), if_neg (by omega)]; rfl), ht⟩) (fun q h => absurd h List.not_mem_nil) dX7_countOf_46
    rcases Nat.lt_or_ge c1n 4 with c1a | c1a
    · have c1e : c1n = 3 := by omega
      subst c1e
      have c1 : x0.toInt = 3 := by omega
      refine lv_tableIn (off := 46) (tgt := 47) S.1 S.2.1 dX7_countOf_1 (by omega) (by omega) (by rw [c1]; rfl) (by decide) ?_
      refine lv_aload_n S.1 S.2.1 dX7_countOf_47 rfl (lv_at hl 0 rfl) ?_
      refine w_get S C w (CC := RX7) (T := TX7) (N := 16) (ref := "GateSumsModel") im_X7_countOf_X7 0 rfl rfl 4 (by decide) (List.mem_of_getElem? (i := 2) rfl) (fun _ h => h) rfl dX7_countOf_48 ?_
      exact W.iret (v := mt) S.1 S.2.1 hr (fun t ht _ => ⟨mt, rfl, by first | (unfold countM; rw [if_pos (by omega)]; done) | (unfold countM; rw [if_neg (by omega), if_pos c1]; done) | (unfold countM; rw [if_neg (by omega), if_neg (by omega), if_pos c1]; rfl) | (unfold countM; rw [if_neg (by omega), if_neg (by omega), if_neg (by omega), if_pos c1]; rfl) | (unfold countM; rw [if_neg (by omega), if_neg (by omega), if_neg (by omega), if_neg (by omega)]; rfl), ht⟩) (fun q h => absurd h List.not_mem_nil) dX7_countOf_51
    rcases Nat.lt_or_ge c1n 5 with c1a | c1a
    · have c1e : c1n = 4 := by omega
      subst c1e
      have c1 : x0.toInt = 4 := by omega
      refine lv_tableIn (off := 51) (tgt := 52) S.1 S.2.1 dX7_countOf_1 (by omega) (by omega) (by rw [c1]; rfl) (by decide) ?_
      refine lv_aload_n S.1 S.2.1 dX7_countOf_52 rfl (lv_at hl 0 rfl) ?_
      refine w_get S C w (CC := RX7) (T := TX7) (N := 16) (ref := "GateSumsModel") im_X7_countOf_X7 0 rfl rfl 0 (by decide) (List.mem_of_getElem? (i := 3) rfl) (fun _ h => h) rfl dX7_countOf_53 ?_
      refine lv_iconst (v := 0) S.1 S.2.1 dX7_countOf_56 (by decide) ?_
      refine w_iald S C w 1 rfl (by unfold vp_in; decide) dX7_countOf_57 ?_
      exact W.iret (v := (fS (0 : Int32).toNatClampNeg)) S.1 S.2.1 hr (fun t ht _ => ⟨(fS (0 : Int32).toNatClampNeg), rfl, by first | (unfold countM; rw [if_pos (by omega)]; done) | (unfold countM; rw [if_neg (by omega), if_pos c1]; done) | (unfold countM; rw [if_neg (by omega), if_neg (by omega), if_pos c1]; rfl) | (unfold countM; rw [if_neg (by omega), if_neg (by omega), if_neg (by omega), if_pos c1]; rfl) | (unfold countM; rw [if_neg (by omega), if_neg (by omega), if_neg (by omega), if_neg (by omega)]; rfl), ht⟩) (fun q h => absurd h List.not_mem_nil) dX7_countOf_58
    have c1e : c1n = 5 := by omega
    subst c1e
    have c1 : x0.toInt = 5 := by omega
    refine lv_tableIn (off := 58) (tgt := 59) S.1 S.2.1 dX7_countOf_1 (by omega) (by omega) (by rw [c1]; rfl) (by decide) ?_
    refine lv_aload_n S.1 S.2.1 dX7_countOf_59 rfl (lv_at hl 0 rfl) ?_
    refine w_get S C w (CC := RX7) (T := TX7) (N := 16) (ref := "GateSumsModel") im_X7_countOf_X7 0 rfl rfl 0 (by decide) (List.mem_of_getElem? (i := 3) rfl) (fun _ h => h) rfl dX7_countOf_60 ?_
    refine lv_iconst (v := 1) S.1 S.2.1 dX7_countOf_63 (by decide) ?_
    refine w_iald S C w 1 rfl (by unfold vp_in; decide) dX7_countOf_64 ?_
    exact W.iret (v := (fS (1 : Int32).toNatClampNeg)) S.1 S.2.1 hr (fun t ht _ => ⟨(fS (1 : Int32).toNatClampNeg), rfl, by first | (unfold countM; rw [if_pos (by omega)]; done) | (unfold countM; rw [if_neg (by omega), if_pos c1]; done) | (unfold countM; rw [if_neg (by omega), if_neg (by omega), if_pos c1]; rfl) | (unfold countM; rw [if_neg (by omega), if_neg (by omega), if_neg (by omega), if_pos c1]; rfl) | (unfold countM; rw [if_neg (by omega), if_neg (by omega), if_neg (by omega), if_neg (by omega)]; rfl), ht⟩) (fun q h => absurd h List.not_mem_nil) dX7_countOf_65
set_option maxHeartbeats 4000000 in
set_option maxRecDepth 100000 in
theorem c_X7_count (l : Launch) (G : GT) (mO mS mR : Nat) (sz : Nat) (mD mT mW mQ mC mU mV : Nat) (mt ma mn my mm mf mg : Int32) (fS fR : Nat → Int32) (x0 : Int32) : Met l yX7_count wsX7_count ({ frames := 1, cells := 0, slots := 0, locals := 22 }) (va_Pc [.ref mO, .int x0] (wPre G [(mO, .inr (7, [.ref mS, .ref mD, .ref mR, .ref mT, .int mt, .int ma, .int mn, .ref mW, .ref mQ, .ref mC, .int my, .ref mU, .ref mV, .int mm, .int mf, .int mg])), (mS, .inl (G.2.1 2, 49, .inl fS)), (mR, .inl (G.2.1 2, 3, .inl fR))] sz)) (va_Qi (fun (r : Int32) (u : (Nat → Int32)) => r = cntM fR mt fS x0) (bW G (va_A [(mO, .inr (7, [.ref mS, .ref mD, .ref mR, .ref mT, .int mt, .int ma, .int mn, .ref mW, .ref mQ, .ref mC, .int my, .ref mU, .ref mV, .int mm, .int mf, .int mg])), (mS, .inl (G.2.1 2, 49, .inl fS)), (mR, .inl (G.2.1 2, 3, .inl fR))] sz) (fun u : (Nat → Int32) => [(mO, .inr (7, [.ref mS, .ref mD, .ref mR, .ref mT, .int mt, .int ma, .int mn, .ref mW, .ref mQ, .ref mC, .int my, .ref mU, .ref mV, .int mm, .int mf, .int mg])), (mS, .inl (G.2.1 2, 49, .inl fS)), (mR, .inl (G.2.1 2, 3, .inl u))])) (va_A [(mO, .inr (7, [.ref mS, .ref mD, .ref mR, .ref mT, .int mt, .int ma, .int mn, .ref mW, .ref mQ, .ref mC, .int my, .ref mU, .ref mV, .int mm, .int mf, .int mg])), (mS, .inl (G.2.1 2, 49, .inl fS)), (mR, .inl (G.2.1 2, 3, .inl fR))] sz)) 0 0 (va_A [(mO, .inr (7, [.ref mS, .ref mD, .ref mR, .ref mT, .int mt, .int ma, .int mn, .ref mW, .ref mQ, .ref mC, .int my, .ref mU, .ref mV, .int mm, .int mf, .int mg])), (mS, .inl (G.2.1 2, 49, .inl fS)), (mR, .inl (G.2.1 2, 3, .inl fR))] sz) := by
  refine met_go (cc := cX7_count) (maxL := 2) (ret := (some .int)) (own := RX7) (by decide) rfl rfl (Nat.le_of_ble_eq_true rfl) ?_
  intro p e s m below meth c ls S hr hlocks hname hsz C w hl
  have hl : lv_has ls 2 [(0, .ref mO), (1, .int x0)] := hl
  refine lv_iload_n S.1 S.2.1 dX7_count_0 rfl (lv_at hl 1 rfl) ?_
  refine lv_iconst (v := 0) S.1 S.2.1 dX7_count_1 (by decide) ?_
  refine lv_bipush (v := 6) S.1 S.2.1 dX7_count_2 (by decide) ?_
  refine cs_i (va_runS (As := [.int x0, .int 0, .int 6]) (rest := []) S (c_X7_in l G _ x0 0 6) (cwS 3 S.2.2.2.2 gX7_count_X7_in rfl rfl rfl (by decide +kernel) ⟨Nat.le_of_ble_eq_true rfl, Nat.le_of_ble_eq_true rfl⟩) ⟨wPre_blind, wPre_at C w [] rfl rfl⟩ rfl rfl hl.1 rfl (lv_room (Nat.le_of_ble_eq_true rfl)) dX7_count_4 ⟨Nat.le_of_ble_eq_true rfl, Nat.le_of_ble_eq_true rfl⟩) (fun r4 h4 => ?_)
  refine w_topi (y := (inF x0 0 6)) h4 ?_
  refine lv_if_eq (tgt := 18) S.1 S.2.1 dX7_count_7 (by decide) (fun c7 => ?_) (fun c7 => ?_)
  · refine lv_aload_n S.1 S.2.1 dX7_count_18 rfl (lv_at hl 0 rfl) ?_
    refine lv_bipush (v := (-2)) S.1 S.2.1 dX7_count_19 (by decide) ?_
    refine cq_i C w [0, 2] [1] [1, 0, 2] (wr := [(mS, .inl (G.2.1 2, 49, .inl fS))]) (w' := fun u : Unit => [(mO, .inr (7, [.ref mS, .ref mD, .ref mR, .ref mT, .int mt, .int ma, .int mn, .ref mW, .ref mQ, .ref mC, .int my, .ref mU, .ref mV, .int mm, .int mf, .int mg])), (mR, .inl (G.2.1 2, 3, .inl (upd fR 0 (fR 0 + 1))))]) (ws2 := fun u : Unit => [(mO, .inr (7, [.ref mS, .ref mD, .ref mR, .ref mT, .int mt, .int ma, .int mn, .ref mW, .ref mQ, .ref mC, .int my, .ref mU, .ref mV, .int mm, .int mf, .int mg])), (mS, .inl (G.2.1 2, 49, .inl fS)), (mR, .inl (G.2.1 2, 3, .inl (upd fR 0 (fR 0 + 1))))]) rfl rfl rfl (by decide) rfl (fun _ => rfl) (va_runV (As := [.int (-2)]) (rest := []) S (c_X7_refuses_B l G mO mR _ mS mD mT mW mQ mC mU mV mt ma mn my mm mf mg fR) (cwV 1 S.2.2.2.2 gX7_count_X7_refuses rfl rfl rfl (by decide +kernel) ⟨Nat.le_of_ble_eq_true rfl, Nat.le_of_ble_eq_true rfl⟩) ⟨wPre_blind, va_recv C.1 w.1 (ci := 7) (q0 := 0) rfl rfl, wPre_at C w [0, 2] rfl rfl⟩ rfl rfl hl.1 rfl (lv_room (Nat.le_of_ble_eq_true rfl)) dX7_count_21 ⟨Nat.le_of_ble_eq_true rfl, Nat.le_of_ble_eq_true rfl⟩) (fun r21 u21 H locs h21 w => ?_)
    have w : Wd G _ s [(mO, .inr (7, [.ref mS, .ref mD, .ref mR, .ref mT, .int mt, .int ma, .int mn, .ref mW, .ref mQ, .ref mC, .int my, .ref mU, .ref mV, .int mm, .int mf, .int mg])), (mS, .inl (G.2.1 2, 49, .inl fS)), (mR, .inl (G.2.1 2, 3, .inl (upd fR 0 (fR 0 + 1))))] H locs := w
    exact W.iret (v := r21) S.1 S.2.1 hr (fun t ht _ => ⟨⟨r21, (upd fR 0 (fR 0 + 1)), rfl, by first | (rw [h21]; simp only [cntM, if_pos c7]; done) | (simp only [cntM, if_pos c7]; done), by rw [ht]; exact w.1, w.2.1⟩, w.2.2.F ht⟩) w.2.2.2.2 dX7_count_24
  · refine lv_aload_n S.1 S.2.1 dX7_count_10 rfl (lv_at hl 0 rfl) ?_
    refine lv_iload_n S.1 S.2.1 dX7_count_11 rfl (lv_at hl 1 rfl) ?_
    refine cs_i (va_runV (As := [.int x0]) (rest := []) S (c_X7_countOf l G mO mS mR _ mD mT mW mQ mC mU mV mt ma mn my mm mf mg fS fR x0) (cwV 1 S.2.2.2.2 gX7_count_X7_countOf rfl rfl rfl (by decide +kernel) ⟨Nat.le_of_ble_eq_true rfl, Nat.le_of_ble_eq_true rfl⟩) ⟨wPre_blind, va_recv C.1 w.1 (ci := 7) (q0 := 0) rfl rfl, wPre_at C w [0, 1, 2] rfl rfl⟩ rfl rfl hl.1 rfl (lv_room (Nat.le_of_ble_eq_true rfl)) dX7_count_12 ⟨Nat.le_of_ble_eq_true rfl, Nat.le_of_ble_eq_true rfl⟩) (fun r12 h12 => ?_)
    refine w_topi (y := (countM fR mt fS x0)) h12 ?_
    refine lv_goto (tgt := 24) S.1 S.2.1 dX7_count_15 (by decide) ?_
    exact W.iret (v := (countM fR mt fS x0)) S.1 S.2.1 hr (fun t ht _ => ⟨⟨(countM fR mt fS x0), fR, rfl, by first | (rw [@h21]; simp only [cntM, if_neg c7]; done) | (simp only [cntM, if_neg c7]; done), by rw [ht]; exact w.1, w.2.1⟩, w.2.2.F ht⟩) w.2.2.2.2 dX7_count_24
theorem im_X7_digest_X7 : ∀ w ∈ u_ws RX7 TX7 16, w ∈ wsX7_digest := by decide +kernel
set_option maxHeartbeats 4000000 in
set_option maxRecDepth 100000 in
theorem n_X7_digest (l : Launch) (G : GT) (mO mS mR : Nat) (sz : Nat) (mD mT mW mQ mC mU mV : Nat) (ma mn my mm mf mg : Int32) : Met l yX7_digest wsX7_digest ({ frames := 1, cells := 0, slots := 0, locals := 21 }) (va_Pc [.ref mO] (wPre G [(mO, .inr (7, [.ref mS, .ref mD, .ref mR, .ref mT, .int 0, .int ma, .int mn, .ref mW, .ref mQ, .ref mC, .int my, .ref mU, .ref mV, .int mm, .int mf, .int mg])), (mS, .inl (G.2.1 2, 49, .inl (fun _ => 0))), (mR, .inl (G.2.1 2, 3, .inl (fun _ => 0)))] sz)) (vp_Sl (fun r : Int64 => r = (-4701137766593857449))) 0 0 (fun _ => False) := by
  refine met_go (cc := cX7_digest) (maxL := 4) (ret := (some .long)) (own := RX7) (by decide) rfl rfl (Nat.le_of_ble_eq_true rfl) ?_
  intro p e s m below meth c ls S hr hlocks hname hsz C w hl
  have hl : lv_has ls 4 [(0, .ref mO)] := hl
  refine lv_ldc2 (own := RX7) (v := 1993) S.1 S.2.1 S.2.2.2.1 (S.2.2.2.2 _ (List.mem_of_getElem? (i := 1) rfl)) dX7_digest_0 ?_
  refine lv_lstore_n (lv' := [(1, .long 1993), (0, .ref mO)]) S.1 S.2.1 dX7_digest_3 rfl hl (by decide) rfl (fun ls hl => ?_)
  refine lv_iconst (v := 0) S.1 S.2.1 dX7_digest_4 (by decide) ?_
  refine lv_istore_n (lv' := [(3, .int 0), (1, .long 1993), (0, .ref mO)]) S.1 S.2.1 dX7_digest_5 rfl hl (by decide) rfl (fun ls hl => ?_)
  refine lv_iload_n S.1 S.2.1 dX7_digest_6 rfl (lv_at hl 0 rfl) ?_
  refine lv_bipush (v := 7) S.1 S.2.1 dX7_digest_7 (by decide) ?_
  refine lv_icmp_ge (tgt := 31) S.1 S.2.1 dX7_digest_9 (by decide) (fun c9 => ?_) (fun c9 => ?_)
  · exact absurd c9 (by decide)
  · refine lv_ldc2 (own := RX7) (v := 31) S.1 S.2.1 S.2.2.2.1 (S.2.2.2.2 _ (List.mem_of_getElem? (i := 2) rfl)) dX7_digest_12 ?_
    refine lv_lload_n S.1 S.2.1 dX7_digest_15 rfl (lv_at hl 1 rfl) ?_
    refine lv_lmul S.1 S.2.1 dX7_digest_16 ?_
    refine w_topl (y := 61783) (by decide) ?_
    refine lv_aload_n S.1 S.2.1 dX7_digest_17 rfl (lv_at hl 2 rfl) ?_
    refine lv_iload_n S.1 S.2.1 dX7_digest_18 rfl (lv_at hl 0 rfl) ?_
    refine cs_i (va_runV (As := [.int 0]) (rest := [.long 61783]) S (c_X7_countOf l G mO mS mR _ mD mT mW mQ mC mU mV 0 ma mn my mm mf mg (fun _ => 0) (fun _ => 0) 0) (cwV 1 S.2.2.2.2 gX7_digest_X7_countOf rfl rfl rfl (by decide +kernel) ⟨Nat.le_of_ble_eq_true rfl, Nat.le_of_ble_eq_true rfl⟩) ⟨wPre_blind, va_recv C.1 w.1 (ci := 7) (q0 := 0) rfl rfl, wPre_at C w [0, 1, 2] rfl rfl⟩ rfl rfl hl.1 rfl (lv_room (Nat.le_of_ble_eq_true rfl)) dX7_digest_19 ⟨Nat.le_of_ble_eq_true rfl, Nat.le_of_ble_eq_true rfl⟩) (fun r19 h19 => ?_)
    refine w_topi (y := 0) (h19.trans (by rfl)) ?_
    refine lv_i2l (v := 0) S.1 S.2.1 dX7_digest_22 (by decide) ?_
    refine lv_ladd S.1 S.2.1 dX7_digest_23 ?_
    refine w_topl (y := 61783) (by decide) ?_
    refine lv_lstore_n (lv' := [(1, .long 61783), (3, .int 0), (0, .ref mO)]) S.1 S.2.1 dX7_digest_24 rfl hl (by decide) rfl (fun ls hl => ?_)
    refine lv_iinc (v := 1) (lv' := [(3, .int 1), (1, .long 61783), (0, .ref mO)]) S.1 S.2.1 dX7_digest_25 hl (k := 1) rfl (by decide) (by decide) rfl (fun ls hl => ?_)
    refine lv_goto (tgt := 6) S.1 S.2.1 dX7_digest_28 (by decide) ?_
    refine lv_iload_n S.1 S.2.1 dX7_digest_6 rfl (lv_at hl 0 rfl) ?_
    refine lv_bipush (v := 7) S.1 S.2.1 dX7_digest_7 (by decide) ?_
    refine lv_icmp_ge (tgt := 31) S.1 S.2.1 dX7_digest_9 (by decide) (fun c9_1 => ?_) (fun c9_1 => ?_)
    · exact absurd c9_1 (by decide)
    · refine lv_ldc2 (own := RX7) (v := 31) S.1 S.2.1 S.2.2.2.1 (S.2.2.2.2 _ (List.mem_of_getElem? (i := 2) rfl)) dX7_digest_12 ?_
      refine lv_lload_n S.1 S.2.1 dX7_digest_15 rfl (lv_at hl 1 rfl) ?_
      refine lv_lmul S.1 S.2.1 dX7_digest_16 ?_
      refine w_topl (y := 1915273) (by decide) ?_
      refine lv_aload_n S.1 S.2.1 dX7_digest_17 rfl (lv_at hl 2 rfl) ?_
      refine lv_iload_n S.1 S.2.1 dX7_digest_18 rfl (lv_at hl 0 rfl) ?_
      refine cs_i (va_runV (As := [.int 1]) (rest := [.long 1915273]) S (c_X7_countOf l G mO mS mR _ mD mT mW mQ mC mU mV 0 ma mn my mm mf mg (fun _ => 0) (fun _ => 0) 1) (cwV 1 S.2.2.2.2 gX7_digest_X7_countOf rfl rfl rfl (by decide +kernel) ⟨Nat.le_of_ble_eq_true rfl, Nat.le_of_ble_eq_true rfl⟩) ⟨wPre_blind, va_recv C.1 w.1 (ci := 7) (q0 := 0) rfl rfl, wPre_at C w [0, 1, 2] rfl rfl⟩ rfl rfl hl.1 rfl (lv_room (Nat.le_of_ble_eq_true rfl)) dX7_digest_19 ⟨Nat.le_of_ble_eq_true rfl, Nat.le_of_ble_eq_true rfl⟩) (fun r19_1 h19_1 => ?_)
      refine w_topi (y := 0) (h19_1.trans (by rfl)) ?_
      refine lv_i2l (v := 0) S.1 S.2.1 dX7_digest_22 (by decide) ?_
      refine lv_ladd S.1 S.2.1 dX7_digest_23 ?_
      refine w_topl (y := 1915273) (by decide) ?_
      refine lv_lstore_n (lv' := [(1, .long 1915273), (3, .int 1), (0, .ref mO)]) S.1 S.2.1 dX7_digest_24 rfl hl (by decide) rfl (fun ls hl => ?_)
      refine lv_iinc (v := 2) (lv' := [(3, .int 2), (1, .long 1915273), (0, .ref mO)]) S.1 S.2.1 dX7_digest_25 hl (k := 1) rfl (by decide) (by decide) rfl (fun ls hl => ?_)
      refine lv_goto (tgt := 6) S.1 S.2.1 dX7_digest_28 (by decide) ?_
      refine lv_iload_n S.1 S.2.1 dX7_digest_6 rfl (lv_at hl 0 rfl) ?_
      refine lv_bipush (v := 7) S.1 S.2.1 dX7_digest_7 (by decide) ?_
      refine lv_icmp_ge (tgt := 31) S.1 S.2.1 dX7_digest_9 (by decide) (fun c9_2 => ?_) (fun c9_2 => ?_)
      · exact absurd c9_2 (by decide)
      · refine lv_ldc2 (own := RX7) (v := 31) S.1 S.2.1 S.2.2.2.1 (S.2.2.2.2 _ (List.mem_of_getElem? (i := 2) rfl)) dX7_digest_12 ?_
        refine lv_lload_n S.1 S.2.1 dX7_digest_15 rfl (lv_at hl 1 rfl) ?_
        refine lv_lmul S.1 S.2.1 dX7_digest_16 ?_
        refine w_topl (y := 59373463) (by decide) ?_
        refine lv_aload_n S.1 S.2.1 dX7_digest_17 rfl (lv_at hl 2 rfl) ?_
        refine lv_iload_n S.1 S.2.1 dX7_digest_18 rfl (lv_at hl 0 rfl) ?_
        refine cs_i (va_runV (As := [.int 2]) (rest := [.long 59373463]) S (c_X7_countOf l G mO mS mR _ mD mT mW mQ mC mU mV 0 ma mn my mm mf mg (fun _ => 0) (fun _ => 0) 2) (cwV 1 S.2.2.2.2 gX7_digest_X7_countOf rfl rfl rfl (by decide +kernel) ⟨Nat.le_of_ble_eq_true rfl, Nat.le_of_ble_eq_true rfl⟩) ⟨wPre_blind, va_recv C.1 w.1 (ci := 7) (q0 := 0) rfl rfl, wPre_at C w [0, 1, 2] rfl rfl⟩ rfl rfl hl.1 rfl (lv_room (Nat.le_of_ble_eq_true rfl)) dX7_digest_19 ⟨Nat.le_of_ble_eq_true rfl, Nat.le_of_ble_eq_true rfl⟩) (fun r19_2 h19_2 => ?_)
        refine w_topi (y := 0) (h19_2.trans (by rfl)) ?_
        refine lv_i2l (v := 0) S.1 S.2.1 dX7_digest_22 (by decide) ?_
        refine lv_ladd S.1 S.2.1 dX7_digest_23 ?_
        refine w_topl (y := 59373463) (by decide) ?_
        refine lv_lstore_n (lv' := [(1, .long 59373463), (3, .int 2), (0, .ref mO)]) S.1 S.2.1 dX7_digest_24 rfl hl (by decide) rfl (fun ls hl => ?_)
        refine lv_iinc (v := 3) (lv' := [(3, .int 3), (1, .long 59373463), (0, .ref mO)]) S.1 S.2.1 dX7_digest_25 hl (k := 1) rfl (by decide) (by decide) rfl (fun ls hl => ?_)
        refine lv_goto (tgt := 6) S.1 S.2.1 dX7_digest_28 (by decide) ?_
        refine lv_iload_n S.1 S.2.1 dX7_digest_6 rfl (lv_at hl 0 rfl) ?_
        refine lv_bipush (v := 7) S.1 S.2.1 dX7_digest_7 (by decide) ?_
        refine lv_icmp_ge (tgt := 31) S.1 S.2.1 dX7_digest_9 (by decide) (fun c9_3 => ?_) (fun c9_3 => ?_)
        · exact absurd c9_3 (by decide)
        · refine lv_ldc2 (own := RX7) (v := 31) S.1 S.2.1 S.2.2.2.1 (S.2.2.2.2 _ (List.mem_of_getElem? (i := 2) rfl)) dX7_digest_12 ?_
          refine lv_lload_n S.1 S.2.1 dX7_digest_15 rfl (lv_at hl 1 rfl) ?_
          refine lv_lmul S.1 S.2.1 dX7_digest_16 ?_
          refine w_topl (y := 1840577353) (by decide) ?_
          refine lv_aload_n S.1 S.2.1 dX7_digest_17 rfl (lv_at hl 2 rfl) ?_
          refine lv_iload_n S.1 S.2.1 dX7_digest_18 rfl (lv_at hl 0 rfl) ?_
          refine cs_i (va_runV (As := [.int 3]) (rest := [.long 1840577353]) S (c_X7_countOf l G mO mS mR _ mD mT mW mQ mC mU mV 0 ma mn my mm mf mg (fun _ => 0) (fun _ => 0) 3) (cwV 1 S.2.2.2.2 gX7_digest_X7_countOf rfl rfl rfl (by decide +kernel) ⟨Nat.le_of_ble_eq_true rfl, Nat.le_of_ble_eq_true rfl⟩) ⟨wPre_blind, va_recv C.1 w.1 (ci := 7) (q0 := 0) rfl rfl, wPre_at C w [0, 1, 2] rfl rfl⟩ rfl rfl hl.1 rfl (lv_room (Nat.le_of_ble_eq_true rfl)) dX7_digest_19 ⟨Nat.le_of_ble_eq_true rfl, Nat.le_of_ble_eq_true rfl⟩) (fun r19_3 h19_3 => ?_)
          refine w_topi (y := 0) (h19_3.trans (by rfl)) ?_
          refine lv_i2l (v := 0) S.1 S.2.1 dX7_digest_22 (by decide) ?_
          refine lv_ladd S.1 S.2.1 dX7_digest_23 ?_
          refine w_topl (y := 1840577353) (by decide) ?_
          refine lv_lstore_n (lv' := [(1, .long 1840577353), (3, .int 3), (0, .ref mO)]) S.1 S.2.1 dX7_digest_24 rfl hl (by decide) rfl (fun ls hl => ?_)
          refine lv_iinc (v := 4) (lv' := [(3, .int 4), (1, .long 1840577353), (0, .ref mO)]) S.1 S.2.1 dX7_digest_25 hl (k := 1) rfl (by decide) (by decide) rfl (fun ls hl => ?_)
          refine lv_goto (tgt := 6) S.1 S.2.1 dX7_digest_28 (by decide) ?_
          refine lv_iload_n S.1 S.2.1 dX7_digest_6 rfl (lv_at hl 0 rfl) ?_
          refine lv_bipush (v := 7) S.1 S.2.1 dX7_digest_7 (by decide) ?_
          refine lv_icmp_ge (tgt := 31) S.1 S.2.1 dX7_digest_9 (by decide) (fun c9_4 => ?_) (fun c9_4 => ?_)
          · exact absurd c9_4 (by decide)
          · refine lv_ldc2 (own := RX7) (v := 31) S.1 S.2.1 S.2.2.2.1 (S.2.2.2.2 _ (List.mem_of_getElem? (i := 2) rfl)) dX7_digest_12 ?_
            refine lv_lload_n S.1 S.2.1 dX7_digest_15 rfl (lv_at hl 1 rfl) ?_
            refine lv_lmul S.1 S.2.1 dX7_digest_16 ?_
            refine w_topl (y := 57057897943) (by decide) ?_
            refine lv_aload_n S.1 S.2.1 dX7_digest_17 rfl (lv_at hl 2 rfl) ?_
            refine lv_iload_n S.1 S.2.1 dX7_digest_18 rfl (lv_at hl 0 rfl) ?_
            refine cs_i (va_runV (As := [.int 4]) (rest := [.long 57057897943]) S (c_X7_countOf l G mO mS mR _ mD mT mW mQ mC mU mV 0 ma mn my mm mf mg (fun _ => 0) (fun _ => 0) 4) (cwV 1 S.2.2.2.2 gX7_digest_X7_countOf rfl rfl rfl (by decide +kernel) ⟨Nat.le_of_ble_eq_true rfl, Nat.le_of_ble_eq_true rfl⟩) ⟨wPre_blind, va_recv C.1 w.1 (ci := 7) (q0 := 0) rfl rfl, wPre_at C w [0, 1, 2] rfl rfl⟩ rfl rfl hl.1 rfl (lv_room (Nat.le_of_ble_eq_true rfl)) dX7_digest_19 ⟨Nat.le_of_ble_eq_true rfl, Nat.le_of_ble_eq_true rfl⟩) (fun r19_4 h19_4 => ?_)
            refine w_topi (y := 0) (h19_4.trans (by rfl)) ?_
            refine lv_i2l (v := 0) S.1 S.2.1 dX7_digest_22 (by decide) ?_
            refine lv_ladd S.1 S.2.1 dX7_digest_23 ?_
            refine w_topl (y := 57057897943) (by decide) ?_
            refine lv_lstore_n (lv' := [(1, .long 57057897943), (3, .int 4), (0, .ref mO)]) S.1 S.2.1 dX7_digest_24 rfl hl (by decide) rfl (fun ls hl => ?_)
            refine lv_iinc (v := 5) (lv' := [(3, .int 5), (1, .long 57057897943), (0, .ref mO)]) S.1 S.2.1 dX7_digest_25 hl (k := 1) rfl (by decide) (by decide) rfl (fun ls hl => ?_)
            refine lv_goto (tgt := 6) S.1 S.2.1 dX7_digest_28 (by decide) ?_
            refine lv_iload_n S.1 S.2.1 dX7_digest_6 rfl (lv_at hl 0 rfl) ?_
            refine lv_bipush (v := 7) S.1 S.2.1 dX7_digest_7 (by decide) ?_
            refine lv_icmp_ge (tgt := 31) S.1 S.2.1 dX7_digest_9 (by decide) (fun c9_5 => ?_) (fun c9_5 => ?_)
            · exact absurd c9_5 (by decide)
            · refine lv_ldc2 (own := RX7) (v := 31) S.1 S.2.1 S.2.2.2.1 (S.2.2.2.2 _ (List.mem_of_getElem? (i := 2) rfl)) dX7_digest_12 ?_
              refine lv_lload_n S.1 S.2.1 dX7_digest_15 rfl (lv_at hl 1 rfl) ?_
              refine lv_lmul S.1 S.2.1 dX7_digest_16 ?_
              refine w_topl (y := 1768794836233) (by decide) ?_
              refine lv_aload_n S.1 S.2.1 dX7_digest_17 rfl (lv_at hl 2 rfl) ?_
              refine lv_iload_n S.1 S.2.1 dX7_digest_18 rfl (lv_at hl 0 rfl) ?_
              refine cs_i (va_runV (As := [.int 5]) (rest := [.long 1768794836233]) S (c_X7_countOf l G mO mS mR _ mD mT mW mQ mC mU mV 0 ma mn my mm mf mg (fun _ => 0) (fun _ => 0) 5) (cwV 1 S.2.2.2.2 gX7_digest_X7_countOf rfl rfl rfl (by decide +kernel) ⟨Nat.le_of_ble_eq_true rfl, Nat.le_of_ble_eq_true rfl⟩) ⟨wPre_blind, va_recv C.1 w.1 (ci := 7) (q0 := 0) rfl rfl, wPre_at C w [0, 1, 2] rfl rfl⟩ rfl rfl hl.1 rfl (lv_room (Nat.le_of_ble_eq_true rfl)) dX7_digest_19 ⟨Nat.le_of_ble_eq_true rfl, Nat.le_of_ble_eq_true rfl⟩) (fun r19_5 h19_5 => ?_)
              refine w_topi (y := 0) (h19_5.trans (by rfl)) ?_
              refine lv_i2l (v := 0) S.1 S.2.1 dX7_digest_22 (by decide) ?_
              refine lv_ladd S.1 S.2.1 dX7_digest_23 ?_
              refine w_topl (y := 1768794836233) (by decide) ?_
              refine lv_lstore_n (lv' := [(1, .long 1768794836233), (3, .int 5), (0, .ref mO)]) S.1 S.2.1 dX7_digest_24 rfl hl (by decide) rfl (fun ls hl => ?_)
              refine lv_iinc (v := 6) (lv' := [(3, .int 6), (1, .long 1768794836233), (0, .ref mO)]) S.1 S.2.1 dX7_digest_25 hl (k := 1) rfl (by decide) (by decide) rfl (fun ls hl => ?_)
              refine lv_goto (tgt := 6) S.1 S.2.1 dX7_digest_28 (by decide) ?_
              refine lv_iload_n S.1 S.2.1 dX7_digest_6 rfl (lv_at hl 0 rfl) ?_
              refine lv_bipush (v := 7) S.1 S.2.1 dX7_digest_7 (by decide) ?_
              refine lv_icmp_ge (tgt := 31) S.1 S.2.1 dX7_digest_9 (by decide) (fun c9_6 => ?_) (fun c9_6 => ?_)
              · exact absurd c9_6 (by decide)
              · refine lv_ldc2 (own := RX7) (v := 31) S.1 S.2.1 S.2.2.2.1 (S.2.2.2.2 _ (List.mem_of_getElem? (i := 2) rfl)) dX7_digest_12 ?_
                refine lv_lload_n S.1 S.2.1 dX7_digest_15 rfl (lv_at hl 1 rfl) ?_
                refine lv_lmul S.1 S.2.1 dX7_digest_16 ?_
                refine w_topl (y := 54832639923223) (by decide) ?_
                refine lv_aload_n S.1 S.2.1 dX7_digest_17 rfl (lv_at hl 2 rfl) ?_
                refine lv_iload_n S.1 S.2.1 dX7_digest_18 rfl (lv_at hl 0 rfl) ?_
                refine cs_i (va_runV (As := [.int 6]) (rest := [.long 54832639923223]) S (c_X7_countOf l G mO mS mR _ mD mT mW mQ mC mU mV 0 ma mn my mm mf mg (fun _ => 0) (fun _ => 0) 6) (cwV 1 S.2.2.2.2 gX7_digest_X7_countOf rfl rfl rfl (by decide +kernel) ⟨Nat.le_of_ble_eq_true rfl, Nat.le_of_ble_eq_true rfl⟩) ⟨wPre_blind, va_recv C.1 w.1 (ci := 7) (q0 := 0) rfl rfl, wPre_at C w [0, 1, 2] rfl rfl⟩ rfl rfl hl.1 rfl (lv_room (Nat.le_of_ble_eq_true rfl)) dX7_digest_19 ⟨Nat.le_of_ble_eq_true rfl, Nat.le_of_ble_eq_true rfl⟩) (fun r19_6 h19_6 => ?_)
                refine w_topi (y := 0) (h19_6.trans (by rfl)) ?_
                refine lv_i2l (v := 0) S.1 S.2.1 dX7_digest_22 (by decide) ?_
                refine lv_ladd S.1 S.2.1 dX7_digest_23 ?_
                refine w_topl (y := 54832639923223) (by decide) ?_
                refine lv_lstore_n (lv' := [(1, .long 54832639923223), (3, .int 6), (0, .ref mO)]) S.1 S.2.1 dX7_digest_24 rfl hl (by decide) rfl (fun ls hl => ?_)
                refine lv_iinc (v := 7) (lv' := [(3, .int 7), (1, .long 54832639923223), (0, .ref mO)]) S.1 S.2.1 dX7_digest_25 hl (k := 1) rfl (by decide) (by decide) rfl (fun ls hl => ?_)
                refine lv_goto (tgt := 6) S.1 S.2.1 dX7_digest_28 (by decide) ?_
                refine lv_iload_n S.1 S.2.1 dX7_digest_6 rfl (lv_at hl 0 rfl) ?_
                refine lv_bipush (v := 7) S.1 S.2.1 dX7_digest_7 (by decide) ?_
                refine lv_icmp_ge (tgt := 31) S.1 S.2.1 dX7_digest_9 (by decide) (fun c9_7 => ?_) (fun c9_7 => ?_)
                · refine lv_iconst (v := 0) S.1 S.2.1 dX7_digest_31 (by decide) ?_
                  refine lv_istore_n (lv' := [(3, .int 0), (1, .long 54832639923223), (0, .ref mO)]) S.1 S.2.1 dX7_digest_32 rfl hl (by decide) rfl (fun ls hl => ?_)
                  refine lv_iload_n S.1 S.2.1 dX7_digest_33 rfl (lv_at hl 0 rfl) ?_
                  refine lv_aload_n S.1 S.2.1 dX7_digest_34 rfl (lv_at hl 2 rfl) ?_
                  refine w_get S C w (CC := RX7) (T := TX7) (N := 16) (ref := "GateSumsModel") im_X7_digest_X7 0 rfl rfl 0 (by decide) (List.mem_of_getElem? (i := 3) rfl) (fun _ h => h) rfl dX7_digest_35 ?_
                  refine lv_iconst (v := 1) S.1 S.2.1 dX7_digest_38 (by decide) ?_
                  refine w_iald S C w 1 rfl (by unfold vp_in; decide) dX7_digest_39 ?_
                  refine w_topi (y := 0) (rfl) ?_
                  refine lv_icmp_ge (tgt := 100) S.1 S.2.1 dX7_digest_40 (by decide) (fun c40 => ?_) (fun c40 => ?_)
                  · refine lv_iconst (v := 0) S.1 S.2.1 dX7_digest_100 (by decide) ?_
                    refine lv_istore_n (lv' := [(3, .int 0), (1, .long 54832639923223), (0, .ref mO)]) S.1 S.2.1 dX7_digest_101 rfl hl (by decide) rfl (fun ls hl => ?_)
                    refine lv_iload_n S.1 S.2.1 dX7_digest_102 rfl (lv_at hl 0 rfl) ?_
                    refine lv_aload_n S.1 S.2.1 dX7_digest_103 rfl (lv_at hl 2 rfl) ?_
                    refine w_get S C w (CC := RX7) (T := TX7) (N := 16) (ref := "GateSumsModel") im_X7_digest_X7 0 rfl rfl 0 (by decide) (List.mem_of_getElem? (i := 3) rfl) (fun _ h => h) rfl dX7_digest_104 ?_
                    refine lv_iconst (v := 2) S.1 S.2.1 dX7_digest_107 (by decide) ?_
                    refine w_iald S C w 1 rfl (by unfold vp_in; decide) dX7_digest_108 ?_
                    refine w_topi (y := 0) (rfl) ?_
                    refine lv_icmp_ge (tgt := 135) S.1 S.2.1 dX7_digest_109 (by decide) (fun c109 => ?_) (fun c109 => ?_)
                    · refine lv_iconst (v := 3) S.1 S.2.1 dX7_digest_135 (by decide) ?_
                      refine lv_istore_n (lv' := [(3, .int 3), (1, .long 54832639923223), (0, .ref mO)]) S.1 S.2.1 dX7_digest_136 rfl hl (by decide) rfl (fun ls hl => ?_)
                      refine lv_iload_n S.1 S.2.1 dX7_digest_137 rfl (lv_at hl 0 rfl) ?_
                      refine lv_iconst (v := 5) S.1 S.2.1 dX7_digest_138 (by decide) ?_
                      refine lv_icmp_gt (tgt := 173) S.1 S.2.1 dX7_digest_139 (by decide) (fun c139 => ?_) (fun c139 => ?_)
                      · exact absurd c139 (by decide)
                      · refine lv_ldc2 (own := RX7) (v := 31) S.1 S.2.1 S.2.2.2.1 (S.2.2.2.2 _ (List.mem_of_getElem? (i := 2) rfl)) dX7_digest_142 ?_
                        refine lv_lload_n S.1 S.2.1 dX7_digest_145 rfl (lv_at hl 1 rfl) ?_
                        refine lv_lmul S.1 S.2.1 dX7_digest_146 ?_
                        refine w_topl (y := 1699811837619913) (by decide) ?_
                        refine lv_aload_n S.1 S.2.1 dX7_digest_147 rfl (lv_at hl 2 rfl) ?_
                        refine cs_i (va_runV (As := []) (rest := [.long 1699811837619913]) S (c_X7_isThere l G mO mS _ mD mR mT mW mQ mC mU mV 0 ma mn my mm mf mg (fun _ => 0)) (cwV 0 S.2.2.2.2 gX7_digest_X7_isThere rfl rfl rfl (by decide +kernel) ⟨Nat.le_of_ble_eq_true rfl, Nat.le_of_ble_eq_true rfl⟩) ⟨wPre_blind, va_recv C.1 w.1 (ci := 7) (q0 := 0) rfl rfl, wPre_at C w [0, 1] rfl rfl⟩ rfl rfl hl.1 rfl (lv_room (Nat.le_of_ble_eq_true rfl)) dX7_digest_148 ⟨Nat.le_of_ble_eq_true rfl, Nat.le_of_ble_eq_true rfl⟩) (fun r148 h148 => ?_)
                        refine w_topi (y := 0) (h148.trans (by rfl)) ?_
                        refine lv_if_eq (tgt := 163) S.1 S.2.1 dX7_digest_151 (by decide) (fun c151 => ?_) (fun c151 => ?_)
                        · refine lv_iconst (v := (-1)) S.1 S.2.1 dX7_digest_163 (by decide) ?_
                          refine lv_i2l (v := (-1)) S.1 S.2.1 dX7_digest_164 (by decide) ?_
                          refine lv_ladd S.1 S.2.1 dX7_digest_165 ?_
                          refine w_topl (y := 1699811837619912) (by decide) ?_
                          refine lv_lstore_n (lv' := [(1, .long 1699811837619912), (3, .int 3), (0, .ref mO)]) S.1 S.2.1 dX7_digest_166 rfl hl (by decide) rfl (fun ls hl => ?_)
                          refine lv_iinc (v := 4) (lv' := [(3, .int 4), (1, .long 1699811837619912), (0, .ref mO)]) S.1 S.2.1 dX7_digest_167 hl (k := 1) rfl (by decide) (by decide) rfl (fun ls hl => ?_)
                          refine lv_goto (tgt := 137) S.1 S.2.1 dX7_digest_170 (by decide) ?_
                          refine lv_iload_n S.1 S.2.1 dX7_digest_137 rfl (lv_at hl 0 rfl) ?_
                          refine lv_iconst (v := 5) S.1 S.2.1 dX7_digest_138 (by decide) ?_
                          refine lv_icmp_gt (tgt := 173) S.1 S.2.1 dX7_digest_139 (by decide) (fun c139_1 => ?_) (fun c139_1 => ?_)
                          · exact absurd c139_1 (by decide)
                          · refine lv_ldc2 (own := RX7) (v := 31) S.1 S.2.1 S.2.2.2.1 (S.2.2.2.2 _ (List.mem_of_getElem? (i := 2) rfl)) dX7_digest_142 ?_
                            refine lv_lload_n S.1 S.2.1 dX7_digest_145 rfl (lv_at hl 1 rfl) ?_
                            refine lv_lmul S.1 S.2.1 dX7_digest_146 ?_
                            refine w_topl (y := 52694166966217272) (by decide) ?_
                            refine lv_aload_n S.1 S.2.1 dX7_digest_147 rfl (lv_at hl 2 rfl) ?_
                            refine cs_i (va_runV (As := []) (rest := [.long 52694166966217272]) S (c_X7_isThere l G mO mS _ mD mR mT mW mQ mC mU mV 0 ma mn my mm mf mg (fun _ => 0)) (cwV 0 S.2.2.2.2 gX7_digest_X7_isThere rfl rfl rfl (by decide +kernel) ⟨Nat.le_of_ble_eq_true rfl, Nat.le_of_ble_eq_true rfl⟩) ⟨wPre_blind, va_recv C.1 w.1 (ci := 7) (q0 := 0) rfl rfl, wPre_at C w [0, 1] rfl rfl⟩ rfl rfl hl.1 rfl (lv_room (Nat.le_of_ble_eq_true rfl)) dX7_digest_148 ⟨Nat.le_of_ble_eq_true rfl, Nat.le_of_ble_eq_true rfl⟩) (fun r148_1 h148_1 => ?_)
                            refine w_topi (y := 0) (h148_1.trans (by rfl)) ?_
                            refine lv_if_eq (tgt := 163) S.1 S.2.1 dX7_digest_151 (by decide) (fun c151_1 => ?_) (fun c151_1 => ?_)
                            · refine lv_iconst (v := (-1)) S.1 S.2.1 dX7_digest_163 (by decide) ?_
                              refine lv_i2l (v := (-1)) S.1 S.2.1 dX7_digest_164 (by decide) ?_
                              refine lv_ladd S.1 S.2.1 dX7_digest_165 ?_
                              refine w_topl (y := 52694166966217271) (by decide) ?_
                              refine lv_lstore_n (lv' := [(1, .long 52694166966217271), (3, .int 4), (0, .ref mO)]) S.1 S.2.1 dX7_digest_166 rfl hl (by decide) rfl (fun ls hl => ?_)
                              refine lv_iinc (v := 5) (lv' := [(3, .int 5), (1, .long 52694166966217271), (0, .ref mO)]) S.1 S.2.1 dX7_digest_167 hl (k := 1) rfl (by decide) (by decide) rfl (fun ls hl => ?_)
                              refine lv_goto (tgt := 137) S.1 S.2.1 dX7_digest_170 (by decide) ?_
                              refine lv_iload_n S.1 S.2.1 dX7_digest_137 rfl (lv_at hl 0 rfl) ?_
                              refine lv_iconst (v := 5) S.1 S.2.1 dX7_digest_138 (by decide) ?_
                              refine lv_icmp_gt (tgt := 173) S.1 S.2.1 dX7_digest_139 (by decide) (fun c139_2 => ?_) (fun c139_2 => ?_)
                              · exact absurd c139_2 (by decide)
                              · refine lv_ldc2 (own := RX7) (v := 31) S.1 S.2.1 S.2.2.2.1 (S.2.2.2.2 _ (List.mem_of_getElem? (i := 2) rfl)) dX7_digest_142 ?_
                                refine lv_lload_n S.1 S.2.1 dX7_digest_145 rfl (lv_at hl 1 rfl) ?_
                                refine lv_lmul S.1 S.2.1 dX7_digest_146 ?_
                                refine w_topl (y := 1633519175952735401) (by decide) ?_
                                refine lv_aload_n S.1 S.2.1 dX7_digest_147 rfl (lv_at hl 2 rfl) ?_
                                refine cs_i (va_runV (As := []) (rest := [.long 1633519175952735401]) S (c_X7_isThere l G mO mS _ mD mR mT mW mQ mC mU mV 0 ma mn my mm mf mg (fun _ => 0)) (cwV 0 S.2.2.2.2 gX7_digest_X7_isThere rfl rfl rfl (by decide +kernel) ⟨Nat.le_of_ble_eq_true rfl, Nat.le_of_ble_eq_true rfl⟩) ⟨wPre_blind, va_recv C.1 w.1 (ci := 7) (q0 := 0) rfl rfl, wPre_at C w [0, 1] rfl rfl⟩ rfl rfl hl.1 rfl (lv_room (Nat.le_of_ble_eq_true rfl)) dX7_digest_148 ⟨Nat.le_of_ble_eq_true rfl, Nat.le_of_ble_eq_true rfl⟩) (fun r148_2 h148_2 => ?_)
                                refine w_topi (y := 0) (h148_2.trans (by rfl)) ?_
                                refine lv_if_eq (tgt := 163) S.1 S.2.1 dX7_digest_151 (by decide) (fun c151_2 => ?_) (fun c151_2 => ?_)
                                · refine lv_iconst (v := (-1)) S.1 S.2.1 dX7_digest_163 (by decide) ?_
                                  refine lv_i2l (v := (-1)) S.1 S.2.1 dX7_digest_164 (by decide) ?_
                                  refine lv_ladd S.1 S.2.1 dX7_digest_165 ?_
                                  refine w_topl (y := 1633519175952735400) (by decide) ?_
                                  refine lv_lstore_n (lv' := [(1, .long 1633519175952735400), (3, .int 5), (0, .ref mO)]) S.1 S.2.1 dX7_digest_166 rfl hl (by decide) rfl (fun ls hl => ?_)
                                  refine lv_iinc (v := 6) (lv' := [(3, .int 6), (1, .long 1633519175952735400), (0, .ref mO)]) S.1 S.2.1 dX7_digest_167 hl (k := 1) rfl (by decide) (by decide) rfl (fun ls hl => ?_)
                                  refine lv_goto (tgt := 137) S.1 S.2.1 dX7_digest_170 (by decide) ?_
                                  refine lv_iload_n S.1 S.2.1 dX7_digest_137 rfl (lv_at hl 0 rfl) ?_
                                  refine lv_iconst (v := 5) S.1 S.2.1 dX7_digest_138 (by decide) ?_
                                  refine lv_icmp_gt (tgt := 173) S.1 S.2.1 dX7_digest_139 (by decide) (fun c139_3 => ?_) (fun c139_3 => ?_)
                                  · refine lv_ldc2 (own := RX7) (v := 31) S.1 S.2.1 S.2.2.2.1 (S.2.2.2.2 _ (List.mem_of_getElem? (i := 2) rfl)) dX7_digest_173 ?_
                                    refine lv_lload_n S.1 S.2.1 dX7_digest_176 rfl (lv_at hl 1 rfl) ?_
                                    refine lv_lmul S.1 S.2.1 dX7_digest_177 ?_
                                    refine w_topl (y := (-4701137766593857448)) (by decide) ?_
                                    refine lv_aload_n S.1 S.2.1 dX7_digest_178 rfl (lv_at hl 2 rfl) ?_
                                    refine cs_i (va_runV (As := []) (rest := [.long (-4701137766593857448)]) S (c_X7_isThere l G mO mS _ mD mR mT mW mQ mC mU mV 0 ma mn my mm mf mg (fun _ => 0)) (cwV 0 S.2.2.2.2 gX7_digest_X7_isThere rfl rfl rfl (by decide +kernel) ⟨Nat.le_of_ble_eq_true rfl, Nat.le_of_ble_eq_true rfl⟩) ⟨wPre_blind, va_recv C.1 w.1 (ci := 7) (q0 := 0) rfl rfl, wPre_at C w [0, 1] rfl rfl⟩ rfl rfl hl.1 rfl (lv_room (Nat.le_of_ble_eq_true rfl)) dX7_digest_179 ⟨Nat.le_of_ble_eq_true rfl, Nat.le_of_ble_eq_true rfl⟩) (fun r179 h179 => ?_)
                                    refine w_topi (y := 0) (h179.trans (by rfl)) ?_
                                    refine lv_if_eq (tgt := 193) S.1 S.2.1 dX7_digest_182 (by decide) (fun c182 => ?_) (fun c182 => ?_)
                                    · refine lv_iconst (v := (-1)) S.1 S.2.1 dX7_digest_193 (by decide) ?_
                                      refine lv_i2l (v := (-1)) S.1 S.2.1 dX7_digest_194 (by decide) ?_
                                      refine lv_ladd S.1 S.2.1 dX7_digest_195 ?_
                                      refine w_topl (y := (-4701137766593857449)) (by decide) ?_
                                      exact W.lret (v := (-4701137766593857449)) S.1 S.2.1 hr (fun t ht _ => ⟨(-4701137766593857449), rfl, rfl, ht⟩) (fun q h => absurd h List.not_mem_nil) dX7_digest_196
                                    · exact absurd c182 (by decide)
                                  · exact absurd c139_3 (by decide)
                                · exact absurd c151_2 (by decide)
                            · exact absurd c151_1 (by decide)
                        · exact absurd c151 (by decide)
                    · exact absurd c109 (by decide)
                  · exact absurd c40 (by decide)
                · exact absurd c9_7 (by decide)
