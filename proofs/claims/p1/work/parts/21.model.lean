set_option maxHeartbeats 4000000 in
set_option maxRecDepth 100000 in
theorem c_X7_in (l : Launch) (G : GT) (sz : Nat) (i0 lo hi : Int32) : Met l yX7_in wsX7_in ({ frames := 0, cells := 0, slots := 0, locals := 0 }) (va_Pc [.int i0, .int lo, .int hi] (wPre G [] sz)) (vp_Si (fun r : Int32 => r = (inF i0 lo hi))) 0 0 (fun _ => False) := by
  refine met_go (cc := cX7_in) (maxL := 3) (ret := (some .boolean)) (own := RX7) (by decide) rfl rfl (Nat.le_of_ble_eq_true rfl) ?_
  intro p e s m below meth c ls S hr hlocks hname hsz C w hl
  have hl : lv_has ls 3 [(0, .int i0), (1, .int lo), (2, .int hi)] := hl
  refine lv_iload_n S.1 S.2.1 dX7_in_0 rfl (lv_at hl 0 rfl) ?_
  refine lv_iload_n S.1 S.2.1 dX7_in_1 rfl (lv_at hl 1 rfl) ?_
  refine lv_icmp_lt (tgt := 14) S.1 S.2.1 dX7_in_2 (by decide) (fun c2 => ?_) (fun c2 => ?_)
  · refine lv_iconst (v := 0) S.1 S.2.1 dX7_in_14 (by decide) ?_
    exact W.zret (v := 0) S.1 S.2.1 hr (rfl) (fun t ht _ => ⟨0, rfl, by simp only [inF, if_pos c2], ht⟩) (fun q h => absurd h List.not_mem_nil) dX7_in_15
  · refine lv_iload_n S.1 S.2.1 dX7_in_5 rfl (lv_at hl 0 rfl) ?_
    refine lv_iload_n S.1 S.2.1 dX7_in_6 rfl (lv_at hl 2 rfl) ?_
    refine lv_icmp_gt (tgt := 14) S.1 S.2.1 dX7_in_7 (by decide) (fun c7 => ?_) (fun c7 => ?_)
    · refine lv_iconst (v := 0) S.1 S.2.1 dX7_in_14 (by decide) ?_
      exact W.zret (v := 0) S.1 S.2.1 hr (rfl) (fun t ht _ => ⟨0, rfl, by simp only [inF, if_neg c2, if_pos c7], ht⟩) (fun q h => absurd h List.not_mem_nil) dX7_in_15
    · refine lv_iconst (v := 1) S.1 S.2.1 dX7_in_10 (by decide) ?_
      refine lv_goto (tgt := 15) S.1 S.2.1 dX7_in_11 (by decide) ?_
      exact W.zret (v := 1) S.1 S.2.1 hr (rfl) (fun t ht _ => ⟨1, rfl, by simp only [inF, if_neg c2, if_neg c7], ht⟩) (fun q h => absurd h List.not_mem_nil) dX7_in_15
theorem im_X7_refuses_X7 : ∀ w ∈ u_ws RX7 TX7 16, w ∈ wsX7_refuses := by decide +kernel
set_option maxHeartbeats 4000000 in
set_option maxRecDepth 100000 in
theorem c_X7_refuses_B (l : Launch) (G : GT) (mO mR : Nat) (sz : Nat) (mS mD mT mW mQ mC mU mV : Nat) (mt ma mn my mm mf mg : Int32) (fR : Nat → Int32) : Met l yX7_refuses wsX7_refuses ({ frames := 0, cells := 0, slots := 0, locals := 0 }) (va_Pc [.ref mO, .int (-2)] (wPre G [(mO, .inr (7, [.ref mS, .ref mD, .ref mR, .ref mT, .int mt, .int ma, .int mn, .ref mW, .ref mQ, .ref mC, .int my, .ref mU, .ref mV, .int mm, .int mf, .int mg])), (mR, .inl (G.2.1 2, 3, .inl fR))] sz)) (va_Qi (fun (r : Int32) (u : Unit) => r = (-2)) (bW G (va_A [(mO, .inr (7, [.ref mS, .ref mD, .ref mR, .ref mT, .int mt, .int ma, .int mn, .ref mW, .ref mQ, .ref mC, .int my, .ref mU, .ref mV, .int mm, .int mf, .int mg])), (mR, .inl (G.2.1 2, 3, .inl fR))] sz) (fun u : Unit => [(mO, .inr (7, [.ref mS, .ref mD, .ref mR, .ref mT, .int mt, .int ma, .int mn, .ref mW, .ref mQ, .ref mC, .int my, .ref mU, .ref mV, .int mm, .int mf, .int mg])), (mR, .inl (G.2.1 2, 3, .inl (upd fR 0 (fR 0 + 1))))])) (va_A [(mO, .inr (7, [.ref mS, .ref mD, .ref mR, .ref mT, .int mt, .int ma, .int mn, .ref mW, .ref mQ, .ref mC, .int my, .ref mU, .ref mV, .int mm, .int mf, .int mg])), (mR, .inl (G.2.1 2, 3, .inl fR))] sz)) 0 0 (va_A [(mO, .inr (7, [.ref mS, .ref mD, .ref mR, .ref mT, .int mt, .int ma, .int mn, .ref mW, .ref mQ, .ref mC, .int my, .ref mU, .ref mV, .int mm, .int mf, .int mg])), (mR, .inl (G.2.1 2, 3, .inl fR))] sz) := by
  refine met_go (cc := cX7_refuses) (maxL := 2) (ret := (some .int)) (own := RX7) (by decide) rfl rfl (Nat.le_of_ble_eq_true rfl) ?_
  intro p e s m below meth c ls S hr hlocks hname hsz C w hl
  have hl : lv_has ls 2 [(0, .ref mO), (1, .int (-2))] := hl
  refine lv_aload_n S.1 S.2.1 dX7_refuses_0 rfl (lv_at hl 0 rfl) ?_
  refine w_get S C w (CC := RX7) (T := TX7) (N := 16) (ref := "GateSumsModel") im_X7_refuses_X7 0 rfl rfl 2 (by decide) (List.mem_of_getElem? (i := 1) rfl) (fun _ h => h) rfl dX7_refuses_1 ?_
  refine lv_bipush (v := (-2)) S.1 S.2.1 dX7_refuses_4 (by decide) ?_
  refine lv_iload_n S.1 S.2.1 dX7_refuses_6 rfl (lv_at hl 1 rfl) ?_
  refine lv_isub S.1 S.2.1 dX7_refuses_7 ?_
  refine w_topi (y := 0) (by decide) ?_
  refine lv_dup2_11 S.1 S.2.1 dX7_refuses_8 rfl rfl ?_
  refine w_iald S C w 1 rfl (by unfold vp_in; decide) dX7_refuses_9 ?_
  refine lv_iconst (v := 1) S.1 S.2.1 dX7_refuses_10 (by decide) ?_
  refine lv_iadd S.1 S.2.1 dX7_refuses_11 ?_
  refine w_iast S C w 1 rfl (by unfold vp_in; decide) (ws2 := [(mO, .inr (7, [.ref mS, .ref mD, .ref mR, .ref mT, .int mt, .int ma, .int mn, .ref mW, .ref mQ, .ref mC, .int my, .ref mU, .ref mV, .int mm, .int mf, .int mg])), (mR, .inl (G.2.1 2, 3, .inl (upd fR (0 : Int32).toNatClampNeg ((fR (0 : Int32).toNatClampNeg) + 1))))]) rfl dX7_refuses_12 (fun H locs w => ?_)
  refine lv_iload_n S.1 S.2.1 dX7_refuses_13 rfl (lv_at hl 1 rfl) ?_
  have w : Wd G (va_A [(mO, .inr (7, [.ref mS, .ref mD, .ref mR, .ref mT, .int mt, .int ma, .int mn, .ref mW, .ref mQ, .ref mC, .int my, .ref mU, .ref mV, .int mm, .int mf, .int mg])), (mR, .inl (G.2.1 2, 3, .inl fR))] sz) s [(mO, .inr (7, [.ref mS, .ref mD, .ref mR, .ref mT, .int mt, .int ma, .int mn, .ref mW, .ref mQ, .ref mC, .int my, .ref mU, .ref mV, .int mm, .int mf, .int mg])), (mR, .inl (G.2.1 2, 3, .inl (upd fR 0 (fR 0 + 1))))] H locs := w
  exact W.iret (v := (-2)) S.1 S.2.1 hr (fun t ht _ => ⟨⟨(-2), (), rfl, rfl, by rw [ht]; exact w.1, w.2.1⟩, w.2.2.F ht⟩) w.2.2.2.2 dX7_refuses_14
set_option maxHeartbeats 4000000 in
set_option maxRecDepth 100000 in
theorem c_X7_refuses_N (l : Launch) (G : GT) (mO mR : Nat) (sz : Nat) (mS mD mT mW mQ mC mU mV : Nat) (mt ma mn my mm mf mg : Int32) (fR : Nat → Int32) : Met l yX7_refuses wsX7_refuses ({ frames := 0, cells := 0, slots := 0, locals := 0 }) (va_Pc [.ref mO, .int (-3)] (wPre G [(mO, .inr (7, [.ref mS, .ref mD, .ref mR, .ref mT, .int mt, .int ma, .int mn, .ref mW, .ref mQ, .ref mC, .int my, .ref mU, .ref mV, .int mm, .int mf, .int mg])), (mR, .inl (G.2.1 2, 3, .inl fR))] sz)) (va_Qi (fun (r : Int32) (u : Unit) => r = (-3)) (bW G (va_A [(mO, .inr (7, [.ref mS, .ref mD, .ref mR, .ref mT, .int mt, .int ma, .int mn, .ref mW, .ref mQ, .ref mC, .int my, .ref mU, .ref mV, .int mm, .int mf, .int mg])), (mR, .inl (G.2.1 2, 3, .inl fR))] sz) (fun u : Unit => [(mO, .inr (7, [.ref mS, .ref mD, .ref mR, .ref mT, .int mt, .int ma, .int mn, .ref mW, .ref mQ, .ref mC, .int my, .ref mU, .ref mV, .int mm, .int mf, .int mg])), (mR, .inl (G.2.1 2, 3, .inl (upd fR 1 (fR 1 + 1))))])) (va_A [(mO, .inr (7, [.ref mS, .ref mD, .ref mR, .ref mT, .int mt, .int ma, .int mn, .ref mW, .ref mQ, .ref mC, .int my, .ref mU, .ref mV, .int mm, .int mf, .int mg])), (mR, .inl (G.2.1 2, 3, .inl fR))] sz)) 0 0 (va_A [(mO, .inr (7, [.ref mS, .ref mD, .ref mR, .ref mT, .int mt, .int ma, .int mn, .ref mW, .ref mQ, .ref mC, .int my, .ref mU, .ref mV, .int mm, .int mf, .int mg])), (mR, .inl (G.2.1 2, 3, .inl fR))] sz) := by
  refine met_go (cc := cX7_refuses) (maxL := 2) (ret := (some .int)) (own := RX7) (by decide) rfl rfl (Nat.le_of_ble_eq_true rfl) ?_
  intro p e s m below meth c ls S hr hlocks hname hsz C w hl
  have hl : lv_has ls 2 [(0, .ref mO), (1, .int (-3))] := hl
  refine lv_aload_n S.1 S.2.1 dX7_refuses_0 rfl (lv_at hl 0 rfl) ?_
  refine w_get S C w (CC := RX7) (T := TX7) (N := 16) (ref := "GateSumsModel") im_X7_refuses_X7 0 rfl rfl 2 (by decide) (List.mem_of_getElem? (i := 1) rfl) (fun _ h => h) rfl dX7_refuses_1 ?_
  refine lv_bipush (v := (-2)) S.1 S.2.1 dX7_refuses_4 (by decide) ?_
  refine lv_iload_n S.1 S.2.1 dX7_refuses_6 rfl (lv_at hl 1 rfl) ?_
  refine lv_isub S.1 S.2.1 dX7_refuses_7 ?_
  refine w_topi (y := 1) (by decide) ?_
  refine lv_dup2_11 S.1 S.2.1 dX7_refuses_8 rfl rfl ?_
  refine w_iald S C w 1 rfl (by unfold vp_in; decide) dX7_refuses_9 ?_
  refine lv_iconst (v := 1) S.1 S.2.1 dX7_refuses_10 (by decide) ?_
  refine lv_iadd S.1 S.2.1 dX7_refuses_11 ?_
  refine w_iast S C w 1 rfl (by unfold vp_in; decide) (ws2 := [(mO, .inr (7, [.ref mS, .ref mD, .ref mR, .ref mT, .int mt, .int ma, .int mn, .ref mW, .ref mQ, .ref mC, .int my, .ref mU, .ref mV, .int mm, .int mf, .int mg])), (mR, .inl (G.2.1 2, 3, .inl (upd fR (1 : Int32).toNatClampNeg ((fR (1 : Int32).toNatClampNeg) + 1))))]) rfl dX7_refuses_12 (fun H locs w => ?_)
  refine lv_iload_n S.1 S.2.1 dX7_refuses_13 rfl (lv_at hl 1 rfl) ?_
  have w : Wd G (va_A [(mO, .inr (7, [.ref mS, .ref mD, .ref mR, .ref mT, .int mt, .int ma, .int mn, .ref mW, .ref mQ, .ref mC, .int my, .ref mU, .ref mV, .int mm, .int mf, .int mg])), (mR, .inl (G.2.1 2, 3, .inl fR))] sz) s [(mO, .inr (7, [.ref mS, .ref mD, .ref mR, .ref mT, .int mt, .int ma, .int mn, .ref mW, .ref mQ, .ref mC, .int my, .ref mU, .ref mV, .int mm, .int mf, .int mg])), (mR, .inl (G.2.1 2, 3, .inl (upd fR 1 (fR 1 + 1))))] H locs := w
  exact W.iret (v := (-3)) S.1 S.2.1 hr (fun t ht _ => ⟨⟨(-3), (), rfl, rfl, by rw [ht]; exact w.1, w.2.1⟩, w.2.2.F ht⟩) w.2.2.2.2 dX7_refuses_14
set_option maxHeartbeats 4000000 in
set_option maxRecDepth 100000 in
theorem c_X7_refuses_F (l : Launch) (G : GT) (mO mR : Nat) (sz : Nat) (mS mD mT mW mQ mC mU mV : Nat) (mt ma mn my mm mf mg : Int32) (fR : Nat → Int32) : Met l yX7_refuses wsX7_refuses ({ frames := 0, cells := 0, slots := 0, locals := 0 }) (va_Pc [.ref mO, .int (-4)] (wPre G [(mO, .inr (7, [.ref mS, .ref mD, .ref mR, .ref mT, .int mt, .int ma, .int mn, .ref mW, .ref mQ, .ref mC, .int my, .ref mU, .ref mV, .int mm, .int mf, .int mg])), (mR, .inl (G.2.1 2, 3, .inl fR))] sz)) (va_Qi (fun (r : Int32) (u : Unit) => r = (-4)) (bW G (va_A [(mO, .inr (7, [.ref mS, .ref mD, .ref mR, .ref mT, .int mt, .int ma, .int mn, .ref mW, .ref mQ, .ref mC, .int my, .ref mU, .ref mV, .int mm, .int mf, .int mg])), (mR, .inl (G.2.1 2, 3, .inl fR))] sz) (fun u : Unit => [(mO, .inr (7, [.ref mS, .ref mD, .ref mR, .ref mT, .int mt, .int ma, .int mn, .ref mW, .ref mQ, .ref mC, .int my, .ref mU, .ref mV, .int mm, .int mf, .int mg])), (mR, .inl (G.2.1 2, 3, .inl (upd fR 2 (fR 2 + 1))))])) (va_A [(mO, .inr (7, [.ref mS, .ref mD, .ref mR, .ref mT, .int mt, .int ma, .int mn, .ref mW, .ref mQ, .ref mC, .int my, .ref mU, .ref mV, .int mm, .int mf, .int mg])), (mR, .inl (G.2.1 2, 3, .inl fR))] sz)) 0 0 (va_A [(mO, .inr (7, [.ref mS, .ref mD, .ref mR, .ref mT, .int mt, .int ma, .int mn, .ref mW, .ref mQ, .ref mC, .int my, .ref mU, .ref mV, .int mm, .int mf, .int mg])), (mR, .inl (G.2.1 2, 3, .inl fR))] sz) := by
  refine met_go (cc := cX7_refuses) (maxL := 2) (ret := (some .int)) (own := RX7) (by decide) rfl rfl (Nat.le_of_ble_eq_true rfl) ?_
  intro p e s m below meth c ls S hr hlocks hname hsz C w hl
  have hl : lv_has ls 2 [(0, .ref mO), (1, .int (-4))] := hl
  refine lv_aload_n S.1 S.2.1 dX7_refuses_0 rfl (lv_at hl 0 rfl) ?_
  refine w_get S C w (CC := RX7) (T := TX7) (N := 16) (ref := "GateSumsModel") im_X7_refuses_X7 0 rfl rfl 2 (by decide) (List.mem_of_getElem? (i := 1) rfl) (fun _ h => h) rfl dX7_refuses_1 ?_
  refine lv_bipush (v := (-2)) S.1 S.2.1 dX7_refuses_4 (by decide) ?_
  refine lv_iload_n S.1 S.2.1 dX7_refuses_6 rfl (lv_at hl 1 rfl) ?_
  refine lv_isub S.1 S.2.1 dX7_refuses_7 ?_
  refine w_topi (y := 2) (by decide) ?_
  refine lv_dup2_11 S.1 S.2.1 dX7_refuses_8 rfl rfl ?_
  refine w_iald S C w 1 rfl (by unfold vp_in; decide) dX7_refuses_9 ?_
  refine lv_iconst (v := 1) S.1 S.2.1 dX7_refuses_10 (by decide) ?_
  refine lv_iadd S.1 S.2.1 dX7_refuses_11 ?_
  refine w_iast S C w 1 rfl (by unfold vp_in; decide) (ws2 := [(mO, .inr (7, [.ref mS, .ref mD, .ref mR, .ref mT, .int mt, .int ma, .int mn, .ref mW, .ref mQ, .ref mC, .int my, .ref mU, .ref mV, .int mm, .int mf, .int mg])), (mR, .inl (G.2.1 2, 3, .inl (upd fR (2 : Int32).toNatClampNeg ((fR (2 : Int32).toNatClampNeg) + 1))))]) rfl dX7_refuses_12 (fun H locs w => ?_)
  refine lv_iload_n S.1 S.2.1 dX7_refuses_13 rfl (lv_at hl 1 rfl) ?_
  have w : Wd G (va_A [(mO, .inr (7, [.ref mS, .ref mD, .ref mR, .ref mT, .int mt, .int ma, .int mn, .ref mW, .ref mQ, .ref mC, .int my, .ref mU, .ref mV, .int mm, .int mf, .int mg])), (mR, .inl (G.2.1 2, 3, .inl fR))] sz) s [(mO, .inr (7, [.ref mS, .ref mD, .ref mR, .ref mT, .int mt, .int ma, .int mn, .ref mW, .ref mQ, .ref mC, .int my, .ref mU, .ref mV, .int mm, .int mf, .int mg])), (mR, .inl (G.2.1 2, 3, .inl (upd fR 2 (fR 2 + 1))))] H locs := w
  exact W.iret (v := (-4)) S.1 S.2.1 hr (fun t ht _ => ⟨⟨(-4), (), rfl, rfl, by rw [ht]; exact w.1, w.2.1⟩, w.2.2.F ht⟩) w.2.2.2.2 dX7_refuses_14
set_option maxHeartbeats 4000000 in
set_option maxRecDepth 100000 in
theorem c_X7_none (l : Launch) (G : GT) (mO mR : Nat) (sz : Nat) (mS mD mT mW mQ mC mU mV : Nat) (mt ma mn my mm mf mg : Int32) (fR : Nat → Int32) (z0 : Int32) : Met l yX7_none wsX7_none ({ frames := 1, cells := 0, slots := 0, locals := 21 }) (va_Pc [.ref mO, .int z0] (wPre G [(mO, .inr (7, [.ref mS, .ref mD, .ref mR, .ref mT, .int mt, .int ma, .int mn, .ref mW, .ref mQ, .ref mC, .int my, .ref mU, .ref mV, .int mm, .int mf, .int mg])), (mR, .inl (G.2.1 2, 3, .inl fR))] sz)) (va_Qi (fun (r : Int32) (u : (Nat → Int32)) => r = noneF z0) (bW G (va_A [(mO, .inr (7, [.ref mS, .ref mD, .ref mR, .ref mT, .int mt, .int ma, .int mn, .ref mW, .ref mQ, .ref mC, .int my, .ref mU, .ref mV, .int mm, .int mf, .int mg])), (mR, .inl (G.2.1 2, 3, .inl fR))] sz) (fun u : (Nat → Int32) => [(mO, .inr (7, [.ref mS, .ref mD, .ref mR, .ref mT, .int mt, .int ma, .int mn, .ref mW, .ref mQ, .ref mC, .int my, .ref mU, .ref mV, .int mm, .int mf, .int mg])), (mR, .inl (G.2.1 2, 3, .inl u))])) (va_A [(mO, .inr (7, [.ref mS, .ref mD, .ref mR, .ref mT, .int mt, .int ma, .int mn, .ref mW, .ref mQ, .ref mC, .int my, .ref mU, .ref mV, .int mm, .int mf, .int mg])), (mR, .inl (G.2.1 2, 3, .inl fR))] sz)) 0 0 (va_A [(mO, .inr (7, [.ref mS, .ref mD, .ref mR, .ref mT, .int mt, .int ma, .int mn, .ref mW, .ref mQ, .ref mC, .int my, .ref mU, .ref mV, .int mm, .int mf, .int mg])), (mR, .inl (G.2.1 2, 3, .inl fR))] sz) := by
  refine met_go (cc := cX7_none) (maxL := 2) (ret := (some .int)) (own := RX7) (by decide) rfl rfl (Nat.le_of_ble_eq_true rfl) ?_
  intro p e s m below meth c ls S hr hlocks hname hsz C w hl
  have hl : lv_has ls 2 [(0, .ref mO), (1, .int z0)] := hl
  refine lv_aload_n S.1 S.2.1 dX7_none_0 rfl (lv_at hl 0 rfl) ?_
  refine lv_iload_n S.1 S.2.1 dX7_none_1 rfl (lv_at hl 1 rfl) ?_
  refine lv_if_eq (tgt := 10) S.1 S.2.1 dX7_none_2 (by decide) (fun c2 => ?_) (fun c2 => ?_)
  · refine lv_bipush (v := (-2)) S.1 S.2.1 dX7_none_10 (by decide) ?_
    refine cq_i C w [0, 1] [] [0, 1] (wr := []) (w' := fun u : Unit => [(mO, .inr (7, [.ref mS, .ref mD, .ref mR, .ref mT, .int mt, .int ma, .int mn, .ref mW, .ref mQ, .ref mC, .int my, .ref mU, .ref mV, .int mm, .int mf, .int mg])), (mR, .inl (G.2.1 2, 3, .inl (upd fR 0 (fR 0 + 1))))]) (ws2 := fun u : Unit => [(mO, .inr (7, [.ref mS, .ref mD, .ref mR, .ref mT, .int mt, .int ma, .int mn, .ref mW, .ref mQ, .ref mC, .int my, .ref mU, .ref mV, .int mm, .int mf, .int mg])), (mR, .inl (G.2.1 2, 3, .inl (upd fR 0 (fR 0 + 1))))]) rfl rfl rfl (by decide) rfl (fun _ => rfl) (va_runV (As := [.int (-2)]) (rest := []) S (c_X7_refuses_B l G mO mR _ mS mD mT mW mQ mC mU mV mt ma mn my mm mf mg fR) (cwV 1 S.2.2.2.2 gX7_none_X7_refuses rfl rfl rfl (by decide +kernel) ⟨Nat.le_of_ble_eq_true rfl, Nat.le_of_ble_eq_true rfl⟩) ⟨wPre_blind, va_recv C.1 w.1 (ci := 7) (q0 := 0) rfl rfl, wPre_at C w [0, 1] rfl rfl⟩ rfl rfl hl.1 rfl (lv_room (Nat.le_of_ble_eq_true rfl)) dX7_none_12 ⟨Nat.le_of_ble_eq_true rfl, Nat.le_of_ble_eq_true rfl⟩) (fun r12 u12 H locs h12 w => ?_)
    have w : Wd G _ s [(mO, .inr (7, [.ref mS, .ref mD, .ref mR, .ref mT, .int mt, .int ma, .int mn, .ref mW, .ref mQ, .ref mC, .int my, .ref mU, .ref mV, .int mm, .int mf, .int mg])), (mR, .inl (G.2.1 2, 3, .inl (upd fR 0 (fR 0 + 1))))] H locs := w
    exact W.iret (v := r12) S.1 S.2.1 hr (fun t ht _ => ⟨⟨r12, (upd fR 0 (fR 0 + 1)), rfl, by rw [h12]; simp only [noneF, if_pos c2], by rw [ht]; exact w.1, w.2.1⟩, w.2.2.F ht⟩) w.2.2.2.2 dX7_none_15
  · refine lv_bipush (v := (-3)) S.1 S.2.1 dX7_none_5 (by decide) ?_
    refine lv_goto (tgt := 12) S.1 S.2.1 dX7_none_7 (by decide) ?_
    refine cq_i C w [0, 1] [] [0, 1] (wr := []) (w' := fun u : Unit => [(mO, .inr (7, [.ref mS, .ref mD, .ref mR, .ref mT, .int mt, .int ma, .int mn, .ref mW, .ref mQ, .ref mC, .int my, .ref mU, .ref mV, .int mm, .int mf, .int mg])), (mR, .inl (G.2.1 2, 3, .inl (upd fR 1 (fR 1 + 1))))]) (ws2 := fun u : Unit => [(mO, .inr (7, [.ref mS, .ref mD, .ref mR, .ref mT, .int mt, .int ma, .int mn, .ref mW, .ref mQ, .ref mC, .int my, .ref mU, .ref mV, .int mm, .int mf, .int mg])), (mR, .inl (G.2.1 2, 3, .inl (upd fR 1 (fR 1 + 1))))]) rfl rfl rfl (by decide) rfl (fun _ => rfl) (va_runV (As := [.int (-3)]) (rest := []) S (c_X7_refuses_N l G mO mR _ mS mD mT mW mQ mC mU mV mt ma mn my mm mf mg fR) (cwV 1 S.2.2.2.2 gX7_none_X7_refuses rfl rfl rfl (by decide +kernel) ⟨Nat.le_of_ble_eq_true rfl, Nat.le_of_ble_eq_true rfl⟩) ⟨wPre_blind, va_recv C.1 w.1 (ci := 7) (q0 := 0) rfl rfl, wPre_at C w [0, 1] rfl rfl⟩ rfl rfl hl.1 rfl (lv_room (Nat.le_of_ble_eq_true rfl)) dX7_none_12 ⟨Nat.le_of_ble_eq_true rfl, Nat.le_of_ble_eq_true rfl⟩) (fun r12_1 u12_1 H locs h12_1 w => ?_)
    have w : Wd G _ s [(mO, .inr (7, [.ref mS, .ref mD, .ref mR, .ref mT, .int mt, .int ma, .int mn, .ref mW, .ref mQ, .ref mC, .int my, .ref mU, .ref mV, .int mm, .int mf, .int mg])), (mR, .inl (G.2.1 2, 3, .inl (upd fR 1 (fR 1 + 1))))] H locs := w
    exact W.iret (v := r12_1) S.1 S.2.1 hr (fun t ht _ => ⟨⟨r12_1, (upd fR 1 (fR 1 + 1)), rfl, by rw [h12_1]; simp only [noneF, if_neg c2], by rw [ht]; exact w.1, w.2.1⟩, w.2.2.F ht⟩) w.2.2.2.2 dX7_none_15
theorem im_X7_type_X7 : ∀ w ∈ u_ws RX7 TX7 16, w ∈ wsX7_type := by decide +kernel
set_option maxHeartbeats 4000000 in
set_option maxRecDepth 100000 in
theorem c_X7_type (l : Launch) (G : GT) (mO mR mT : Nat) (sz : Nat) (mS mD mW mQ mC mU mV : Nat) (mt ma mn my mm mf mg : Int32) (fR fT : Nat → Int32) (x0 : Int32) (hm : ¬ mt = 120 → vp_in mt 120) : Met l yX7_type wsX7_type ({ frames := 1, cells := 0, slots := 0, locals := 22 }) (va_Pc [.ref mO, .int x0] (wPre G [(mO, .inr (7, [.ref mS, .ref mD, .ref mR, .ref mT, .int mt, .int ma, .int mn, .ref mW, .ref mQ, .ref mC, .int my, .ref mU, .ref mV, .int mm, .int mf, .int mg])), (mR, .inl (G.2.1 2, 3, .inl fR)), (mT, .inl (G.2.1 2, 120, .inl fT))] sz)) (va_Qi (fun (r : Int32) (u : (Nat → Int32) × (Nat → Int32) × Int32) => r = typeM mt x0) (bW G (va_A [(mO, .inr (7, [.ref mS, .ref mD, .ref mR, .ref mT, .int mt, .int ma, .int mn, .ref mW, .ref mQ, .ref mC, .int my, .ref mU, .ref mV, .int mm, .int mf, .int mg])), (mR, .inl (G.2.1 2, 3, .inl fR)), (mT, .inl (G.2.1 2, 120, .inl fT))] sz) (fun u : (Nat → Int32) × (Nat → Int32) × Int32 => [(mO, .inr (7, [.ref mS, .ref mD, .ref mR, .ref mT, .int u.2.2, .int ma, .int mn, .ref mW, .ref mQ, .ref mC, .int my, .ref mU, .ref mV, .int mm, .int mf, .int mg])), (mR, .inl (G.2.1 2, 3, .inl u.1)), (mT, .inl (G.2.1 2, 120, .inl u.2.1))])) (va_A [(mO, .inr (7, [.ref mS, .ref mD, .ref mR, .ref mT, .int mt, .int ma, .int mn, .ref mW, .ref mQ, .ref mC, .int my, .ref mU, .ref mV, .int mm, .int mf, .int mg])), (mR, .inl (G.2.1 2, 3, .inl fR)), (mT, .inl (G.2.1 2, 120, .inl fT))] sz)) 0 0 (va_A [(mO, .inr (7, [.ref mS, .ref mD, .ref mR, .ref mT, .int mt, .int ma, .int mn, .ref mW, .ref mQ, .ref mC, .int my, .ref mU, .ref mV, .int mm, .int mf, .int mg])), (mR, .inl (G.2.1 2, 3, .inl fR)), (mT, .inl (G.2.1 2, 120, .inl fT))] sz) := by
  refine met_go (cc := cX7_type) (maxL := 2) (ret := (some .int)) (own := RX7) (by decide) rfl rfl (Nat.le_of_ble_eq_true rfl) ?_
  intro p e s m below meth c ls S hr hlocks hname hsz C w hl
  have hl : lv_has ls 2 [(0, .ref mO), (1, .int x0)] := hl
  refine lv_iload_n S.1 S.2.1 dX7_type_0 rfl (lv_at hl 1 rfl) ?_
  refine lv_iconst (v := 0) S.1 S.2.1 dX7_type_1 (by decide) ?_
  refine lv_bipush (v := 127) S.1 S.2.1 dX7_type_2 (by decide) ?_
  refine cs_i (va_runS (As := [.int x0, .int 0, .int 127]) (rest := []) S (c_X7_in l G _ x0 0 127) (cwS 3 S.2.2.2.2 gX7_type_X7_in rfl rfl rfl (by decide +kernel) ⟨Nat.le_of_ble_eq_true rfl, Nat.le_of_ble_eq_true rfl⟩) ⟨wPre_blind, wPre_at C w [] rfl rfl⟩ rfl rfl hl.1 rfl (lv_room (Nat.le_of_ble_eq_true rfl)) dX7_type_4 ⟨Nat.le_of_ble_eq_true rfl, Nat.le_of_ble_eq_true rfl⟩) (fun r4 h4 => ?_)
  refine w_topi (y := (inF x0 0 127)) h4 ?_
  refine lv_if_ne (tgt := 17) S.1 S.2.1 dX7_type_7 (by decide) (fun c7 => ?_) (fun c7 => ?_)
  · refine lv_aload_n S.1 S.2.1 dX7_type_17 rfl (lv_at hl 0 rfl) ?_
    refine w_get S C w (CC := RX7) (T := TX7) (N := 16) (ref := "GateSumsModel") im_X7_type_X7 0 rfl rfl 4 (by decide) (List.mem_of_getElem? (i := 1) rfl) (fun _ h => h) rfl dX7_type_18 ?_
    refine lv_bipush (v := 120) S.1 S.2.1 dX7_type_21 (by decide) ?_
    refine lv_icmp_ne (tgt := 33) S.1 S.2.1 dX7_type_23 (by decide) (fun c23 => ?_) (fun c23 => ?_)
    · refine lv_aload_n S.1 S.2.1 dX7_type_33 rfl (lv_at hl 0 rfl) ?_
      refine w_get S C w (CC := RX7) (T := TX7) (N := 16) (ref := "GateSumsModel") im_X7_type_X7 0 rfl rfl 3 (by decide) (List.mem_of_getElem? (i := 2) rfl) (fun _ h => h) rfl dX7_type_34 ?_
      refine lv_aload_n S.1 S.2.1 dX7_type_37 rfl (lv_at hl 0 rfl) ?_
      refine w_get S C w (CC := RX7) (T := TX7) (N := 16) (ref := "GateSumsModel") im_X7_type_X7 0 rfl rfl 4 (by decide) (List.mem_of_getElem? (i := 1) rfl) (fun _ h => h) rfl dX7_type_38 ?_
      refine lv_iload_n S.1 S.2.1 dX7_type_41 rfl (lv_at hl 1 rfl) ?_
      refine w_iast S C w 2 rfl (hm c23) (ws2 := [(mO, .inr (7, [.ref mS, .ref mD, .ref mR, .ref mT, .int mt, .int ma, .int mn, .ref mW, .ref mQ, .ref mC, .int my, .ref mU, .ref mV, .int mm, .int mf, .int mg])), (mR, .inl (G.2.1 2, 3, .inl fR)), (mT, .inl (G.2.1 2, 120, .inl (upd fT mt.toNatClampNeg x0)))]) rfl dX7_type_42 (fun H locs w => ?_)
      refine lv_aload_n S.1 S.2.1 dX7_type_43 rfl (lv_at hl 0 rfl) ?_
      refine lv_dup S.1 S.2.1 dX7_type_44 rfl ?_
      refine w_get S C w (CC := RX7) (T := TX7) (N := 16) (ref := "GateSumsModel") im_X7_type_X7 0 rfl rfl 4 (by decide) (List.mem_of_getElem? (i := 1) rfl) (fun _ h => h) rfl dX7_type_45 ?_
      refine lv_iconst (v := 1) S.1 S.2.1 dX7_type_48 (by decide) ?_
      refine lv_iadd S.1 S.2.1 dX7_type_49 ?_
      refine w_put S C w (CC := RX7) (T := TX7) (N := 16) (ref := "GateSumsModel") im_X7_type_X7 tyX7 tyX7_ok nmX7 0 rfl rfl 4 (by decide) (List.mem_of_getElem? (i := 1) rfl) (fun _ h => h) rfl (ws2 := [(mO, .inr (7, [.ref mS, .ref mD, .ref mR, .ref mT, .int (mt + 1), .int ma, .int mn, .ref mW, .ref mQ, .ref mC, .int my, .ref mU, .ref mV, .int mm, .int mf, .int mg])), (mR, .inl (G.2.1 2, 3, .inl fR)), (mT, .inl (G.2.1 2, 120, .inl (upd fT mt.toNatClampNeg x0)))]) (rfl) (rfl) (Nat.le_of_ble_eq_true rfl) rfl dX7_type_50 (fun H locs w => ?_)
      refine lv_aload_n S.1 S.2.1 dX7_type_53 rfl (lv_at hl 0 rfl) ?_
      refine w_get S C w (CC := RX7) (T := TX7) (N := 16) (ref := "GateSumsModel") im_X7_type_X7 0 rfl rfl 4 (by decide) (List.mem_of_getElem? (i := 1) rfl) (fun _ h => h) rfl dX7_type_54 ?_
      exact W.iret (v := (mt + 1)) S.1 S.2.1 hr (fun t ht _ => ⟨⟨(mt + 1), (fR, (upd fT mt.toNatClampNeg x0), (mt + 1)), rfl, by first | (rw [@h13]; simp only [typeM, if_neg c7, if_neg c23]; done) | (rw [@h29]; simp only [typeM, if_neg c7, if_neg c23]; done) | (simp only [typeM, if_neg c7, if_neg c23]; done), by rw [ht]; exact w.1, w.2.1⟩, w.2.2.F ht⟩) w.2.2.2.2 dX7_type_57
    · refine lv_aload_n S.1 S.2.1 dX7_type_26 rfl (lv_at hl 0 rfl) ?_
      refine lv_bipush (v := (-4)) S.1 S.2.1 dX7_type_27 (by decide) ?_
      refine cq_i C w [0, 1] [2] [1, 2, 0] (wr := [(mT, .inl (G.2.1 2, 120, .inl fT))]) (w' := fun u : Unit => [(mO, .inr (7, [.ref mS, .ref mD, .ref mR, .ref mT, .int mt, .int ma, .int mn, .ref mW, .ref mQ, .ref mC, .int my, .ref mU, .ref mV, .int mm, .int mf, .int mg])), (mR, .inl (G.2.1 2, 3, .inl (upd fR 2 (fR 2 + 1))))]) (ws2 := fun u : Unit => [(mO, .inr (7, [.ref mS, .ref mD, .ref mR, .ref mT, .int mt, .int ma, .int mn, .ref mW, .ref mQ, .ref mC, .int my, .ref mU, .ref mV, .int mm, .int mf, .int mg])), (mR, .inl (G.2.1 2, 3, .inl (upd fR 2 (fR 2 + 1)))), (mT, .inl (G.2.1 2, 120, .inl fT))]) rfl rfl rfl (by decide) rfl (fun _ => rfl) (va_runV (As := [.int (-4)]) (rest := []) S (c_X7_refuses_F l G mO mR _ mS mD mT mW mQ mC mU mV mt ma mn my mm mf mg fR) (cwV 1 S.2.2.2.2 gX7_type_X7_refuses rfl rfl rfl (by decide +kernel) ⟨Nat.le_of_ble_eq_true rfl, Nat.le_of_ble_eq_true rfl⟩) ⟨wPre_blind, va_recv C.1 w.1 (ci := 7) (q0 := 0) rfl rfl, wPre_at C w [0, 1] rfl rfl⟩ rfl rfl hl.1 rfl (lv_room (Nat.le_of_ble_eq_true rfl)) dX7_type_29 ⟨Nat.le_of_ble_eq_true rfl, Nat.le_of_ble_eq_true rfl⟩) (fun r29 u29 H locs h29 w => ?_)
      have w : Wd G _ s [(mO, .inr (7, [.ref mS, .ref mD, .ref mR, .ref mT, .int mt, .int ma, .int mn, .ref mW, .ref mQ, .ref mC, .int my, .ref mU, .ref mV, .int mm, .int mf, .int mg])), (mR, .inl (G.2.1 2, 3, .inl (upd fR 2 (fR 2 + 1)))), (mT, .inl (G.2.1 2, 120, .inl fT))] H locs := w
      exact W.iret (v := r29) S.1 S.2.1 hr (fun t ht _ => ⟨⟨r29, ((upd fR 2 (fR 2 + 1)), fT, mt), rfl, by first | (rw [@h13]; simp only [typeM, if_neg c7, if_pos c23]; done) | (rw [h29]; simp only [typeM, if_neg c7, if_pos c23]; done) | (simp only [typeM, if_neg c7, if_pos c23]; done), by rw [ht]; exact w.1, w.2.1⟩, w.2.2.F ht⟩) w.2.2.2.2 dX7_type_32
  · refine lv_aload_n S.1 S.2.1 dX7_type_10 rfl (lv_at hl 0 rfl) ?_
    refine lv_bipush (v := (-2)) S.1 S.2.1 dX7_type_11 (by decide) ?_
    refine cq_i C w [0, 1] [2] [1, 2, 0] (wr := [(mT, .inl (G.2.1 2, 120, .inl fT))]) (w' := fun u : Unit => [(mO, .inr (7, [.ref mS, .ref mD, .ref mR, .ref mT, .int mt, .int ma, .int mn, .ref mW, .ref mQ, .ref mC, .int my, .ref mU, .ref mV, .int mm, .int mf, .int mg])), (mR, .inl (G.2.1 2, 3, .inl (upd fR 0 (fR 0 + 1))))]) (ws2 := fun u : Unit => [(mO, .inr (7, [.ref mS, .ref mD, .ref mR, .ref mT, .int mt, .int ma, .int mn, .ref mW, .ref mQ, .ref mC, .int my, .ref mU, .ref mV, .int mm, .int mf, .int mg])), (mR, .inl (G.2.1 2, 3, .inl (upd fR 0 (fR 0 + 1)))), (mT, .inl (G.2.1 2, 120, .inl fT))]) rfl rfl rfl (by decide) rfl (fun _ => rfl) (va_runV (As := [.int (-2)]) (rest := []) S (c_X7_refuses_B l G mO mR _ mS mD mT mW mQ mC mU mV mt ma mn my mm mf mg fR) (cwV 1 S.2.2.2.2 gX7_type_X7_refuses rfl rfl rfl (by decide +kernel) ⟨Nat.le_of_ble_eq_true rfl, Nat.le_of_ble_eq_true rfl⟩) ⟨wPre_blind, va_recv C.1 w.1 (ci := 7) (q0 := 0) rfl rfl, wPre_at C w [0, 1] rfl rfl⟩ rfl rfl hl.1 rfl (lv_room (Nat.le_of_ble_eq_true rfl)) dX7_type_13 ⟨Nat.le_of_ble_eq_true rfl, Nat.le_of_ble_eq_true rfl⟩) (fun r13 u13 H locs h13 w => ?_)
    have w : Wd G _ s [(mO, .inr (7, [.ref mS, .ref mD, .ref mR, .ref mT, .int mt, .int ma, .int mn, .ref mW, .ref mQ, .ref mC, .int my, .ref mU, .ref mV, .int mm, .int mf, .int mg])), (mR, .inl (G.2.1 2, 3, .inl (upd fR 0 (fR 0 + 1)))), (mT, .inl (G.2.1 2, 120, .inl fT))] H locs := w
    exact W.iret (v := r13) S.1 S.2.1 hr (fun t ht _ => ⟨⟨r13, ((upd fR 0 (fR 0 + 1)), fT, mt), rfl, by first | (rw [h13]; simp only [typeM, if_pos c7]; done) | (rw [@h29]; simp only [typeM, if_pos c7]; done) | (simp only [typeM, if_pos c7]; done), by rw [ht]; exact w.1, w.2.1⟩, w.2.2.F ht⟩) w.2.2.2.2 dX7_type_16
theorem im_X7_clear_X7 : ∀ w ∈ u_ws RX7 TX7 16, w ∈ wsX7_clear := by decide +kernel
set_option maxHeartbeats 4000000 in
set_option maxRecDepth 100000 in
theorem c_X7_clear (l : Launch) (G : GT) (mO : Nat) (sz : Nat) (mS mD mR mT mW mQ mC mU mV : Nat) (mt ma mn my mm mf mg : Int32) : Met l yX7_clear wsX7_clear ({ frames := 0, cells := 0, slots := 0, locals := 0 }) (va_Pc [.ref mO] (wPre G [(mO, .inr (7, [.ref mS, .ref mD, .ref mR, .ref mT, .int mt, .int ma, .int mn, .ref mW, .ref mQ, .ref mC, .int my, .ref mU, .ref mV, .int mm, .int mf, .int mg]))] sz)) (va_Qi (fun (r : Int32) (u : Unit) => r = mt) (bW G (va_A [(mO, .inr (7, [.ref mS, .ref mD, .ref mR, .ref mT, .int mt, .int ma, .int mn, .ref mW, .ref mQ, .ref mC, .int my, .ref mU, .ref mV, .int mm, .int mf, .int mg]))] sz) (fun u : Unit => [(mO, .inr (7, [.ref mS, .ref mD, .ref mR, .ref mT, .int 0, .int ma, .int mn, .ref mW, .ref mQ, .ref mC, .int my, .ref mU, .ref mV, .int mm, .int mf, .int mg]))])) (va_A [(mO, .inr (7, [.ref mS, .ref mD, .ref mR, .ref mT, .int mt, .int ma, .int mn, .ref mW, .ref mQ, .ref mC, .int my, .ref mU, .ref mV, .int mm, .int mf, .int mg]))] sz)) 0 0 (va_A [(mO, .inr (7, [.ref mS, .ref mD, .ref mR, .ref mT, .int mt, .int ma, .int mn, .ref mW, .ref mQ, .ref mC, .int my, .ref mU, .ref mV, .int mm, .int mf, .int mg]))] sz) := by
  refine met_go (cc := cX7_clear) (maxL := 2) (ret := (some .int)) (own := RX7) (by decide) rfl rfl (Nat.le_of_ble_eq_true rfl) ?_
  intro p e s m below meth c ls S hr hlocks hname hsz C w hl
  have hl : lv_has ls 2 [(0, .ref mO)] := hl
  refine lv_aload_n S.1 S.2.1 dX7_clear_0 rfl (lv_at hl 0 rfl) ?_
  refine w_get S C w (CC := RX7) (T := TX7) (N := 16) (ref := "GateSumsModel") im_X7_clear_X7 0 rfl rfl 4 (by decide) (List.mem_of_getElem? (i := 1) rfl) (fun _ h => h) rfl dX7_clear_1 ?_
  refine lv_istore_n (lv' := [(1, .int mt), (0, .ref mO)]) S.1 S.2.1 dX7_clear_4 rfl hl (by decide) rfl (fun ls hl => ?_)
  refine lv_aload_n S.1 S.2.1 dX7_clear_5 rfl (lv_at hl 1 rfl) ?_
  refine lv_iconst (v := 0) S.1 S.2.1 dX7_clear_6 (by decide) ?_
  refine w_put S C w (CC := RX7) (T := TX7) (N := 16) (ref := "GateSumsModel") im_X7_clear_X7 tyX7 tyX7_ok nmX7 0 rfl rfl 4 (by decide) (List.mem_of_getElem? (i := 1) rfl) (fun _ h => h) rfl (ws2 := [(mO, .inr (7, [.ref mS, .ref mD, .ref mR, .ref mT, .int 0, .int ma, .int mn, .ref mW, .ref mQ, .ref mC, .int my, .ref mU, .ref mV, .int mm, .int mf, .int mg]))]) (rfl) (rfl) (Nat.le_of_ble_eq_true rfl) rfl dX7_clear_7 (fun H locs w => ?_)
  refine lv_iload_n S.1 S.2.1 dX7_clear_10 rfl (lv_at hl 0 rfl) ?_
  exact W.iret (v := mt) S.1 S.2.1 hr (fun t ht _ => ⟨⟨mt, (), rfl, rfl, by rw [ht]; exact w.1, w.2.1⟩, w.2.2.F ht⟩) w.2.2.2.2 dX7_clear_11
theorem im_X7_byteAt_X7 : ∀ w ∈ u_ws RX7 TX7 16, w ∈ wsX7_byteAt := by decide +kernel
set_option maxHeartbeats 4000000 in
set_option maxRecDepth 100000 in
theorem c_X7_byteAt (l : Launch) (G : GT) (mO mT : Nat) (sz : Nat) (mS mD mR mW mQ mC mU mV : Nat) (mt ma mn my mm mf mg : Int32) (fT : Nat → Int32) (k0 : Int32) (hk : ¬ mt ≤ k0 → vp_in k0 120) : Met l yX7_byteAt wsX7_byteAt ({ frames := 0, cells := 0, slots := 0, locals := 0 }) (va_Pc [.ref mO, .int k0] (wPre G [(mO, .inr (7, [.ref mS, .ref mD, .ref mR, .ref mT, .int mt, .int ma, .int mn, .ref mW, .ref mQ, .ref mC, .int my, .ref mU, .ref mV, .int mm, .int mf, .int mg])), (mT, .inl (G.2.1 2, 120, .inl fT))] sz)) (vp_Si (fun r : Int32 => r = (byteAtM mt fT k0))) 0 0 (fun _ => False) := by
  refine met_go (cc := cX7_byteAt) (maxL := 2) (ret := (some .int)) (own := RX7) (by decide) rfl rfl (Nat.le_of_ble_eq_true rfl) ?_
  intro p e s m below meth c ls S hr hlocks hname hsz C w hl
  have hl : lv_has ls 2 [(0, .ref mO), (1, .int k0)] := hl
  refine lv_iload_n S.1 S.2.1 dX7_byteAt_0 rfl (lv_at hl 1 rfl) ?_
  refine lv_aload_n S.1 S.2.1 dX7_byteAt_1 rfl (lv_at hl 0 rfl) ?_
  refine w_get S C w (CC := RX7) (T := TX7) (N := 16) (ref := "GateSumsModel") im_X7_byteAt_X7 0 rfl rfl 4 (by decide) (List.mem_of_getElem? (i := 1) rfl) (fun _ h => h) rfl dX7_byteAt_2 ?_
  refine lv_icmp_ge (tgt := 17) S.1 S.2.1 dX7_byteAt_5 (by decide) (fun c5 => ?_) (fun c5 => ?_)
  · refine lv_iconst (v := (-1)) S.1 S.2.1 dX7_byteAt_17 (by decide) ?_
    exact W.iret (v := (-1)) S.1 S.2.1 hr (fun t ht _ => ⟨(-1), rfl, by simp only [byteAtM, if_pos c5], ht⟩) (fun q h => absurd h List.not_mem_nil) dX7_byteAt_18
  · refine lv_aload_n S.1 S.2.1 dX7_byteAt_8 rfl (lv_at hl 0 rfl) ?_
    refine w_get S C w (CC := RX7) (T := TX7) (N := 16) (ref := "GateSumsModel") im_X7_byteAt_X7 0 rfl rfl 3 (by decide) (List.mem_of_getElem? (i := 2) rfl) (fun _ h => h) rfl dX7_byteAt_9 ?_
    refine lv_iload_n S.1 S.2.1 dX7_byteAt_12 rfl (lv_at hl 1 rfl) ?_
    refine w_iald S C w 1 rfl (hk c5) dX7_byteAt_13 ?_
    refine lv_goto (tgt := 18) S.1 S.2.1 dX7_byteAt_14 (by decide) ?_
    exact W.iret (v := (fT k0.toNatClampNeg)) S.1 S.2.1 hr (fun t ht _ => ⟨(fT k0.toNatClampNeg), rfl, by simp only [byteAtM, if_neg c5], ht⟩) (fun q h => absurd h List.not_mem_nil) dX7_byteAt_18
theorem im_X7_isThere_X7 : ∀ w ∈ u_ws RX7 TX7 16, w ∈ wsX7_isThere := by decide +kernel
set_option maxHeartbeats 4000000 in
set_option maxRecDepth 100000 in
theorem c_X7_isThere (l : Launch) (G : GT) (mO mS : Nat) (sz : Nat) (mD mR mT mW mQ mC mU mV : Nat) (mt ma mn my mm mf mg : Int32) (fS : Nat → Int32) : Met l yX7_isThere wsX7_isThere ({ frames := 0, cells := 0, slots := 0, locals := 0 }) (va_Pc [.ref mO] (wPre G [(mO, .inr (7, [.ref mS, .ref mD, .ref mR, .ref mT, .int mt, .int ma, .int mn, .ref mW, .ref mQ, .ref mC, .int my, .ref mU, .ref mV, .int mm, .int mf, .int mg])), (mS, .inl (G.2.1 2, 49, .inl fS))] sz)) (vp_Si (fun r : Int32 => r = (thereM fS))) 0 0 (fun _ => False) := by
  refine met_go (cc := cX7_isThere) (maxL := 1) (ret := (some .boolean)) (own := RX7) (by decide) rfl rfl (Nat.le_of_ble_eq_true rfl) ?_
  intro p e s m below meth c ls S hr hlocks hname hsz C w hl
  have hl : lv_has ls 1 [(0, .ref mO)] := hl
  refine lv_aload_n S.1 S.2.1 dX7_isThere_0 rfl (lv_at hl 0 rfl) ?_
  refine w_get S C w (CC := RX7) (T := TX7) (N := 16) (ref := "GateSumsModel") im_X7_isThere_X7 0 rfl rfl 0 (by decide) (List.mem_of_getElem? (i := 1) rfl) (fun _ h => h) rfl dX7_isThere_1 ?_
  refine lv_iconst (v := 0) S.1 S.2.1 dX7_isThere_4 (by decide) ?_
  refine w_iald S C w 1 rfl (by unfold vp_in; decide) dX7_isThere_5 ?_
  refine lv_if_le (tgt := 13) S.1 S.2.1 dX7_isThere_6 (by decide) (fun c6 => ?_) (fun c6 => ?_)
  · refine lv_iconst (v := 0) S.1 S.2.1 dX7_isThere_13 (by decide) ?_
    exact W.zret (v := 0) S.1 S.2.1 hr (rfl) (fun t ht _ => ⟨0, rfl, by first | exact (if_neg c6).symm | exact (if_pos c6).symm, ht⟩) (fun q h => absurd h List.not_mem_nil) dX7_isThere_14
  · refine lv_iconst (v := 1) S.1 S.2.1 dX7_isThere_9 (by decide) ?_
    refine lv_goto (tgt := 14) S.1 S.2.1 dX7_isThere_10 (by decide) ?_
    exact W.zret (v := 1) S.1 S.2.1 hr (rfl) (fun t ht _ => ⟨1, rfl, by first | exact (if_neg c6).symm | exact (if_pos c6).symm, ht⟩) (fun q h => absurd h List.not_mem_nil) dX7_isThere_14
theorem im_X7_skips_X7 : ∀ w ∈ u_ws RX7 TX7 16, w ∈ wsX7_skips := by decide +kernel
set_option maxHeartbeats 4000000 in
set_option maxRecDepth 100000 in
theorem e_X7_skips (l : Launch) (G : GT) (mO mT : Nat) (sz : Nat) (mS mD mR mW mQ mC mU mV : Nat) (mn my mm mf mg : Int32) (fT : Nat → Int32) : Met l yX7_skips wsX7_skips ({ frames := 1, cells := 0, slots := 0, locals := 21 }) (va_Pc [.ref mO] (wPre G [(mO, .inr (7, [.ref mS, .ref mD, .ref mR, .ref mT, .int 0, .int 0, .int mn, .ref mW, .ref mQ, .ref mC, .int my, .ref mU, .ref mV, .int mm, .int mf, .int mg])), (mT, .inl (G.2.1 2, 120, .inl fT))] sz)) (va_Qv (fun u : Unit => True) (bW G (va_A [(mO, .inr (7, [.ref mS, .ref mD, .ref mR, .ref mT, .int 0, .int 0, .int mn, .ref mW, .ref mQ, .ref mC, .int my, .ref mU, .ref mV, .int mm, .int mf, .int mg])), (mT, .inl (G.2.1 2, 120, .inl fT))] sz) (fun u : Unit => [(mO, .inr (7, [.ref mS, .ref mD, .ref mR, .ref mT, .int 0, .int 0, .int mn, .ref mW, .ref mQ, .ref mC, .int my, .ref mU, .ref mV, .int mm, .int mf, .int mg])), (mT, .inl (G.2.1 2, 120, .inl fT))])) (va_A [(mO, .inr (7, [.ref mS, .ref mD, .ref mR, .ref mT, .int 0, .int 0, .int mn, .ref mW, .ref mQ, .ref mC, .int my, .ref mU, .ref mV, .int mm, .int mf, .int mg])), (mT, .inl (G.2.1 2, 120, .inl fT))] sz)) 0 0 (va_A [(mO, .inr (7, [.ref mS, .ref mD, .ref mR, .ref mT, .int 0, .int 0, .int mn, .ref mW, .ref mQ, .ref mC, .int my, .ref mU, .ref mV, .int mm, .int mf, .int mg])), (mT, .inl (G.2.1 2, 120, .inl fT))] sz) := by
  refine met_go (cc := cX7_skips) (maxL := 1) (ret := none) (own := RX7) (by decide) rfl rfl (Nat.le_of_ble_eq_true rfl) ?_
  intro p e s m below meth c ls S hr hlocks hname hsz C w hl
  have hl : lv_has ls 1 [(0, .ref mO)] := hl
  refine lv_aload_n S.1 S.2.1 dX7_skips_0 rfl (lv_at hl 0 rfl) ?_
  refine lv_aload_n S.1 S.2.1 dX7_skips_1 rfl (lv_at hl 0 rfl) ?_
  refine w_get S C w (CC := RX7) (T := TX7) (N := 16) (ref := "GateSumsModel") im_X7_skips_X7 0 rfl rfl 5 (by decide) (List.mem_of_getElem? (i := 1) rfl) (fun _ h => h) rfl dX7_skips_2 ?_
  refine cs_i (va_runV (As := [.int 0]) (rest := []) S (c_X7_byteAt l G mO mT _ mS mD mR mW mQ mC mU mV 0 0 mn my mm mf mg fT 0 (fun h => absurd (by decide) h)) (cwV 1 S.2.2.2.2 gX7_skips_X7_byteAt rfl rfl rfl (by decide +kernel) ⟨Nat.le_of_ble_eq_true rfl, Nat.le_of_ble_eq_true rfl⟩) ⟨wPre_blind, va_recv C.1 w.1 (ci := 7) (q0 := 0) rfl rfl, wPre_at C w [0, 1] rfl rfl⟩ rfl rfl hl.1 rfl (lv_room (Nat.le_of_ble_eq_true rfl)) dX7_skips_5 ⟨Nat.le_of_ble_eq_true rfl, Nat.le_of_ble_eq_true rfl⟩) (fun r5 h5 => ?_)
  refine w_topi (y := (byteAtM 0 fT 0)) h5 ?_
  refine w_topi (y := (-1)) (by simp [byteAtM]) ?_
  refine lv_bipush (v := 32) S.1 S.2.1 dX7_skips_8 (by decide) ?_
  refine lv_icmp_ne (tgt := 26) S.1 S.2.1 dX7_skips_10 (by decide) (fun c10 => ?_) (fun c10 => ?_)
  · exact W.vret S.1 S.2.1 hr (fun t ht _ => ⟨⟨(), rfl, trivial, by rw [ht]; exact w.1, w.2.1⟩, w.2.2.F ht⟩) w.2.2.2.2 dX7_skips_26
  · exact absurd c10 (by decide)
theorem im_X7_isWord_X7 : ∀ w ∈ u_ws RX7 TX7 16, w ∈ wsX7_isWord := by decide +kernel
set_option maxHeartbeats 4000000 in
set_option maxRecDepth 100000 in
theorem e_X7_isWord (l : Launch) (G : GT) (mO mT mW : Nat) (sz : Nat) (mS mD mR mQ mC mU mV : Nat) (mn my mm mf mg : Int32) (fT : Nat → Int32) : Met l yX7_isWord wsX7_isWord ({ frames := 1, cells := 0, slots := 0, locals := 21 }) (va_Pc [.ref mO, .int 59, .int 2] (wPre G [(mO, .inr (7, [.ref mS, .ref mD, .ref mR, .ref mT, .int 0, .int 0, .int mn, .ref mW, .ref mQ, .ref mC, .int my, .ref mU, .ref mV, .int mm, .int mf, .int mg])), (mT, .inl (G.2.1 2, 120, .inl fT)), (mW, .inl (G.2.1 1, 73, .inl (wdF 73)))] sz)) (vp_Si (fun r : Int32 => r = 0)) 0 0 (fun _ => False) := by
  refine met_go (cc := cX7_isWord) (maxL := 5) (ret := (some .boolean)) (own := RX7) (by decide) rfl rfl (Nat.le_of_ble_eq_true rfl) ?_
  intro p e s m below meth c ls S hr hlocks hname hsz C w hl
  have hl : lv_has ls 5 [(0, .ref mO), (1, .int 59), (2, .int 2)] := hl
  refine lv_iconst (v := 1) S.1 S.2.1 dX7_isWord_0 (by decide) ?_
  refine lv_istore_n (lv' := [(3, .int 1), (0, .ref mO), (1, .int 59), (2, .int 2)]) S.1 S.2.1 dX7_isWord_1 rfl hl (by decide) rfl (fun ls hl => ?_)
  refine lv_iconst (v := 0) S.1 S.2.1 dX7_isWord_2 (by decide) ?_
  refine lv_istore (lv' := [(4, .int 0), (3, .int 1), (0, .ref mO), (1, .int 59), (2, .int 2)]) S.1 S.2.1 dX7_isWord_3 hl (by decide) rfl (fun ls hl => ?_)
  refine lv_iload S.1 S.2.1 dX7_isWord_5 (lv_at hl 0 rfl) ?_
  refine lv_iload_n S.1 S.2.1 dX7_isWord_7 rfl (lv_at hl 4 rfl) ?_
  refine lv_icmp_ge (tgt := 50) S.1 S.2.1 dX7_isWord_8 (by decide) (fun c8 => ?_) (fun c8 => ?_)
  · exact absurd c8 (by decide)
  · refine lv_iload_n S.1 S.2.1 dX7_isWord_11 rfl (lv_at hl 1 rfl) ?_
    refine lv_if_eq (tgt := 42) S.1 S.2.1 dX7_isWord_12 (by decide) (fun c12 => ?_) (fun c12 => ?_)
    · exact absurd c12 (by decide)
    · refine lv_aload_n S.1 S.2.1 dX7_isWord_15 rfl (lv_at hl 2 rfl) ?_
      refine lv_aload_n S.1 S.2.1 dX7_isWord_16 rfl (lv_at hl 2 rfl) ?_
      refine w_get S C w (CC := RX7) (T := TX7) (N := 16) (ref := "GateSumsModel") im_X7_isWord_X7 0 rfl rfl 5 (by decide) (List.mem_of_getElem? (i := 1) rfl) (fun _ h => h) rfl dX7_isWord_17 ?_
      refine lv_iload S.1 S.2.1 dX7_isWord_20 (lv_at hl 0 rfl) ?_
      refine lv_iadd S.1 S.2.1 dX7_isWord_22 ?_
      refine w_topi (y := 0) (by decide) ?_
      refine cs_i (va_runV (As := [.int 0]) (rest := []) S (c_X7_byteAt l G mO mT _ mS mD mR mW mQ mC mU mV 0 0 mn my mm mf mg fT 0 (fun h => absurd (by decide) h)) (cwV 1 S.2.2.2.2 gX7_isWord_X7_byteAt rfl rfl rfl (by decide +kernel) ⟨Nat.le_of_ble_eq_true rfl, Nat.le_of_ble_eq_true rfl⟩) ⟨wPre_blind, va_recv C.1 w.1 (ci := 7) (q0 := 0) rfl rfl, wPre_at C w [0, 1] rfl rfl⟩ rfl rfl hl.1 rfl (lv_room (Nat.le_of_ble_eq_true rfl)) dX7_isWord_23 ⟨Nat.le_of_ble_eq_true rfl, Nat.le_of_ble_eq_true rfl⟩) (fun r23 h23 => ?_)
      refine w_topi (y := (byteAtM 0 fT 0)) h23 ?_
      refine w_topi (y := (-1)) (by simp [byteAtM]) ?_
      refine lv_aload_n S.1 S.2.1 dX7_isWord_26 rfl (lv_at hl 2 rfl) ?_
      refine w_get S C w (CC := RX7) (T := TX7) (N := 16) (ref := "GateSumsModel") im_X7_isWord_X7 0 rfl rfl 7 (by decide) (List.mem_of_getElem? (i := 2) rfl) (fun _ h => h) rfl dX7_isWord_27 ?_
      refine lv_iload_n S.1 S.2.1 dX7_isWord_30 rfl (lv_at hl 3 rfl) ?_
      refine lv_iload S.1 S.2.1 dX7_isWord_31 (lv_at hl 0 rfl) ?_
      refine lv_iadd S.1 S.2.1 dX7_isWord_33 ?_
      refine w_topi (y := 59) (by decide) ?_
      refine w_cald S C w 2 rfl (by unfold vp_in; decide) dX7_isWord_34 ?_
      refine w_topi (y := 105) (by decide) ?_
      refine lv_icmp_ne (tgt := 42) S.1 S.2.1 dX7_isWord_35 (by decide) (fun c35 => ?_) (fun c35 => ?_)
      · refine lv_iconst (v := 0) S.1 S.2.1 dX7_isWord_42 (by decide) ?_
        refine lv_istore_n (lv' := [(3, .int 0), (4, .int 0), (0, .ref mO), (1, .int 59), (2, .int 2)]) S.1 S.2.1 dX7_isWord_43 rfl hl (by decide) rfl (fun ls hl => ?_)
        refine lv_iinc (v := 1) (lv' := [(4, .int 1), (3, .int 0), (0, .ref mO), (1, .int 59), (2, .int 2)]) S.1 S.2.1 dX7_isWord_44 hl (k := 1) rfl (by decide) (by decide) rfl (fun ls hl => ?_)
        refine lv_goto (tgt := 5) S.1 S.2.1 dX7_isWord_47 (by decide) ?_
        refine lv_iload S.1 S.2.1 dX7_isWord_5 (lv_at hl 0 rfl) ?_
        refine lv_iload_n S.1 S.2.1 dX7_isWord_7 rfl (lv_at hl 4 rfl) ?_
        refine lv_icmp_ge (tgt := 50) S.1 S.2.1 dX7_isWord_8 (by decide) (fun c8_1 => ?_) (fun c8_1 => ?_)
        · exact absurd c8_1 (by decide)
        · refine lv_iload_n S.1 S.2.1 dX7_isWord_11 rfl (lv_at hl 1 rfl) ?_
          refine lv_if_eq (tgt := 42) S.1 S.2.1 dX7_isWord_12 (by decide) (fun c12_1 => ?_) (fun c12_1 => ?_)
          · refine lv_iconst (v := 0) S.1 S.2.1 dX7_isWord_42 (by decide) ?_
            refine lv_istore_n (lv' := [(3, .int 0), (4, .int 1), (0, .ref mO), (1, .int 59), (2, .int 2)]) S.1 S.2.1 dX7_isWord_43 rfl hl (by decide) rfl (fun ls hl => ?_)
            refine lv_iinc (v := 2) (lv' := [(4, .int 2), (3, .int 0), (0, .ref mO), (1, .int 59), (2, .int 2)]) S.1 S.2.1 dX7_isWord_44 hl (k := 1) rfl (by decide) (by decide) rfl (fun ls hl => ?_)
            refine lv_goto (tgt := 5) S.1 S.2.1 dX7_isWord_47 (by decide) ?_
            refine lv_iload S.1 S.2.1 dX7_isWord_5 (lv_at hl 0 rfl) ?_
            refine lv_iload_n S.1 S.2.1 dX7_isWord_7 rfl (lv_at hl 4 rfl) ?_
            refine lv_icmp_ge (tgt := 50) S.1 S.2.1 dX7_isWord_8 (by decide) (fun c8_2 => ?_) (fun c8_2 => ?_)
            · refine lv_iload_n S.1 S.2.1 dX7_isWord_50 rfl (lv_at hl 1 rfl) ?_
              refine lv_if_eq (tgt := 78) S.1 S.2.1 dX7_isWord_51 (by decide) (fun c51 => ?_) (fun c51 => ?_)
              · refine lv_iconst (v := 0) S.1 S.2.1 dX7_isWord_78 (by decide) ?_
                exact W.zret (v := 0) S.1 S.2.1 hr (rfl) (fun t ht _ => ⟨0, rfl, rfl, ht⟩) (fun q h => absurd h List.not_mem_nil) dX7_isWord_79
              · exact absurd c51 (by decide)
            · exact absurd c8_2 (by decide)
          · exact absurd c12_1 (by decide)
      · exact absurd c35 (by decide)
theorem im_X7_word_X7 : ∀ w ∈ u_ws RX7 TX7 16, w ∈ wsX7_word := by decide +kernel
set_option maxHeartbeats 4000000 in
set_option maxRecDepth 100000 in
theorem e_X7_word (l : Launch) (G : GT) (mO mT mW : Nat) (sz : Nat) (mS mD mR mQ mC mU mV : Nat) (mn my mm mf mg : Int32) (fT : Nat → Int32) : Met l yX7_word wsX7_word ({ frames := 2, cells := 0, slots := 0, locals := 45 }) (va_Pc [.ref mO, .int 12, .int 12] (wPre G [(mO, .inr (7, [.ref mS, .ref mD, .ref mR, .ref mT, .int 0, .int 0, .int mn, .ref mW, .ref mQ, .ref mC, .int my, .ref mU, .ref mV, .int mm, .int mf, .int mg])), (mT, .inl (G.2.1 2, 120, .inl fT)), (mW, .inl (G.2.1 1, 73, .inl (wdF 73)))] sz)) (va_Qi (fun (r : Int32) (u : Unit) => r = (-1)) (bW G (va_A [(mO, .inr (7, [.ref mS, .ref mD, .ref mR, .ref mT, .int 0, .int 0, .int mn, .ref mW, .ref mQ, .ref mC, .int my, .ref mU, .ref mV, .int mm, .int mf, .int mg])), (mT, .inl (G.2.1 2, 120, .inl fT)), (mW, .inl (G.2.1 1, 73, .inl (wdF 73)))] sz) (fun u : Unit => [(mO, .inr (7, [.ref mS, .ref mD, .ref mR, .ref mT, .int 0, .int 0, .int mn, .ref mW, .ref mQ, .ref mC, .int my, .ref mU, .ref mV, .int mm, .int mf, .int mg])), (mT, .inl (G.2.1 2, 120, .inl fT)), (mW, .inl (G.2.1 1, 73, .inl (wdF 73)))])) (va_A [(mO, .inr (7, [.ref mS, .ref mD, .ref mR, .ref mT, .int 0, .int 0, .int mn, .ref mW, .ref mQ, .ref mC, .int my, .ref mU, .ref mV, .int mm, .int mf, .int mg])), (mT, .inl (G.2.1 2, 120, .inl fT)), (mW, .inl (G.2.1 1, 73, .inl (wdF 73)))] sz)) 0 0 (va_A [(mO, .inr (7, [.ref mS, .ref mD, .ref mR, .ref mT, .int 0, .int 0, .int mn, .ref mW, .ref mQ, .ref mC, .int my, .ref mU, .ref mV, .int mm, .int mf, .int mg])), (mT, .inl (G.2.1 2, 120, .inl fT)), (mW, .inl (G.2.1 1, 73, .inl (wdF 73)))] sz) := by
  refine met_go (cc := cX7_word) (maxL := 6) (ret := (some .int)) (own := RX7) (by decide) rfl rfl (Nat.le_of_ble_eq_true rfl) ?_
  intro p e s m below meth c ls S hr hlocks hname hsz C w hl
  have hl : lv_has ls 6 [(0, .ref mO), (1, .int 12), (2, .int 12)] := hl
  refine lv_aload_n S.1 S.2.1 dX7_word_0 rfl (lv_at hl 0 rfl) ?_
  refine cq_v C w [0, 1] [2] [1, 2, 0] (wr := [(mW, .inl (G.2.1 1, 73, .inl (wdF 73)))]) (w' := fun u : Unit => [(mO, .inr (7, [.ref mS, .ref mD, .ref mR, .ref mT, .int 0, .int 0, .int mn, .ref mW, .ref mQ, .ref mC, .int my, .ref mU, .ref mV, .int mm, .int mf, .int mg])), (mT, .inl (G.2.1 2, 120, .inl fT))]) (ws2 := fun u : Unit => [(mO, .inr (7, [.ref mS, .ref mD, .ref mR, .ref mT, .int 0, .int 0, .int mn, .ref mW, .ref mQ, .ref mC, .int my, .ref mU, .ref mV, .int mm, .int mf, .int mg])), (mT, .inl (G.2.1 2, 120, .inl fT)), (mW, .inl (G.2.1 1, 73, .inl (wdF 73)))]) rfl rfl rfl (by decide) rfl (fun _ => rfl) (va_runV (As := []) (rest := []) S (e_X7_skips l G mO mT _ mS mD mR mW mQ mC mU mV mn my mm mf mg fT) (cwV 0 S.2.2.2.2 gX7_word_X7_skips rfl rfl rfl (by decide +kernel) ⟨Nat.le_of_ble_eq_true rfl, Nat.le_of_ble_eq_true rfl⟩) ⟨wPre_blind, va_recv C.1 w.1 (ci := 7) (q0 := 0) rfl rfl, wPre_at C w [0, 1] rfl rfl⟩ rfl rfl hl.1 rfl (lv_room (Nat.le_of_ble_eq_true rfl)) dX7_word_1 ⟨Nat.le_of_ble_eq_true rfl, Nat.le_of_ble_eq_true rfl⟩) (fun u1 H locs h1 w => ?_)
  have w : Wd G _ s [(mO, .inr (7, [.ref mS, .ref mD, .ref mR, .ref mT, .int 0, .int 0, .int mn, .ref mW, .ref mQ, .ref mC, .int my, .ref mU, .ref mV, .int mm, .int mf, .int mg])), (mT, .inl (G.2.1 2, 120, .inl fT)), (mW, .inl (G.2.1 1, 73, .inl (wdF 73)))] H locs := w
  refine lv_iconst (v := 0) S.1 S.2.1 dX7_word_4 (by decide) ?_
  refine lv_istore_n (lv' := [(3, .int 0), (0, .ref mO), (1, .int 12), (2, .int 12)]) S.1 S.2.1 dX7_word_5 rfl hl (by decide) rfl (fun ls hl => ?_)
  refine lv_iconst (v := 0) S.1 S.2.1 dX7_word_6 (by decide) ?_
  refine lv_istore (lv' := [(4, .int 0), (3, .int 0), (0, .ref mO), (1, .int 12), (2, .int 12)]) S.1 S.2.1 dX7_word_7 hl (by decide) rfl (fun ls hl => ?_)
  refine lv_iload S.1 S.2.1 dX7_word_9 (lv_at hl 0 rfl) ?_
  refine lv_aload_n S.1 S.2.1 dX7_word_11 rfl (lv_at hl 2 rfl) ?_
  refine w_get S C w (CC := RX7) (T := TX7) (N := 16) (ref := "GateSumsModel") im_X7_word_X7 0 rfl rfl 7 (by decide) (List.mem_of_getElem? (i := 1) rfl) (fun _ h => h) rfl dX7_word_12 ?_
  refine w_alen S C w 2 1 rfl rfl (v := 73) rfl dX7_word_15 ?_
  refine lv_icmp_ge (tgt := 93) S.1 S.2.1 dX7_word_16 (by decide) (fun c16 => ?_) (fun c16 => ?_)
  · exact absurd c16 (by decide)
  · refine lv_iconst (v := 0) S.1 S.2.1 dX7_word_19 (by decide) ?_
    refine lv_istore (lv' := [(5, .int 0), (4, .int 0), (3, .int 0), (0, .ref mO), (1, .int 12), (2, .int 12)]) S.1 S.2.1 dX7_word_20 hl (by decide) rfl (fun ls hl => ?_)
    refine lv_aload_n S.1 S.2.1 dX7_word_22 rfl (lv_at hl 3 rfl) ?_
    refine w_get S C w (CC := RX7) (T := TX7) (N := 16) (ref := "GateSumsModel") im_X7_word_X7 0 rfl rfl 7 (by decide) (List.mem_of_getElem? (i := 1) rfl) (fun _ h => h) rfl dX7_word_23 ?_
    refine lv_iload S.1 S.2.1 dX7_word_26 (lv_at hl 1 rfl) ?_
    refine lv_iload S.1 S.2.1 dX7_word_28 (lv_at hl 0 rfl) ?_
    refine lv_iadd S.1 S.2.1 dX7_word_30 ?_
    refine w_topi (y := 0) (by decide) ?_
    refine w_cald S C w 2 rfl (by unfold vp_in; decide) dX7_word_31 ?_
    refine w_topi (y := 110) (by decide) ?_
    refine lv_bipush (v := 32) S.1 S.2.1 dX7_word_32 (by decide) ?_
    refine lv_icmp_eq (tgt := 43) S.1 S.2.1 dX7_word_34 (by decide) (fun c34 => ?_) (fun c34 => ?_)
    · exact absurd c34 (by decide)
    · refine lv_iinc (v := 1) (lv' := [(5, .int 1), (4, .int 0), (3, .int 0), (0, .ref mO), (1, .int 12), (2, .int 12)]) S.1 S.2.1 dX7_word_37 hl (k := 0) rfl (by decide) (by decide) rfl (fun ls hl => ?_)
      refine lv_goto (tgt := 22) S.1 S.2.1 dX7_word_40 (by decide) ?_
      refine lv_aload_n S.1 S.2.1 dX7_word_22 rfl (lv_at hl 3 rfl) ?_
      refine w_get S C w (CC := RX7) (T := TX7) (N := 16) (ref := "GateSumsModel") im_X7_word_X7 0 rfl rfl 7 (by decide) (List.mem_of_getElem? (i := 1) rfl) (fun _ h => h) rfl dX7_word_23 ?_
      refine lv_iload S.1 S.2.1 dX7_word_26 (lv_at hl 1 rfl) ?_
      refine lv_iload S.1 S.2.1 dX7_word_28 (lv_at hl 0 rfl) ?_
      refine lv_iadd S.1 S.2.1 dX7_word_30 ?_
      refine w_topi (y := 1) (by decide) ?_
      refine w_cald S C w 2 rfl (by unfold vp_in; decide) dX7_word_31 ?_
      refine w_topi (y := 111) (by decide) ?_
      refine lv_bipush (v := 32) S.1 S.2.1 dX7_word_32 (by decide) ?_
      refine lv_icmp_eq (tgt := 43) S.1 S.2.1 dX7_word_34 (by decide) (fun c34_1 => ?_) (fun c34_1 => ?_)
      · exact absurd c34_1 (by decide)
      · refine lv_iinc (v := 2) (lv' := [(5, .int 2), (4, .int 0), (3, .int 0), (0, .ref mO), (1, .int 12), (2, .int 12)]) S.1 S.2.1 dX7_word_37 hl (k := 0) rfl (by decide) (by decide) rfl (fun ls hl => ?_)
        refine lv_goto (tgt := 22) S.1 S.2.1 dX7_word_40 (by decide) ?_
        refine lv_aload_n S.1 S.2.1 dX7_word_22 rfl (lv_at hl 3 rfl) ?_
        refine w_get S C w (CC := RX7) (T := TX7) (N := 16) (ref := "GateSumsModel") im_X7_word_X7 0 rfl rfl 7 (by decide) (List.mem_of_getElem? (i := 1) rfl) (fun _ h => h) rfl dX7_word_23 ?_
        refine lv_iload S.1 S.2.1 dX7_word_26 (lv_at hl 1 rfl) ?_
        refine lv_iload S.1 S.2.1 dX7_word_28 (lv_at hl 0 rfl) ?_
        refine lv_iadd S.1 S.2.1 dX7_word_30 ?_
        refine w_topi (y := 2) (by decide) ?_
        refine w_cald S C w 2 rfl (by unfold vp_in; decide) dX7_word_31 ?_
        refine w_topi (y := 116) (by decide) ?_
        refine lv_bipush (v := 32) S.1 S.2.1 dX7_word_32 (by decide) ?_
        refine lv_icmp_eq (tgt := 43) S.1 S.2.1 dX7_word_34 (by decide) (fun c34_2 => ?_) (fun c34_2 => ?_)
        · exact absurd c34_2 (by decide)
        · refine lv_iinc (v := 3) (lv' := [(5, .int 3), (4, .int 0), (3, .int 0), (0, .ref mO), (1, .int 12), (2, .int 12)]) S.1 S.2.1 dX7_word_37 hl (k := 0) rfl (by decide) (by decide) rfl (fun ls hl => ?_)
          refine lv_goto (tgt := 22) S.1 S.2.1 dX7_word_40 (by decide) ?_
          refine lv_aload_n S.1 S.2.1 dX7_word_22 rfl (lv_at hl 3 rfl) ?_
          refine w_get S C w (CC := RX7) (T := TX7) (N := 16) (ref := "GateSumsModel") im_X7_word_X7 0 rfl rfl 7 (by decide) (List.mem_of_getElem? (i := 1) rfl) (fun _ h => h) rfl dX7_word_23 ?_
          refine lv_iload S.1 S.2.1 dX7_word_26 (lv_at hl 1 rfl) ?_
          refine lv_iload S.1 S.2.1 dX7_word_28 (lv_at hl 0 rfl) ?_
          refine lv_iadd S.1 S.2.1 dX7_word_30 ?_
          refine w_topi (y := 3) (by decide) ?_
          refine w_cald S C w 2 rfl (by unfold vp_in; decide) dX7_word_31 ?_
          refine w_topi (y := 32) (by decide) ?_
          refine lv_bipush (v := 32) S.1 S.2.1 dX7_word_32 (by decide) ?_
          refine lv_icmp_eq (tgt := 43) S.1 S.2.1 dX7_word_34 (by decide) (fun c34_3 => ?_) (fun c34_3 => ?_)
          · refine lv_iload_n S.1 S.2.1 dX7_word_43 rfl (lv_at hl 2 rfl) ?_
            refine lv_iload_n S.1 S.2.1 dX7_word_44 rfl (lv_at hl 4 rfl) ?_
            refine lv_iload_n S.1 S.2.1 dX7_word_45 rfl (lv_at hl 5 rfl) ?_
            refine cs_i (va_runS (As := [.int 0, .int 12, .int 12]) (rest := []) S (c_X7_in l G _ 0 12 12) (cwS 3 S.2.2.2.2 gX7_word_X7_in rfl rfl rfl (by decide +kernel) ⟨Nat.le_of_ble_eq_true rfl, Nat.le_of_ble_eq_true rfl⟩) ⟨wPre_blind, wPre_at C w [] rfl rfl⟩ rfl rfl hl.1 rfl (lv_room (Nat.le_of_ble_eq_true rfl)) dX7_word_46 ⟨Nat.le_of_ble_eq_true rfl, Nat.le_of_ble_eq_true rfl⟩) (fun r46 h46 => ?_)
            refine w_topi (y := (inF 0 12 12)) h46 ?_
            refine w_topi (y := 0) (by decide) ?_
            refine lv_if_eq (tgt := 78) S.1 S.2.1 dX7_word_49 (by decide) (fun c49 => ?_) (fun c49 => ?_)
            · refine lv_iinc (v := 1) (lv' := [(3, .int 1), (5, .int 3), (4, .int 0), (0, .ref mO), (1, .int 12), (2, .int 12)]) S.1 S.2.1 dX7_word_78 hl (k := 2) rfl (by decide) (by decide) rfl (fun ls hl => ?_)
              refine lv_iload S.1 S.2.1 dX7_word_81 (lv_at hl 2 rfl) ?_
              refine lv_iload S.1 S.2.1 dX7_word_83 (lv_at hl 1 rfl) ?_
              refine lv_iconst (v := 1) S.1 S.2.1 dX7_word_85 (by decide) ?_
              refine lv_iadd S.1 S.2.1 dX7_word_86 ?_
              refine w_topi (y := 4) (by decide) ?_
              refine lv_iadd S.1 S.2.1 dX7_word_87 ?_
              refine w_topi (y := 4) (by decide) ?_
              refine lv_istore (lv' := [(4, .int 4), (3, .int 1), (5, .int 3), (0, .ref mO), (1, .int 12), (2, .int 12)]) S.1 S.2.1 dX7_word_88 hl (by decide) rfl (fun ls hl => ?_)
              refine lv_goto (tgt := 9) S.1 S.2.1 dX7_word_90 (by decide) ?_
              refine lv_iload S.1 S.2.1 dX7_word_9 (lv_at hl 0 rfl) ?_
              refine lv_aload_n S.1 S.2.1 dX7_word_11 rfl (lv_at hl 3 rfl) ?_
              refine w_get S C w (CC := RX7) (T := TX7) (N := 16) (ref := "GateSumsModel") im_X7_word_X7 0 rfl rfl 7 (by decide) (List.mem_of_getElem? (i := 1) rfl) (fun _ h => h) rfl dX7_word_12 ?_
              refine w_alen S C w 2 1 rfl rfl (v := 73) rfl dX7_word_15 ?_
              refine lv_icmp_ge (tgt := 93) S.1 S.2.1 dX7_word_16 (by decide) (fun c16_1 => ?_) (fun c16_1 => ?_)
              · exact absurd c16_1 (by decide)
              · refine lv_iconst (v := 0) S.1 S.2.1 dX7_word_19 (by decide) ?_
                refine lv_istore (lv' := [(5, .int 0), (4, .int 4), (3, .int 1), (0, .ref mO), (1, .int 12), (2, .int 12)]) S.1 S.2.1 dX7_word_20 hl (by decide) rfl (fun ls hl => ?_)
                refine lv_aload_n S.1 S.2.1 dX7_word_22 rfl (lv_at hl 3 rfl) ?_
                refine w_get S C w (CC := RX7) (T := TX7) (N := 16) (ref := "GateSumsModel") im_X7_word_X7 0 rfl rfl 7 (by decide) (List.mem_of_getElem? (i := 1) rfl) (fun _ h => h) rfl dX7_word_23 ?_
                refine lv_iload S.1 S.2.1 dX7_word_26 (lv_at hl 1 rfl) ?_
                refine lv_iload S.1 S.2.1 dX7_word_28 (lv_at hl 0 rfl) ?_
                refine lv_iadd S.1 S.2.1 dX7_word_30 ?_
                refine w_topi (y := 4) (by decide) ?_
                refine w_cald S C w 2 rfl (by unfold vp_in; decide) dX7_word_31 ?_
                refine w_topi (y := 97) (by decide) ?_
                refine lv_bipush (v := 32) S.1 S.2.1 dX7_word_32 (by decide) ?_
                refine lv_icmp_eq (tgt := 43) S.1 S.2.1 dX7_word_34 (by decide) (fun c34_4 => ?_) (fun c34_4 => ?_)
                · exact absurd c34_4 (by decide)
                · refine lv_iinc (v := 1) (lv' := [(5, .int 1), (4, .int 4), (3, .int 1), (0, .ref mO), (1, .int 12), (2, .int 12)]) S.1 S.2.1 dX7_word_37 hl (k := 0) rfl (by decide) (by decide) rfl (fun ls hl => ?_)
                  refine lv_goto (tgt := 22) S.1 S.2.1 dX7_word_40 (by decide) ?_
                  refine lv_aload_n S.1 S.2.1 dX7_word_22 rfl (lv_at hl 3 rfl) ?_
                  refine w_get S C w (CC := RX7) (T := TX7) (N := 16) (ref := "GateSumsModel") im_X7_word_X7 0 rfl rfl 7 (by decide) (List.mem_of_getElem? (i := 1) rfl) (fun _ h => h) rfl dX7_word_23 ?_
                  refine lv_iload S.1 S.2.1 dX7_word_26 (lv_at hl 1 rfl) ?_
                  refine lv_iload S.1 S.2.1 dX7_word_28 (lv_at hl 0 rfl) ?_
                  refine lv_iadd S.1 S.2.1 dX7_word_30 ?_
                  refine w_topi (y := 5) (by decide) ?_
                  refine w_cald S C w 2 rfl (by unfold vp_in; decide) dX7_word_31 ?_
                  refine w_topi (y := 110) (by decide) ?_
                  refine lv_bipush (v := 32) S.1 S.2.1 dX7_word_32 (by decide) ?_
                  refine lv_icmp_eq (tgt := 43) S.1 S.2.1 dX7_word_34 (by decide) (fun c34_5 => ?_) (fun c34_5 => ?_)
                  · exact absurd c34_5 (by decide)
                  · refine lv_iinc (v := 2) (lv' := [(5, .int 2), (4, .int 4), (3, .int 1), (0, .ref mO), (1, .int 12), (2, .int 12)]) S.1 S.2.1 dX7_word_37 hl (k := 0) rfl (by decide) (by decide) rfl (fun ls hl => ?_)
                    refine lv_goto (tgt := 22) S.1 S.2.1 dX7_word_40 (by decide) ?_
                    refine lv_aload_n S.1 S.2.1 dX7_word_22 rfl (lv_at hl 3 rfl) ?_
                    refine w_get S C w (CC := RX7) (T := TX7) (N := 16) (ref := "GateSumsModel") im_X7_word_X7 0 rfl rfl 7 (by decide) (List.mem_of_getElem? (i := 1) rfl) (fun _ h => h) rfl dX7_word_23 ?_
                    refine lv_iload S.1 S.2.1 dX7_word_26 (lv_at hl 1 rfl) ?_
                    refine lv_iload S.1 S.2.1 dX7_word_28 (lv_at hl 0 rfl) ?_
                    refine lv_iadd S.1 S.2.1 dX7_word_30 ?_
                    refine w_topi (y := 6) (by decide) ?_
                    refine w_cald S C w 2 rfl (by unfold vp_in; decide) dX7_word_31 ?_
                    refine w_topi (y := 100) (by decide) ?_
                    refine lv_bipush (v := 32) S.1 S.2.1 dX7_word_32 (by decide) ?_
                    refine lv_icmp_eq (tgt := 43) S.1 S.2.1 dX7_word_34 (by decide) (fun c34_6 => ?_) (fun c34_6 => ?_)
                    · exact absurd c34_6 (by decide)
                    · refine lv_iinc (v := 3) (lv' := [(5, .int 3), (4, .int 4), (3, .int 1), (0, .ref mO), (1, .int 12), (2, .int 12)]) S.1 S.2.1 dX7_word_37 hl (k := 0) rfl (by decide) (by decide) rfl (fun ls hl => ?_)
                      refine lv_goto (tgt := 22) S.1 S.2.1 dX7_word_40 (by decide) ?_
                      refine lv_aload_n S.1 S.2.1 dX7_word_22 rfl (lv_at hl 3 rfl) ?_
                      refine w_get S C w (CC := RX7) (T := TX7) (N := 16) (ref := "GateSumsModel") im_X7_word_X7 0 rfl rfl 7 (by decide) (List.mem_of_getElem? (i := 1) rfl) (fun _ h => h) rfl dX7_word_23 ?_
                      refine lv_iload S.1 S.2.1 dX7_word_26 (lv_at hl 1 rfl) ?_
                      refine lv_iload S.1 S.2.1 dX7_word_28 (lv_at hl 0 rfl) ?_
                      refine lv_iadd S.1 S.2.1 dX7_word_30 ?_
                      refine w_topi (y := 7) (by decide) ?_
                      refine w_cald S C w 2 rfl (by unfold vp_in; decide) dX7_word_31 ?_
                      refine w_topi (y := 32) (by decide) ?_
                      refine lv_bipush (v := 32) S.1 S.2.1 dX7_word_32 (by decide) ?_
                      refine lv_icmp_eq (tgt := 43) S.1 S.2.1 dX7_word_34 (by decide) (fun c34_7 => ?_) (fun c34_7 => ?_)
                      · refine lv_iload_n S.1 S.2.1 dX7_word_43 rfl (lv_at hl 2 rfl) ?_
                        refine lv_iload_n S.1 S.2.1 dX7_word_44 rfl (lv_at hl 4 rfl) ?_
                        refine lv_iload_n S.1 S.2.1 dX7_word_45 rfl (lv_at hl 5 rfl) ?_
                        refine cs_i (va_runS (As := [.int 1, .int 12, .int 12]) (rest := []) S (c_X7_in l G _ 1 12 12) (cwS 3 S.2.2.2.2 gX7_word_X7_in rfl rfl rfl (by decide +kernel) ⟨Nat.le_of_ble_eq_true rfl, Nat.le_of_ble_eq_true rfl⟩) ⟨wPre_blind, wPre_at C w [] rfl rfl⟩ rfl rfl hl.1 rfl (lv_room (Nat.le_of_ble_eq_true rfl)) dX7_word_46 ⟨Nat.le_of_ble_eq_true rfl, Nat.le_of_ble_eq_true rfl⟩) (fun r46_1 h46_1 => ?_)
                        refine w_topi (y := (inF 1 12 12)) h46_1 ?_
                        refine w_topi (y := 0) (by decide) ?_
                        refine lv_if_eq (tgt := 78) S.1 S.2.1 dX7_word_49 (by decide) (fun c49_1 => ?_) (fun c49_1 => ?_)
                        · refine lv_iinc (v := 2) (lv' := [(3, .int 2), (5, .int 3), (4, .int 4), (0, .ref mO), (1, .int 12), (2, .int 12)]) S.1 S.2.1 dX7_word_78 hl (k := 2) rfl (by decide) (by decide) rfl (fun ls hl => ?_)
                          refine lv_iload S.1 S.2.1 dX7_word_81 (lv_at hl 2 rfl) ?_
                          refine lv_iload S.1 S.2.1 dX7_word_83 (lv_at hl 1 rfl) ?_
                          refine lv_iconst (v := 1) S.1 S.2.1 dX7_word_85 (by decide) ?_
                          refine lv_iadd S.1 S.2.1 dX7_word_86 ?_
                          refine w_topi (y := 4) (by decide) ?_
                          refine lv_iadd S.1 S.2.1 dX7_word_87 ?_
                          refine w_topi (y := 8) (by decide) ?_
                          refine lv_istore (lv' := [(4, .int 8), (3, .int 2), (5, .int 3), (0, .ref mO), (1, .int 12), (2, .int 12)]) S.1 S.2.1 dX7_word_88 hl (by decide) rfl (fun ls hl => ?_)
                          refine lv_goto (tgt := 9) S.1 S.2.1 dX7_word_90 (by decide) ?_
                          refine lv_iload S.1 S.2.1 dX7_word_9 (lv_at hl 0 rfl) ?_
                          refine lv_aload_n S.1 S.2.1 dX7_word_11 rfl (lv_at hl 3 rfl) ?_
                          refine w_get S C w (CC := RX7) (T := TX7) (N := 16) (ref := "GateSumsModel") im_X7_word_X7 0 rfl rfl 7 (by decide) (List.mem_of_getElem? (i := 1) rfl) (fun _ h => h) rfl dX7_word_12 ?_
                          refine w_alen S C w 2 1 rfl rfl (v := 73) rfl dX7_word_15 ?_
                          refine lv_icmp_ge (tgt := 93) S.1 S.2.1 dX7_word_16 (by decide) (fun c16_2 => ?_) (fun c16_2 => ?_)
                          · exact absurd c16_2 (by decide)
                          · refine lv_iconst (v := 0) S.1 S.2.1 dX7_word_19 (by decide) ?_
                            refine lv_istore (lv' := [(5, .int 0), (4, .int 8), (3, .int 2), (0, .ref mO), (1, .int 12), (2, .int 12)]) S.1 S.2.1 dX7_word_20 hl (by decide) rfl (fun ls hl => ?_)
                            refine lv_aload_n S.1 S.2.1 dX7_word_22 rfl (lv_at hl 3 rfl) ?_
                            refine w_get S C w (CC := RX7) (T := TX7) (N := 16) (ref := "GateSumsModel") im_X7_word_X7 0 rfl rfl 7 (by decide) (List.mem_of_getElem? (i := 1) rfl) (fun _ h => h) rfl dX7_word_23 ?_
                            refine lv_iload S.1 S.2.1 dX7_word_26 (lv_at hl 1 rfl) ?_
                            refine lv_iload S.1 S.2.1 dX7_word_28 (lv_at hl 0 rfl) ?_
                            refine lv_iadd S.1 S.2.1 dX7_word_30 ?_
                            refine w_topi (y := 8) (by decide) ?_
                            refine w_cald S C w 2 rfl (by unfold vp_in; decide) dX7_word_31 ?_
                            refine w_topi (y := 111) (by decide) ?_
                            refine lv_bipush (v := 32) S.1 S.2.1 dX7_word_32 (by decide) ?_
                            refine lv_icmp_eq (tgt := 43) S.1 S.2.1 dX7_word_34 (by decide) (fun c34_8 => ?_) (fun c34_8 => ?_)
                            · exact absurd c34_8 (by decide)
                            · refine lv_iinc (v := 1) (lv' := [(5, .int 1), (4, .int 8), (3, .int 2), (0, .ref mO), (1, .int 12), (2, .int 12)]) S.1 S.2.1 dX7_word_37 hl (k := 0) rfl (by decide) (by decide) rfl (fun ls hl => ?_)
                              refine lv_goto (tgt := 22) S.1 S.2.1 dX7_word_40 (by decide) ?_
                              refine lv_aload_n S.1 S.2.1 dX7_word_22 rfl (lv_at hl 3 rfl) ?_
                              refine w_get S C w (CC := RX7) (T := TX7) (N := 16) (ref := "GateSumsModel") im_X7_word_X7 0 rfl rfl 7 (by decide) (List.mem_of_getElem? (i := 1) rfl) (fun _ h => h) rfl dX7_word_23 ?_
                              refine lv_iload S.1 S.2.1 dX7_word_26 (lv_at hl 1 rfl) ?_
                              refine lv_iload S.1 S.2.1 dX7_word_28 (lv_at hl 0 rfl) ?_
                              refine lv_iadd S.1 S.2.1 dX7_word_30 ?_
                              refine w_topi (y := 9) (by decide) ?_
                              refine w_cald S C w 2 rfl (by unfold vp_in; decide) dX7_word_31 ?_
                              refine w_topi (y := 114) (by decide) ?_
                              refine lv_bipush (v := 32) S.1 S.2.1 dX7_word_32 (by decide) ?_
                              refine lv_icmp_eq (tgt := 43) S.1 S.2.1 dX7_word_34 (by decide) (fun c34_9 => ?_) (fun c34_9 => ?_)
                              · exact absurd c34_9 (by decide)
                              · refine lv_iinc (v := 2) (lv' := [(5, .int 2), (4, .int 8), (3, .int 2), (0, .ref mO), (1, .int 12), (2, .int 12)]) S.1 S.2.1 dX7_word_37 hl (k := 0) rfl (by decide) (by decide) rfl (fun ls hl => ?_)
                                refine lv_goto (tgt := 22) S.1 S.2.1 dX7_word_40 (by decide) ?_
                                refine lv_aload_n S.1 S.2.1 dX7_word_22 rfl (lv_at hl 3 rfl) ?_
                                refine w_get S C w (CC := RX7) (T := TX7) (N := 16) (ref := "GateSumsModel") im_X7_word_X7 0 rfl rfl 7 (by decide) (List.mem_of_getElem? (i := 1) rfl) (fun _ h => h) rfl dX7_word_23 ?_
                                refine lv_iload S.1 S.2.1 dX7_word_26 (lv_at hl 1 rfl) ?_
                                refine lv_iload S.1 S.2.1 dX7_word_28 (lv_at hl 0 rfl) ?_
                                refine lv_iadd S.1 S.2.1 dX7_word_30 ?_
                                refine w_topi (y := 10) (by decide) ?_
                                refine w_cald S C w 2 rfl (by unfold vp_in; decide) dX7_word_31 ?_
                                refine w_topi (y := 32) (by decide) ?_
                                refine lv_bipush (v := 32) S.1 S.2.1 dX7_word_32 (by decide) ?_
                                refine lv_icmp_eq (tgt := 43) S.1 S.2.1 dX7_word_34 (by decide) (fun c34_10 => ?_) (fun c34_10 => ?_)
                                · refine lv_iload_n S.1 S.2.1 dX7_word_43 rfl (lv_at hl 2 rfl) ?_
                                  refine lv_iload_n S.1 S.2.1 dX7_word_44 rfl (lv_at hl 4 rfl) ?_
                                  refine lv_iload_n S.1 S.2.1 dX7_word_45 rfl (lv_at hl 5 rfl) ?_
                                  refine cs_i (va_runS (As := [.int 2, .int 12, .int 12]) (rest := []) S (c_X7_in l G _ 2 12 12) (cwS 3 S.2.2.2.2 gX7_word_X7_in rfl rfl rfl (by decide +kernel) ⟨Nat.le_of_ble_eq_true rfl, Nat.le_of_ble_eq_true rfl⟩) ⟨wPre_blind, wPre_at C w [] rfl rfl⟩ rfl rfl hl.1 rfl (lv_room (Nat.le_of_ble_eq_true rfl)) dX7_word_46 ⟨Nat.le_of_ble_eq_true rfl, Nat.le_of_ble_eq_true rfl⟩) (fun r46_2 h46_2 => ?_)
                                  refine w_topi (y := (inF 2 12 12)) h46_2 ?_
                                  refine w_topi (y := 0) (by decide) ?_
                                  refine lv_if_eq (tgt := 78) S.1 S.2.1 dX7_word_49 (by decide) (fun c49_2 => ?_) (fun c49_2 => ?_)
                                  · refine lv_iinc (v := 3) (lv' := [(3, .int 3), (5, .int 2), (4, .int 8), (0, .ref mO), (1, .int 12), (2, .int 12)]) S.1 S.2.1 dX7_word_78 hl (k := 2) rfl (by decide) (by decide) rfl (fun ls hl => ?_)
                                    refine lv_iload S.1 S.2.1 dX7_word_81 (lv_at hl 2 rfl) ?_
                                    refine lv_iload S.1 S.2.1 dX7_word_83 (lv_at hl 1 rfl) ?_
                                    refine lv_iconst (v := 1) S.1 S.2.1 dX7_word_85 (by decide) ?_
                                    refine lv_iadd S.1 S.2.1 dX7_word_86 ?_
                                    refine w_topi (y := 3) (by decide) ?_
                                    refine lv_iadd S.1 S.2.1 dX7_word_87 ?_
                                    refine w_topi (y := 11) (by decide) ?_
                                    refine lv_istore (lv' := [(4, .int 11), (3, .int 3), (5, .int 2), (0, .ref mO), (1, .int 12), (2, .int 12)]) S.1 S.2.1 dX7_word_88 hl (by decide) rfl (fun ls hl => ?_)
                                    refine lv_goto (tgt := 9) S.1 S.2.1 dX7_word_90 (by decide) ?_
                                    refine lv_iload S.1 S.2.1 dX7_word_9 (lv_at hl 0 rfl) ?_
                                    refine lv_aload_n S.1 S.2.1 dX7_word_11 rfl (lv_at hl 3 rfl) ?_
                                    refine w_get S C w (CC := RX7) (T := TX7) (N := 16) (ref := "GateSumsModel") im_X7_word_X7 0 rfl rfl 7 (by decide) (List.mem_of_getElem? (i := 1) rfl) (fun _ h => h) rfl dX7_word_12 ?_
                                    refine w_alen S C w 2 1 rfl rfl (v := 73) rfl dX7_word_15 ?_
                                    refine lv_icmp_ge (tgt := 93) S.1 S.2.1 dX7_word_16 (by decide) (fun c16_3 => ?_) (fun c16_3 => ?_)
                                    · exact absurd c16_3 (by decide)
                                    · refine lv_iconst (v := 0) S.1 S.2.1 dX7_word_19 (by decide) ?_
                                      refine lv_istore (lv' := [(5, .int 0), (4, .int 11), (3, .int 3), (0, .ref mO), (1, .int 12), (2, .int 12)]) S.1 S.2.1 dX7_word_20 hl (by decide) rfl (fun ls hl => ?_)
                                      refine lv_aload_n S.1 S.2.1 dX7_word_22 rfl (lv_at hl 3 rfl) ?_
                                      refine w_get S C w (CC := RX7) (T := TX7) (N := 16) (ref := "GateSumsModel") im_X7_word_X7 0 rfl rfl 7 (by decide) (List.mem_of_getElem? (i := 1) rfl) (fun _ h => h) rfl dX7_word_23 ?_
                                      refine lv_iload S.1 S.2.1 dX7_word_26 (lv_at hl 1 rfl) ?_
                                      refine lv_iload S.1 S.2.1 dX7_word_28 (lv_at hl 0 rfl) ?_
                                      refine lv_iadd S.1 S.2.1 dX7_word_30 ?_
                                      refine w_topi (y := 11) (by decide) ?_
                                      refine w_cald S C w 2 rfl (by unfold vp_in; decide) dX7_word_31 ?_
                                      refine w_topi (y := 120) (by decide) ?_
                                      refine lv_bipush (v := 32) S.1 S.2.1 dX7_word_32 (by decide) ?_
                                      refine lv_icmp_eq (tgt := 43) S.1 S.2.1 dX7_word_34 (by decide) (fun c34_11 => ?_) (fun c34_11 => ?_)
                                      · exact absurd c34_11 (by decide)
                                      · refine lv_iinc (v := 1) (lv' := [(5, .int 1), (4, .int 11), (3, .int 3), (0, .ref mO), (1, .int 12), (2, .int 12)]) S.1 S.2.1 dX7_word_37 hl (k := 0) rfl (by decide) (by decide) rfl (fun ls hl => ?_)
                                        refine lv_goto (tgt := 22) S.1 S.2.1 dX7_word_40 (by decide) ?_
                                        refine lv_aload_n S.1 S.2.1 dX7_word_22 rfl (lv_at hl 3 rfl) ?_
                                        refine w_get S C w (CC := RX7) (T := TX7) (N := 16) (ref := "GateSumsModel") im_X7_word_X7 0 rfl rfl 7 (by decide) (List.mem_of_getElem? (i := 1) rfl) (fun _ h => h) rfl dX7_word_23 ?_
                                        refine lv_iload S.1 S.2.1 dX7_word_26 (lv_at hl 1 rfl) ?_
                                        refine lv_iload S.1 S.2.1 dX7_word_28 (lv_at hl 0 rfl) ?_
                                        refine lv_iadd S.1 S.2.1 dX7_word_30 ?_
                                        refine w_topi (y := 12) (by decide) ?_
                                        refine w_cald S C w 2 rfl (by unfold vp_in; decide) dX7_word_31 ?_
                                        refine w_topi (y := 111) (by decide) ?_
                                        refine lv_bipush (v := 32) S.1 S.2.1 dX7_word_32 (by decide) ?_
                                        refine lv_icmp_eq (tgt := 43) S.1 S.2.1 dX7_word_34 (by decide) (fun c34_12 => ?_) (fun c34_12 => ?_)
                                        · exact absurd c34_12 (by decide)
                                        · refine lv_iinc (v := 2) (lv' := [(5, .int 2), (4, .int 11), (3, .int 3), (0, .ref mO), (1, .int 12), (2, .int 12)]) S.1 S.2.1 dX7_word_37 hl (k := 0) rfl (by decide) (by decide) rfl (fun ls hl => ?_)
                                          refine lv_goto (tgt := 22) S.1 S.2.1 dX7_word_40 (by decide) ?_
                                          refine lv_aload_n S.1 S.2.1 dX7_word_22 rfl (lv_at hl 3 rfl) ?_
                                          refine w_get S C w (CC := RX7) (T := TX7) (N := 16) (ref := "GateSumsModel") im_X7_word_X7 0 rfl rfl 7 (by decide) (List.mem_of_getElem? (i := 1) rfl) (fun _ h => h) rfl dX7_word_23 ?_
                                          refine lv_iload S.1 S.2.1 dX7_word_26 (lv_at hl 1 rfl) ?_
                                          refine lv_iload S.1 S.2.1 dX7_word_28 (lv_at hl 0 rfl) ?_
                                          refine lv_iadd S.1 S.2.1 dX7_word_30 ?_
                                          refine w_topi (y := 13) (by decide) ?_
                                          refine w_cald S C w 2 rfl (by unfold vp_in; decide) dX7_word_31 ?_
                                          refine w_topi (y := 114) (by decide) ?_
                                          refine lv_bipush (v := 32) S.1 S.2.1 dX7_word_32 (by decide) ?_
                                          refine lv_icmp_eq (tgt := 43) S.1 S.2.1 dX7_word_34 (by decide) (fun c34_13 => ?_) (fun c34_13 => ?_)
                                          · exact absurd c34_13 (by decide)
                                          · refine lv_iinc (v := 3) (lv' := [(5, .int 3), (4, .int 11), (3, .int 3), (0, .ref mO), (1, .int 12), (2, .int 12)]) S.1 S.2.1 dX7_word_37 hl (k := 0) rfl (by decide) (by decide) rfl (fun ls hl => ?_)
                                            refine lv_goto (tgt := 22) S.1 S.2.1 dX7_word_40 (by decide) ?_
                                            refine lv_aload_n S.1 S.2.1 dX7_word_22 rfl (lv_at hl 3 rfl) ?_
                                            refine w_get S C w (CC := RX7) (T := TX7) (N := 16) (ref := "GateSumsModel") im_X7_word_X7 0 rfl rfl 7 (by decide) (List.mem_of_getElem? (i := 1) rfl) (fun _ h => h) rfl dX7_word_23 ?_
                                            refine lv_iload S.1 S.2.1 dX7_word_26 (lv_at hl 1 rfl) ?_
                                            refine lv_iload S.1 S.2.1 dX7_word_28 (lv_at hl 0 rfl) ?_
                                            refine lv_iadd S.1 S.2.1 dX7_word_30 ?_
                                            refine w_topi (y := 14) (by decide) ?_
                                            refine w_cald S C w 2 rfl (by unfold vp_in; decide) dX7_word_31 ?_
                                            refine w_topi (y := 32) (by decide) ?_
                                            refine lv_bipush (v := 32) S.1 S.2.1 dX7_word_32 (by decide) ?_
                                            refine lv_icmp_eq (tgt := 43) S.1 S.2.1 dX7_word_34 (by decide) (fun c34_14 => ?_) (fun c34_14 => ?_)
                                            · refine lv_iload_n S.1 S.2.1 dX7_word_43 rfl (lv_at hl 2 rfl) ?_
                                              refine lv_iload_n S.1 S.2.1 dX7_word_44 rfl (lv_at hl 4 rfl) ?_
                                              refine lv_iload_n S.1 S.2.1 dX7_word_45 rfl (lv_at hl 5 rfl) ?_
                                              refine cs_i (va_runS (As := [.int 3, .int 12, .int 12]) (rest := []) S (c_X7_in l G _ 3 12 12) (cwS 3 S.2.2.2.2 gX7_word_X7_in rfl rfl rfl (by decide +kernel) ⟨Nat.le_of_ble_eq_true rfl, Nat.le_of_ble_eq_true rfl⟩) ⟨wPre_blind, wPre_at C w [] rfl rfl⟩ rfl rfl hl.1 rfl (lv_room (Nat.le_of_ble_eq_true rfl)) dX7_word_46 ⟨Nat.le_of_ble_eq_true rfl, Nat.le_of_ble_eq_true rfl⟩) (fun r46_3 h46_3 => ?_)
                                              refine w_topi (y := (inF 3 12 12)) h46_3 ?_
                                              refine w_topi (y := 0) (by decide) ?_
                                              refine lv_if_eq (tgt := 78) S.1 S.2.1 dX7_word_49 (by decide) (fun c49_3 => ?_) (fun c49_3 => ?_)
                                              · refine lv_iinc (v := 4) (lv' := [(3, .int 4), (5, .int 3), (4, .int 11), (0, .ref mO), (1, .int 12), (2, .int 12)]) S.1 S.2.1 dX7_word_78 hl (k := 2) rfl (by decide) (by decide) rfl (fun ls hl => ?_)
                                                refine lv_iload S.1 S.2.1 dX7_word_81 (lv_at hl 2 rfl) ?_
                                                refine lv_iload S.1 S.2.1 dX7_word_83 (lv_at hl 1 rfl) ?_
                                                refine lv_iconst (v := 1) S.1 S.2.1 dX7_word_85 (by decide) ?_
                                                refine lv_iadd S.1 S.2.1 dX7_word_86 ?_
                                                refine w_topi (y := 4) (by decide) ?_
                                                refine lv_iadd S.1 S.2.1 dX7_word_87 ?_
                                                refine w_topi (y := 15) (by decide) ?_
                                                refine lv_istore (lv' := [(4, .int 15), (3, .int 4), (5, .int 3), (0, .ref mO), (1, .int 12), (2, .int 12)]) S.1 S.2.1 dX7_word_88 hl (by decide) rfl (fun ls hl => ?_)
                                                refine lv_goto (tgt := 9) S.1 S.2.1 dX7_word_90 (by decide) ?_
                                                refine lv_iload S.1 S.2.1 dX7_word_9 (lv_at hl 0 rfl) ?_
                                                refine lv_aload_n S.1 S.2.1 dX7_word_11 rfl (lv_at hl 3 rfl) ?_
                                                refine w_get S C w (CC := RX7) (T := TX7) (N := 16) (ref := "GateSumsModel") im_X7_word_X7 0 rfl rfl 7 (by decide) (List.mem_of_getElem? (i := 1) rfl) (fun _ h => h) rfl dX7_word_12 ?_
                                                refine w_alen S C w 2 1 rfl rfl (v := 73) rfl dX7_word_15 ?_
                                                refine lv_icmp_ge (tgt := 93) S.1 S.2.1 dX7_word_16 (by decide) (fun c16_4 => ?_) (fun c16_4 => ?_)
                                                · exact absurd c16_4 (by decide)
                                                · refine lv_iconst (v := 0) S.1 S.2.1 dX7_word_19 (by decide) ?_
                                                  refine lv_istore (lv' := [(5, .int 0), (4, .int 15), (3, .int 4), (0, .ref mO), (1, .int 12), (2, .int 12)]) S.1 S.2.1 dX7_word_20 hl (by decide) rfl (fun ls hl => ?_)
                                                  refine lv_aload_n S.1 S.2.1 dX7_word_22 rfl (lv_at hl 3 rfl) ?_
                                                  refine w_get S C w (CC := RX7) (T := TX7) (N := 16) (ref := "GateSumsModel") im_X7_word_X7 0 rfl rfl 7 (by decide) (List.mem_of_getElem? (i := 1) rfl) (fun _ h => h) rfl dX7_word_23 ?_
                                                  refine lv_iload S.1 S.2.1 dX7_word_26 (lv_at hl 1 rfl) ?_
                                                  refine lv_iload S.1 S.2.1 dX7_word_28 (lv_at hl 0 rfl) ?_
                                                  refine lv_iadd S.1 S.2.1 dX7_word_30 ?_
                                                  refine w_topi (y := 15) (by decide) ?_
                                                  refine w_cald S C w 2 rfl (by unfold vp_in; decide) dX7_word_31 ?_
                                                  refine w_topi (y := 110) (by decide) ?_
                                                  refine lv_bipush (v := 32) S.1 S.2.1 dX7_word_32 (by decide) ?_
                                                  refine lv_icmp_eq (tgt := 43) S.1 S.2.1 dX7_word_34 (by decide) (fun c34_15 => ?_) (fun c34_15 => ?_)
                                                  · exact absurd c34_15 (by decide)
                                                  · refine lv_iinc (v := 1) (lv' := [(5, .int 1), (4, .int 15), (3, .int 4), (0, .ref mO), (1, .int 12), (2, .int 12)]) S.1 S.2.1 dX7_word_37 hl (k := 0) rfl (by decide) (by decide) rfl (fun ls hl => ?_)
                                                    refine lv_goto (tgt := 22) S.1 S.2.1 dX7_word_40 (by decide) ?_
                                                    refine lv_aload_n S.1 S.2.1 dX7_word_22 rfl (lv_at hl 3 rfl) ?_
                                                    refine w_get S C w (CC := RX7) (T := TX7) (N := 16) (ref := "GateSumsModel") im_X7_word_X7 0 rfl rfl 7 (by decide) (List.mem_of_getElem? (i := 1) rfl) (fun _ h => h) rfl dX7_word_23 ?_
                                                    refine lv_iload S.1 S.2.1 dX7_word_26 (lv_at hl 1 rfl) ?_
                                                    refine lv_iload S.1 S.2.1 dX7_word_28 (lv_at hl 0 rfl) ?_
                                                    refine lv_iadd S.1 S.2.1 dX7_word_30 ?_
                                                    refine w_topi (y := 16) (by decide) ?_
                                                    refine w_cald S C w 2 rfl (by unfold vp_in; decide) dX7_word_31 ?_
                                                    refine w_topi (y := 97) (by decide) ?_
                                                    refine lv_bipush (v := 32) S.1 S.2.1 dX7_word_32 (by decide) ?_
                                                    refine lv_icmp_eq (tgt := 43) S.1 S.2.1 dX7_word_34 (by decide) (fun c34_16 => ?_) (fun c34_16 => ?_)
                                                    · exact absurd c34_16 (by decide)
                                                    · refine lv_iinc (v := 2) (lv' := [(5, .int 2), (4, .int 15), (3, .int 4), (0, .ref mO), (1, .int 12), (2, .int 12)]) S.1 S.2.1 dX7_word_37 hl (k := 0) rfl (by decide) (by decide) rfl (fun ls hl => ?_)
                                                      refine lv_goto (tgt := 22) S.1 S.2.1 dX7_word_40 (by decide) ?_
                                                      refine lv_aload_n S.1 S.2.1 dX7_word_22 rfl (lv_at hl 3 rfl) ?_
                                                      refine w_get S C w (CC := RX7) (T := TX7) (N := 16) (ref := "GateSumsModel") im_X7_word_X7 0 rfl rfl 7 (by decide) (List.mem_of_getElem? (i := 1) rfl) (fun _ h => h) rfl dX7_word_23 ?_
                                                      refine lv_iload S.1 S.2.1 dX7_word_26 (lv_at hl 1 rfl) ?_
                                                      refine lv_iload S.1 S.2.1 dX7_word_28 (lv_at hl 0 rfl) ?_
                                                      refine lv_iadd S.1 S.2.1 dX7_word_30 ?_
                                                      refine w_topi (y := 17) (by decide) ?_
                                                      refine w_cald S C w 2 rfl (by unfold vp_in; decide) dX7_word_31 ?_
                                                      refine w_topi (y := 110) (by decide) ?_
                                                      refine lv_bipush (v := 32) S.1 S.2.1 dX7_word_32 (by decide) ?_
                                                      refine lv_icmp_eq (tgt := 43) S.1 S.2.1 dX7_word_34 (by decide) (fun c34_17 => ?_) (fun c34_17 => ?_)
                                                      · exact absurd c34_17 (by decide)
                                                      · refine lv_iinc (v := 3) (lv' := [(5, .int 3), (4, .int 15), (3, .int 4), (0, .ref mO), (1, .int 12), (2, .int 12)]) S.1 S.2.1 dX7_word_37 hl (k := 0) rfl (by decide) (by decide) rfl (fun ls hl => ?_)
                                                        refine lv_goto (tgt := 22) S.1 S.2.1 dX7_word_40 (by decide) ?_
                                                        refine lv_aload_n S.1 S.2.1 dX7_word_22 rfl (lv_at hl 3 rfl) ?_
                                                        refine w_get S C w (CC := RX7) (T := TX7) (N := 16) (ref := "GateSumsModel") im_X7_word_X7 0 rfl rfl 7 (by decide) (List.mem_of_getElem? (i := 1) rfl) (fun _ h => h) rfl dX7_word_23 ?_
                                                        refine lv_iload S.1 S.2.1 dX7_word_26 (lv_at hl 1 rfl) ?_
                                                        refine lv_iload S.1 S.2.1 dX7_word_28 (lv_at hl 0 rfl) ?_
                                                        refine lv_iadd S.1 S.2.1 dX7_word_30 ?_
                                                        refine w_topi (y := 18) (by decide) ?_
                                                        refine w_cald S C w 2 rfl (by unfold vp_in; decide) dX7_word_31 ?_
                                                        refine w_topi (y := 100) (by decide) ?_
                                                        refine lv_bipush (v := 32) S.1 S.2.1 dX7_word_32 (by decide) ?_
                                                        refine lv_icmp_eq (tgt := 43) S.1 S.2.1 dX7_word_34 (by decide) (fun c34_18 => ?_) (fun c34_18 => ?_)
                                                        · exact absurd c34_18 (by decide)
                                                        · refine lv_iinc (v := 4) (lv' := [(5, .int 4), (4, .int 15), (3, .int 4), (0, .ref mO), (1, .int 12), (2, .int 12)]) S.1 S.2.1 dX7_word_37 hl (k := 0) rfl (by decide) (by decide) rfl (fun ls hl => ?_)
                                                          refine lv_goto (tgt := 22) S.1 S.2.1 dX7_word_40 (by decide) ?_
                                                          refine lv_aload_n S.1 S.2.1 dX7_word_22 rfl (lv_at hl 3 rfl) ?_
                                                          refine w_get S C w (CC := RX7) (T := TX7) (N := 16) (ref := "GateSumsModel") im_X7_word_X7 0 rfl rfl 7 (by decide) (List.mem_of_getElem? (i := 1) rfl) (fun _ h => h) rfl dX7_word_23 ?_
                                                          refine lv_iload S.1 S.2.1 dX7_word_26 (lv_at hl 1 rfl) ?_
                                                          refine lv_iload S.1 S.2.1 dX7_word_28 (lv_at hl 0 rfl) ?_
                                                          refine lv_iadd S.1 S.2.1 dX7_word_30 ?_
                                                          refine w_topi (y := 19) (by decide) ?_
                                                          refine w_cald S C w 2 rfl (by unfold vp_in; decide) dX7_word_31 ?_
                                                          refine w_topi (y := 32) (by decide) ?_
                                                          refine lv_bipush (v := 32) S.1 S.2.1 dX7_word_32 (by decide) ?_
                                                          refine lv_icmp_eq (tgt := 43) S.1 S.2.1 dX7_word_34 (by decide) (fun c34_19 => ?_) (fun c34_19 => ?_)
                                                          · refine lv_iload_n S.1 S.2.1 dX7_word_43 rfl (lv_at hl 2 rfl) ?_
                                                            refine lv_iload_n S.1 S.2.1 dX7_word_44 rfl (lv_at hl 4 rfl) ?_
                                                            refine lv_iload_n S.1 S.2.1 dX7_word_45 rfl (lv_at hl 5 rfl) ?_
                                                            refine cs_i (va_runS (As := [.int 4, .int 12, .int 12]) (rest := []) S (c_X7_in l G _ 4 12 12) (cwS 3 S.2.2.2.2 gX7_word_X7_in rfl rfl rfl (by decide +kernel) ⟨Nat.le_of_ble_eq_true rfl, Nat.le_of_ble_eq_true rfl⟩) ⟨wPre_blind, wPre_at C w [] rfl rfl⟩ rfl rfl hl.1 rfl (lv_room (Nat.le_of_ble_eq_true rfl)) dX7_word_46 ⟨Nat.le_of_ble_eq_true rfl, Nat.le_of_ble_eq_true rfl⟩) (fun r46_4 h46_4 => ?_)
                                                            refine w_topi (y := (inF 4 12 12)) h46_4 ?_
                                                            refine w_topi (y := 0) (by decide) ?_
                                                            refine lv_if_eq (tgt := 78) S.1 S.2.1 dX7_word_49 (by decide) (fun c49_4 => ?_) (fun c49_4 => ?_)
                                                            · refine lv_iinc (v := 5) (lv' := [(3, .int 5), (5, .int 4), (4, .int 15), (0, .ref mO), (1, .int 12), (2, .int 12)]) S.1 S.2.1 dX7_word_78 hl (k := 2) rfl (by decide) (by decide) rfl (fun ls hl => ?_)
                                                              refine lv_iload S.1 S.2.1 dX7_word_81 (lv_at hl 2 rfl) ?_
                                                              refine lv_iload S.1 S.2.1 dX7_word_83 (lv_at hl 1 rfl) ?_
                                                              refine lv_iconst (v := 1) S.1 S.2.1 dX7_word_85 (by decide) ?_
                                                              refine lv_iadd S.1 S.2.1 dX7_word_86 ?_
                                                              refine w_topi (y := 5) (by decide) ?_
                                                              refine lv_iadd S.1 S.2.1 dX7_word_87 ?_
                                                              refine w_topi (y := 20) (by decide) ?_
                                                              refine lv_istore (lv' := [(4, .int 20), (3, .int 5), (5, .int 4), (0, .ref mO), (1, .int 12), (2, .int 12)]) S.1 S.2.1 dX7_word_88 hl (by decide) rfl (fun ls hl => ?_)
                                                              refine lv_goto (tgt := 9) S.1 S.2.1 dX7_word_90 (by decide) ?_
                                                              refine lv_iload S.1 S.2.1 dX7_word_9 (lv_at hl 0 rfl) ?_
                                                              refine lv_aload_n S.1 S.2.1 dX7_word_11 rfl (lv_at hl 3 rfl) ?_
                                                              refine w_get S C w (CC := RX7) (T := TX7) (N := 16) (ref := "GateSumsModel") im_X7_word_X7 0 rfl rfl 7 (by decide) (List.mem_of_getElem? (i := 1) rfl) (fun _ h => h) rfl dX7_word_12 ?_
                                                              refine w_alen S C w 2 1 rfl rfl (v := 73) rfl dX7_word_15 ?_
                                                              refine lv_icmp_ge (tgt := 93) S.1 S.2.1 dX7_word_16 (by decide) (fun c16_5 => ?_) (fun c16_5 => ?_)
                                                              · exact absurd c16_5 (by decide)
                                                              · refine lv_iconst (v := 0) S.1 S.2.1 dX7_word_19 (by decide) ?_
                                                                refine lv_istore (lv' := [(5, .int 0), (4, .int 20), (3, .int 5), (0, .ref mO), (1, .int 12), (2, .int 12)]) S.1 S.2.1 dX7_word_20 hl (by decide) rfl (fun ls hl => ?_)
                                                                refine lv_aload_n S.1 S.2.1 dX7_word_22 rfl (lv_at hl 3 rfl) ?_
                                                                refine w_get S C w (CC := RX7) (T := TX7) (N := 16) (ref := "GateSumsModel") im_X7_word_X7 0 rfl rfl 7 (by decide) (List.mem_of_getElem? (i := 1) rfl) (fun _ h => h) rfl dX7_word_23 ?_
                                                                refine lv_iload S.1 S.2.1 dX7_word_26 (lv_at hl 1 rfl) ?_
                                                                refine lv_iload S.1 S.2.1 dX7_word_28 (lv_at hl 0 rfl) ?_
                                                                refine lv_iadd S.1 S.2.1 dX7_word_30 ?_
                                                                refine w_topi (y := 20) (by decide) ?_
                                                                refine w_cald S C w 2 rfl (by unfold vp_in; decide) dX7_word_31 ?_
                                                                refine w_topi (y := 110) (by decide) ?_
                                                                refine lv_bipush (v := 32) S.1 S.2.1 dX7_word_32 (by decide) ?_
                                                                refine lv_icmp_eq (tgt := 43) S.1 S.2.1 dX7_word_34 (by decide) (fun c34_20 => ?_) (fun c34_20 => ?_)
                                                                · exact absurd c34_20 (by decide)
                                                                · refine lv_iinc (v := 1) (lv' := [(5, .int 1), (4, .int 20), (3, .int 5), (0, .ref mO), (1, .int 12), (2, .int 12)]) S.1 S.2.1 dX7_word_37 hl (k := 0) rfl (by decide) (by decide) rfl (fun ls hl => ?_)
                                                                  refine lv_goto (tgt := 22) S.1 S.2.1 dX7_word_40 (by decide) ?_
                                                                  refine lv_aload_n S.1 S.2.1 dX7_word_22 rfl (lv_at hl 3 rfl) ?_
                                                                  refine w_get S C w (CC := RX7) (T := TX7) (N := 16) (ref := "GateSumsModel") im_X7_word_X7 0 rfl rfl 7 (by decide) (List.mem_of_getElem? (i := 1) rfl) (fun _ h => h) rfl dX7_word_23 ?_
                                                                  refine lv_iload S.1 S.2.1 dX7_word_26 (lv_at hl 1 rfl) ?_
                                                                  refine lv_iload S.1 S.2.1 dX7_word_28 (lv_at hl 0 rfl) ?_
                                                                  refine lv_iadd S.1 S.2.1 dX7_word_30 ?_
                                                                  refine w_topi (y := 21) (by decide) ?_
                                                                  refine w_cald S C w 2 rfl (by unfold vp_in; decide) dX7_word_31 ?_
                                                                  refine w_topi (y := 111) (by decide) ?_
                                                                  refine lv_bipush (v := 32) S.1 S.2.1 dX7_word_32 (by decide) ?_
                                                                  refine lv_icmp_eq (tgt := 43) S.1 S.2.1 dX7_word_34 (by decide) (fun c34_21 => ?_) (fun c34_21 => ?_)
                                                                  · exact absurd c34_21 (by decide)
                                                                  · refine lv_iinc (v := 2) (lv' := [(5, .int 2), (4, .int 20), (3, .int 5), (0, .ref mO), (1, .int 12), (2, .int 12)]) S.1 S.2.1 dX7_word_37 hl (k := 0) rfl (by decide) (by decide) rfl (fun ls hl => ?_)
                                                                    refine lv_goto (tgt := 22) S.1 S.2.1 dX7_word_40 (by decide) ?_
                                                                    refine lv_aload_n S.1 S.2.1 dX7_word_22 rfl (lv_at hl 3 rfl) ?_
                                                                    refine w_get S C w (CC := RX7) (T := TX7) (N := 16) (ref := "GateSumsModel") im_X7_word_X7 0 rfl rfl 7 (by decide) (List.mem_of_getElem? (i := 1) rfl) (fun _ h => h) rfl dX7_word_23 ?_
                                                                    refine lv_iload S.1 S.2.1 dX7_word_26 (lv_at hl 1 rfl) ?_
                                                                    refine lv_iload S.1 S.2.1 dX7_word_28 (lv_at hl 0 rfl) ?_
                                                                    refine lv_iadd S.1 S.2.1 dX7_word_30 ?_
                                                                    refine w_topi (y := 22) (by decide) ?_
                                                                    refine w_cald S C w 2 rfl (by unfold vp_in; decide) dX7_word_31 ?_
                                                                    refine w_topi (y := 114) (by decide) ?_
                                                                    refine lv_bipush (v := 32) S.1 S.2.1 dX7_word_32 (by decide) ?_
                                                                    refine lv_icmp_eq (tgt := 43) S.1 S.2.1 dX7_word_34 (by decide) (fun c34_22 => ?_) (fun c34_22 => ?_)
                                                                    · exact absurd c34_22 (by decide)
                                                                    · refine lv_iinc (v := 3) (lv' := [(5, .int 3), (4, .int 20), (3, .int 5), (0, .ref mO), (1, .int 12), (2, .int 12)]) S.1 S.2.1 dX7_word_37 hl (k := 0) rfl (by decide) (by decide) rfl (fun ls hl => ?_)
                                                                      refine lv_goto (tgt := 22) S.1 S.2.1 dX7_word_40 (by decide) ?_
                                                                      refine lv_aload_n S.1 S.2.1 dX7_word_22 rfl (lv_at hl 3 rfl) ?_
                                                                      refine w_get S C w (CC := RX7) (T := TX7) (N := 16) (ref := "GateSumsModel") im_X7_word_X7 0 rfl rfl 7 (by decide) (List.mem_of_getElem? (i := 1) rfl) (fun _ h => h) rfl dX7_word_23 ?_
                                                                      refine lv_iload S.1 S.2.1 dX7_word_26 (lv_at hl 1 rfl) ?_
                                                                      refine lv_iload S.1 S.2.1 dX7_word_28 (lv_at hl 0 rfl) ?_
                                                                      refine lv_iadd S.1 S.2.1 dX7_word_30 ?_
                                                                      refine w_topi (y := 23) (by decide) ?_
                                                                      refine w_cald S C w 2 rfl (by unfold vp_in; decide) dX7_word_31 ?_
                                                                      refine w_topi (y := 32) (by decide) ?_
                                                                      refine lv_bipush (v := 32) S.1 S.2.1 dX7_word_32 (by decide) ?_
                                                                      refine lv_icmp_eq (tgt := 43) S.1 S.2.1 dX7_word_34 (by decide) (fun c34_23 => ?_) (fun c34_23 => ?_)
                                                                      · refine lv_iload_n S.1 S.2.1 dX7_word_43 rfl (lv_at hl 2 rfl) ?_
                                                                        refine lv_iload_n S.1 S.2.1 dX7_word_44 rfl (lv_at hl 4 rfl) ?_
                                                                        refine lv_iload_n S.1 S.2.1 dX7_word_45 rfl (lv_at hl 5 rfl) ?_
                                                                        refine cs_i (va_runS (As := [.int 5, .int 12, .int 12]) (rest := []) S (c_X7_in l G _ 5 12 12) (cwS 3 S.2.2.2.2 gX7_word_X7_in rfl rfl rfl (by decide +kernel) ⟨Nat.le_of_ble_eq_true rfl, Nat.le_of_ble_eq_true rfl⟩) ⟨wPre_blind, wPre_at C w [] rfl rfl⟩ rfl rfl hl.1 rfl (lv_room (Nat.le_of_ble_eq_true rfl)) dX7_word_46 ⟨Nat.le_of_ble_eq_true rfl, Nat.le_of_ble_eq_true rfl⟩) (fun r46_5 h46_5 => ?_)
                                                                        refine w_topi (y := (inF 5 12 12)) h46_5 ?_
                                                                        refine w_topi (y := 0) (by decide) ?_
                                                                        refine lv_if_eq (tgt := 78) S.1 S.2.1 dX7_word_49 (by decide) (fun c49_5 => ?_) (fun c49_5 => ?_)
                                                                        · refine lv_iinc (v := 6) (lv' := [(3, .int 6), (5, .int 3), (4, .int 20), (0, .ref mO), (1, .int 12), (2, .int 12)]) S.1 S.2.1 dX7_word_78 hl (k := 2) rfl (by decide) (by decide) rfl (fun ls hl => ?_)
                                                                          refine lv_iload S.1 S.2.1 dX7_word_81 (lv_at hl 2 rfl) ?_
                                                                          refine lv_iload S.1 S.2.1 dX7_word_83 (lv_at hl 1 rfl) ?_
                                                                          refine lv_iconst (v := 1) S.1 S.2.1 dX7_word_85 (by decide) ?_
                                                                          refine lv_iadd S.1 S.2.1 dX7_word_86 ?_
                                                                          refine w_topi (y := 4) (by decide) ?_
                                                                          refine lv_iadd S.1 S.2.1 dX7_word_87 ?_
                                                                          refine w_topi (y := 24) (by decide) ?_
                                                                          refine lv_istore (lv' := [(4, .int 24), (3, .int 6), (5, .int 3), (0, .ref mO), (1, .int 12), (2, .int 12)]) S.1 S.2.1 dX7_word_88 hl (by decide) rfl (fun ls hl => ?_)
                                                                          refine lv_goto (tgt := 9) S.1 S.2.1 dX7_word_90 (by decide) ?_
                                                                          refine lv_iload S.1 S.2.1 dX7_word_9 (lv_at hl 0 rfl) ?_
                                                                          refine lv_aload_n S.1 S.2.1 dX7_word_11 rfl (lv_at hl 3 rfl) ?_
                                                                          refine w_get S C w (CC := RX7) (T := TX7) (N := 16) (ref := "GateSumsModel") im_X7_word_X7 0 rfl rfl 7 (by decide) (List.mem_of_getElem? (i := 1) rfl) (fun _ h => h) rfl dX7_word_12 ?_
                                                                          refine w_alen S C w 2 1 rfl rfl (v := 73) rfl dX7_word_15 ?_
                                                                          refine lv_icmp_ge (tgt := 93) S.1 S.2.1 dX7_word_16 (by decide) (fun c16_6 => ?_) (fun c16_6 => ?_)
                                                                          · exact absurd c16_6 (by decide)
                                                                          · refine lv_iconst (v := 0) S.1 S.2.1 dX7_word_19 (by decide) ?_
                                                                            refine lv_istore (lv' := [(5, .int 0), (4, .int 24), (3, .int 6), (0, .ref mO), (1, .int 12), (2, .int 12)]) S.1 S.2.1 dX7_word_20 hl (by decide) rfl (fun ls hl => ?_)
                                                                            refine lv_aload_n S.1 S.2.1 dX7_word_22 rfl (lv_at hl 3 rfl) ?_
                                                                            refine w_get S C w (CC := RX7) (T := TX7) (N := 16) (ref := "GateSumsModel") im_X7_word_X7 0 rfl rfl 7 (by decide) (List.mem_of_getElem? (i := 1) rfl) (fun _ h => h) rfl dX7_word_23 ?_
                                                                            refine lv_iload S.1 S.2.1 dX7_word_26 (lv_at hl 1 rfl) ?_
                                                                            refine lv_iload S.1 S.2.1 dX7_word_28 (lv_at hl 0 rfl) ?_
                                                                            refine lv_iadd S.1 S.2.1 dX7_word_30 ?_
                                                                            refine w_topi (y := 24) (by decide) ?_
                                                                            refine w_cald S C w 2 rfl (by unfold vp_in; decide) dX7_word_31 ?_
                                                                            refine w_topi (y := 120) (by decide) ?_
                                                                            refine lv_bipush (v := 32) S.1 S.2.1 dX7_word_32 (by decide) ?_
                                                                            refine lv_icmp_eq (tgt := 43) S.1 S.2.1 dX7_word_34 (by decide) (fun c34_24 => ?_) (fun c34_24 => ?_)
                                                                            · exact absurd c34_24 (by decide)
                                                                            · refine lv_iinc (v := 1) (lv' := [(5, .int 1), (4, .int 24), (3, .int 6), (0, .ref mO), (1, .int 12), (2, .int 12)]) S.1 S.2.1 dX7_word_37 hl (k := 0) rfl (by decide) (by decide) rfl (fun ls hl => ?_)
                                                                              refine lv_goto (tgt := 22) S.1 S.2.1 dX7_word_40 (by decide) ?_
                                                                              refine lv_aload_n S.1 S.2.1 dX7_word_22 rfl (lv_at hl 3 rfl) ?_
                                                                              refine w_get S C w (CC := RX7) (T := TX7) (N := 16) (ref := "GateSumsModel") im_X7_word_X7 0 rfl rfl 7 (by decide) (List.mem_of_getElem? (i := 1) rfl) (fun _ h => h) rfl dX7_word_23 ?_
                                                                              refine lv_iload S.1 S.2.1 dX7_word_26 (lv_at hl 1 rfl) ?_
                                                                              refine lv_iload S.1 S.2.1 dX7_word_28 (lv_at hl 0 rfl) ?_
                                                                              refine lv_iadd S.1 S.2.1 dX7_word_30 ?_
                                                                              refine w_topi (y := 25) (by decide) ?_
                                                                              refine w_cald S C w 2 rfl (by unfold vp_in; decide) dX7_word_31 ?_
                                                                              refine w_topi (y := 110) (by decide) ?_
                                                                              refine lv_bipush (v := 32) S.1 S.2.1 dX7_word_32 (by decide) ?_
                                                                              refine lv_icmp_eq (tgt := 43) S.1 S.2.1 dX7_word_34 (by decide) (fun c34_25 => ?_) (fun c34_25 => ?_)
                                                                              · exact absurd c34_25 (by decide)
                                                                              · refine lv_iinc (v := 2) (lv' := [(5, .int 2), (4, .int 24), (3, .int 6), (0, .ref mO), (1, .int 12), (2, .int 12)]) S.1 S.2.1 dX7_word_37 hl (k := 0) rfl (by decide) (by decide) rfl (fun ls hl => ?_)
                                                                                refine lv_goto (tgt := 22) S.1 S.2.1 dX7_word_40 (by decide) ?_
                                                                                refine lv_aload_n S.1 S.2.1 dX7_word_22 rfl (lv_at hl 3 rfl) ?_
                                                                                refine w_get S C w (CC := RX7) (T := TX7) (N := 16) (ref := "GateSumsModel") im_X7_word_X7 0 rfl rfl 7 (by decide) (List.mem_of_getElem? (i := 1) rfl) (fun _ h => h) rfl dX7_word_23 ?_
                                                                                refine lv_iload S.1 S.2.1 dX7_word_26 (lv_at hl 1 rfl) ?_
                                                                                refine lv_iload S.1 S.2.1 dX7_word_28 (lv_at hl 0 rfl) ?_
                                                                                refine lv_iadd S.1 S.2.1 dX7_word_30 ?_
                                                                                refine w_topi (y := 26) (by decide) ?_
                                                                                refine w_cald S C w 2 rfl (by unfold vp_in; decide) dX7_word_31 ?_
                                                                                refine w_topi (y := 111) (by decide) ?_
                                                                                refine lv_bipush (v := 32) S.1 S.2.1 dX7_word_32 (by decide) ?_
                                                                                refine lv_icmp_eq (tgt := 43) S.1 S.2.1 dX7_word_34 (by decide) (fun c34_26 => ?_) (fun c34_26 => ?_)
                                                                                · exact absurd c34_26 (by decide)
                                                                                · refine lv_iinc (v := 3) (lv' := [(5, .int 3), (4, .int 24), (3, .int 6), (0, .ref mO), (1, .int 12), (2, .int 12)]) S.1 S.2.1 dX7_word_37 hl (k := 0) rfl (by decide) (by decide) rfl (fun ls hl => ?_)
                                                                                  refine lv_goto (tgt := 22) S.1 S.2.1 dX7_word_40 (by decide) ?_
                                                                                  refine lv_aload_n S.1 S.2.1 dX7_word_22 rfl (lv_at hl 3 rfl) ?_
                                                                                  refine w_get S C w (CC := RX7) (T := TX7) (N := 16) (ref := "GateSumsModel") im_X7_word_X7 0 rfl rfl 7 (by decide) (List.mem_of_getElem? (i := 1) rfl) (fun _ h => h) rfl dX7_word_23 ?_
                                                                                  refine lv_iload S.1 S.2.1 dX7_word_26 (lv_at hl 1 rfl) ?_
                                                                                  refine lv_iload S.1 S.2.1 dX7_word_28 (lv_at hl 0 rfl) ?_
                                                                                  refine lv_iadd S.1 S.2.1 dX7_word_30 ?_
                                                                                  refine w_topi (y := 27) (by decide) ?_
                                                                                  refine w_cald S C w 2 rfl (by unfold vp_in; decide) dX7_word_31 ?_
                                                                                  refine w_topi (y := 114) (by decide) ?_
                                                                                  refine lv_bipush (v := 32) S.1 S.2.1 dX7_word_32 (by decide) ?_
                                                                                  refine lv_icmp_eq (tgt := 43) S.1 S.2.1 dX7_word_34 (by decide) (fun c34_27 => ?_) (fun c34_27 => ?_)
                                                                                  · exact absurd c34_27 (by decide)
                                                                                  · refine lv_iinc (v := 4) (lv' := [(5, .int 4), (4, .int 24), (3, .int 6), (0, .ref mO), (1, .int 12), (2, .int 12)]) S.1 S.2.1 dX7_word_37 hl (k := 0) rfl (by decide) (by decide) rfl (fun ls hl => ?_)
                                                                                    refine lv_goto (tgt := 22) S.1 S.2.1 dX7_word_40 (by decide) ?_
                                                                                    refine lv_aload_n S.1 S.2.1 dX7_word_22 rfl (lv_at hl 3 rfl) ?_
                                                                                    refine w_get S C w (CC := RX7) (T := TX7) (N := 16) (ref := "GateSumsModel") im_X7_word_X7 0 rfl rfl 7 (by decide) (List.mem_of_getElem? (i := 1) rfl) (fun _ h => h) rfl dX7_word_23 ?_
                                                                                    refine lv_iload S.1 S.2.1 dX7_word_26 (lv_at hl 1 rfl) ?_
                                                                                    refine lv_iload S.1 S.2.1 dX7_word_28 (lv_at hl 0 rfl) ?_
                                                                                    refine lv_iadd S.1 S.2.1 dX7_word_30 ?_
                                                                                    refine w_topi (y := 28) (by decide) ?_
                                                                                    refine w_cald S C w 2 rfl (by unfold vp_in; decide) dX7_word_31 ?_
                                                                                    refine w_topi (y := 32) (by decide) ?_
                                                                                    refine lv_bipush (v := 32) S.1 S.2.1 dX7_word_32 (by decide) ?_
                                                                                    refine lv_icmp_eq (tgt := 43) S.1 S.2.1 dX7_word_34 (by decide) (fun c34_28 => ?_) (fun c34_28 => ?_)
                                                                                    · refine lv_iload_n S.1 S.2.1 dX7_word_43 rfl (lv_at hl 2 rfl) ?_
                                                                                      refine lv_iload_n S.1 S.2.1 dX7_word_44 rfl (lv_at hl 4 rfl) ?_
                                                                                      refine lv_iload_n S.1 S.2.1 dX7_word_45 rfl (lv_at hl 5 rfl) ?_
                                                                                      refine cs_i (va_runS (As := [.int 6, .int 12, .int 12]) (rest := []) S (c_X7_in l G _ 6 12 12) (cwS 3 S.2.2.2.2 gX7_word_X7_in rfl rfl rfl (by decide +kernel) ⟨Nat.le_of_ble_eq_true rfl, Nat.le_of_ble_eq_true rfl⟩) ⟨wPre_blind, wPre_at C w [] rfl rfl⟩ rfl rfl hl.1 rfl (lv_room (Nat.le_of_ble_eq_true rfl)) dX7_word_46 ⟨Nat.le_of_ble_eq_true rfl, Nat.le_of_ble_eq_true rfl⟩) (fun r46_6 h46_6 => ?_)
                                                                                      refine w_topi (y := (inF 6 12 12)) h46_6 ?_
                                                                                      refine w_topi (y := 0) (by decide) ?_
                                                                                      refine lv_if_eq (tgt := 78) S.1 S.2.1 dX7_word_49 (by decide) (fun c49_6 => ?_) (fun c49_6 => ?_)
                                                                                      · refine lv_iinc (v := 7) (lv' := [(3, .int 7), (5, .int 4), (4, .int 24), (0, .ref mO), (1, .int 12), (2, .int 12)]) S.1 S.2.1 dX7_word_78 hl (k := 2) rfl (by decide) (by decide) rfl (fun ls hl => ?_)
                                                                                        refine lv_iload S.1 S.2.1 dX7_word_81 (lv_at hl 2 rfl) ?_
                                                                                        refine lv_iload S.1 S.2.1 dX7_word_83 (lv_at hl 1 rfl) ?_
                                                                                        refine lv_iconst (v := 1) S.1 S.2.1 dX7_word_85 (by decide) ?_
                                                                                        refine lv_iadd S.1 S.2.1 dX7_word_86 ?_
                                                                                        refine w_topi (y := 5) (by decide) ?_
                                                                                        refine lv_iadd S.1 S.2.1 dX7_word_87 ?_
                                                                                        refine w_topi (y := 29) (by decide) ?_
                                                                                        refine lv_istore (lv' := [(4, .int 29), (3, .int 7), (5, .int 4), (0, .ref mO), (1, .int 12), (2, .int 12)]) S.1 S.2.1 dX7_word_88 hl (by decide) rfl (fun ls hl => ?_)
                                                                                        refine lv_goto (tgt := 9) S.1 S.2.1 dX7_word_90 (by decide) ?_
                                                                                        refine lv_iload S.1 S.2.1 dX7_word_9 (lv_at hl 0 rfl) ?_
                                                                                        refine lv_aload_n S.1 S.2.1 dX7_word_11 rfl (lv_at hl 3 rfl) ?_
                                                                                        refine w_get S C w (CC := RX7) (T := TX7) (N := 16) (ref := "GateSumsModel") im_X7_word_X7 0 rfl rfl 7 (by decide) (List.mem_of_getElem? (i := 1) rfl) (fun _ h => h) rfl dX7_word_12 ?_
                                                                                        refine w_alen S C w 2 1 rfl rfl (v := 73) rfl dX7_word_15 ?_
                                                                                        refine lv_icmp_ge (tgt := 93) S.1 S.2.1 dX7_word_16 (by decide) (fun c16_7 => ?_) (fun c16_7 => ?_)
                                                                                        · exact absurd c16_7 (by decide)
                                                                                        · refine lv_iconst (v := 0) S.1 S.2.1 dX7_word_19 (by decide) ?_
                                                                                          refine lv_istore (lv' := [(5, .int 0), (4, .int 29), (3, .int 7), (0, .ref mO), (1, .int 12), (2, .int 12)]) S.1 S.2.1 dX7_word_20 hl (by decide) rfl (fun ls hl => ?_)
                                                                                          refine lv_aload_n S.1 S.2.1 dX7_word_22 rfl (lv_at hl 3 rfl) ?_
                                                                                          refine w_get S C w (CC := RX7) (T := TX7) (N := 16) (ref := "GateSumsModel") im_X7_word_X7 0 rfl rfl 7 (by decide) (List.mem_of_getElem? (i := 1) rfl) (fun _ h => h) rfl dX7_word_23 ?_
                                                                                          refine lv_iload S.1 S.2.1 dX7_word_26 (lv_at hl 1 rfl) ?_
                                                                                          refine lv_iload S.1 S.2.1 dX7_word_28 (lv_at hl 0 rfl) ?_
                                                                                          refine lv_iadd S.1 S.2.1 dX7_word_30 ?_
                                                                                          refine w_topi (y := 29) (by decide) ?_
                                                                                          refine w_cald S C w 2 rfl (by unfold vp_in; decide) dX7_word_31 ?_
                                                                                          refine w_topi (y := 98) (by decide) ?_
                                                                                          refine lv_bipush (v := 32) S.1 S.2.1 dX7_word_32 (by decide) ?_
                                                                                          refine lv_icmp_eq (tgt := 43) S.1 S.2.1 dX7_word_34 (by decide) (fun c34_29 => ?_) (fun c34_29 => ?_)
                                                                                          · exact absurd c34_29 (by decide)
                                                                                          · refine lv_iinc (v := 1) (lv' := [(5, .int 1), (4, .int 29), (3, .int 7), (0, .ref mO), (1, .int 12), (2, .int 12)]) S.1 S.2.1 dX7_word_37 hl (k := 0) rfl (by decide) (by decide) rfl (fun ls hl => ?_)
                                                                                            refine lv_goto (tgt := 22) S.1 S.2.1 dX7_word_40 (by decide) ?_
                                                                                            refine lv_aload_n S.1 S.2.1 dX7_word_22 rfl (lv_at hl 3 rfl) ?_
                                                                                            refine w_get S C w (CC := RX7) (T := TX7) (N := 16) (ref := "GateSumsModel") im_X7_word_X7 0 rfl rfl 7 (by decide) (List.mem_of_getElem? (i := 1) rfl) (fun _ h => h) rfl dX7_word_23 ?_
                                                                                            refine lv_iload S.1 S.2.1 dX7_word_26 (lv_at hl 1 rfl) ?_
                                                                                            refine lv_iload S.1 S.2.1 dX7_word_28 (lv_at hl 0 rfl) ?_
                                                                                            refine lv_iadd S.1 S.2.1 dX7_word_30 ?_
                                                                                            refine w_topi (y := 30) (by decide) ?_
                                                                                            refine w_cald S C w 2 rfl (by unfold vp_in; decide) dX7_word_31 ?_
                                                                                            refine w_topi (y := 117) (by decide) ?_
                                                                                            refine lv_bipush (v := 32) S.1 S.2.1 dX7_word_32 (by decide) ?_
                                                                                            refine lv_icmp_eq (tgt := 43) S.1 S.2.1 dX7_word_34 (by decide) (fun c34_30 => ?_) (fun c34_30 => ?_)
                                                                                            · exact absurd c34_30 (by decide)
                                                                                            · refine lv_iinc (v := 2) (lv' := [(5, .int 2), (4, .int 29), (3, .int 7), (0, .ref mO), (1, .int 12), (2, .int 12)]) S.1 S.2.1 dX7_word_37 hl (k := 0) rfl (by decide) (by decide) rfl (fun ls hl => ?_)
                                                                                              refine lv_goto (tgt := 22) S.1 S.2.1 dX7_word_40 (by decide) ?_
                                                                                              refine lv_aload_n S.1 S.2.1 dX7_word_22 rfl (lv_at hl 3 rfl) ?_
                                                                                              refine w_get S C w (CC := RX7) (T := TX7) (N := 16) (ref := "GateSumsModel") im_X7_word_X7 0 rfl rfl 7 (by decide) (List.mem_of_getElem? (i := 1) rfl) (fun _ h => h) rfl dX7_word_23 ?_
                                                                                              refine lv_iload S.1 S.2.1 dX7_word_26 (lv_at hl 1 rfl) ?_
                                                                                              refine lv_iload S.1 S.2.1 dX7_word_28 (lv_at hl 0 rfl) ?_
                                                                                              refine lv_iadd S.1 S.2.1 dX7_word_30 ?_
                                                                                              refine w_topi (y := 31) (by decide) ?_
                                                                                              refine w_cald S C w 2 rfl (by unfold vp_in; decide) dX7_word_31 ?_
                                                                                              refine w_topi (y := 116) (by decide) ?_
                                                                                              refine lv_bipush (v := 32) S.1 S.2.1 dX7_word_32 (by decide) ?_
                                                                                              refine lv_icmp_eq (tgt := 43) S.1 S.2.1 dX7_word_34 (by decide) (fun c34_31 => ?_) (fun c34_31 => ?_)
                                                                                              · exact absurd c34_31 (by decide)
                                                                                              · refine lv_iinc (v := 3) (lv' := [(5, .int 3), (4, .int 29), (3, .int 7), (0, .ref mO), (1, .int 12), (2, .int 12)]) S.1 S.2.1 dX7_word_37 hl (k := 0) rfl (by decide) (by decide) rfl (fun ls hl => ?_)
                                                                                                refine lv_goto (tgt := 22) S.1 S.2.1 dX7_word_40 (by decide) ?_
                                                                                                refine lv_aload_n S.1 S.2.1 dX7_word_22 rfl (lv_at hl 3 rfl) ?_
                                                                                                refine w_get S C w (CC := RX7) (T := TX7) (N := 16) (ref := "GateSumsModel") im_X7_word_X7 0 rfl rfl 7 (by decide) (List.mem_of_getElem? (i := 1) rfl) (fun _ h => h) rfl dX7_word_23 ?_
                                                                                                refine lv_iload S.1 S.2.1 dX7_word_26 (lv_at hl 1 rfl) ?_
                                                                                                refine lv_iload S.1 S.2.1 dX7_word_28 (lv_at hl 0 rfl) ?_
                                                                                                refine lv_iadd S.1 S.2.1 dX7_word_30 ?_
                                                                                                refine w_topi (y := 32) (by decide) ?_
                                                                                                refine w_cald S C w 2 rfl (by unfold vp_in; decide) dX7_word_31 ?_
                                                                                                refine w_topi (y := 32) (by decide) ?_
                                                                                                refine lv_bipush (v := 32) S.1 S.2.1 dX7_word_32 (by decide) ?_
                                                                                                refine lv_icmp_eq (tgt := 43) S.1 S.2.1 dX7_word_34 (by decide) (fun c34_32 => ?_) (fun c34_32 => ?_)
                                                                                                · refine lv_iload_n S.1 S.2.1 dX7_word_43 rfl (lv_at hl 2 rfl) ?_
                                                                                                  refine lv_iload_n S.1 S.2.1 dX7_word_44 rfl (lv_at hl 4 rfl) ?_
                                                                                                  refine lv_iload_n S.1 S.2.1 dX7_word_45 rfl (lv_at hl 5 rfl) ?_
                                                                                                  refine cs_i (va_runS (As := [.int 7, .int 12, .int 12]) (rest := []) S (c_X7_in l G _ 7 12 12) (cwS 3 S.2.2.2.2 gX7_word_X7_in rfl rfl rfl (by decide +kernel) ⟨Nat.le_of_ble_eq_true rfl, Nat.le_of_ble_eq_true rfl⟩) ⟨wPre_blind, wPre_at C w [] rfl rfl⟩ rfl rfl hl.1 rfl (lv_room (Nat.le_of_ble_eq_true rfl)) dX7_word_46 ⟨Nat.le_of_ble_eq_true rfl, Nat.le_of_ble_eq_true rfl⟩) (fun r46_7 h46_7 => ?_)
                                                                                                  refine w_topi (y := (inF 7 12 12)) h46_7 ?_
                                                                                                  refine w_topi (y := 0) (by decide) ?_
                                                                                                  refine lv_if_eq (tgt := 78) S.1 S.2.1 dX7_word_49 (by decide) (fun c49_7 => ?_) (fun c49_7 => ?_)
                                                                                                  · refine lv_iinc (v := 8) (lv' := [(3, .int 8), (5, .int 3), (4, .int 29), (0, .ref mO), (1, .int 12), (2, .int 12)]) S.1 S.2.1 dX7_word_78 hl (k := 2) rfl (by decide) (by decide) rfl (fun ls hl => ?_)
                                                                                                    refine lv_iload S.1 S.2.1 dX7_word_81 (lv_at hl 2 rfl) ?_
                                                                                                    refine lv_iload S.1 S.2.1 dX7_word_83 (lv_at hl 1 rfl) ?_
                                                                                                    refine lv_iconst (v := 1) S.1 S.2.1 dX7_word_85 (by decide) ?_
                                                                                                    refine lv_iadd S.1 S.2.1 dX7_word_86 ?_
                                                                                                    refine w_topi (y := 4) (by decide) ?_
                                                                                                    refine lv_iadd S.1 S.2.1 dX7_word_87 ?_
                                                                                                    refine w_topi (y := 33) (by decide) ?_
                                                                                                    refine lv_istore (lv' := [(4, .int 33), (3, .int 8), (5, .int 3), (0, .ref mO), (1, .int 12), (2, .int 12)]) S.1 S.2.1 dX7_word_88 hl (by decide) rfl (fun ls hl => ?_)
                                                                                                    refine lv_goto (tgt := 9) S.1 S.2.1 dX7_word_90 (by decide) ?_
                                                                                                    refine lv_iload S.1 S.2.1 dX7_word_9 (lv_at hl 0 rfl) ?_
                                                                                                    refine lv_aload_n S.1 S.2.1 dX7_word_11 rfl (lv_at hl 3 rfl) ?_
                                                                                                    refine w_get S C w (CC := RX7) (T := TX7) (N := 16) (ref := "GateSumsModel") im_X7_word_X7 0 rfl rfl 7 (by decide) (List.mem_of_getElem? (i := 1) rfl) (fun _ h => h) rfl dX7_word_12 ?_
                                                                                                    refine w_alen S C w 2 1 rfl rfl (v := 73) rfl dX7_word_15 ?_
                                                                                                    refine lv_icmp_ge (tgt := 93) S.1 S.2.1 dX7_word_16 (by decide) (fun c16_8 => ?_) (fun c16_8 => ?_)
                                                                                                    · exact absurd c16_8 (by decide)
                                                                                                    · refine lv_iconst (v := 0) S.1 S.2.1 dX7_word_19 (by decide) ?_
                                                                                                      refine lv_istore (lv' := [(5, .int 0), (4, .int 33), (3, .int 8), (0, .ref mO), (1, .int 12), (2, .int 12)]) S.1 S.2.1 dX7_word_20 hl (by decide) rfl (fun ls hl => ?_)
                                                                                                      refine lv_aload_n S.1 S.2.1 dX7_word_22 rfl (lv_at hl 3 rfl) ?_
                                                                                                      refine w_get S C w (CC := RX7) (T := TX7) (N := 16) (ref := "GateSumsModel") im_X7_word_X7 0 rfl rfl 7 (by decide) (List.mem_of_getElem? (i := 1) rfl) (fun _ h => h) rfl dX7_word_23 ?_
                                                                                                      refine lv_iload S.1 S.2.1 dX7_word_26 (lv_at hl 1 rfl) ?_
                                                                                                      refine lv_iload S.1 S.2.1 dX7_word_28 (lv_at hl 0 rfl) ?_
                                                                                                      refine lv_iadd S.1 S.2.1 dX7_word_30 ?_
                                                                                                      refine w_topi (y := 33) (by decide) ?_
                                                                                                      refine w_cald S C w 2 rfl (by unfold vp_in; decide) dX7_word_31 ?_
                                                                                                      refine w_topi (y := 115) (by decide) ?_
                                                                                                      refine lv_bipush (v := 32) S.1 S.2.1 dX7_word_32 (by decide) ?_
                                                                                                      refine lv_icmp_eq (tgt := 43) S.1 S.2.1 dX7_word_34 (by decide) (fun c34_33 => ?_) (fun c34_33 => ?_)
                                                                                                      · exact absurd c34_33 (by decide)
                                                                                                      · refine lv_iinc (v := 1) (lv' := [(5, .int 1), (4, .int 33), (3, .int 8), (0, .ref mO), (1, .int 12), (2, .int 12)]) S.1 S.2.1 dX7_word_37 hl (k := 0) rfl (by decide) (by decide) rfl (fun ls hl => ?_)
                                                                                                        refine lv_goto (tgt := 22) S.1 S.2.1 dX7_word_40 (by decide) ?_
                                                                                                        refine lv_aload_n S.1 S.2.1 dX7_word_22 rfl (lv_at hl 3 rfl) ?_
                                                                                                        refine w_get S C w (CC := RX7) (T := TX7) (N := 16) (ref := "GateSumsModel") im_X7_word_X7 0 rfl rfl 7 (by decide) (List.mem_of_getElem? (i := 1) rfl) (fun _ h => h) rfl dX7_word_23 ?_
                                                                                                        refine lv_iload S.1 S.2.1 dX7_word_26 (lv_at hl 1 rfl) ?_
                                                                                                        refine lv_iload S.1 S.2.1 dX7_word_28 (lv_at hl 0 rfl) ?_
                                                                                                        refine lv_iadd S.1 S.2.1 dX7_word_30 ?_
                                                                                                        refine w_topi (y := 34) (by decide) ?_
                                                                                                        refine w_cald S C w 2 rfl (by unfold vp_in; decide) dX7_word_31 ?_
                                                                                                        refine w_topi (y := 117) (by decide) ?_
                                                                                                        refine lv_bipush (v := 32) S.1 S.2.1 dX7_word_32 (by decide) ?_
                                                                                                        refine lv_icmp_eq (tgt := 43) S.1 S.2.1 dX7_word_34 (by decide) (fun c34_34 => ?_) (fun c34_34 => ?_)
                                                                                                        · exact absurd c34_34 (by decide)
                                                                                                        · refine lv_iinc (v := 2) (lv' := [(5, .int 2), (4, .int 33), (3, .int 8), (0, .ref mO), (1, .int 12), (2, .int 12)]) S.1 S.2.1 dX7_word_37 hl (k := 0) rfl (by decide) (by decide) rfl (fun ls hl => ?_)
                                                                                                          refine lv_goto (tgt := 22) S.1 S.2.1 dX7_word_40 (by decide) ?_
                                                                                                          refine lv_aload_n S.1 S.2.1 dX7_word_22 rfl (lv_at hl 3 rfl) ?_
                                                                                                          refine w_get S C w (CC := RX7) (T := TX7) (N := 16) (ref := "GateSumsModel") im_X7_word_X7 0 rfl rfl 7 (by decide) (List.mem_of_getElem? (i := 1) rfl) (fun _ h => h) rfl dX7_word_23 ?_
                                                                                                          refine lv_iload S.1 S.2.1 dX7_word_26 (lv_at hl 1 rfl) ?_
                                                                                                          refine lv_iload S.1 S.2.1 dX7_word_28 (lv_at hl 0 rfl) ?_
                                                                                                          refine lv_iadd S.1 S.2.1 dX7_word_30 ?_
                                                                                                          refine w_topi (y := 35) (by decide) ?_
                                                                                                          refine w_cald S C w 2 rfl (by unfold vp_in; decide) dX7_word_31 ?_
                                                                                                          refine w_topi (y := 109) (by decide) ?_
                                                                                                          refine lv_bipush (v := 32) S.1 S.2.1 dX7_word_32 (by decide) ?_
                                                                                                          refine lv_icmp_eq (tgt := 43) S.1 S.2.1 dX7_word_34 (by decide) (fun c34_35 => ?_) (fun c34_35 => ?_)
                                                                                                          · exact absurd c34_35 (by decide)
                                                                                                          · refine lv_iinc (v := 3) (lv' := [(5, .int 3), (4, .int 33), (3, .int 8), (0, .ref mO), (1, .int 12), (2, .int 12)]) S.1 S.2.1 dX7_word_37 hl (k := 0) rfl (by decide) (by decide) rfl (fun ls hl => ?_)
                                                                                                            refine lv_goto (tgt := 22) S.1 S.2.1 dX7_word_40 (by decide) ?_
                                                                                                            refine lv_aload_n S.1 S.2.1 dX7_word_22 rfl (lv_at hl 3 rfl) ?_
                                                                                                            refine w_get S C w (CC := RX7) (T := TX7) (N := 16) (ref := "GateSumsModel") im_X7_word_X7 0 rfl rfl 7 (by decide) (List.mem_of_getElem? (i := 1) rfl) (fun _ h => h) rfl dX7_word_23 ?_
                                                                                                            refine lv_iload S.1 S.2.1 dX7_word_26 (lv_at hl 1 rfl) ?_
                                                                                                            refine lv_iload S.1 S.2.1 dX7_word_28 (lv_at hl 0 rfl) ?_
                                                                                                            refine lv_iadd S.1 S.2.1 dX7_word_30 ?_
                                                                                                            refine w_topi (y := 36) (by decide) ?_
                                                                                                            refine w_cald S C w 2 rfl (by unfold vp_in; decide) dX7_word_31 ?_
                                                                                                            refine w_topi (y := 32) (by decide) ?_
                                                                                                            refine lv_bipush (v := 32) S.1 S.2.1 dX7_word_32 (by decide) ?_
                                                                                                            refine lv_icmp_eq (tgt := 43) S.1 S.2.1 dX7_word_34 (by decide) (fun c34_36 => ?_) (fun c34_36 => ?_)
                                                                                                            · refine lv_iload_n S.1 S.2.1 dX7_word_43 rfl (lv_at hl 2 rfl) ?_
                                                                                                              refine lv_iload_n S.1 S.2.1 dX7_word_44 rfl (lv_at hl 4 rfl) ?_
                                                                                                              refine lv_iload_n S.1 S.2.1 dX7_word_45 rfl (lv_at hl 5 rfl) ?_
                                                                                                              refine cs_i (va_runS (As := [.int 8, .int 12, .int 12]) (rest := []) S (c_X7_in l G _ 8 12 12) (cwS 3 S.2.2.2.2 gX7_word_X7_in rfl rfl rfl (by decide +kernel) ⟨Nat.le_of_ble_eq_true rfl, Nat.le_of_ble_eq_true rfl⟩) ⟨wPre_blind, wPre_at C w [] rfl rfl⟩ rfl rfl hl.1 rfl (lv_room (Nat.le_of_ble_eq_true rfl)) dX7_word_46 ⟨Nat.le_of_ble_eq_true rfl, Nat.le_of_ble_eq_true rfl⟩) (fun r46_8 h46_8 => ?_)
                                                                                                              refine w_topi (y := (inF 8 12 12)) h46_8 ?_
                                                                                                              refine w_topi (y := 0) (by decide) ?_
                                                                                                              refine lv_if_eq (tgt := 78) S.1 S.2.1 dX7_word_49 (by decide) (fun c49_8 => ?_) (fun c49_8 => ?_)
                                                                                                              · refine lv_iinc (v := 9) (lv' := [(3, .int 9), (5, .int 3), (4, .int 33), (0, .ref mO), (1, .int 12), (2, .int 12)]) S.1 S.2.1 dX7_word_78 hl (k := 2) rfl (by decide) (by decide) rfl (fun ls hl => ?_)
                                                                                                                refine lv_iload S.1 S.2.1 dX7_word_81 (lv_at hl 2 rfl) ?_
                                                                                                                refine lv_iload S.1 S.2.1 dX7_word_83 (lv_at hl 1 rfl) ?_
                                                                                                                refine lv_iconst (v := 1) S.1 S.2.1 dX7_word_85 (by decide) ?_
                                                                                                                refine lv_iadd S.1 S.2.1 dX7_word_86 ?_
                                                                                                                refine w_topi (y := 4) (by decide) ?_
                                                                                                                refine lv_iadd S.1 S.2.1 dX7_word_87 ?_
                                                                                                                refine w_topi (y := 37) (by decide) ?_
                                                                                                                refine lv_istore (lv' := [(4, .int 37), (3, .int 9), (5, .int 3), (0, .ref mO), (1, .int 12), (2, .int 12)]) S.1 S.2.1 dX7_word_88 hl (by decide) rfl (fun ls hl => ?_)
                                                                                                                refine lv_goto (tgt := 9) S.1 S.2.1 dX7_word_90 (by decide) ?_
                                                                                                                refine lv_iload S.1 S.2.1 dX7_word_9 (lv_at hl 0 rfl) ?_
                                                                                                                refine lv_aload_n S.1 S.2.1 dX7_word_11 rfl (lv_at hl 3 rfl) ?_
                                                                                                                refine w_get S C w (CC := RX7) (T := TX7) (N := 16) (ref := "GateSumsModel") im_X7_word_X7 0 rfl rfl 7 (by decide) (List.mem_of_getElem? (i := 1) rfl) (fun _ h => h) rfl dX7_word_12 ?_
                                                                                                                refine w_alen S C w 2 1 rfl rfl (v := 73) rfl dX7_word_15 ?_
                                                                                                                refine lv_icmp_ge (tgt := 93) S.1 S.2.1 dX7_word_16 (by decide) (fun c16_9 => ?_) (fun c16_9 => ?_)
                                                                                                                · exact absurd c16_9 (by decide)
                                                                                                                · refine lv_iconst (v := 0) S.1 S.2.1 dX7_word_19 (by decide) ?_
                                                                                                                  refine lv_istore (lv' := [(5, .int 0), (4, .int 37), (3, .int 9), (0, .ref mO), (1, .int 12), (2, .int 12)]) S.1 S.2.1 dX7_word_20 hl (by decide) rfl (fun ls hl => ?_)
                                                                                                                  refine lv_aload_n S.1 S.2.1 dX7_word_22 rfl (lv_at hl 3 rfl) ?_
                                                                                                                  refine w_get S C w (CC := RX7) (T := TX7) (N := 16) (ref := "GateSumsModel") im_X7_word_X7 0 rfl rfl 7 (by decide) (List.mem_of_getElem? (i := 1) rfl) (fun _ h => h) rfl dX7_word_23 ?_
                                                                                                                  refine lv_iload S.1 S.2.1 dX7_word_26 (lv_at hl 1 rfl) ?_
                                                                                                                  refine lv_iload S.1 S.2.1 dX7_word_28 (lv_at hl 0 rfl) ?_
                                                                                                                  refine lv_iadd S.1 S.2.1 dX7_word_30 ?_
                                                                                                                  refine w_topi (y := 37) (by decide) ?_
                                                                                                                  refine w_cald S C w 2 rfl (by unfold vp_in; decide) dX7_word_31 ?_
                                                                                                                  refine w_topi (y := 112) (by decide) ?_
                                                                                                                  refine lv_bipush (v := 32) S.1 S.2.1 dX7_word_32 (by decide) ?_
                                                                                                                  refine lv_icmp_eq (tgt := 43) S.1 S.2.1 dX7_word_34 (by decide) (fun c34_37 => ?_) (fun c34_37 => ?_)
                                                                                                                  · exact absurd c34_37 (by decide)
                                                                                                                  · refine lv_iinc (v := 1) (lv' := [(5, .int 1), (4, .int 37), (3, .int 9), (0, .ref mO), (1, .int 12), (2, .int 12)]) S.1 S.2.1 dX7_word_37 hl (k := 0) rfl (by decide) (by decide) rfl (fun ls hl => ?_)
                                                                                                                    refine lv_goto (tgt := 22) S.1 S.2.1 dX7_word_40 (by decide) ?_
                                                                                                                    refine lv_aload_n S.1 S.2.1 dX7_word_22 rfl (lv_at hl 3 rfl) ?_
                                                                                                                    refine w_get S C w (CC := RX7) (T := TX7) (N := 16) (ref := "GateSumsModel") im_X7_word_X7 0 rfl rfl 7 (by decide) (List.mem_of_getElem? (i := 1) rfl) (fun _ h => h) rfl dX7_word_23 ?_
                                                                                                                    refine lv_iload S.1 S.2.1 dX7_word_26 (lv_at hl 1 rfl) ?_
                                                                                                                    refine lv_iload S.1 S.2.1 dX7_word_28 (lv_at hl 0 rfl) ?_
                                                                                                                    refine lv_iadd S.1 S.2.1 dX7_word_30 ?_
                                                                                                                    refine w_topi (y := 38) (by decide) ?_
                                                                                                                    refine w_cald S C w 2 rfl (by unfold vp_in; decide) dX7_word_31 ?_
                                                                                                                    refine w_topi (y := 114) (by decide) ?_
                                                                                                                    refine lv_bipush (v := 32) S.1 S.2.1 dX7_word_32 (by decide) ?_
                                                                                                                    refine lv_icmp_eq (tgt := 43) S.1 S.2.1 dX7_word_34 (by decide) (fun c34_38 => ?_) (fun c34_38 => ?_)
                                                                                                                    · exact absurd c34_38 (by decide)
                                                                                                                    · refine lv_iinc (v := 2) (lv' := [(5, .int 2), (4, .int 37), (3, .int 9), (0, .ref mO), (1, .int 12), (2, .int 12)]) S.1 S.2.1 dX7_word_37 hl (k := 0) rfl (by decide) (by decide) rfl (fun ls hl => ?_)
                                                                                                                      refine lv_goto (tgt := 22) S.1 S.2.1 dX7_word_40 (by decide) ?_
                                                                                                                      refine lv_aload_n S.1 S.2.1 dX7_word_22 rfl (lv_at hl 3 rfl) ?_
                                                                                                                      refine w_get S C w (CC := RX7) (T := TX7) (N := 16) (ref := "GateSumsModel") im_X7_word_X7 0 rfl rfl 7 (by decide) (List.mem_of_getElem? (i := 1) rfl) (fun _ h => h) rfl dX7_word_23 ?_
                                                                                                                      refine lv_iload S.1 S.2.1 dX7_word_26 (lv_at hl 1 rfl) ?_
                                                                                                                      refine lv_iload S.1 S.2.1 dX7_word_28 (lv_at hl 0 rfl) ?_
                                                                                                                      refine lv_iadd S.1 S.2.1 dX7_word_30 ?_
                                                                                                                      refine w_topi (y := 39) (by decide) ?_
                                                                                                                      refine w_cald S C w 2 rfl (by unfold vp_in; decide) dX7_word_31 ?_
                                                                                                                      refine w_topi (y := 111) (by decide) ?_
                                                                                                                      refine lv_bipush (v := 32) S.1 S.2.1 dX7_word_32 (by decide) ?_
                                                                                                                      refine lv_icmp_eq (tgt := 43) S.1 S.2.1 dX7_word_34 (by decide) (fun c34_39 => ?_) (fun c34_39 => ?_)
                                                                                                                      · exact absurd c34_39 (by decide)
                                                                                                                      · refine lv_iinc (v := 3) (lv' := [(5, .int 3), (4, .int 37), (3, .int 9), (0, .ref mO), (1, .int 12), (2, .int 12)]) S.1 S.2.1 dX7_word_37 hl (k := 0) rfl (by decide) (by decide) rfl (fun ls hl => ?_)
                                                                                                                        refine lv_goto (tgt := 22) S.1 S.2.1 dX7_word_40 (by decide) ?_
                                                                                                                        refine lv_aload_n S.1 S.2.1 dX7_word_22 rfl (lv_at hl 3 rfl) ?_
                                                                                                                        refine w_get S C w (CC := RX7) (T := TX7) (N := 16) (ref := "GateSumsModel") im_X7_word_X7 0 rfl rfl 7 (by decide) (List.mem_of_getElem? (i := 1) rfl) (fun _ h => h) rfl dX7_word_23 ?_
                                                                                                                        refine lv_iload S.1 S.2.1 dX7_word_26 (lv_at hl 1 rfl) ?_
                                                                                                                        refine lv_iload S.1 S.2.1 dX7_word_28 (lv_at hl 0 rfl) ?_
                                                                                                                        refine lv_iadd S.1 S.2.1 dX7_word_30 ?_
                                                                                                                        refine w_topi (y := 40) (by decide) ?_
                                                                                                                        refine w_cald S C w 2 rfl (by unfold vp_in; decide) dX7_word_31 ?_
                                                                                                                        refine w_topi (y := 100) (by decide) ?_
                                                                                                                        refine lv_bipush (v := 32) S.1 S.2.1 dX7_word_32 (by decide) ?_
                                                                                                                        refine lv_icmp_eq (tgt := 43) S.1 S.2.1 dX7_word_34 (by decide) (fun c34_40 => ?_) (fun c34_40 => ?_)
                                                                                                                        · exact absurd c34_40 (by decide)
                                                                                                                        · refine lv_iinc (v := 4) (lv' := [(5, .int 4), (4, .int 37), (3, .int 9), (0, .ref mO), (1, .int 12), (2, .int 12)]) S.1 S.2.1 dX7_word_37 hl (k := 0) rfl (by decide) (by decide) rfl (fun ls hl => ?_)
                                                                                                                          refine lv_goto (tgt := 22) S.1 S.2.1 dX7_word_40 (by decide) ?_
                                                                                                                          refine lv_aload_n S.1 S.2.1 dX7_word_22 rfl (lv_at hl 3 rfl) ?_
                                                                                                                          refine w_get S C w (CC := RX7) (T := TX7) (N := 16) (ref := "GateSumsModel") im_X7_word_X7 0 rfl rfl 7 (by decide) (List.mem_of_getElem? (i := 1) rfl) (fun _ h => h) rfl dX7_word_23 ?_
                                                                                                                          refine lv_iload S.1 S.2.1 dX7_word_26 (lv_at hl 1 rfl) ?_
                                                                                                                          refine lv_iload S.1 S.2.1 dX7_word_28 (lv_at hl 0 rfl) ?_
                                                                                                                          refine lv_iadd S.1 S.2.1 dX7_word_30 ?_
                                                                                                                          refine w_topi (y := 41) (by decide) ?_
                                                                                                                          refine w_cald S C w 2 rfl (by unfold vp_in; decide) dX7_word_31 ?_
                                                                                                                          refine w_topi (y := 117) (by decide) ?_
                                                                                                                          refine lv_bipush (v := 32) S.1 S.2.1 dX7_word_32 (by decide) ?_
                                                                                                                          refine lv_icmp_eq (tgt := 43) S.1 S.2.1 dX7_word_34 (by decide) (fun c34_41 => ?_) (fun c34_41 => ?_)
                                                                                                                          · exact absurd c34_41 (by decide)
                                                                                                                          · refine lv_iinc (v := 5) (lv' := [(5, .int 5), (4, .int 37), (3, .int 9), (0, .ref mO), (1, .int 12), (2, .int 12)]) S.1 S.2.1 dX7_word_37 hl (k := 0) rfl (by decide) (by decide) rfl (fun ls hl => ?_)
                                                                                                                            refine lv_goto (tgt := 22) S.1 S.2.1 dX7_word_40 (by decide) ?_
                                                                                                                            refine lv_aload_n S.1 S.2.1 dX7_word_22 rfl (lv_at hl 3 rfl) ?_
                                                                                                                            refine w_get S C w (CC := RX7) (T := TX7) (N := 16) (ref := "GateSumsModel") im_X7_word_X7 0 rfl rfl 7 (by decide) (List.mem_of_getElem? (i := 1) rfl) (fun _ h => h) rfl dX7_word_23 ?_
                                                                                                                            refine lv_iload S.1 S.2.1 dX7_word_26 (lv_at hl 1 rfl) ?_
                                                                                                                            refine lv_iload S.1 S.2.1 dX7_word_28 (lv_at hl 0 rfl) ?_
                                                                                                                            refine lv_iadd S.1 S.2.1 dX7_word_30 ?_
                                                                                                                            refine w_topi (y := 42) (by decide) ?_
                                                                                                                            refine w_cald S C w 2 rfl (by unfold vp_in; decide) dX7_word_31 ?_
                                                                                                                            refine w_topi (y := 99) (by decide) ?_
                                                                                                                            refine lv_bipush (v := 32) S.1 S.2.1 dX7_word_32 (by decide) ?_
                                                                                                                            refine lv_icmp_eq (tgt := 43) S.1 S.2.1 dX7_word_34 (by decide) (fun c34_42 => ?_) (fun c34_42 => ?_)
                                                                                                                            · exact absurd c34_42 (by decide)
                                                                                                                            · refine lv_iinc (v := 6) (lv' := [(5, .int 6), (4, .int 37), (3, .int 9), (0, .ref mO), (1, .int 12), (2, .int 12)]) S.1 S.2.1 dX7_word_37 hl (k := 0) rfl (by decide) (by decide) rfl (fun ls hl => ?_)
                                                                                                                              refine lv_goto (tgt := 22) S.1 S.2.1 dX7_word_40 (by decide) ?_
                                                                                                                              refine lv_aload_n S.1 S.2.1 dX7_word_22 rfl (lv_at hl 3 rfl) ?_
                                                                                                                              refine w_get S C w (CC := RX7) (T := TX7) (N := 16) (ref := "GateSumsModel") im_X7_word_X7 0 rfl rfl 7 (by decide) (List.mem_of_getElem? (i := 1) rfl) (fun _ h => h) rfl dX7_word_23 ?_
                                                                                                                              refine lv_iload S.1 S.2.1 dX7_word_26 (lv_at hl 1 rfl) ?_
                                                                                                                              refine lv_iload S.1 S.2.1 dX7_word_28 (lv_at hl 0 rfl) ?_
                                                                                                                              refine lv_iadd S.1 S.2.1 dX7_word_30 ?_
                                                                                                                              refine w_topi (y := 43) (by decide) ?_
                                                                                                                              refine w_cald S C w 2 rfl (by unfold vp_in; decide) dX7_word_31 ?_
                                                                                                                              refine w_topi (y := 116) (by decide) ?_
                                                                                                                              refine lv_bipush (v := 32) S.1 S.2.1 dX7_word_32 (by decide) ?_
                                                                                                                              refine lv_icmp_eq (tgt := 43) S.1 S.2.1 dX7_word_34 (by decide) (fun c34_43 => ?_) (fun c34_43 => ?_)
                                                                                                                              · exact absurd c34_43 (by decide)
                                                                                                                              · refine lv_iinc (v := 7) (lv' := [(5, .int 7), (4, .int 37), (3, .int 9), (0, .ref mO), (1, .int 12), (2, .int 12)]) S.1 S.2.1 dX7_word_37 hl (k := 0) rfl (by decide) (by decide) rfl (fun ls hl => ?_)
                                                                                                                                refine lv_goto (tgt := 22) S.1 S.2.1 dX7_word_40 (by decide) ?_
                                                                                                                                refine lv_aload_n S.1 S.2.1 dX7_word_22 rfl (lv_at hl 3 rfl) ?_
                                                                                                                                refine w_get S C w (CC := RX7) (T := TX7) (N := 16) (ref := "GateSumsModel") im_X7_word_X7 0 rfl rfl 7 (by decide) (List.mem_of_getElem? (i := 1) rfl) (fun _ h => h) rfl dX7_word_23 ?_
                                                                                                                                refine lv_iload S.1 S.2.1 dX7_word_26 (lv_at hl 1 rfl) ?_
                                                                                                                                refine lv_iload S.1 S.2.1 dX7_word_28 (lv_at hl 0 rfl) ?_
                                                                                                                                refine lv_iadd S.1 S.2.1 dX7_word_30 ?_
                                                                                                                                refine w_topi (y := 44) (by decide) ?_
                                                                                                                                refine w_cald S C w 2 rfl (by unfold vp_in; decide) dX7_word_31 ?_
                                                                                                                                refine w_topi (y := 32) (by decide) ?_
                                                                                                                                refine lv_bipush (v := 32) S.1 S.2.1 dX7_word_32 (by decide) ?_
                                                                                                                                refine lv_icmp_eq (tgt := 43) S.1 S.2.1 dX7_word_34 (by decide) (fun c34_44 => ?_) (fun c34_44 => ?_)
                                                                                                                                · refine lv_iload_n S.1 S.2.1 dX7_word_43 rfl (lv_at hl 2 rfl) ?_
                                                                                                                                  refine lv_iload_n S.1 S.2.1 dX7_word_44 rfl (lv_at hl 4 rfl) ?_
                                                                                                                                  refine lv_iload_n S.1 S.2.1 dX7_word_45 rfl (lv_at hl 5 rfl) ?_
                                                                                                                                  refine cs_i (va_runS (As := [.int 9, .int 12, .int 12]) (rest := []) S (c_X7_in l G _ 9 12 12) (cwS 3 S.2.2.2.2 gX7_word_X7_in rfl rfl rfl (by decide +kernel) ⟨Nat.le_of_ble_eq_true rfl, Nat.le_of_ble_eq_true rfl⟩) ⟨wPre_blind, wPre_at C w [] rfl rfl⟩ rfl rfl hl.1 rfl (lv_room (Nat.le_of_ble_eq_true rfl)) dX7_word_46 ⟨Nat.le_of_ble_eq_true rfl, Nat.le_of_ble_eq_true rfl⟩) (fun r46_9 h46_9 => ?_)
                                                                                                                                  refine w_topi (y := (inF 9 12 12)) h46_9 ?_
                                                                                                                                  refine w_topi (y := 0) (by decide) ?_
                                                                                                                                  refine lv_if_eq (tgt := 78) S.1 S.2.1 dX7_word_49 (by decide) (fun c49_9 => ?_) (fun c49_9 => ?_)
                                                                                                                                  · refine lv_iinc (v := 10) (lv' := [(3, .int 10), (5, .int 7), (4, .int 37), (0, .ref mO), (1, .int 12), (2, .int 12)]) S.1 S.2.1 dX7_word_78 hl (k := 2) rfl (by decide) (by decide) rfl (fun ls hl => ?_)
                                                                                                                                    refine lv_iload S.1 S.2.1 dX7_word_81 (lv_at hl 2 rfl) ?_
                                                                                                                                    refine lv_iload S.1 S.2.1 dX7_word_83 (lv_at hl 1 rfl) ?_
                                                                                                                                    refine lv_iconst (v := 1) S.1 S.2.1 dX7_word_85 (by decide) ?_
                                                                                                                                    refine lv_iadd S.1 S.2.1 dX7_word_86 ?_
                                                                                                                                    refine w_topi (y := 8) (by decide) ?_
                                                                                                                                    refine lv_iadd S.1 S.2.1 dX7_word_87 ?_
                                                                                                                                    refine w_topi (y := 45) (by decide) ?_
                                                                                                                                    refine lv_istore (lv' := [(4, .int 45), (3, .int 10), (5, .int 7), (0, .ref mO), (1, .int 12), (2, .int 12)]) S.1 S.2.1 dX7_word_88 hl (by decide) rfl (fun ls hl => ?_)
                                                                                                                                    refine lv_goto (tgt := 9) S.1 S.2.1 dX7_word_90 (by decide) ?_
                                                                                                                                    refine lv_iload S.1 S.2.1 dX7_word_9 (lv_at hl 0 rfl) ?_
                                                                                                                                    refine lv_aload_n S.1 S.2.1 dX7_word_11 rfl (lv_at hl 3 rfl) ?_
                                                                                                                                    refine w_get S C w (CC := RX7) (T := TX7) (N := 16) (ref := "GateSumsModel") im_X7_word_X7 0 rfl rfl 7 (by decide) (List.mem_of_getElem? (i := 1) rfl) (fun _ h => h) rfl dX7_word_12 ?_
                                                                                                                                    refine w_alen S C w 2 1 rfl rfl (v := 73) rfl dX7_word_15 ?_
                                                                                                                                    refine lv_icmp_ge (tgt := 93) S.1 S.2.1 dX7_word_16 (by decide) (fun c16_10 => ?_) (fun c16_10 => ?_)
                                                                                                                                    · exact absurd c16_10 (by decide)
                                                                                                                                    · refine lv_iconst (v := 0) S.1 S.2.1 dX7_word_19 (by decide) ?_
                                                                                                                                      refine lv_istore (lv' := [(5, .int 0), (4, .int 45), (3, .int 10), (0, .ref mO), (1, .int 12), (2, .int 12)]) S.1 S.2.1 dX7_word_20 hl (by decide) rfl (fun ls hl => ?_)
                                                                                                                                      refine lv_aload_n S.1 S.2.1 dX7_word_22 rfl (lv_at hl 3 rfl) ?_
                                                                                                                                      refine w_get S C w (CC := RX7) (T := TX7) (N := 16) (ref := "GateSumsModel") im_X7_word_X7 0 rfl rfl 7 (by decide) (List.mem_of_getElem? (i := 1) rfl) (fun _ h => h) rfl dX7_word_23 ?_
                                                                                                                                      refine lv_iload S.1 S.2.1 dX7_word_26 (lv_at hl 1 rfl) ?_
                                                                                                                                      refine lv_iload S.1 S.2.1 dX7_word_28 (lv_at hl 0 rfl) ?_
                                                                                                                                      refine lv_iadd S.1 S.2.1 dX7_word_30 ?_
                                                                                                                                      refine w_topi (y := 45) (by decide) ?_
                                                                                                                                      refine w_cald S C w 2 rfl (by unfold vp_in; decide) dX7_word_31 ?_
                                                                                                                                      refine w_topi (y := 115) (by decide) ?_
                                                                                                                                      refine lv_bipush (v := 32) S.1 S.2.1 dX7_word_32 (by decide) ?_
                                                                                                                                      refine lv_icmp_eq (tgt := 43) S.1 S.2.1 dX7_word_34 (by decide) (fun c34_45 => ?_) (fun c34_45 => ?_)
                                                                                                                                      · exact absurd c34_45 (by decide)
                                                                                                                                      · refine lv_iinc (v := 1) (lv' := [(5, .int 1), (4, .int 45), (3, .int 10), (0, .ref mO), (1, .int 12), (2, .int 12)]) S.1 S.2.1 dX7_word_37 hl (k := 0) rfl (by decide) (by decide) rfl (fun ls hl => ?_)
                                                                                                                                        refine lv_goto (tgt := 22) S.1 S.2.1 dX7_word_40 (by decide) ?_
                                                                                                                                        refine lv_aload_n S.1 S.2.1 dX7_word_22 rfl (lv_at hl 3 rfl) ?_
                                                                                                                                        refine w_get S C w (CC := RX7) (T := TX7) (N := 16) (ref := "GateSumsModel") im_X7_word_X7 0 rfl rfl 7 (by decide) (List.mem_of_getElem? (i := 1) rfl) (fun _ h => h) rfl dX7_word_23 ?_
                                                                                                                                        refine lv_iload S.1 S.2.1 dX7_word_26 (lv_at hl 1 rfl) ?_
                                                                                                                                        refine lv_iload S.1 S.2.1 dX7_word_28 (lv_at hl 0 rfl) ?_
                                                                                                                                        refine lv_iadd S.1 S.2.1 dX7_word_30 ?_
                                                                                                                                        refine w_topi (y := 46) (by decide) ?_
                                                                                                                                        refine w_cald S C w 2 rfl (by unfold vp_in; decide) dX7_word_31 ?_
                                                                                                                                        refine w_topi (y := 113) (by decide) ?_
                                                                                                                                        refine lv_bipush (v := 32) S.1 S.2.1 dX7_word_32 (by decide) ?_
                                                                                                                                        refine lv_icmp_eq (tgt := 43) S.1 S.2.1 dX7_word_34 (by decide) (fun c34_46 => ?_) (fun c34_46 => ?_)
                                                                                                                                        · exact absurd c34_46 (by decide)
                                                                                                                                        · refine lv_iinc (v := 2) (lv' := [(5, .int 2), (4, .int 45), (3, .int 10), (0, .ref mO), (1, .int 12), (2, .int 12)]) S.1 S.2.1 dX7_word_37 hl (k := 0) rfl (by decide) (by decide) rfl (fun ls hl => ?_)
                                                                                                                                          refine lv_goto (tgt := 22) S.1 S.2.1 dX7_word_40 (by decide) ?_
                                                                                                                                          refine lv_aload_n S.1 S.2.1 dX7_word_22 rfl (lv_at hl 3 rfl) ?_
                                                                                                                                          refine w_get S C w (CC := RX7) (T := TX7) (N := 16) (ref := "GateSumsModel") im_X7_word_X7 0 rfl rfl 7 (by decide) (List.mem_of_getElem? (i := 1) rfl) (fun _ h => h) rfl dX7_word_23 ?_
                                                                                                                                          refine lv_iload S.1 S.2.1 dX7_word_26 (lv_at hl 1 rfl) ?_
                                                                                                                                          refine lv_iload S.1 S.2.1 dX7_word_28 (lv_at hl 0 rfl) ?_
                                                                                                                                          refine lv_iadd S.1 S.2.1 dX7_word_30 ?_
                                                                                                                                          refine w_topi (y := 47) (by decide) ?_
                                                                                                                                          refine w_cald S C w 2 rfl (by unfold vp_in; decide) dX7_word_31 ?_
                                                                                                                                          refine w_topi (y := 117) (by decide) ?_
                                                                                                                                          refine lv_bipush (v := 32) S.1 S.2.1 dX7_word_32 (by decide) ?_
                                                                                                                                          refine lv_icmp_eq (tgt := 43) S.1 S.2.1 dX7_word_34 (by decide) (fun c34_47 => ?_) (fun c34_47 => ?_)
                                                                                                                                          · exact absurd c34_47 (by decide)
                                                                                                                                          · refine lv_iinc (v := 3) (lv' := [(5, .int 3), (4, .int 45), (3, .int 10), (0, .ref mO), (1, .int 12), (2, .int 12)]) S.1 S.2.1 dX7_word_37 hl (k := 0) rfl (by decide) (by decide) rfl (fun ls hl => ?_)
                                                                                                                                            refine lv_goto (tgt := 22) S.1 S.2.1 dX7_word_40 (by decide) ?_
                                                                                                                                            refine lv_aload_n S.1 S.2.1 dX7_word_22 rfl (lv_at hl 3 rfl) ?_
                                                                                                                                            refine w_get S C w (CC := RX7) (T := TX7) (N := 16) (ref := "GateSumsModel") im_X7_word_X7 0 rfl rfl 7 (by decide) (List.mem_of_getElem? (i := 1) rfl) (fun _ h => h) rfl dX7_word_23 ?_
                                                                                                                                            refine lv_iload S.1 S.2.1 dX7_word_26 (lv_at hl 1 rfl) ?_
                                                                                                                                            refine lv_iload S.1 S.2.1 dX7_word_28 (lv_at hl 0 rfl) ?_
                                                                                                                                            refine lv_iadd S.1 S.2.1 dX7_word_30 ?_
                                                                                                                                            refine w_topi (y := 48) (by decide) ?_
                                                                                                                                            refine w_cald S C w 2 rfl (by unfold vp_in; decide) dX7_word_31 ?_
                                                                                                                                            refine w_topi (y := 97) (by decide) ?_
                                                                                                                                            refine lv_bipush (v := 32) S.1 S.2.1 dX7_word_32 (by decide) ?_
                                                                                                                                            refine lv_icmp_eq (tgt := 43) S.1 S.2.1 dX7_word_34 (by decide) (fun c34_48 => ?_) (fun c34_48 => ?_)
                                                                                                                                            · exact absurd c34_48 (by decide)
                                                                                                                                            · refine lv_iinc (v := 4) (lv' := [(5, .int 4), (4, .int 45), (3, .int 10), (0, .ref mO), (1, .int 12), (2, .int 12)]) S.1 S.2.1 dX7_word_37 hl (k := 0) rfl (by decide) (by decide) rfl (fun ls hl => ?_)
                                                                                                                                              refine lv_goto (tgt := 22) S.1 S.2.1 dX7_word_40 (by decide) ?_
                                                                                                                                              refine lv_aload_n S.1 S.2.1 dX7_word_22 rfl (lv_at hl 3 rfl) ?_
                                                                                                                                              refine w_get S C w (CC := RX7) (T := TX7) (N := 16) (ref := "GateSumsModel") im_X7_word_X7 0 rfl rfl 7 (by decide) (List.mem_of_getElem? (i := 1) rfl) (fun _ h => h) rfl dX7_word_23 ?_
                                                                                                                                              refine lv_iload S.1 S.2.1 dX7_word_26 (lv_at hl 1 rfl) ?_
                                                                                                                                              refine lv_iload S.1 S.2.1 dX7_word_28 (lv_at hl 0 rfl) ?_
                                                                                                                                              refine lv_iadd S.1 S.2.1 dX7_word_30 ?_
                                                                                                                                              refine w_topi (y := 49) (by decide) ?_
                                                                                                                                              refine w_cald S C w 2 rfl (by unfold vp_in; decide) dX7_word_31 ?_
                                                                                                                                              refine w_topi (y := 114) (by decide) ?_
                                                                                                                                              refine lv_bipush (v := 32) S.1 S.2.1 dX7_word_32 (by decide) ?_
                                                                                                                                              refine lv_icmp_eq (tgt := 43) S.1 S.2.1 dX7_word_34 (by decide) (fun c34_49 => ?_) (fun c34_49 => ?_)
                                                                                                                                              · exact absurd c34_49 (by decide)
                                                                                                                                              · refine lv_iinc (v := 5) (lv' := [(5, .int 5), (4, .int 45), (3, .int 10), (0, .ref mO), (1, .int 12), (2, .int 12)]) S.1 S.2.1 dX7_word_37 hl (k := 0) rfl (by decide) (by decide) rfl (fun ls hl => ?_)
                                                                                                                                                refine lv_goto (tgt := 22) S.1 S.2.1 dX7_word_40 (by decide) ?_
                                                                                                                                                refine lv_aload_n S.1 S.2.1 dX7_word_22 rfl (lv_at hl 3 rfl) ?_
                                                                                                                                                refine w_get S C w (CC := RX7) (T := TX7) (N := 16) (ref := "GateSumsModel") im_X7_word_X7 0 rfl rfl 7 (by decide) (List.mem_of_getElem? (i := 1) rfl) (fun _ h => h) rfl dX7_word_23 ?_
                                                                                                                                                refine lv_iload S.1 S.2.1 dX7_word_26 (lv_at hl 1 rfl) ?_
                                                                                                                                                refine lv_iload S.1 S.2.1 dX7_word_28 (lv_at hl 0 rfl) ?_
                                                                                                                                                refine lv_iadd S.1 S.2.1 dX7_word_30 ?_
                                                                                                                                                refine w_topi (y := 50) (by decide) ?_
                                                                                                                                                refine w_cald S C w 2 rfl (by unfold vp_in; decide) dX7_word_31 ?_
                                                                                                                                                refine w_topi (y := 101) (by decide) ?_
                                                                                                                                                refine lv_bipush (v := 32) S.1 S.2.1 dX7_word_32 (by decide) ?_
                                                                                                                                                refine lv_icmp_eq (tgt := 43) S.1 S.2.1 dX7_word_34 (by decide) (fun c34_50 => ?_) (fun c34_50 => ?_)
                                                                                                                                                · exact absurd c34_50 (by decide)
                                                                                                                                                · refine lv_iinc (v := 6) (lv' := [(5, .int 6), (4, .int 45), (3, .int 10), (0, .ref mO), (1, .int 12), (2, .int 12)]) S.1 S.2.1 dX7_word_37 hl (k := 0) rfl (by decide) (by decide) rfl (fun ls hl => ?_)
                                                                                                                                                  refine lv_goto (tgt := 22) S.1 S.2.1 dX7_word_40 (by decide) ?_
                                                                                                                                                  refine lv_aload_n S.1 S.2.1 dX7_word_22 rfl (lv_at hl 3 rfl) ?_
                                                                                                                                                  refine w_get S C w (CC := RX7) (T := TX7) (N := 16) (ref := "GateSumsModel") im_X7_word_X7 0 rfl rfl 7 (by decide) (List.mem_of_getElem? (i := 1) rfl) (fun _ h => h) rfl dX7_word_23 ?_
                                                                                                                                                  refine lv_iload S.1 S.2.1 dX7_word_26 (lv_at hl 1 rfl) ?_
                                                                                                                                                  refine lv_iload S.1 S.2.1 dX7_word_28 (lv_at hl 0 rfl) ?_
                                                                                                                                                  refine lv_iadd S.1 S.2.1 dX7_word_30 ?_
                                                                                                                                                  refine w_topi (y := 51) (by decide) ?_
                                                                                                                                                  refine w_cald S C w 2 rfl (by unfold vp_in; decide) dX7_word_31 ?_
                                                                                                                                                  refine w_topi (y := 32) (by decide) ?_
                                                                                                                                                  refine lv_bipush (v := 32) S.1 S.2.1 dX7_word_32 (by decide) ?_
                                                                                                                                                  refine lv_icmp_eq (tgt := 43) S.1 S.2.1 dX7_word_34 (by decide) (fun c34_51 => ?_) (fun c34_51 => ?_)
                                                                                                                                                  · refine lv_iload_n S.1 S.2.1 dX7_word_43 rfl (lv_at hl 2 rfl) ?_
                                                                                                                                                    refine lv_iload_n S.1 S.2.1 dX7_word_44 rfl (lv_at hl 4 rfl) ?_
                                                                                                                                                    refine lv_iload_n S.1 S.2.1 dX7_word_45 rfl (lv_at hl 5 rfl) ?_
                                                                                                                                                    refine cs_i (va_runS (As := [.int 10, .int 12, .int 12]) (rest := []) S (c_X7_in l G _ 10 12 12) (cwS 3 S.2.2.2.2 gX7_word_X7_in rfl rfl rfl (by decide +kernel) ⟨Nat.le_of_ble_eq_true rfl, Nat.le_of_ble_eq_true rfl⟩) ⟨wPre_blind, wPre_at C w [] rfl rfl⟩ rfl rfl hl.1 rfl (lv_room (Nat.le_of_ble_eq_true rfl)) dX7_word_46 ⟨Nat.le_of_ble_eq_true rfl, Nat.le_of_ble_eq_true rfl⟩) (fun r46_10 h46_10 => ?_)
                                                                                                                                                    refine w_topi (y := (inF 10 12 12)) h46_10 ?_
                                                                                                                                                    refine w_topi (y := 0) (by decide) ?_
                                                                                                                                                    refine lv_if_eq (tgt := 78) S.1 S.2.1 dX7_word_49 (by decide) (fun c49_10 => ?_) (fun c49_10 => ?_)
                                                                                                                                                    · refine lv_iinc (v := 11) (lv' := [(3, .int 11), (5, .int 6), (4, .int 45), (0, .ref mO), (1, .int 12), (2, .int 12)]) S.1 S.2.1 dX7_word_78 hl (k := 2) rfl (by decide) (by decide) rfl (fun ls hl => ?_)
                                                                                                                                                      refine lv_iload S.1 S.2.1 dX7_word_81 (lv_at hl 2 rfl) ?_
                                                                                                                                                      refine lv_iload S.1 S.2.1 dX7_word_83 (lv_at hl 1 rfl) ?_
                                                                                                                                                      refine lv_iconst (v := 1) S.1 S.2.1 dX7_word_85 (by decide) ?_
                                                                                                                                                      refine lv_iadd S.1 S.2.1 dX7_word_86 ?_
                                                                                                                                                      refine w_topi (y := 7) (by decide) ?_
                                                                                                                                                      refine lv_iadd S.1 S.2.1 dX7_word_87 ?_
                                                                                                                                                      refine w_topi (y := 52) (by decide) ?_
                                                                                                                                                      refine lv_istore (lv' := [(4, .int 52), (3, .int 11), (5, .int 6), (0, .ref mO), (1, .int 12), (2, .int 12)]) S.1 S.2.1 dX7_word_88 hl (by decide) rfl (fun ls hl => ?_)
                                                                                                                                                      refine lv_goto (tgt := 9) S.1 S.2.1 dX7_word_90 (by decide) ?_
                                                                                                                                                      refine lv_iload S.1 S.2.1 dX7_word_9 (lv_at hl 0 rfl) ?_
                                                                                                                                                      refine lv_aload_n S.1 S.2.1 dX7_word_11 rfl (lv_at hl 3 rfl) ?_
                                                                                                                                                      refine w_get S C w (CC := RX7) (T := TX7) (N := 16) (ref := "GateSumsModel") im_X7_word_X7 0 rfl rfl 7 (by decide) (List.mem_of_getElem? (i := 1) rfl) (fun _ h => h) rfl dX7_word_12 ?_
                                                                                                                                                      refine w_alen S C w 2 1 rfl rfl (v := 73) rfl dX7_word_15 ?_
                                                                                                                                                      refine lv_icmp_ge (tgt := 93) S.1 S.2.1 dX7_word_16 (by decide) (fun c16_11 => ?_) (fun c16_11 => ?_)
                                                                                                                                                      · exact absurd c16_11 (by decide)
                                                                                                                                                      · refine lv_iconst (v := 0) S.1 S.2.1 dX7_word_19 (by decide) ?_
                                                                                                                                                        refine lv_istore (lv' := [(5, .int 0), (4, .int 52), (3, .int 11), (0, .ref mO), (1, .int 12), (2, .int 12)]) S.1 S.2.1 dX7_word_20 hl (by decide) rfl (fun ls hl => ?_)
                                                                                                                                                        refine lv_aload_n S.1 S.2.1 dX7_word_22 rfl (lv_at hl 3 rfl) ?_
                                                                                                                                                        refine w_get S C w (CC := RX7) (T := TX7) (N := 16) (ref := "GateSumsModel") im_X7_word_X7 0 rfl rfl 7 (by decide) (List.mem_of_getElem? (i := 1) rfl) (fun _ h => h) rfl dX7_word_23 ?_
                                                                                                                                                        refine lv_iload S.1 S.2.1 dX7_word_26 (lv_at hl 1 rfl) ?_
                                                                                                                                                        refine lv_iload S.1 S.2.1 dX7_word_28 (lv_at hl 0 rfl) ?_
                                                                                                                                                        refine lv_iadd S.1 S.2.1 dX7_word_30 ?_
                                                                                                                                                        refine w_topi (y := 52) (by decide) ?_
                                                                                                                                                        refine w_cald S C w 2 rfl (by unfold vp_in; decide) dX7_word_31 ?_
                                                                                                                                                        refine w_topi (y := 116) (by decide) ?_
                                                                                                                                                        refine lv_bipush (v := 32) S.1 S.2.1 dX7_word_32 (by decide) ?_
                                                                                                                                                        refine lv_icmp_eq (tgt := 43) S.1 S.2.1 dX7_word_34 (by decide) (fun c34_52 => ?_) (fun c34_52 => ?_)
                                                                                                                                                        · exact absurd c34_52 (by decide)
                                                                                                                                                        · refine lv_iinc (v := 1) (lv' := [(5, .int 1), (4, .int 52), (3, .int 11), (0, .ref mO), (1, .int 12), (2, .int 12)]) S.1 S.2.1 dX7_word_37 hl (k := 0) rfl (by decide) (by decide) rfl (fun ls hl => ?_)
                                                                                                                                                          refine lv_goto (tgt := 22) S.1 S.2.1 dX7_word_40 (by decide) ?_
                                                                                                                                                          refine lv_aload_n S.1 S.2.1 dX7_word_22 rfl (lv_at hl 3 rfl) ?_
                                                                                                                                                          refine w_get S C w (CC := RX7) (T := TX7) (N := 16) (ref := "GateSumsModel") im_X7_word_X7 0 rfl rfl 7 (by decide) (List.mem_of_getElem? (i := 1) rfl) (fun _ h => h) rfl dX7_word_23 ?_
                                                                                                                                                          refine lv_iload S.1 S.2.1 dX7_word_26 (lv_at hl 1 rfl) ?_
                                                                                                                                                          refine lv_iload S.1 S.2.1 dX7_word_28 (lv_at hl 0 rfl) ?_
                                                                                                                                                          refine lv_iadd S.1 S.2.1 dX7_word_30 ?_
                                                                                                                                                          refine w_topi (y := 53) (by decide) ?_
                                                                                                                                                          refine w_cald S C w 2 rfl (by unfold vp_in; decide) dX7_word_31 ?_
                                                                                                                                                          refine w_topi (y := 114) (by decide) ?_
                                                                                                                                                          refine lv_bipush (v := 32) S.1 S.2.1 dX7_word_32 (by decide) ?_
                                                                                                                                                          refine lv_icmp_eq (tgt := 43) S.1 S.2.1 dX7_word_34 (by decide) (fun c34_53 => ?_) (fun c34_53 => ?_)
                                                                                                                                                          · exact absurd c34_53 (by decide)
                                                                                                                                                          · refine lv_iinc (v := 2) (lv' := [(5, .int 2), (4, .int 52), (3, .int 11), (0, .ref mO), (1, .int 12), (2, .int 12)]) S.1 S.2.1 dX7_word_37 hl (k := 0) rfl (by decide) (by decide) rfl (fun ls hl => ?_)
                                                                                                                                                            refine lv_goto (tgt := 22) S.1 S.2.1 dX7_word_40 (by decide) ?_
                                                                                                                                                            refine lv_aload_n S.1 S.2.1 dX7_word_22 rfl (lv_at hl 3 rfl) ?_
                                                                                                                                                            refine w_get S C w (CC := RX7) (T := TX7) (N := 16) (ref := "GateSumsModel") im_X7_word_X7 0 rfl rfl 7 (by decide) (List.mem_of_getElem? (i := 1) rfl) (fun _ h => h) rfl dX7_word_23 ?_
                                                                                                                                                            refine lv_iload S.1 S.2.1 dX7_word_26 (lv_at hl 1 rfl) ?_
                                                                                                                                                            refine lv_iload S.1 S.2.1 dX7_word_28 (lv_at hl 0 rfl) ?_
                                                                                                                                                            refine lv_iadd S.1 S.2.1 dX7_word_30 ?_
                                                                                                                                                            refine w_topi (y := 54) (by decide) ?_
                                                                                                                                                            refine w_cald S C w 2 rfl (by unfold vp_in; decide) dX7_word_31 ?_
                                                                                                                                                            refine w_topi (y := 105) (by decide) ?_
                                                                                                                                                            refine lv_bipush (v := 32) S.1 S.2.1 dX7_word_32 (by decide) ?_
                                                                                                                                                            refine lv_icmp_eq (tgt := 43) S.1 S.2.1 dX7_word_34 (by decide) (fun c34_54 => ?_) (fun c34_54 => ?_)
                                                                                                                                                            · exact absurd c34_54 (by decide)
                                                                                                                                                            · refine lv_iinc (v := 3) (lv' := [(5, .int 3), (4, .int 52), (3, .int 11), (0, .ref mO), (1, .int 12), (2, .int 12)]) S.1 S.2.1 dX7_word_37 hl (k := 0) rfl (by decide) (by decide) rfl (fun ls hl => ?_)
                                                                                                                                                              refine lv_goto (tgt := 22) S.1 S.2.1 dX7_word_40 (by decide) ?_
                                                                                                                                                              refine lv_aload_n S.1 S.2.1 dX7_word_22 rfl (lv_at hl 3 rfl) ?_
                                                                                                                                                              refine w_get S C w (CC := RX7) (T := TX7) (N := 16) (ref := "GateSumsModel") im_X7_word_X7 0 rfl rfl 7 (by decide) (List.mem_of_getElem? (i := 1) rfl) (fun _ h => h) rfl dX7_word_23 ?_
                                                                                                                                                              refine lv_iload S.1 S.2.1 dX7_word_26 (lv_at hl 1 rfl) ?_
                                                                                                                                                              refine lv_iload S.1 S.2.1 dX7_word_28 (lv_at hl 0 rfl) ?_
                                                                                                                                                              refine lv_iadd S.1 S.2.1 dX7_word_30 ?_
                                                                                                                                                              refine w_topi (y := 55) (by decide) ?_
                                                                                                                                                              refine w_cald S C w 2 rfl (by unfold vp_in; decide) dX7_word_31 ?_
                                                                                                                                                              refine w_topi (y := 112) (by decide) ?_
                                                                                                                                                              refine lv_bipush (v := 32) S.1 S.2.1 dX7_word_32 (by decide) ?_
                                                                                                                                                              refine lv_icmp_eq (tgt := 43) S.1 S.2.1 dX7_word_34 (by decide) (fun c34_55 => ?_) (fun c34_55 => ?_)
                                                                                                                                                              · exact absurd c34_55 (by decide)
                                                                                                                                                              · refine lv_iinc (v := 4) (lv' := [(5, .int 4), (4, .int 52), (3, .int 11), (0, .ref mO), (1, .int 12), (2, .int 12)]) S.1 S.2.1 dX7_word_37 hl (k := 0) rfl (by decide) (by decide) rfl (fun ls hl => ?_)
                                                                                                                                                                refine lv_goto (tgt := 22) S.1 S.2.1 dX7_word_40 (by decide) ?_
                                                                                                                                                                refine lv_aload_n S.1 S.2.1 dX7_word_22 rfl (lv_at hl 3 rfl) ?_
                                                                                                                                                                refine w_get S C w (CC := RX7) (T := TX7) (N := 16) (ref := "GateSumsModel") im_X7_word_X7 0 rfl rfl 7 (by decide) (List.mem_of_getElem? (i := 1) rfl) (fun _ h => h) rfl dX7_word_23 ?_
                                                                                                                                                                refine lv_iload S.1 S.2.1 dX7_word_26 (lv_at hl 1 rfl) ?_
                                                                                                                                                                refine lv_iload S.1 S.2.1 dX7_word_28 (lv_at hl 0 rfl) ?_
                                                                                                                                                                refine lv_iadd S.1 S.2.1 dX7_word_30 ?_
                                                                                                                                                                refine w_topi (y := 56) (by decide) ?_
                                                                                                                                                                refine w_cald S C w 2 rfl (by unfold vp_in; decide) dX7_word_31 ?_
                                                                                                                                                                refine w_topi (y := 108) (by decide) ?_
                                                                                                                                                                refine lv_bipush (v := 32) S.1 S.2.1 dX7_word_32 (by decide) ?_
                                                                                                                                                                refine lv_icmp_eq (tgt := 43) S.1 S.2.1 dX7_word_34 (by decide) (fun c34_56 => ?_) (fun c34_56 => ?_)
                                                                                                                                                                · exact absurd c34_56 (by decide)
                                                                                                                                                                · refine lv_iinc (v := 5) (lv' := [(5, .int 5), (4, .int 52), (3, .int 11), (0, .ref mO), (1, .int 12), (2, .int 12)]) S.1 S.2.1 dX7_word_37 hl (k := 0) rfl (by decide) (by decide) rfl (fun ls hl => ?_)
                                                                                                                                                                  refine lv_goto (tgt := 22) S.1 S.2.1 dX7_word_40 (by decide) ?_
                                                                                                                                                                  refine lv_aload_n S.1 S.2.1 dX7_word_22 rfl (lv_at hl 3 rfl) ?_
                                                                                                                                                                  refine w_get S C w (CC := RX7) (T := TX7) (N := 16) (ref := "GateSumsModel") im_X7_word_X7 0 rfl rfl 7 (by decide) (List.mem_of_getElem? (i := 1) rfl) (fun _ h => h) rfl dX7_word_23 ?_
                                                                                                                                                                  refine lv_iload S.1 S.2.1 dX7_word_26 (lv_at hl 1 rfl) ?_
                                                                                                                                                                  refine lv_iload S.1 S.2.1 dX7_word_28 (lv_at hl 0 rfl) ?_
                                                                                                                                                                  refine lv_iadd S.1 S.2.1 dX7_word_30 ?_
                                                                                                                                                                  refine w_topi (y := 57) (by decide) ?_
                                                                                                                                                                  refine w_cald S C w 2 rfl (by unfold vp_in; decide) dX7_word_31 ?_
                                                                                                                                                                  refine w_topi (y := 101) (by decide) ?_
                                                                                                                                                                  refine lv_bipush (v := 32) S.1 S.2.1 dX7_word_32 (by decide) ?_
                                                                                                                                                                  refine lv_icmp_eq (tgt := 43) S.1 S.2.1 dX7_word_34 (by decide) (fun c34_57 => ?_) (fun c34_57 => ?_)
                                                                                                                                                                  · exact absurd c34_57 (by decide)
                                                                                                                                                                  · refine lv_iinc (v := 6) (lv' := [(5, .int 6), (4, .int 52), (3, .int 11), (0, .ref mO), (1, .int 12), (2, .int 12)]) S.1 S.2.1 dX7_word_37 hl (k := 0) rfl (by decide) (by decide) rfl (fun ls hl => ?_)
                                                                                                                                                                    refine lv_goto (tgt := 22) S.1 S.2.1 dX7_word_40 (by decide) ?_
                                                                                                                                                                    refine lv_aload_n S.1 S.2.1 dX7_word_22 rfl (lv_at hl 3 rfl) ?_
                                                                                                                                                                    refine w_get S C w (CC := RX7) (T := TX7) (N := 16) (ref := "GateSumsModel") im_X7_word_X7 0 rfl rfl 7 (by decide) (List.mem_of_getElem? (i := 1) rfl) (fun _ h => h) rfl dX7_word_23 ?_
                                                                                                                                                                    refine lv_iload S.1 S.2.1 dX7_word_26 (lv_at hl 1 rfl) ?_
                                                                                                                                                                    refine lv_iload S.1 S.2.1 dX7_word_28 (lv_at hl 0 rfl) ?_
                                                                                                                                                                    refine lv_iadd S.1 S.2.1 dX7_word_30 ?_
                                                                                                                                                                    refine w_topi (y := 58) (by decide) ?_
                                                                                                                                                                    refine w_cald S C w 2 rfl (by unfold vp_in; decide) dX7_word_31 ?_
                                                                                                                                                                    refine w_topi (y := 32) (by decide) ?_
                                                                                                                                                                    refine lv_bipush (v := 32) S.1 S.2.1 dX7_word_32 (by decide) ?_
                                                                                                                                                                    refine lv_icmp_eq (tgt := 43) S.1 S.2.1 dX7_word_34 (by decide) (fun c34_58 => ?_) (fun c34_58 => ?_)
                                                                                                                                                                    · refine lv_iload_n S.1 S.2.1 dX7_word_43 rfl (lv_at hl 2 rfl) ?_
                                                                                                                                                                      refine lv_iload_n S.1 S.2.1 dX7_word_44 rfl (lv_at hl 4 rfl) ?_
                                                                                                                                                                      refine lv_iload_n S.1 S.2.1 dX7_word_45 rfl (lv_at hl 5 rfl) ?_
                                                                                                                                                                      refine cs_i (va_runS (As := [.int 11, .int 12, .int 12]) (rest := []) S (c_X7_in l G _ 11 12 12) (cwS 3 S.2.2.2.2 gX7_word_X7_in rfl rfl rfl (by decide +kernel) ⟨Nat.le_of_ble_eq_true rfl, Nat.le_of_ble_eq_true rfl⟩) ⟨wPre_blind, wPre_at C w [] rfl rfl⟩ rfl rfl hl.1 rfl (lv_room (Nat.le_of_ble_eq_true rfl)) dX7_word_46 ⟨Nat.le_of_ble_eq_true rfl, Nat.le_of_ble_eq_true rfl⟩) (fun r46_11 h46_11 => ?_)
                                                                                                                                                                      refine w_topi (y := (inF 11 12 12)) h46_11 ?_
                                                                                                                                                                      refine w_topi (y := 0) (by decide) ?_
                                                                                                                                                                      refine lv_if_eq (tgt := 78) S.1 S.2.1 dX7_word_49 (by decide) (fun c49_11 => ?_) (fun c49_11 => ?_)
                                                                                                                                                                      · refine lv_iinc (v := 12) (lv' := [(3, .int 12), (5, .int 6), (4, .int 52), (0, .ref mO), (1, .int 12), (2, .int 12)]) S.1 S.2.1 dX7_word_78 hl (k := 2) rfl (by decide) (by decide) rfl (fun ls hl => ?_)
                                                                                                                                                                        refine lv_iload S.1 S.2.1 dX7_word_81 (lv_at hl 2 rfl) ?_
                                                                                                                                                                        refine lv_iload S.1 S.2.1 dX7_word_83 (lv_at hl 1 rfl) ?_
                                                                                                                                                                        refine lv_iconst (v := 1) S.1 S.2.1 dX7_word_85 (by decide) ?_
                                                                                                                                                                        refine lv_iadd S.1 S.2.1 dX7_word_86 ?_
                                                                                                                                                                        refine w_topi (y := 7) (by decide) ?_
                                                                                                                                                                        refine lv_iadd S.1 S.2.1 dX7_word_87 ?_
                                                                                                                                                                        refine w_topi (y := 59) (by decide) ?_
                                                                                                                                                                        refine lv_istore (lv' := [(4, .int 59), (3, .int 12), (5, .int 6), (0, .ref mO), (1, .int 12), (2, .int 12)]) S.1 S.2.1 dX7_word_88 hl (by decide) rfl (fun ls hl => ?_)
                                                                                                                                                                        refine lv_goto (tgt := 9) S.1 S.2.1 dX7_word_90 (by decide) ?_
                                                                                                                                                                        refine lv_iload S.1 S.2.1 dX7_word_9 (lv_at hl 0 rfl) ?_
                                                                                                                                                                        refine lv_aload_n S.1 S.2.1 dX7_word_11 rfl (lv_at hl 3 rfl) ?_
                                                                                                                                                                        refine w_get S C w (CC := RX7) (T := TX7) (N := 16) (ref := "GateSumsModel") im_X7_word_X7 0 rfl rfl 7 (by decide) (List.mem_of_getElem? (i := 1) rfl) (fun _ h => h) rfl dX7_word_12 ?_
                                                                                                                                                                        refine w_alen S C w 2 1 rfl rfl (v := 73) rfl dX7_word_15 ?_
                                                                                                                                                                        refine lv_icmp_ge (tgt := 93) S.1 S.2.1 dX7_word_16 (by decide) (fun c16_12 => ?_) (fun c16_12 => ?_)
                                                                                                                                                                        · exact absurd c16_12 (by decide)
                                                                                                                                                                        · refine lv_iconst (v := 0) S.1 S.2.1 dX7_word_19 (by decide) ?_
                                                                                                                                                                          refine lv_istore (lv' := [(5, .int 0), (4, .int 59), (3, .int 12), (0, .ref mO), (1, .int 12), (2, .int 12)]) S.1 S.2.1 dX7_word_20 hl (by decide) rfl (fun ls hl => ?_)
                                                                                                                                                                          refine lv_aload_n S.1 S.2.1 dX7_word_22 rfl (lv_at hl 3 rfl) ?_
                                                                                                                                                                          refine w_get S C w (CC := RX7) (T := TX7) (N := 16) (ref := "GateSumsModel") im_X7_word_X7 0 rfl rfl 7 (by decide) (List.mem_of_getElem? (i := 1) rfl) (fun _ h => h) rfl dX7_word_23 ?_
                                                                                                                                                                          refine lv_iload S.1 S.2.1 dX7_word_26 (lv_at hl 1 rfl) ?_
                                                                                                                                                                          refine lv_iload S.1 S.2.1 dX7_word_28 (lv_at hl 0 rfl) ?_
                                                                                                                                                                          refine lv_iadd S.1 S.2.1 dX7_word_30 ?_
                                                                                                                                                                          refine w_topi (y := 59) (by decide) ?_
                                                                                                                                                                          refine w_cald S C w 2 rfl (by unfold vp_in; decide) dX7_word_31 ?_
                                                                                                                                                                          refine w_topi (y := 105) (by decide) ?_
                                                                                                                                                                          refine lv_bipush (v := 32) S.1 S.2.1 dX7_word_32 (by decide) ?_
                                                                                                                                                                          refine lv_icmp_eq (tgt := 43) S.1 S.2.1 dX7_word_34 (by decide) (fun c34_59 => ?_) (fun c34_59 => ?_)
                                                                                                                                                                          · exact absurd c34_59 (by decide)
                                                                                                                                                                          · refine lv_iinc (v := 1) (lv' := [(5, .int 1), (4, .int 59), (3, .int 12), (0, .ref mO), (1, .int 12), (2, .int 12)]) S.1 S.2.1 dX7_word_37 hl (k := 0) rfl (by decide) (by decide) rfl (fun ls hl => ?_)
                                                                                                                                                                            refine lv_goto (tgt := 22) S.1 S.2.1 dX7_word_40 (by decide) ?_
                                                                                                                                                                            refine lv_aload_n S.1 S.2.1 dX7_word_22 rfl (lv_at hl 3 rfl) ?_
                                                                                                                                                                            refine w_get S C w (CC := RX7) (T := TX7) (N := 16) (ref := "GateSumsModel") im_X7_word_X7 0 rfl rfl 7 (by decide) (List.mem_of_getElem? (i := 1) rfl) (fun _ h => h) rfl dX7_word_23 ?_
                                                                                                                                                                            refine lv_iload S.1 S.2.1 dX7_word_26 (lv_at hl 1 rfl) ?_
                                                                                                                                                                            refine lv_iload S.1 S.2.1 dX7_word_28 (lv_at hl 0 rfl) ?_
                                                                                                                                                                            refine lv_iadd S.1 S.2.1 dX7_word_30 ?_
                                                                                                                                                                            refine w_topi (y := 60) (by decide) ?_
                                                                                                                                                                            refine w_cald S C w 2 rfl (by unfold vp_in; decide) dX7_word_31 ?_
                                                                                                                                                                            refine w_topi (y := 110) (by decide) ?_
                                                                                                                                                                            refine lv_bipush (v := 32) S.1 S.2.1 dX7_word_32 (by decide) ?_
                                                                                                                                                                            refine lv_icmp_eq (tgt := 43) S.1 S.2.1 dX7_word_34 (by decide) (fun c34_60 => ?_) (fun c34_60 => ?_)
                                                                                                                                                                            · exact absurd c34_60 (by decide)
                                                                                                                                                                            · refine lv_iinc (v := 2) (lv' := [(5, .int 2), (4, .int 59), (3, .int 12), (0, .ref mO), (1, .int 12), (2, .int 12)]) S.1 S.2.1 dX7_word_37 hl (k := 0) rfl (by decide) (by decide) rfl (fun ls hl => ?_)
                                                                                                                                                                              refine lv_goto (tgt := 22) S.1 S.2.1 dX7_word_40 (by decide) ?_
                                                                                                                                                                              refine lv_aload_n S.1 S.2.1 dX7_word_22 rfl (lv_at hl 3 rfl) ?_
                                                                                                                                                                              refine w_get S C w (CC := RX7) (T := TX7) (N := 16) (ref := "GateSumsModel") im_X7_word_X7 0 rfl rfl 7 (by decide) (List.mem_of_getElem? (i := 1) rfl) (fun _ h => h) rfl dX7_word_23 ?_
                                                                                                                                                                              refine lv_iload S.1 S.2.1 dX7_word_26 (lv_at hl 1 rfl) ?_
                                                                                                                                                                              refine lv_iload S.1 S.2.1 dX7_word_28 (lv_at hl 0 rfl) ?_
                                                                                                                                                                              refine lv_iadd S.1 S.2.1 dX7_word_30 ?_
                                                                                                                                                                              refine w_topi (y := 61) (by decide) ?_
                                                                                                                                                                              refine w_cald S C w 2 rfl (by unfold vp_in; decide) dX7_word_31 ?_
                                                                                                                                                                              refine w_topi (y := 32) (by decide) ?_
                                                                                                                                                                              refine lv_bipush (v := 32) S.1 S.2.1 dX7_word_32 (by decide) ?_
                                                                                                                                                                              refine lv_icmp_eq (tgt := 43) S.1 S.2.1 dX7_word_34 (by decide) (fun c34_61 => ?_) (fun c34_61 => ?_)
                                                                                                                                                                              · refine lv_iload_n S.1 S.2.1 dX7_word_43 rfl (lv_at hl 2 rfl) ?_
                                                                                                                                                                                refine lv_iload_n S.1 S.2.1 dX7_word_44 rfl (lv_at hl 4 rfl) ?_
                                                                                                                                                                                refine lv_iload_n S.1 S.2.1 dX7_word_45 rfl (lv_at hl 5 rfl) ?_
                                                                                                                                                                                refine cs_i (va_runS (As := [.int 12, .int 12, .int 12]) (rest := []) S (c_X7_in l G _ 12 12 12) (cwS 3 S.2.2.2.2 gX7_word_X7_in rfl rfl rfl (by decide +kernel) ⟨Nat.le_of_ble_eq_true rfl, Nat.le_of_ble_eq_true rfl⟩) ⟨wPre_blind, wPre_at C w [] rfl rfl⟩ rfl rfl hl.1 rfl (lv_room (Nat.le_of_ble_eq_true rfl)) dX7_word_46 ⟨Nat.le_of_ble_eq_true rfl, Nat.le_of_ble_eq_true rfl⟩) (fun r46_12 h46_12 => ?_)
                                                                                                                                                                                refine w_topi (y := (inF 12 12 12)) h46_12 ?_
                                                                                                                                                                                refine w_topi (y := 1) (by decide) ?_
                                                                                                                                                                                refine lv_if_eq (tgt := 78) S.1 S.2.1 dX7_word_49 (by decide) (fun c49_12 => ?_) (fun c49_12 => ?_)
                                                                                                                                                                                · exact absurd c49_12 (by decide)
                                                                                                                                                                                · refine lv_aload_n S.1 S.2.1 dX7_word_52 rfl (lv_at hl 3 rfl) ?_
                                                                                                                                                                                  refine lv_iload S.1 S.2.1 dX7_word_53 (lv_at hl 1 rfl) ?_
                                                                                                                                                                                  refine lv_iload S.1 S.2.1 dX7_word_55 (lv_at hl 0 rfl) ?_
                                                                                                                                                                                  refine cs_i (va_runV (As := [.int 59, .int 2]) (rest := []) S (e_X7_isWord l G mO mT mW _ mS mD mR mQ mC mU mV mn my mm mf mg fT) (cwV 2 S.2.2.2.2 gX7_word_X7_isWord rfl rfl rfl (by decide +kernel) ⟨Nat.le_of_ble_eq_true rfl, Nat.le_of_ble_eq_true rfl⟩) ⟨wPre_blind, va_recv C.1 w.1 (ci := 7) (q0 := 0) rfl rfl, wPre_at C w [0, 1, 2] rfl rfl⟩ rfl rfl hl.1 rfl (lv_room (Nat.le_of_ble_eq_true rfl)) dX7_word_57 ⟨Nat.le_of_ble_eq_true rfl, Nat.le_of_ble_eq_true rfl⟩) (fun r57 h57 => ?_)
                                                                                                                                                                                  refine w_topi (y := 0) h57 ?_
                                                                                                                                                                                  refine lv_if_eq (tgt := 78) S.1 S.2.1 dX7_word_60 (by decide) (fun c60 => ?_) (fun c60 => ?_)
                                                                                                                                                                                  · refine lv_iinc (v := 13) (lv' := [(3, .int 13), (5, .int 2), (4, .int 59), (0, .ref mO), (1, .int 12), (2, .int 12)]) S.1 S.2.1 dX7_word_78 hl (k := 2) rfl (by decide) (by decide) rfl (fun ls hl => ?_)
                                                                                                                                                                                    refine lv_iload S.1 S.2.1 dX7_word_81 (lv_at hl 2 rfl) ?_
                                                                                                                                                                                    refine lv_iload S.1 S.2.1 dX7_word_83 (lv_at hl 1 rfl) ?_
                                                                                                                                                                                    refine lv_iconst (v := 1) S.1 S.2.1 dX7_word_85 (by decide) ?_
                                                                                                                                                                                    refine lv_iadd S.1 S.2.1 dX7_word_86 ?_
                                                                                                                                                                                    refine w_topi (y := 3) (by decide) ?_
                                                                                                                                                                                    refine lv_iadd S.1 S.2.1 dX7_word_87 ?_
                                                                                                                                                                                    refine w_topi (y := 62) (by decide) ?_
                                                                                                                                                                                    refine lv_istore (lv' := [(4, .int 62), (3, .int 13), (5, .int 2), (0, .ref mO), (1, .int 12), (2, .int 12)]) S.1 S.2.1 dX7_word_88 hl (by decide) rfl (fun ls hl => ?_)
                                                                                                                                                                                    refine lv_goto (tgt := 9) S.1 S.2.1 dX7_word_90 (by decide) ?_
                                                                                                                                                                                    refine lv_iload S.1 S.2.1 dX7_word_9 (lv_at hl 0 rfl) ?_
                                                                                                                                                                                    refine lv_aload_n S.1 S.2.1 dX7_word_11 rfl (lv_at hl 3 rfl) ?_
                                                                                                                                                                                    refine w_get S C w (CC := RX7) (T := TX7) (N := 16) (ref := "GateSumsModel") im_X7_word_X7 0 rfl rfl 7 (by decide) (List.mem_of_getElem? (i := 1) rfl) (fun _ h => h) rfl dX7_word_12 ?_
                                                                                                                                                                                    refine w_alen S C w 2 1 rfl rfl (v := 73) rfl dX7_word_15 ?_
                                                                                                                                                                                    refine lv_icmp_ge (tgt := 93) S.1 S.2.1 dX7_word_16 (by decide) (fun c16_13 => ?_) (fun c16_13 => ?_)
                                                                                                                                                                                    · exact absurd c16_13 (by decide)
                                                                                                                                                                                    · refine lv_iconst (v := 0) S.1 S.2.1 dX7_word_19 (by decide) ?_
                                                                                                                                                                                      refine lv_istore (lv' := [(5, .int 0), (4, .int 62), (3, .int 13), (0, .ref mO), (1, .int 12), (2, .int 12)]) S.1 S.2.1 dX7_word_20 hl (by decide) rfl (fun ls hl => ?_)
                                                                                                                                                                                      refine lv_aload_n S.1 S.2.1 dX7_word_22 rfl (lv_at hl 3 rfl) ?_
                                                                                                                                                                                      refine w_get S C w (CC := RX7) (T := TX7) (N := 16) (ref := "GateSumsModel") im_X7_word_X7 0 rfl rfl 7 (by decide) (List.mem_of_getElem? (i := 1) rfl) (fun _ h => h) rfl dX7_word_23 ?_
                                                                                                                                                                                      refine lv_iload S.1 S.2.1 dX7_word_26 (lv_at hl 1 rfl) ?_
                                                                                                                                                                                      refine lv_iload S.1 S.2.1 dX7_word_28 (lv_at hl 0 rfl) ?_
                                                                                                                                                                                      refine lv_iadd S.1 S.2.1 dX7_word_30 ?_
                                                                                                                                                                                      refine w_topi (y := 62) (by decide) ?_
                                                                                                                                                                                      refine w_cald S C w 2 rfl (by unfold vp_in; decide) dX7_word_31 ?_
                                                                                                                                                                                      refine w_topi (y := 103) (by decide) ?_
                                                                                                                                                                                      refine lv_bipush (v := 32) S.1 S.2.1 dX7_word_32 (by decide) ?_
                                                                                                                                                                                      refine lv_icmp_eq (tgt := 43) S.1 S.2.1 dX7_word_34 (by decide) (fun c34_62 => ?_) (fun c34_62 => ?_)
                                                                                                                                                                                      · exact absurd c34_62 (by decide)
                                                                                                                                                                                      · refine lv_iinc (v := 1) (lv' := [(5, .int 1), (4, .int 62), (3, .int 13), (0, .ref mO), (1, .int 12), (2, .int 12)]) S.1 S.2.1 dX7_word_37 hl (k := 0) rfl (by decide) (by decide) rfl (fun ls hl => ?_)
                                                                                                                                                                                        refine lv_goto (tgt := 22) S.1 S.2.1 dX7_word_40 (by decide) ?_
                                                                                                                                                                                        refine lv_aload_n S.1 S.2.1 dX7_word_22 rfl (lv_at hl 3 rfl) ?_
                                                                                                                                                                                        refine w_get S C w (CC := RX7) (T := TX7) (N := 16) (ref := "GateSumsModel") im_X7_word_X7 0 rfl rfl 7 (by decide) (List.mem_of_getElem? (i := 1) rfl) (fun _ h => h) rfl dX7_word_23 ?_
                                                                                                                                                                                        refine lv_iload S.1 S.2.1 dX7_word_26 (lv_at hl 1 rfl) ?_
                                                                                                                                                                                        refine lv_iload S.1 S.2.1 dX7_word_28 (lv_at hl 0 rfl) ?_
                                                                                                                                                                                        refine lv_iadd S.1 S.2.1 dX7_word_30 ?_
                                                                                                                                                                                        refine w_topi (y := 63) (by decide) ?_
                                                                                                                                                                                        refine w_cald S C w 2 rfl (by unfold vp_in; decide) dX7_word_31 ?_
                                                                                                                                                                                        refine w_topi (y := 32) (by decide) ?_
                                                                                                                                                                                        refine lv_bipush (v := 32) S.1 S.2.1 dX7_word_32 (by decide) ?_
                                                                                                                                                                                        refine lv_icmp_eq (tgt := 43) S.1 S.2.1 dX7_word_34 (by decide) (fun c34_63 => ?_) (fun c34_63 => ?_)
                                                                                                                                                                                        · refine lv_iload_n S.1 S.2.1 dX7_word_43 rfl (lv_at hl 2 rfl) ?_
                                                                                                                                                                                          refine lv_iload_n S.1 S.2.1 dX7_word_44 rfl (lv_at hl 4 rfl) ?_
                                                                                                                                                                                          refine lv_iload_n S.1 S.2.1 dX7_word_45 rfl (lv_at hl 5 rfl) ?_
                                                                                                                                                                                          refine cs_i (va_runS (As := [.int 13, .int 12, .int 12]) (rest := []) S (c_X7_in l G _ 13 12 12) (cwS 3 S.2.2.2.2 gX7_word_X7_in rfl rfl rfl (by decide +kernel) ⟨Nat.le_of_ble_eq_true rfl, Nat.le_of_ble_eq_true rfl⟩) ⟨wPre_blind, wPre_at C w [] rfl rfl⟩ rfl rfl hl.1 rfl (lv_room (Nat.le_of_ble_eq_true rfl)) dX7_word_46 ⟨Nat.le_of_ble_eq_true rfl, Nat.le_of_ble_eq_true rfl⟩) (fun r46_13 h46_13 => ?_)
                                                                                                                                                                                          refine w_topi (y := (inF 13 12 12)) h46_13 ?_
                                                                                                                                                                                          refine w_topi (y := 0) (by decide) ?_
                                                                                                                                                                                          refine lv_if_eq (tgt := 78) S.1 S.2.1 dX7_word_49 (by decide) (fun c49_13 => ?_) (fun c49_13 => ?_)
                                                                                                                                                                                          · refine lv_iinc (v := 14) (lv' := [(3, .int 14), (5, .int 1), (4, .int 62), (0, .ref mO), (1, .int 12), (2, .int 12)]) S.1 S.2.1 dX7_word_78 hl (k := 2) rfl (by decide) (by decide) rfl (fun ls hl => ?_)
                                                                                                                                                                                            refine lv_iload S.1 S.2.1 dX7_word_81 (lv_at hl 2 rfl) ?_
                                                                                                                                                                                            refine lv_iload S.1 S.2.1 dX7_word_83 (lv_at hl 1 rfl) ?_
                                                                                                                                                                                            refine lv_iconst (v := 1) S.1 S.2.1 dX7_word_85 (by decide) ?_
                                                                                                                                                                                            refine lv_iadd S.1 S.2.1 dX7_word_86 ?_
                                                                                                                                                                                            refine w_topi (y := 2) (by decide) ?_
                                                                                                                                                                                            refine lv_iadd S.1 S.2.1 dX7_word_87 ?_
                                                                                                                                                                                            refine w_topi (y := 64) (by decide) ?_
                                                                                                                                                                                            refine lv_istore (lv' := [(4, .int 64), (3, .int 14), (5, .int 1), (0, .ref mO), (1, .int 12), (2, .int 12)]) S.1 S.2.1 dX7_word_88 hl (by decide) rfl (fun ls hl => ?_)
                                                                                                                                                                                            refine lv_goto (tgt := 9) S.1 S.2.1 dX7_word_90 (by decide) ?_
                                                                                                                                                                                            refine lv_iload S.1 S.2.1 dX7_word_9 (lv_at hl 0 rfl) ?_
                                                                                                                                                                                            refine lv_aload_n S.1 S.2.1 dX7_word_11 rfl (lv_at hl 3 rfl) ?_
                                                                                                                                                                                            refine w_get S C w (CC := RX7) (T := TX7) (N := 16) (ref := "GateSumsModel") im_X7_word_X7 0 rfl rfl 7 (by decide) (List.mem_of_getElem? (i := 1) rfl) (fun _ h => h) rfl dX7_word_12 ?_
                                                                                                                                                                                            refine w_alen S C w 2 1 rfl rfl (v := 73) rfl dX7_word_15 ?_
                                                                                                                                                                                            refine lv_icmp_ge (tgt := 93) S.1 S.2.1 dX7_word_16 (by decide) (fun c16_14 => ?_) (fun c16_14 => ?_)
                                                                                                                                                                                            · exact absurd c16_14 (by decide)
                                                                                                                                                                                            · refine lv_iconst (v := 0) S.1 S.2.1 dX7_word_19 (by decide) ?_
                                                                                                                                                                                              refine lv_istore (lv' := [(5, .int 0), (4, .int 64), (3, .int 14), (0, .ref mO), (1, .int 12), (2, .int 12)]) S.1 S.2.1 dX7_word_20 hl (by decide) rfl (fun ls hl => ?_)
                                                                                                                                                                                              refine lv_aload_n S.1 S.2.1 dX7_word_22 rfl (lv_at hl 3 rfl) ?_
                                                                                                                                                                                              refine w_get S C w (CC := RX7) (T := TX7) (N := 16) (ref := "GateSumsModel") im_X7_word_X7 0 rfl rfl 7 (by decide) (List.mem_of_getElem? (i := 1) rfl) (fun _ h => h) rfl dX7_word_23 ?_
                                                                                                                                                                                              refine lv_iload S.1 S.2.1 dX7_word_26 (lv_at hl 1 rfl) ?_
                                                                                                                                                                                              refine lv_iload S.1 S.2.1 dX7_word_28 (lv_at hl 0 rfl) ?_
                                                                                                                                                                                              refine lv_iadd S.1 S.2.1 dX7_word_30 ?_
                                                                                                                                                                                              refine w_topi (y := 64) (by decide) ?_
                                                                                                                                                                                              refine w_cald S C w 2 rfl (by unfold vp_in; decide) dX7_word_31 ?_
                                                                                                                                                                                              refine w_topi (y := 111) (by decide) ?_
                                                                                                                                                                                              refine lv_bipush (v := 32) S.1 S.2.1 dX7_word_32 (by decide) ?_
                                                                                                                                                                                              refine lv_icmp_eq (tgt := 43) S.1 S.2.1 dX7_word_34 (by decide) (fun c34_64 => ?_) (fun c34_64 => ?_)
                                                                                                                                                                                              · exact absurd c34_64 (by decide)
                                                                                                                                                                                              · refine lv_iinc (v := 1) (lv' := [(5, .int 1), (4, .int 64), (3, .int 14), (0, .ref mO), (1, .int 12), (2, .int 12)]) S.1 S.2.1 dX7_word_37 hl (k := 0) rfl (by decide) (by decide) rfl (fun ls hl => ?_)
                                                                                                                                                                                                refine lv_goto (tgt := 22) S.1 S.2.1 dX7_word_40 (by decide) ?_
                                                                                                                                                                                                refine lv_aload_n S.1 S.2.1 dX7_word_22 rfl (lv_at hl 3 rfl) ?_
                                                                                                                                                                                                refine w_get S C w (CC := RX7) (T := TX7) (N := 16) (ref := "GateSumsModel") im_X7_word_X7 0 rfl rfl 7 (by decide) (List.mem_of_getElem? (i := 1) rfl) (fun _ h => h) rfl dX7_word_23 ?_
                                                                                                                                                                                                refine lv_iload S.1 S.2.1 dX7_word_26 (lv_at hl 1 rfl) ?_
                                                                                                                                                                                                refine lv_iload S.1 S.2.1 dX7_word_28 (lv_at hl 0 rfl) ?_
                                                                                                                                                                                                refine lv_iadd S.1 S.2.1 dX7_word_30 ?_
                                                                                                                                                                                                refine w_topi (y := 65) (by decide) ?_
                                                                                                                                                                                                refine w_cald S C w 2 rfl (by unfold vp_in; decide) dX7_word_31 ?_
                                                                                                                                                                                                refine w_topi (y := 117) (by decide) ?_
                                                                                                                                                                                                refine lv_bipush (v := 32) S.1 S.2.1 dX7_word_32 (by decide) ?_
                                                                                                                                                                                                refine lv_icmp_eq (tgt := 43) S.1 S.2.1 dX7_word_34 (by decide) (fun c34_65 => ?_) (fun c34_65 => ?_)
                                                                                                                                                                                                · exact absurd c34_65 (by decide)
                                                                                                                                                                                                · refine lv_iinc (v := 2) (lv' := [(5, .int 2), (4, .int 64), (3, .int 14), (0, .ref mO), (1, .int 12), (2, .int 12)]) S.1 S.2.1 dX7_word_37 hl (k := 0) rfl (by decide) (by decide) rfl (fun ls hl => ?_)
                                                                                                                                                                                                  refine lv_goto (tgt := 22) S.1 S.2.1 dX7_word_40 (by decide) ?_
                                                                                                                                                                                                  refine lv_aload_n S.1 S.2.1 dX7_word_22 rfl (lv_at hl 3 rfl) ?_
                                                                                                                                                                                                  refine w_get S C w (CC := RX7) (T := TX7) (N := 16) (ref := "GateSumsModel") im_X7_word_X7 0 rfl rfl 7 (by decide) (List.mem_of_getElem? (i := 1) rfl) (fun _ h => h) rfl dX7_word_23 ?_
                                                                                                                                                                                                  refine lv_iload S.1 S.2.1 dX7_word_26 (lv_at hl 1 rfl) ?_
                                                                                                                                                                                                  refine lv_iload S.1 S.2.1 dX7_word_28 (lv_at hl 0 rfl) ?_
                                                                                                                                                                                                  refine lv_iadd S.1 S.2.1 dX7_word_30 ?_
                                                                                                                                                                                                  refine w_topi (y := 66) (by decide) ?_
                                                                                                                                                                                                  refine w_cald S C w 2 rfl (by unfold vp_in; decide) dX7_word_31 ?_
                                                                                                                                                                                                  refine w_topi (y := 116) (by decide) ?_
                                                                                                                                                                                                  refine lv_bipush (v := 32) S.1 S.2.1 dX7_word_32 (by decide) ?_
                                                                                                                                                                                                  refine lv_icmp_eq (tgt := 43) S.1 S.2.1 dX7_word_34 (by decide) (fun c34_66 => ?_) (fun c34_66 => ?_)
                                                                                                                                                                                                  · exact absurd c34_66 (by decide)
                                                                                                                                                                                                  · refine lv_iinc (v := 3) (lv' := [(5, .int 3), (4, .int 64), (3, .int 14), (0, .ref mO), (1, .int 12), (2, .int 12)]) S.1 S.2.1 dX7_word_37 hl (k := 0) rfl (by decide) (by decide) rfl (fun ls hl => ?_)
                                                                                                                                                                                                    refine lv_goto (tgt := 22) S.1 S.2.1 dX7_word_40 (by decide) ?_
                                                                                                                                                                                                    refine lv_aload_n S.1 S.2.1 dX7_word_22 rfl (lv_at hl 3 rfl) ?_
                                                                                                                                                                                                    refine w_get S C w (CC := RX7) (T := TX7) (N := 16) (ref := "GateSumsModel") im_X7_word_X7 0 rfl rfl 7 (by decide) (List.mem_of_getElem? (i := 1) rfl) (fun _ h => h) rfl dX7_word_23 ?_
                                                                                                                                                                                                    refine lv_iload S.1 S.2.1 dX7_word_26 (lv_at hl 1 rfl) ?_
                                                                                                                                                                                                    refine lv_iload S.1 S.2.1 dX7_word_28 (lv_at hl 0 rfl) ?_
                                                                                                                                                                                                    refine lv_iadd S.1 S.2.1 dX7_word_30 ?_
                                                                                                                                                                                                    refine w_topi (y := 67) (by decide) ?_
                                                                                                                                                                                                    refine w_cald S C w 2 rfl (by unfold vp_in; decide) dX7_word_31 ?_
                                                                                                                                                                                                    refine w_topi (y := 32) (by decide) ?_
                                                                                                                                                                                                    refine lv_bipush (v := 32) S.1 S.2.1 dX7_word_32 (by decide) ?_
                                                                                                                                                                                                    refine lv_icmp_eq (tgt := 43) S.1 S.2.1 dX7_word_34 (by decide) (fun c34_67 => ?_) (fun c34_67 => ?_)
                                                                                                                                                                                                    · refine lv_iload_n S.1 S.2.1 dX7_word_43 rfl (lv_at hl 2 rfl) ?_
                                                                                                                                                                                                      refine lv_iload_n S.1 S.2.1 dX7_word_44 rfl (lv_at hl 4 rfl) ?_
                                                                                                                                                                                                      refine lv_iload_n S.1 S.2.1 dX7_word_45 rfl (lv_at hl 5 rfl) ?_
                                                                                                                                                                                                      refine cs_i (va_runS (As := [.int 14, .int 12, .int 12]) (rest := []) S (c_X7_in l G _ 14 12 12) (cwS 3 S.2.2.2.2 gX7_word_X7_in rfl rfl rfl (by decide +kernel) ⟨Nat.le_of_ble_eq_true rfl, Nat.le_of_ble_eq_true rfl⟩) ⟨wPre_blind, wPre_at C w [] rfl rfl⟩ rfl rfl hl.1 rfl (lv_room (Nat.le_of_ble_eq_true rfl)) dX7_word_46 ⟨Nat.le_of_ble_eq_true rfl, Nat.le_of_ble_eq_true rfl⟩) (fun r46_14 h46_14 => ?_)
                                                                                                                                                                                                      refine w_topi (y := (inF 14 12 12)) h46_14 ?_
                                                                                                                                                                                                      refine w_topi (y := 0) (by decide) ?_
                                                                                                                                                                                                      refine lv_if_eq (tgt := 78) S.1 S.2.1 dX7_word_49 (by decide) (fun c49_14 => ?_) (fun c49_14 => ?_)
                                                                                                                                                                                                      · refine lv_iinc (v := 15) (lv' := [(3, .int 15), (5, .int 3), (4, .int 64), (0, .ref mO), (1, .int 12), (2, .int 12)]) S.1 S.2.1 dX7_word_78 hl (k := 2) rfl (by decide) (by decide) rfl (fun ls hl => ?_)
                                                                                                                                                                                                        refine lv_iload S.1 S.2.1 dX7_word_81 (lv_at hl 2 rfl) ?_
                                                                                                                                                                                                        refine lv_iload S.1 S.2.1 dX7_word_83 (lv_at hl 1 rfl) ?_
                                                                                                                                                                                                        refine lv_iconst (v := 1) S.1 S.2.1 dX7_word_85 (by decide) ?_
                                                                                                                                                                                                        refine lv_iadd S.1 S.2.1 dX7_word_86 ?_
                                                                                                                                                                                                        refine w_topi (y := 4) (by decide) ?_
                                                                                                                                                                                                        refine lv_iadd S.1 S.2.1 dX7_word_87 ?_
                                                                                                                                                                                                        refine w_topi (y := 68) (by decide) ?_
                                                                                                                                                                                                        refine lv_istore (lv' := [(4, .int 68), (3, .int 15), (5, .int 3), (0, .ref mO), (1, .int 12), (2, .int 12)]) S.1 S.2.1 dX7_word_88 hl (by decide) rfl (fun ls hl => ?_)
                                                                                                                                                                                                        refine lv_goto (tgt := 9) S.1 S.2.1 dX7_word_90 (by decide) ?_
                                                                                                                                                                                                        refine lv_iload S.1 S.2.1 dX7_word_9 (lv_at hl 0 rfl) ?_
                                                                                                                                                                                                        refine lv_aload_n S.1 S.2.1 dX7_word_11 rfl (lv_at hl 3 rfl) ?_
                                                                                                                                                                                                        refine w_get S C w (CC := RX7) (T := TX7) (N := 16) (ref := "GateSumsModel") im_X7_word_X7 0 rfl rfl 7 (by decide) (List.mem_of_getElem? (i := 1) rfl) (fun _ h => h) rfl dX7_word_12 ?_
                                                                                                                                                                                                        refine w_alen S C w 2 1 rfl rfl (v := 73) rfl dX7_word_15 ?_
                                                                                                                                                                                                        refine lv_icmp_ge (tgt := 93) S.1 S.2.1 dX7_word_16 (by decide) (fun c16_15 => ?_) (fun c16_15 => ?_)
                                                                                                                                                                                                        · exact absurd c16_15 (by decide)
                                                                                                                                                                                                        · refine lv_iconst (v := 0) S.1 S.2.1 dX7_word_19 (by decide) ?_
                                                                                                                                                                                                          refine lv_istore (lv' := [(5, .int 0), (4, .int 68), (3, .int 15), (0, .ref mO), (1, .int 12), (2, .int 12)]) S.1 S.2.1 dX7_word_20 hl (by decide) rfl (fun ls hl => ?_)
                                                                                                                                                                                                          refine lv_aload_n S.1 S.2.1 dX7_word_22 rfl (lv_at hl 3 rfl) ?_
                                                                                                                                                                                                          refine w_get S C w (CC := RX7) (T := TX7) (N := 16) (ref := "GateSumsModel") im_X7_word_X7 0 rfl rfl 7 (by decide) (List.mem_of_getElem? (i := 1) rfl) (fun _ h => h) rfl dX7_word_23 ?_
                                                                                                                                                                                                          refine lv_iload S.1 S.2.1 dX7_word_26 (lv_at hl 1 rfl) ?_
                                                                                                                                                                                                          refine lv_iload S.1 S.2.1 dX7_word_28 (lv_at hl 0 rfl) ?_
                                                                                                                                                                                                          refine lv_iadd S.1 S.2.1 dX7_word_30 ?_
                                                                                                                                                                                                          refine w_topi (y := 68) (by decide) ?_
                                                                                                                                                                                                          refine w_cald S C w 2 rfl (by unfold vp_in; decide) dX7_word_31 ?_
                                                                                                                                                                                                          refine w_topi (y := 116) (by decide) ?_
                                                                                                                                                                                                          refine lv_bipush (v := 32) S.1 S.2.1 dX7_word_32 (by decide) ?_
                                                                                                                                                                                                          refine lv_icmp_eq (tgt := 43) S.1 S.2.1 dX7_word_34 (by decide) (fun c34_68 => ?_) (fun c34_68 => ?_)
                                                                                                                                                                                                          · exact absurd c34_68 (by decide)
                                                                                                                                                                                                          · refine lv_iinc (v := 1) (lv' := [(5, .int 1), (4, .int 68), (3, .int 15), (0, .ref mO), (1, .int 12), (2, .int 12)]) S.1 S.2.1 dX7_word_37 hl (k := 0) rfl (by decide) (by decide) rfl (fun ls hl => ?_)
                                                                                                                                                                                                            refine lv_goto (tgt := 22) S.1 S.2.1 dX7_word_40 (by decide) ?_
                                                                                                                                                                                                            refine lv_aload_n S.1 S.2.1 dX7_word_22 rfl (lv_at hl 3 rfl) ?_
                                                                                                                                                                                                            refine w_get S C w (CC := RX7) (T := TX7) (N := 16) (ref := "GateSumsModel") im_X7_word_X7 0 rfl rfl 7 (by decide) (List.mem_of_getElem? (i := 1) rfl) (fun _ h => h) rfl dX7_word_23 ?_
                                                                                                                                                                                                            refine lv_iload S.1 S.2.1 dX7_word_26 (lv_at hl 1 rfl) ?_
                                                                                                                                                                                                            refine lv_iload S.1 S.2.1 dX7_word_28 (lv_at hl 0 rfl) ?_
                                                                                                                                                                                                            refine lv_iadd S.1 S.2.1 dX7_word_30 ?_
                                                                                                                                                                                                            refine w_topi (y := 69) (by decide) ?_
                                                                                                                                                                                                            refine w_cald S C w 2 rfl (by unfold vp_in; decide) dX7_word_31 ?_
                                                                                                                                                                                                            refine w_topi (y := 97) (by decide) ?_
                                                                                                                                                                                                            refine lv_bipush (v := 32) S.1 S.2.1 dX7_word_32 (by decide) ?_
                                                                                                                                                                                                            refine lv_icmp_eq (tgt := 43) S.1 S.2.1 dX7_word_34 (by decide) (fun c34_69 => ?_) (fun c34_69 => ?_)
                                                                                                                                                                                                            · exact absurd c34_69 (by decide)
                                                                                                                                                                                                            · refine lv_iinc (v := 2) (lv' := [(5, .int 2), (4, .int 68), (3, .int 15), (0, .ref mO), (1, .int 12), (2, .int 12)]) S.1 S.2.1 dX7_word_37 hl (k := 0) rfl (by decide) (by decide) rfl (fun ls hl => ?_)
                                                                                                                                                                                                              refine lv_goto (tgt := 22) S.1 S.2.1 dX7_word_40 (by decide) ?_
                                                                                                                                                                                                              refine lv_aload_n S.1 S.2.1 dX7_word_22 rfl (lv_at hl 3 rfl) ?_
                                                                                                                                                                                                              refine w_get S C w (CC := RX7) (T := TX7) (N := 16) (ref := "GateSumsModel") im_X7_word_X7 0 rfl rfl 7 (by decide) (List.mem_of_getElem? (i := 1) rfl) (fun _ h => h) rfl dX7_word_23 ?_
                                                                                                                                                                                                              refine lv_iload S.1 S.2.1 dX7_word_26 (lv_at hl 1 rfl) ?_
                                                                                                                                                                                                              refine lv_iload S.1 S.2.1 dX7_word_28 (lv_at hl 0 rfl) ?_
                                                                                                                                                                                                              refine lv_iadd S.1 S.2.1 dX7_word_30 ?_
                                                                                                                                                                                                              refine w_topi (y := 70) (by decide) ?_
                                                                                                                                                                                                              refine w_cald S C w 2 rfl (by unfold vp_in; decide) dX7_word_31 ?_
                                                                                                                                                                                                              refine w_topi (y := 115) (by decide) ?_
                                                                                                                                                                                                              refine lv_bipush (v := 32) S.1 S.2.1 dX7_word_32 (by decide) ?_
                                                                                                                                                                                                              refine lv_icmp_eq (tgt := 43) S.1 S.2.1 dX7_word_34 (by decide) (fun c34_70 => ?_) (fun c34_70 => ?_)
                                                                                                                                                                                                              · exact absurd c34_70 (by decide)
                                                                                                                                                                                                              · refine lv_iinc (v := 3) (lv' := [(5, .int 3), (4, .int 68), (3, .int 15), (0, .ref mO), (1, .int 12), (2, .int 12)]) S.1 S.2.1 dX7_word_37 hl (k := 0) rfl (by decide) (by decide) rfl (fun ls hl => ?_)
                                                                                                                                                                                                                refine lv_goto (tgt := 22) S.1 S.2.1 dX7_word_40 (by decide) ?_
                                                                                                                                                                                                                refine lv_aload_n S.1 S.2.1 dX7_word_22 rfl (lv_at hl 3 rfl) ?_
                                                                                                                                                                                                                refine w_get S C w (CC := RX7) (T := TX7) (N := 16) (ref := "GateSumsModel") im_X7_word_X7 0 rfl rfl 7 (by decide) (List.mem_of_getElem? (i := 1) rfl) (fun _ h => h) rfl dX7_word_23 ?_
                                                                                                                                                                                                                refine lv_iload S.1 S.2.1 dX7_word_26 (lv_at hl 1 rfl) ?_
                                                                                                                                                                                                                refine lv_iload S.1 S.2.1 dX7_word_28 (lv_at hl 0 rfl) ?_
                                                                                                                                                                                                                refine lv_iadd S.1 S.2.1 dX7_word_30 ?_
                                                                                                                                                                                                                refine w_topi (y := 71) (by decide) ?_
                                                                                                                                                                                                                refine w_cald S C w 2 rfl (by unfold vp_in; decide) dX7_word_31 ?_
                                                                                                                                                                                                                refine w_topi (y := 107) (by decide) ?_
                                                                                                                                                                                                                refine lv_bipush (v := 32) S.1 S.2.1 dX7_word_32 (by decide) ?_
                                                                                                                                                                                                                refine lv_icmp_eq (tgt := 43) S.1 S.2.1 dX7_word_34 (by decide) (fun c34_71 => ?_) (fun c34_71 => ?_)
                                                                                                                                                                                                                · exact absurd c34_71 (by decide)
                                                                                                                                                                                                                · refine lv_iinc (v := 4) (lv' := [(5, .int 4), (4, .int 68), (3, .int 15), (0, .ref mO), (1, .int 12), (2, .int 12)]) S.1 S.2.1 dX7_word_37 hl (k := 0) rfl (by decide) (by decide) rfl (fun ls hl => ?_)
                                                                                                                                                                                                                  refine lv_goto (tgt := 22) S.1 S.2.1 dX7_word_40 (by decide) ?_
                                                                                                                                                                                                                  refine lv_aload_n S.1 S.2.1 dX7_word_22 rfl (lv_at hl 3 rfl) ?_
                                                                                                                                                                                                                  refine w_get S C w (CC := RX7) (T := TX7) (N := 16) (ref := "GateSumsModel") im_X7_word_X7 0 rfl rfl 7 (by decide) (List.mem_of_getElem? (i := 1) rfl) (fun _ h => h) rfl dX7_word_23 ?_
                                                                                                                                                                                                                  refine lv_iload S.1 S.2.1 dX7_word_26 (lv_at hl 1 rfl) ?_
                                                                                                                                                                                                                  refine lv_iload S.1 S.2.1 dX7_word_28 (lv_at hl 0 rfl) ?_
                                                                                                                                                                                                                  refine lv_iadd S.1 S.2.1 dX7_word_30 ?_
                                                                                                                                                                                                                  refine w_topi (y := 72) (by decide) ?_
                                                                                                                                                                                                                  refine w_cald S C w 2 rfl (by unfold vp_in; decide) dX7_word_31 ?_
                                                                                                                                                                                                                  refine w_topi (y := 32) (by decide) ?_
                                                                                                                                                                                                                  refine lv_bipush (v := 32) S.1 S.2.1 dX7_word_32 (by decide) ?_
                                                                                                                                                                                                                  refine lv_icmp_eq (tgt := 43) S.1 S.2.1 dX7_word_34 (by decide) (fun c34_72 => ?_) (fun c34_72 => ?_)
                                                                                                                                                                                                                  · refine lv_iload_n S.1 S.2.1 dX7_word_43 rfl (lv_at hl 2 rfl) ?_
                                                                                                                                                                                                                    refine lv_iload_n S.1 S.2.1 dX7_word_44 rfl (lv_at hl 4 rfl) ?_
                                                                                                                                                                                                                    refine lv_iload_n S.1 S.2.1 dX7_word_45 rfl (lv_at hl 5 rfl) ?_
                                                                                                                                                                                                                    refine cs_i (va_runS (As := [.int 15, .int 12, .int 12]) (rest := []) S (c_X7_in l G _ 15 12 12) (cwS 3 S.2.2.2.2 gX7_word_X7_in rfl rfl rfl (by decide +kernel) ⟨Nat.le_of_ble_eq_true rfl, Nat.le_of_ble_eq_true rfl⟩) ⟨wPre_blind, wPre_at C w [] rfl rfl⟩ rfl rfl hl.1 rfl (lv_room (Nat.le_of_ble_eq_true rfl)) dX7_word_46 ⟨Nat.le_of_ble_eq_true rfl, Nat.le_of_ble_eq_true rfl⟩) (fun r46_15 h46_15 => ?_)
                                                                                                                                                                                                                    refine w_topi (y := (inF 15 12 12)) h46_15 ?_
                                                                                                                                                                                                                    refine w_topi (y := 0) (by decide) ?_
                                                                                                                                                                                                                    refine lv_if_eq (tgt := 78) S.1 S.2.1 dX7_word_49 (by decide) (fun c49_15 => ?_) (fun c49_15 => ?_)
                                                                                                                                                                                                                    · refine lv_iinc (v := 16) (lv' := [(3, .int 16), (5, .int 4), (4, .int 68), (0, .ref mO), (1, .int 12), (2, .int 12)]) S.1 S.2.1 dX7_word_78 hl (k := 2) rfl (by decide) (by decide) rfl (fun ls hl => ?_)
                                                                                                                                                                                                                      refine lv_iload S.1 S.2.1 dX7_word_81 (lv_at hl 2 rfl) ?_
                                                                                                                                                                                                                      refine lv_iload S.1 S.2.1 dX7_word_83 (lv_at hl 1 rfl) ?_
                                                                                                                                                                                                                      refine lv_iconst (v := 1) S.1 S.2.1 dX7_word_85 (by decide) ?_
                                                                                                                                                                                                                      refine lv_iadd S.1 S.2.1 dX7_word_86 ?_
                                                                                                                                                                                                                      refine w_topi (y := 5) (by decide) ?_
                                                                                                                                                                                                                      refine lv_iadd S.1 S.2.1 dX7_word_87 ?_
                                                                                                                                                                                                                      refine w_topi (y := 73) (by decide) ?_
                                                                                                                                                                                                                      refine lv_istore (lv' := [(4, .int 73), (3, .int 16), (5, .int 4), (0, .ref mO), (1, .int 12), (2, .int 12)]) S.1 S.2.1 dX7_word_88 hl (by decide) rfl (fun ls hl => ?_)
                                                                                                                                                                                                                      refine lv_goto (tgt := 9) S.1 S.2.1 dX7_word_90 (by decide) ?_
                                                                                                                                                                                                                      refine lv_iload S.1 S.2.1 dX7_word_9 (lv_at hl 0 rfl) ?_
                                                                                                                                                                                                                      refine lv_aload_n S.1 S.2.1 dX7_word_11 rfl (lv_at hl 3 rfl) ?_
                                                                                                                                                                                                                      refine w_get S C w (CC := RX7) (T := TX7) (N := 16) (ref := "GateSumsModel") im_X7_word_X7 0 rfl rfl 7 (by decide) (List.mem_of_getElem? (i := 1) rfl) (fun _ h => h) rfl dX7_word_12 ?_
                                                                                                                                                                                                                      refine w_alen S C w 2 1 rfl rfl (v := 73) rfl dX7_word_15 ?_
                                                                                                                                                                                                                      refine lv_icmp_ge (tgt := 93) S.1 S.2.1 dX7_word_16 (by decide) (fun c16_16 => ?_) (fun c16_16 => ?_)
                                                                                                                                                                                                                      · refine lv_iconst (v := (-1)) S.1 S.2.1 dX7_word_93 (by decide) ?_
                                                                                                                                                                                                                        exact W.iret (v := (-1)) S.1 S.2.1 hr (fun t ht _ => ⟨⟨(-1), (), rfl, rfl, by rw [ht]; exact w.1, w.2.1⟩, w.2.2.F ht⟩) w.2.2.2.2 dX7_word_94
                                                                                                                                                                                                                      · exact absurd c16_16 (by decide)
                                                                                                                                                                                                                    · exact absurd c49_15 (by decide)
                                                                                                                                                                                                                  · exact absurd c34_72 (by decide)
                                                                                                                                                                                                      · exact absurd c49_14 (by decide)
                                                                                                                                                                                                    · exact absurd c34_67 (by decide)
                                                                                                                                                                                          · exact absurd c49_13 (by decide)
                                                                                                                                                                                        · exact absurd c34_63 (by decide)
                                                                                                                                                                                  · exact absurd c60 (by decide)
                                                                                                                                                                              · exact absurd c34_61 (by decide)
                                                                                                                                                                      · exact absurd c49_11 (by decide)
                                                                                                                                                                    · exact absurd c34_58 (by decide)
                                                                                                                                                    · exact absurd c49_10 (by decide)
                                                                                                                                                  · exact absurd c34_51 (by decide)
                                                                                                                                  · exact absurd c49_9 (by decide)
                                                                                                                                · exact absurd c34_44 (by decide)
                                                                                                              · exact absurd c49_8 (by decide)
                                                                                                            · exact absurd c34_36 (by decide)
                                                                                                  · exact absurd c49_7 (by decide)
                                                                                                · exact absurd c34_32 (by decide)
                                                                                      · exact absurd c49_6 (by decide)
                                                                                    · exact absurd c34_28 (by decide)
                                                                        · exact absurd c49_5 (by decide)
                                                                      · exact absurd c34_23 (by decide)
                                                            · exact absurd c49_4 (by decide)
                                                          · exact absurd c34_19 (by decide)
                                              · exact absurd c49_3 (by decide)
                                            · exact absurd c34_14 (by decide)
                                  · exact absurd c49_2 (by decide)
                                · exact absurd c34_10 (by decide)
                        · exact absurd c49_1 (by decide)
                      · exact absurd c34_7 (by decide)
            · exact absurd c49 (by decide)
          · exact absurd c34_3 (by decide)
theorem im_X7_readsAll_X7 : ∀ w ∈ u_ws RX7 TX7 16, w ∈ wsX7_readsAll := by decide +kernel
set_option maxHeartbeats 4000000 in
set_option maxRecDepth 100000 in
theorem e_X7_readsAll (l : Launch) (G : GT) (mO mD mT mW : Nat) (sz : Nat) (mS mR mQ mC mU mV : Nat) (ma mn my mm mf mg : Int32) (fD fT : Nat → Int32) : Met l yX7_readsAll wsX7_readsAll ({ frames := 3, cells := 0, slots := 0, locals := 70 }) (va_Pc [.ref mO] (wPre G [(mO, .inr (7, [.ref mS, .ref mD, .ref mR, .ref mT, .int 0, .int ma, .int mn, .ref mW, .ref mQ, .ref mC, .int my, .ref mU, .ref mV, .int mm, .int mf, .int mg])), (mD, .inl (G.2.1 2, 49, .inl fD)), (mT, .inl (G.2.1 2, 120, .inl fT)), (mW, .inl (G.2.1 1, 73, .inl (wdF 73)))] sz)) (va_Qi (fun (r : Int32) (u : (Nat → Int32)) => r = 0) (bW G (va_A [(mO, .inr (7, [.ref mS, .ref mD, .ref mR, .ref mT, .int 0, .int ma, .int mn, .ref mW, .ref mQ, .ref mC, .int my, .ref mU, .ref mV, .int mm, .int mf, .int mg])), (mD, .inl (G.2.1 2, 49, .inl fD)), (mT, .inl (G.2.1 2, 120, .inl fT)), (mW, .inl (G.2.1 1, 73, .inl (wdF 73)))] sz) (fun u : (Nat → Int32) => [(mO, .inr (7, [.ref mS, .ref mD, .ref mR, .ref mT, .int 0, .int 0, .int mn, .ref mW, .ref mQ, .ref mC, .int my, .ref mU, .ref mV, .int mm, .int mf, .int mg])), (mD, .inl (G.2.1 2, 49, .inl u)), (mT, .inl (G.2.1 2, 120, .inl fT)), (mW, .inl (G.2.1 1, 73, .inl (wdF 73)))])) (va_A [(mO, .inr (7, [.ref mS, .ref mD, .ref mR, .ref mT, .int 0, .int ma, .int mn, .ref mW, .ref mQ, .ref mC, .int my, .ref mU, .ref mV, .int mm, .int mf, .int mg])), (mD, .inl (G.2.1 2, 49, .inl fD)), (mT, .inl (G.2.1 2, 120, .inl fT)), (mW, .inl (G.2.1 1, 73, .inl (wdF 73)))] sz)) 0 0 (va_A [(mO, .inr (7, [.ref mS, .ref mD, .ref mR, .ref mT, .int 0, .int ma, .int mn, .ref mW, .ref mQ, .ref mC, .int my, .ref mU, .ref mV, .int mm, .int mf, .int mg])), (mD, .inl (G.2.1 2, 49, .inl fD)), (mT, .inl (G.2.1 2, 120, .inl fT)), (mW, .inl (G.2.1 1, 73, .inl (wdF 73)))] sz) := by
  refine met_go (cc := cX7_readsAll) (maxL := 3) (ret := (some .boolean)) (own := RX7) (by decide) rfl rfl (Nat.le_of_ble_eq_true rfl) ?_
  intro p e s m below meth c ls S hr hlocks hname hsz C w hl
  have hl : lv_has ls 3 [(0, .ref mO)] := hl
  refine lv_iconst (v := 0) S.1 S.2.1 dX7_readsAll_0 (by decide) ?_
  refine lv_istore_n (lv' := [(1, .int 0), (0, .ref mO)]) S.1 S.2.1 dX7_readsAll_1 rfl hl (by decide) rfl (fun ls hl => ?_)
  refine w_loop (G := G) (σ := Nat) (nL := 3) 2 (fun x2 => 49 - x2) (fun x2 => x2 ≤ 49) (fun x2 => [(mO, .inr (7, [.ref mS, .ref mD, .ref mR, .ref mT, .int 0, .int ma, .int mn, .ref mW, .ref mQ, .ref mC, .int my, .ref mU, .ref mV, .int mm, .int mf, .int mg])), (mD, .inl (G.2.1 2, 49, .inl (zeroF x2 fD))), (mT, .inl (G.2.1 2, 120, .inl fT)), (mW, .inl (G.2.1 1, 73, .inl (wdF 73)))]) (fun x2 => [(1, .int (nI x2)), (0, .ref mO)]) (fun _ => []) ?_ 0 ls _ _ (Nat.zero_le _) w (lv_sub hl [0, 1] rfl)
  intro x2 ls H locs hI2 w hl ih2
  have w : Wd G _ s [(mO, .inr (7, [.ref mS, .ref mD, .ref mR, .ref mT, .int 0, .int ma, .int mn, .ref mW, .ref mQ, .ref mC, .int my, .ref mU, .ref mV, .int mm, .int mf, .int mg])), (mD, .inl (G.2.1 2, 49, .inl (zeroF x2 fD))), (mT, .inl (G.2.1 2, 120, .inl fT)), (mW, .inl (G.2.1 1, 73, .inl (wdF 73)))] H locs := w
  have hl : lv_has ls 3 [(1, .int (nI x2)), (0, .ref mO)] := hl
  refine lv_iload_n S.1 S.2.1 dX7_readsAll_2 rfl (lv_at hl 0 rfl) ?_
  refine lv_bipush (v := 49) S.1 S.2.1 dX7_readsAll_3 (by decide) ?_
  refine lv_icmp_ge (tgt := 21) S.1 S.2.1 dX7_readsAll_5 (by decide) (fun c5 => ?_) (fun c5 => ?_)
  · refine lv_aload_n S.1 S.2.1 dX7_readsAll_21 rfl (lv_at hl 1 rfl) ?_
    refine lv_iconst (v := 0) S.1 S.2.1 dX7_readsAll_22 (by decide) ?_
    refine w_put S C w (CC := RX7) (T := TX7) (N := 16) (ref := "GateSumsModel") im_X7_readsAll_X7 tyX7 tyX7_ok nmX7 0 rfl rfl 5 (by decide) (List.mem_of_getElem? (i := 2) rfl) (fun _ h => h) rfl (ws2 := [(mO, .inr (7, [.ref mS, .ref mD, .ref mR, .ref mT, .int 0, .int 0, .int mn, .ref mW, .ref mQ, .ref mC, .int my, .ref mU, .ref mV, .int mm, .int mf, .int mg])), (mD, .inl (G.2.1 2, 49, .inl (zeroF x2 fD))), (mT, .inl (G.2.1 2, 120, .inl fT)), (mW, .inl (G.2.1 1, 73, .inl (wdF 73)))]) (rfl) (rfl) (Nat.le_of_ble_eq_true rfl) rfl dX7_readsAll_23 (fun H locs w => ?_)
    refine lv_aload_n S.1 S.2.1 dX7_readsAll_26 rfl (lv_at hl 1 rfl) ?_
    refine lv_bipush (v := 12) S.1 S.2.1 dX7_readsAll_27 (by decide) ?_
    refine lv_bipush (v := 12) S.1 S.2.1 dX7_readsAll_29 (by decide) ?_
    refine cq_i C w [0, 2, 3] [1] [1, 0, 2, 3] (wr := [(mD, .inl (G.2.1 2, 49, .inl (zeroF x2 fD)))]) (w' := fun u : Unit => [(mO, .inr (7, [.ref mS, .ref mD, .ref mR, .ref mT, .int 0, .int 0, .int mn, .ref mW, .ref mQ, .ref mC, .int my, .ref mU, .ref mV, .int mm, .int mf, .int mg])), (mT, .inl (G.2.1 2, 120, .inl fT)), (mW, .inl (G.2.1 1, 73, .inl (wdF 73)))]) (ws2 := fun u : Unit => [(mO, .inr (7, [.ref mS, .ref mD, .ref mR, .ref mT, .int 0, .int 0, .int mn, .ref mW, .ref mQ, .ref mC, .int my, .ref mU, .ref mV, .int mm, .int mf, .int mg])), (mD, .inl (G.2.1 2, 49, .inl (zeroF x2 fD))), (mT, .inl (G.2.1 2, 120, .inl fT)), (mW, .inl (G.2.1 1, 73, .inl (wdF 73)))]) rfl rfl rfl (by decide) rfl (fun _ => rfl) (va_runV (As := [.int 12, .int 12]) (rest := []) S (e_X7_word l G mO mT mW _ mS mD mR mQ mC mU mV mn my mm mf mg fT) (cwV 2 S.2.2.2.2 gX7_readsAll_X7_word rfl rfl rfl (by decide +kernel) ⟨Nat.le_of_ble_eq_true rfl, Nat.le_of_ble_eq_true rfl⟩) ⟨wPre_blind, va_recv C.1 w.1 (ci := 7) (q0 := 0) rfl rfl, wPre_at C w [0, 2, 3] rfl rfl⟩ rfl rfl hl.1 rfl (lv_room (Nat.le_of_ble_eq_true rfl)) dX7_readsAll_31 ⟨Nat.le_of_ble_eq_true rfl, Nat.le_of_ble_eq_true rfl⟩) (fun r31 u31 H locs h31 w => ?_)
    have w : Wd G _ s [(mO, .inr (7, [.ref mS, .ref mD, .ref mR, .ref mT, .int 0, .int 0, .int mn, .ref mW, .ref mQ, .ref mC, .int my, .ref mU, .ref mV, .int mm, .int mf, .int mg])), (mD, .inl (G.2.1 2, 49, .inl (zeroF x2 fD))), (mT, .inl (G.2.1 2, 120, .inl fT)), (mW, .inl (G.2.1 1, 73, .inl (wdF 73)))] H locs := w
    refine w_topi (y := (-1)) (h31) ?_
    refine lv_if_lt (tgt := 47) S.1 S.2.1 dX7_readsAll_34 (by decide) (fun c34 => ?_) (fun c34 => ?_)
    · refine lv_iconst (v := 0) S.1 S.2.1 dX7_readsAll_47 (by decide) ?_
      exact W.zret (v := 0) S.1 S.2.1 hr (rfl) (fun t ht _ => ⟨⟨0, (zeroF x2 fD), rfl, rfl, by rw [ht]; exact w.1, w.2.1⟩, w.2.2.F ht⟩) w.2.2.2.2 dX7_readsAll_48
    · exact absurd c34 (by decide)
  · refine lv_aload_n S.1 S.2.1 dX7_readsAll_8 rfl (lv_at hl 1 rfl) ?_
    refine w_get S C w (CC := RX7) (T := TX7) (N := 16) (ref := "GateSumsModel") im_X7_readsAll_X7 0 rfl rfl 1 (by decide) (List.mem_of_getElem? (i := 1) rfl) (fun _ h => h) rfl dX7_readsAll_9 ?_
    refine lv_iload_n S.1 S.2.1 dX7_readsAll_12 rfl (lv_at hl 0 rfl) ?_
    refine lv_iconst (v := 0) S.1 S.2.1 dX7_readsAll_13 (by decide) ?_
    refine w_iast S C w 1 rfl (nIin (by have h := c5; rw [show (49 : Int32) = nI 49 from rfl, nI_leI (by decide) (by omega)] at h; omega) (by decide)) (ws2 := [(mO, .inr (7, [.ref mS, .ref mD, .ref mR, .ref mT, .int 0, .int ma, .int mn, .ref mW, .ref mQ, .ref mC, .int my, .ref mU, .ref mV, .int mm, .int mf, .int mg])), (mD, .inl (G.2.1 2, 49, .inl (upd (zeroF x2 fD) (nI x2).toNatClampNeg 0))), (mT, .inl (G.2.1 2, 120, .inl fT)), (mW, .inl (G.2.1 1, 73, .inl (wdF 73)))]) rfl dX7_readsAll_14 (fun H locs w => ?_)
    have w : Wd G (va_A [(mO, .inr (7, [.ref mS, .ref mD, .ref mR, .ref mT, .int 0, .int ma, .int mn, .ref mW, .ref mQ, .ref mC, .int my, .ref mU, .ref mV, .int mm, .int mf, .int mg])), (mD, .inl (G.2.1 2, 49, .inl fD)), (mT, .inl (G.2.1 2, 120, .inl fT)), (mW, .inl (G.2.1 1, 73, .inl (wdF 73)))] sz) s [(mO, .inr (7, [.ref mS, .ref mD, .ref mR, .ref mT, .int 0, .int ma, .int mn, .ref mW, .ref mQ, .ref mC, .int my, .ref mU, .ref mV, .int mm, .int mf, .int mg])), (mD, .inl (G.2.1 2, 49, .inl (upd (zeroF x2 fD) x2 0))), (mT, .inl (G.2.1 2, 120, .inl fT)), (mW, .inl (G.2.1 1, 73, .inl (wdF 73)))] H locs := by have h := nIc (j := x2) (by omega); rw [h] at w; exact w
    refine lv_iinc (v := (nI (x2 + 1))) (lv' := [(1, .int (nI (x2 + 1))), (0, .ref mO)]) S.1 S.2.1 dX7_readsAll_15 hl (k := 0) rfl (nI_1 _) (by decide) rfl (fun ls hl => ?_)
    refine lv_goto (tgt := 2) S.1 S.2.1 dX7_readsAll_18 (by decide) ?_
    have w : Wd G (va_A [(mO, .inr (7, [.ref mS, .ref mD, .ref mR, .ref mT, .int 0, .int ma, .int mn, .ref mW, .ref mQ, .ref mC, .int my, .ref mU, .ref mV, .int mm, .int mf, .int mg])), (mD, .inl (G.2.1 2, 49, .inl fD)), (mT, .inl (G.2.1 2, 120, .inl fT)), (mW, .inl (G.2.1 1, 73, .inl (wdF 73)))] sz) s [(mO, .inr (7, [.ref mS, .ref mD, .ref mR, .ref mT, .int 0, .int ma, .int mn, .ref mW, .ref mQ, .ref mC, .int my, .ref mU, .ref mV, .int mm, .int mf, .int mg])), (mD, .inl (G.2.1 2, 49, .inl (zeroF (x2 + 1) fD))), (mT, .inl (G.2.1 2, 120, .inl fT)), (mW, .inl (G.2.1 1, 73, .inl (wdF 73)))] H locs := by rw [show (zeroF (x2 + 1) fD) = (upd (zeroF x2 fD) x2 0) from rfl]; exact w
    exact ih2 (x2 + 1) ls _ _ (by have h := c5; rw [show (49 : Int32) = nI 49 from rfl, nI_leI (by decide) (by omega)] at h; omega) (by have h := c5; rw [show (49 : Int32) = nI 49 from rfl, nI_leI (by decide) (by omega)] at h; omega) w (lv_sub hl [0, 1] rfl)
theorem im_X7_reads_X7 : ∀ w ∈ u_ws RX7 TX7 16, w ∈ wsX7_reads := by decide +kernel
set_option maxHeartbeats 4000000 in
set_option maxRecDepth 100000 in
theorem e_X7_reads (l : Launch) (G : GT) (mO mD mT mW : Nat) (sz : Nat) (mS mR mQ mC mU mV : Nat) (ma mn my mm mf mg : Int32) (fD fT : Nat → Int32) : Met l yX7_reads wsX7_reads ({ frames := 4, cells := 0, slots := 0, locals := 92 }) (va_Pc [.ref mO] (wPre G [(mO, .inr (7, [.ref mS, .ref mD, .ref mR, .ref mT, .int 0, .int ma, .int mn, .ref mW, .ref mQ, .ref mC, .int my, .ref mU, .ref mV, .int mm, .int mf, .int mg])), (mD, .inl (G.2.1 2, 49, .inl fD)), (mT, .inl (G.2.1 2, 120, .inl fT)), (mW, .inl (G.2.1 1, 73, .inl (wdF 73)))] sz)) (va_Qi (fun (r : Int32) (u : (Nat → Int32)) => r = (-10)) (bW G (va_A [(mO, .inr (7, [.ref mS, .ref mD, .ref mR, .ref mT, .int 0, .int ma, .int mn, .ref mW, .ref mQ, .ref mC, .int my, .ref mU, .ref mV, .int mm, .int mf, .int mg])), (mD, .inl (G.2.1 2, 49, .inl fD)), (mT, .inl (G.2.1 2, 120, .inl fT)), (mW, .inl (G.2.1 1, 73, .inl (wdF 73)))] sz) (fun u : (Nat → Int32) => [(mO, .inr (7, [.ref mS, .ref mD, .ref mR, .ref mT, .int 0, .int 0, .int mn, .ref mW, .ref mQ, .ref mC, .int my, .ref mU, .ref mV, .int mm, .int mf, .int mg])), (mD, .inl (G.2.1 2, 49, .inl u)), (mT, .inl (G.2.1 2, 120, .inl fT)), (mW, .inl (G.2.1 1, 73, .inl (wdF 73)))])) (va_A [(mO, .inr (7, [.ref mS, .ref mD, .ref mR, .ref mT, .int 0, .int ma, .int mn, .ref mW, .ref mQ, .ref mC, .int my, .ref mU, .ref mV, .int mm, .int mf, .int mg])), (mD, .inl (G.2.1 2, 49, .inl fD)), (mT, .inl (G.2.1 2, 120, .inl fT)), (mW, .inl (G.2.1 1, 73, .inl (wdF 73)))] sz)) 0 0 (va_A [(mO, .inr (7, [.ref mS, .ref mD, .ref mR, .ref mT, .int 0, .int ma, .int mn, .ref mW, .ref mQ, .ref mC, .int my, .ref mU, .ref mV, .int mm, .int mf, .int mg])), (mD, .inl (G.2.1 2, 49, .inl fD)), (mT, .inl (G.2.1 2, 120, .inl fT)), (mW, .inl (G.2.1 1, 73, .inl (wdF 73)))] sz) := by
  refine met_go (cc := cX7_reads) (maxL := 2) (ret := (some .int)) (own := RX7) (by decide) rfl rfl (Nat.le_of_ble_eq_true rfl) ?_
  intro p e s m below meth c ls S hr hlocks hname hsz C w hl
  have hl : lv_has ls 2 [(0, .ref mO)] := hl
  refine lv_aload_n S.1 S.2.1 dX7_reads_0 rfl (lv_at hl 0 rfl) ?_
  refine cq_i C w [0, 1, 2, 3] [] [0, 1, 2, 3] (wr := []) (w' := fun u : (Nat → Int32) => [(mO, .inr (7, [.ref mS, .ref mD, .ref mR, .ref mT, .int 0, .int 0, .int mn, .ref mW, .ref mQ, .ref mC, .int my, .ref mU, .ref mV, .int mm, .int mf, .int mg])), (mD, .inl (G.2.1 2, 49, .inl u)), (mT, .inl (G.2.1 2, 120, .inl fT)), (mW, .inl (G.2.1 1, 73, .inl (wdF 73)))]) (ws2 := fun u : (Nat → Int32) => [(mO, .inr (7, [.ref mS, .ref mD, .ref mR, .ref mT, .int 0, .int 0, .int mn, .ref mW, .ref mQ, .ref mC, .int my, .ref mU, .ref mV, .int mm, .int mf, .int mg])), (mD, .inl (G.2.1 2, 49, .inl u)), (mT, .inl (G.2.1 2, 120, .inl fT)), (mW, .inl (G.2.1 1, 73, .inl (wdF 73)))]) rfl rfl rfl (by decide) rfl (fun _ => rfl) (va_runV (As := []) (rest := []) S (e_X7_readsAll l G mO mD mT mW _ mS mR mQ mC mU mV ma mn my mm mf mg fD fT) (cwV 0 S.2.2.2.2 gX7_reads_X7_readsAll rfl rfl rfl (by decide +kernel) ⟨Nat.le_of_ble_eq_true rfl, Nat.le_of_ble_eq_true rfl⟩) ⟨wPre_blind, va_recv C.1 w.1 (ci := 7) (q0 := 0) rfl rfl, wPre_at C w [0, 1, 2, 3] rfl rfl⟩ rfl rfl hl.1 rfl (lv_room (Nat.le_of_ble_eq_true rfl)) dX7_reads_1 ⟨Nat.le_of_ble_eq_true rfl, Nat.le_of_ble_eq_true rfl⟩) (fun r1 u1 H locs h1 w => ?_)
  have w : Wd G _ s [(mO, .inr (7, [.ref mS, .ref mD, .ref mR, .ref mT, .int 0, .int 0, .int mn, .ref mW, .ref mQ, .ref mC, .int my, .ref mU, .ref mV, .int mm, .int mf, .int mg])), (mD, .inl (G.2.1 2, 49, .inl u1)), (mT, .inl (G.2.1 2, 120, .inl fT)), (mW, .inl (G.2.1 1, 73, .inl (wdF 73)))] H locs := w
  refine w_topi (y := 0) (h1) ?_
  refine lv_if_ne (tgt := 15) S.1 S.2.1 dX7_reads_4 (by decide) (fun c4 => ?_) (fun c4 => ?_)
  · exact absurd c4 (by decide)
  · refine lv_bipush (v := (-10)) S.1 S.2.1 dX7_reads_7 (by decide) ?_
    refine lv_aload_n S.1 S.2.1 dX7_reads_9 rfl (lv_at hl 0 rfl) ?_
    refine w_get S C w (CC := RX7) (T := TX7) (N := 16) (ref := "GateSumsModel") im_X7_reads_X7 0 rfl rfl 5 (by decide) (List.mem_of_getElem? (i := 1) rfl) (fun _ h => h) rfl dX7_reads_10 ?_
    refine lv_isub S.1 S.2.1 dX7_reads_13 ?_
    refine w_topi (y := (-10)) (by decide) ?_
    exact W.iret (v := (-10)) S.1 S.2.1 hr (fun t ht _ => ⟨⟨(-10), u1, rfl, rfl, by rw [ht]; exact w.1, w.2.1⟩, w.2.2.F ht⟩) w.2.2.2.2 dX7_reads_14
set_option maxHeartbeats 4000000 in
set_option maxRecDepth 100000 in
theorem n_X7_isGate (l : Launch) (G : GT) (mO mS : Nat) (sz : Nat) (mD mR mT mW mQ mC mU mV : Nat) (mt ma mn my mm mf mg : Int32) (fS : Nat → Int32) (i0 : Int32) (hT : thereM fS = 0) : Met l yX7_isGate wsX7_isGate ({ frames := 1, cells := 0, slots := 0, locals := 22 }) (va_Pc [.ref mO, .int i0] (wPre G [(mO, .inr (7, [.ref mS, .ref mD, .ref mR, .ref mT, .int mt, .int ma, .int mn, .ref mW, .ref mQ, .ref mC, .int my, .ref mU, .ref mV, .int mm, .int mf, .int mg])), (mS, .inl (G.2.1 2, 49, .inl fS))] sz)) (vp_Si (fun r : Int32 => r = (inF i0 0 11))) 0 0 (fun _ => False) := by
  refine met_go (cc := cX7_isGate) (maxL := 2) (ret := (some .boolean)) (own := RX7) (by decide) rfl rfl (Nat.le_of_ble_eq_true rfl) ?_
  intro p e s m below meth c ls S hr hlocks hname hsz C w hl
  have hl : lv_has ls 2 [(0, .ref mO), (1, .int i0)] := hl
  refine lv_iload_n S.1 S.2.1 dX7_isGate_0 rfl (lv_at hl 1 rfl) ?_
  refine lv_iconst (v := 0) S.1 S.2.1 dX7_isGate_1 (by decide) ?_
  refine lv_aload_n S.1 S.2.1 dX7_isGate_2 rfl (lv_at hl 0 rfl) ?_
  refine cs_i (va_runV (As := []) (rest := [.int 0, .int i0]) S (c_X7_isThere l G mO mS _ mD mR mT mW mQ mC mU mV mt ma mn my mm mf mg fS) (cwV 0 S.2.2.2.2 gX7_isGate_X7_isThere rfl rfl rfl (by decide +kernel) ⟨Nat.le_of_ble_eq_true rfl, Nat.le_of_ble_eq_true rfl⟩) ⟨wPre_blind, va_recv C.1 w.1 (ci := 7) (q0 := 0) rfl rfl, wPre_at C w [0, 1] rfl rfl⟩ rfl rfl hl.1 rfl (lv_room (Nat.le_of_ble_eq_true rfl)) dX7_isGate_3 ⟨Nat.le_of_ble_eq_true rfl, Nat.le_of_ble_eq_true rfl⟩) (fun r3 h3 => ?_)
  refine w_topi (y := 0) (h3.trans hT) ?_
  refine lv_if_eq (tgt := 20) S.1 S.2.1 dX7_isGate_6 (by decide) (fun c6 => ?_) (fun c6 => ?_)
  · refine lv_bipush (v := 11) S.1 S.2.1 dX7_isGate_20 (by decide) ?_
    refine cs_i (va_runS (As := [.int i0, .int 0, .int 11]) (rest := []) S (c_X7_in l G _ i0 0 11) (cwS 3 S.2.2.2.2 gX7_isGate_X7_in rfl rfl rfl (by decide +kernel) ⟨Nat.le_of_ble_eq_true rfl, Nat.le_of_ble_eq_true rfl⟩) ⟨wPre_blind, wPre_at C w [] rfl rfl⟩ rfl rfl hl.1 rfl (lv_room (Nat.le_of_ble_eq_true rfl)) dX7_isGate_22 ⟨Nat.le_of_ble_eq_true rfl, Nat.le_of_ble_eq_true rfl⟩) (fun r22 h22 => ?_)
    refine w_topi (y := (inF i0 0 11)) h22 ?_
    exact W.zret (v := (inF i0 0 11)) S.1 S.2.1 hr (inF_nar _ _ _) (fun t ht _ => ⟨(inF i0 0 11), rfl, rfl, ht⟩) (fun q h => absurd h List.not_mem_nil) dX7_isGate_25
  · exact absurd c6 (by decide)
set_option maxHeartbeats 4000000 in
set_option maxRecDepth 100000 in
theorem n_X7_isInput (l : Launch) (G : GT) (mO mS : Nat) (sz : Nat) (mD mR mT mW mQ mC mU mV : Nat) (mt ma mn my mm mf mg : Int32) (fS : Nat → Int32) (i0 : Int32) (hT : thereM fS = 0) : Met l yX7_isInput wsX7_isInput ({ frames := 1, cells := 0, slots := 0, locals := 22 }) (va_Pc [.ref mO, .int i0] (wPre G [(mO, .inr (7, [.ref mS, .ref mD, .ref mR, .ref mT, .int mt, .int ma, .int mn, .ref mW, .ref mQ, .ref mC, .int my, .ref mU, .ref mV, .int mm, .int mf, .int mg])), (mS, .inl (G.2.1 2, 49, .inl fS))] sz)) (vp_Si (fun r : Int32 => r = (inF i0 0 63))) 0 0 (fun _ => False) := by
  refine met_go (cc := cX7_isInput) (maxL := 2) (ret := (some .boolean)) (own := RX7) (by decide) rfl rfl (Nat.le_of_ble_eq_true rfl) ?_
  intro p e s m below meth c ls S hr hlocks hname hsz C w hl
  have hl : lv_has ls 2 [(0, .ref mO), (1, .int i0)] := hl
  refine lv_iload_n S.1 S.2.1 dX7_isInput_0 rfl (lv_at hl 1 rfl) ?_
  refine lv_iconst (v := 0) S.1 S.2.1 dX7_isInput_1 (by decide) ?_
  refine lv_aload_n S.1 S.2.1 dX7_isInput_2 rfl (lv_at hl 0 rfl) ?_
  refine cs_i (va_runV (As := []) (rest := [.int 0, .int i0]) S (c_X7_isThere l G mO mS _ mD mR mT mW mQ mC mU mV mt ma mn my mm mf mg fS) (cwV 0 S.2.2.2.2 gX7_isInput_X7_isThere rfl rfl rfl (by decide +kernel) ⟨Nat.le_of_ble_eq_true rfl, Nat.le_of_ble_eq_true rfl⟩) ⟨wPre_blind, va_recv C.1 w.1 (ci := 7) (q0 := 0) rfl rfl, wPre_at C w [0, 1] rfl rfl⟩ rfl rfl hl.1 rfl (lv_room (Nat.le_of_ble_eq_true rfl)) dX7_isInput_3 ⟨Nat.le_of_ble_eq_true rfl, Nat.le_of_ble_eq_true rfl⟩) (fun r3 h3 => ?_)
  refine w_topi (y := 0) (h3.trans hT) ?_
  refine lv_if_eq (tgt := 22) S.1 S.2.1 dX7_isInput_6 (by decide) (fun c6 => ?_) (fun c6 => ?_)
  · refine lv_bipush (v := 63) S.1 S.2.1 dX7_isInput_22 (by decide) ?_
    refine cs_i (va_runS (As := [.int i0, .int 0, .int 63]) (rest := []) S (c_X7_in l G _ i0 0 63) (cwS 3 S.2.2.2.2 gX7_isInput_X7_in rfl rfl rfl (by decide +kernel) ⟨Nat.le_of_ble_eq_true rfl, Nat.le_of_ble_eq_true rfl⟩) ⟨wPre_blind, wPre_at C w [] rfl rfl⟩ rfl rfl hl.1 rfl (lv_room (Nat.le_of_ble_eq_true rfl)) dX7_isInput_24 ⟨Nat.le_of_ble_eq_true rfl, Nat.le_of_ble_eq_true rfl⟩) (fun r24 h24 => ?_)
    refine w_topi (y := (inF i0 0 63)) h24 ?_
    exact W.zret (v := (inF i0 0 63)) S.1 S.2.1 hr (inF_nar _ _ _) (fun t ht _ => ⟨(inF i0 0 63), rfl, rfl, ht⟩) (fun q h => absurd h List.not_mem_nil) dX7_isInput_27
  · exact absurd c6 (by decide)
set_option maxHeartbeats 4000000 in
set_option maxRecDepth 100000 in
theorem n_X7_isStage (l : Launch) (G : GT) (mO mS : Nat) (sz : Nat) (mD mR mT mW mQ mC mU mV : Nat) (mt ma mn my mm mf mg : Int32) (fS : Nat → Int32) (i0 : Int32) (hT : thereM fS = 0) : Met l yX7_isStage wsX7_isStage ({ frames := 1, cells := 0, slots := 0, locals := 22 }) (va_Pc [.ref mO, .int i0] (wPre G [(mO, .inr (7, [.ref mS, .ref mD, .ref mR, .ref mT, .int mt, .int ma, .int mn, .ref mW, .ref mQ, .ref mC, .int my, .ref mU, .ref mV, .int mm, .int mf, .int mg])), (mS, .inl (G.2.1 2, 49, .inl fS))] sz)) (vp_Si (fun r : Int32 => r = (inF i0 0 12))) 0 0 (fun _ => False) := by
  refine met_go (cc := cX7_isStage) (maxL := 2) (ret := (some .boolean)) (own := RX7) (by decide) rfl rfl (Nat.le_of_ble_eq_true rfl) ?_
  intro p e s m below meth c ls S hr hlocks hname hsz C w hl
  have hl : lv_has ls 2 [(0, .ref mO), (1, .int i0)] := hl
  refine lv_iload_n S.1 S.2.1 dX7_isStage_0 rfl (lv_at hl 1 rfl) ?_
  refine lv_iconst (v := 0) S.1 S.2.1 dX7_isStage_1 (by decide) ?_
  refine lv_aload_n S.1 S.2.1 dX7_isStage_2 rfl (lv_at hl 0 rfl) ?_
  refine cs_i (va_runV (As := []) (rest := [.int 0, .int i0]) S (c_X7_isThere l G mO mS _ mD mR mT mW mQ mC mU mV mt ma mn my mm mf mg fS) (cwV 0 S.2.2.2.2 gX7_isStage_X7_isThere rfl rfl rfl (by decide +kernel) ⟨Nat.le_of_ble_eq_true rfl, Nat.le_of_ble_eq_true rfl⟩) ⟨wPre_blind, va_recv C.1 w.1 (ci := 7) (q0 := 0) rfl rfl, wPre_at C w [0, 1] rfl rfl⟩ rfl rfl hl.1 rfl (lv_room (Nat.le_of_ble_eq_true rfl)) dX7_isStage_3 ⟨Nat.le_of_ble_eq_true rfl, Nat.le_of_ble_eq_true rfl⟩) (fun r3 h3 => ?_)
  refine w_topi (y := 0) (h3.trans hT) ?_
  refine lv_if_eq (tgt := 18) S.1 S.2.1 dX7_isStage_6 (by decide) (fun c6 => ?_) (fun c6 => ?_)
  · refine lv_bipush (v := 12) S.1 S.2.1 dX7_isStage_18 (by decide) ?_
    refine cs_i (va_runS (As := [.int i0, .int 0, .int 12]) (rest := []) S (c_X7_in l G _ i0 0 12) (cwS 3 S.2.2.2.2 gX7_isStage_X7_in rfl rfl rfl (by decide +kernel) ⟨Nat.le_of_ble_eq_true rfl, Nat.le_of_ble_eq_true rfl⟩) ⟨wPre_blind, wPre_at C w [] rfl rfl⟩ rfl rfl hl.1 rfl (lv_room (Nat.le_of_ble_eq_true rfl)) dX7_isStage_20 ⟨Nat.le_of_ble_eq_true rfl, Nat.le_of_ble_eq_true rfl⟩) (fun r20 h20 => ?_)
    refine w_topi (y := (inF i0 0 12)) h20 ?_
    exact W.zret (v := (inF i0 0 12)) S.1 S.2.1 hr (inF_nar _ _ _) (fun t ht _ => ⟨(inF i0 0 12), rfl, rfl, ht⟩) (fun q h => absurd h List.not_mem_nil) dX7_isStage_23
  · exact absurd c6 (by decide)
set_option maxHeartbeats 4000000 in
set_option maxRecDepth 100000 in
theorem n_X7_kind (l : Launch) (G : GT) (mO mS mR : Nat) (sz : Nat) (mD mT mW mQ mC mU mV : Nat) (mt ma mn my mm mf mg : Int32) (fS fR : Nat → Int32) (i0 j0 : Int32) (hT : thereM fS = 0) : Met l yX7_kind wsX7_kind ({ frames := 2, cells := 0, slots := 0, locals := 43 }) (va_Pc [.ref mO, .int i0, .int j0] (wPre G [(mO, .inr (7, [.ref mS, .ref mD, .ref mR, .ref mT, .int mt, .int ma, .int mn, .ref mW, .ref mQ, .ref mC, .int my, .ref mU, .ref mV, .int mm, .int mf, .int mg])), (mS, .inl (G.2.1 2, 49, .inl fS)), (mR, .inl (G.2.1 2, 3, .inl fR))] sz)) (va_Qi (fun (r : Int32) (u : (Nat → Int32)) => r = noneF (zAnd (inF i0 0 11) (inF j0 0 7))) (bW G (va_A [(mO, .inr (7, [.ref mS, .ref mD, .ref mR, .ref mT, .int mt, .int ma, .int mn, .ref mW, .ref mQ, .ref mC, .int my, .ref mU, .ref mV, .int mm, .int mf, .int mg])), (mS, .inl (G.2.1 2, 49, .inl fS)), (mR, .inl (G.2.1 2, 3, .inl fR))] sz) (fun u : (Nat → Int32) => [(mO, .inr (7, [.ref mS, .ref mD, .ref mR, .ref mT, .int mt, .int ma, .int mn, .ref mW, .ref mQ, .ref mC, .int my, .ref mU, .ref mV, .int mm, .int mf, .int mg])), (mS, .inl (G.2.1 2, 49, .inl fS)), (mR, .inl (G.2.1 2, 3, .inl u))])) (va_A [(mO, .inr (7, [.ref mS, .ref mD, .ref mR, .ref mT, .int mt, .int ma, .int mn, .ref mW, .ref mQ, .ref mC, .int my, .ref mU, .ref mV, .int mm, .int mf, .int mg])), (mS, .inl (G.2.1 2, 49, .inl fS)), (mR, .inl (G.2.1 2, 3, .inl fR))] sz)) 0 0 (va_A [(mO, .inr (7, [.ref mS, .ref mD, .ref mR, .ref mT, .int mt, .int ma, .int mn, .ref mW, .ref mQ, .ref mC, .int my, .ref mU, .ref mV, .int mm, .int mf, .int mg])), (mS, .inl (G.2.1 2, 49, .inl fS)), (mR, .inl (G.2.1 2, 3, .inl fR))] sz) := by
  refine met_go (cc := cX7_kind) (maxL := 5) (ret := (some .int)) (own := RX7) (by decide) rfl rfl (Nat.le_of_ble_eq_true rfl) ?_
  intro p e s m below meth c ls S hr hlocks hname hsz C w hl
  have hl : lv_has ls 5 [(0, .ref mO), (1, .int i0), (2, .int j0)] := hl
  refine w_joini 59 [] (fun z59 => z59 = (zAnd (inF i0 0 11) (inF j0 0 7))) (fun z59 hz59 => ?_) (fun J59 => ?_)
  · refine lv_istore_n (lv' := [(3, .int z59), (0, .ref mO), (1, .int i0), (2, .int j0)]) S.1 S.2.1 dX7_kind_59 rfl hl (by decide) rfl (fun ls hl => ?_)
    refine lv_iload_n S.1 S.2.1 dX7_kind_60 rfl (lv_at hl 0 rfl) ?_
    refine lv_if_eq (tgt := 71) S.1 S.2.1 dX7_kind_61 (by decide) (fun c61 => ?_) (fun c61 => ?_)
    · refine lv_aload_n S.1 S.2.1 dX7_kind_71 rfl (lv_at hl 1 rfl) ?_
      refine lv_iload_n S.1 S.2.1 dX7_kind_72 rfl (lv_at hl 0 rfl) ?_
      refine cq_i C w [0, 2] [1] [1, 0, 2] (wr := [(mS, .inl (G.2.1 2, 49, .inl fS))]) (w' := fun u : (Nat → Int32) => [(mO, .inr (7, [.ref mS, .ref mD, .ref mR, .ref mT, .int mt, .int ma, .int mn, .ref mW, .ref mQ, .ref mC, .int my, .ref mU, .ref mV, .int mm, .int mf, .int mg])), (mR, .inl (G.2.1 2, 3, .inl u))]) (ws2 := fun u : (Nat → Int32) => [(mO, .inr (7, [.ref mS, .ref mD, .ref mR, .ref mT, .int mt, .int ma, .int mn, .ref mW, .ref mQ, .ref mC, .int my, .ref mU, .ref mV, .int mm, .int mf, .int mg])), (mS, .inl (G.2.1 2, 49, .inl fS)), (mR, .inl (G.2.1 2, 3, .inl u))]) rfl rfl rfl (by decide) rfl (fun _ => rfl) (va_runV (As := [.int z59]) (rest := []) S (c_X7_none l G mO mR _ mS mD mT mW mQ mC mU mV mt ma mn my mm mf mg fR z59) (cwV 1 S.2.2.2.2 gX7_kind_X7_none rfl rfl rfl (by decide +kernel) ⟨Nat.le_of_ble_eq_true rfl, Nat.le_of_ble_eq_true rfl⟩) ⟨wPre_blind, va_recv C.1 w.1 (ci := 7) (q0 := 0) rfl rfl, wPre_at C w [0, 2] rfl rfl⟩ rfl rfl hl.1 rfl (lv_room (Nat.le_of_ble_eq_true rfl)) dX7_kind_73 ⟨Nat.le_of_ble_eq_true rfl, Nat.le_of_ble_eq_true rfl⟩) (fun r73 u73 H locs h73 w => ?_)
      have w : Wd G _ s [(mO, .inr (7, [.ref mS, .ref mD, .ref mR, .ref mT, .int mt, .int ma, .int mn, .ref mW, .ref mQ, .ref mC, .int my, .ref mU, .ref mV, .int mm, .int mf, .int mg])), (mS, .inl (G.2.1 2, 49, .inl fS)), (mR, .inl (G.2.1 2, 3, .inl u73))] H locs := w
      exact W.iret (v := r73) S.1 S.2.1 hr (fun t ht _ => ⟨⟨r73, u73, rfl, by rw [h73]; exact congrArg _ hz59, by rw [ht]; exact w.1, w.2.1⟩, w.2.2.F ht⟩) w.2.2.2.2 dX7_kind_76
    · refine lv_aload_n S.1 S.2.1 dX7_kind_64 rfl (lv_at hl 1 rfl) ?_
      refine cs_i (va_runV (As := []) (rest := []) S (c_X7_isThere l G mO mS _ mD mR mT mW mQ mC mU mV mt ma mn my mm mf mg fS) (cwV 0 S.2.2.2.2 gX7_kind_X7_isThere rfl rfl rfl (by decide +kernel) ⟨Nat.le_of_ble_eq_true rfl, Nat.le_of_ble_eq_true rfl⟩) ⟨wPre_blind, va_recv C.1 w.1 (ci := 7) (q0 := 0) rfl rfl, wPre_at C w [0, 1] rfl rfl⟩ rfl rfl hl.1 rfl (lv_room (Nat.le_of_ble_eq_true rfl)) dX7_kind_65 ⟨Nat.le_of_ble_eq_true rfl, Nat.le_of_ble_eq_true rfl⟩) (fun r65 h65 => ?_)
      refine w_topi (y := 0) (h65.trans hT) ?_
      refine lv_if_ne (tgt := 77) S.1 S.2.1 dX7_kind_68 (by decide) (fun c68 => ?_) (fun c68 => ?_)
      · exact absurd c68 (by decide)
      · refine lv_aload_n S.1 S.2.1 dX7_kind_71 rfl (lv_at hl 1 rfl) ?_
        refine lv_iload_n S.1 S.2.1 dX7_kind_72 rfl (lv_at hl 0 rfl) ?_
        refine cq_i C w [0, 2] [1] [1, 0, 2] (wr := [(mS, .inl (G.2.1 2, 49, .inl fS))]) (w' := fun u : (Nat → Int32) => [(mO, .inr (7, [.ref mS, .ref mD, .ref mR, .ref mT, .int mt, .int ma, .int mn, .ref mW, .ref mQ, .ref mC, .int my, .ref mU, .ref mV, .int mm, .int mf, .int mg])), (mR, .inl (G.2.1 2, 3, .inl u))]) (ws2 := fun u : (Nat → Int32) => [(mO, .inr (7, [.ref mS, .ref mD, .ref mR, .ref mT, .int mt, .int ma, .int mn, .ref mW, .ref mQ, .ref mC, .int my, .ref mU, .ref mV, .int mm, .int mf, .int mg])), (mS, .inl (G.2.1 2, 49, .inl fS)), (mR, .inl (G.2.1 2, 3, .inl u))]) rfl rfl rfl (by decide) rfl (fun _ => rfl) (va_runV (As := [.int z59]) (rest := []) S (c_X7_none l G mO mR _ mS mD mT mW mQ mC mU mV mt ma mn my mm mf mg fR z59) (cwV 1 S.2.2.2.2 gX7_kind_X7_none rfl rfl rfl (by decide +kernel) ⟨Nat.le_of_ble_eq_true rfl, Nat.le_of_ble_eq_true rfl⟩) ⟨wPre_blind, va_recv C.1 w.1 (ci := 7) (q0 := 0) rfl rfl, wPre_at C w [0, 2] rfl rfl⟩ rfl rfl hl.1 rfl (lv_room (Nat.le_of_ble_eq_true rfl)) dX7_kind_73 ⟨Nat.le_of_ble_eq_true rfl, Nat.le_of_ble_eq_true rfl⟩) (fun r73_1 u73_1 H locs h73_1 w => ?_)
        have w : Wd G _ s [(mO, .inr (7, [.ref mS, .ref mD, .ref mR, .ref mT, .int mt, .int ma, .int mn, .ref mW, .ref mQ, .ref mC, .int my, .ref mU, .ref mV, .int mm, .int mf, .int mg])), (mS, .inl (G.2.1 2, 49, .inl fS)), (mR, .inl (G.2.1 2, 3, .inl u73_1))] H locs := w
        exact W.iret (v := r73_1) S.1 S.2.1 hr (fun t ht _ => ⟨⟨r73_1, u73_1, rfl, by rw [h73_1]; exact congrArg _ hz59, by rw [ht]; exact w.1, w.2.1⟩, w.2.2.F ht⟩) w.2.2.2.2 dX7_kind_76
  · refine lv_aload_n S.1 S.2.1 dX7_kind_0 rfl (lv_at hl 0 rfl) ?_
    refine lv_iload_n S.1 S.2.1 dX7_kind_1 rfl (lv_at hl 1 rfl) ?_
    refine cs_i (va_runV (As := [.int i0]) (rest := []) S (n_X7_isGate l G mO mS _ mD mR mT mW mQ mC mU mV mt ma mn my mm mf mg fS i0 (hT)) (cwV 1 S.2.2.2.2 gX7_kind_X7_isGate rfl rfl rfl (by decide +kernel) ⟨Nat.le_of_ble_eq_true rfl, Nat.le_of_ble_eq_true rfl⟩) ⟨wPre_blind, va_recv C.1 w.1 (ci := 7) (q0 := 0) rfl rfl, wPre_at C w [0, 1] rfl rfl⟩ rfl rfl hl.1 rfl (lv_room (Nat.le_of_ble_eq_true rfl)) dX7_kind_2 ⟨Nat.le_of_ble_eq_true rfl, Nat.le_of_ble_eq_true rfl⟩) (fun r2 h2 => ?_)
    refine w_topi (y := (inF i0 0 11)) h2 ?_
    refine lv_if_eq (tgt := 58) S.1 S.2.1 dX7_kind_5 (by decide) (fun c5 => ?_) (fun c5 => ?_)
    · refine lv_iconst (v := 0) S.1 S.2.1 dX7_kind_58 (by decide) ?_
      exact J59 0 (by simp only [zAnd, if_pos c5])
    · refine lv_iload_n S.1 S.2.1 dX7_kind_8 rfl (lv_at hl 2 rfl) ?_
      refine lv_iconst (v := 0) S.1 S.2.1 dX7_kind_9 (by decide) ?_
      refine lv_bipush (v := 7) S.1 S.2.1 dX7_kind_10 (by decide) ?_
      refine cs_i (va_runS (As := [.int j0, .int 0, .int 7]) (rest := []) S (c_X7_in l G _ j0 0 7) (cwS 3 S.2.2.2.2 gX7_kind_X7_in rfl rfl rfl (by decide +kernel) ⟨Nat.le_of_ble_eq_true rfl, Nat.le_of_ble_eq_true rfl⟩) ⟨wPre_blind, wPre_at C w [] rfl rfl⟩ rfl rfl hl.1 rfl (lv_room (Nat.le_of_ble_eq_true rfl)) dX7_kind_12 ⟨Nat.le_of_ble_eq_true rfl, Nat.le_of_ble_eq_true rfl⟩) (fun r12 h12 => ?_)
      refine w_topi (y := (inF j0 0 7)) h12 ?_
      refine lv_if_eq (tgt := 58) S.1 S.2.1 dX7_kind_15 (by decide) (fun c15 => ?_) (fun c15 => ?_)
      · refine lv_iconst (v := 0) S.1 S.2.1 dX7_kind_58 (by decide) ?_
        exact J59 0 (by simp only [zAnd, if_neg c5, if_pos c15])
      · refine lv_aload_n S.1 S.2.1 dX7_kind_18 rfl (lv_at hl 0 rfl) ?_
        refine cs_i (va_runV (As := []) (rest := []) S (c_X7_isThere l G mO mS _ mD mR mT mW mQ mC mU mV mt ma mn my mm mf mg fS) (cwV 0 S.2.2.2.2 gX7_kind_X7_isThere rfl rfl rfl (by decide +kernel) ⟨Nat.le_of_ble_eq_true rfl, Nat.le_of_ble_eq_true rfl⟩) ⟨wPre_blind, va_recv C.1 w.1 (ci := 7) (q0 := 0) rfl rfl, wPre_at C w [0, 1] rfl rfl⟩ rfl rfl hl.1 rfl (lv_room (Nat.le_of_ble_eq_true rfl)) dX7_kind_19 ⟨Nat.le_of_ble_eq_true rfl, Nat.le_of_ble_eq_true rfl⟩) (fun r19 h19 => ?_)
        refine w_topi (y := 0) (h19.trans hT) ?_
        refine lv_if_eq (tgt := 54) S.1 S.2.1 dX7_kind_22 (by decide) (fun c22 => ?_) (fun c22 => ?_)
        · refine lv_iconst (v := 1) S.1 S.2.1 dX7_kind_54 (by decide) ?_
          refine lv_goto (tgt := 59) S.1 S.2.1 dX7_kind_55 (by decide) ?_
          exact J59 1 (by simp only [zAnd, if_neg c5, if_neg c15, if_pos c22])
        · exact absurd c22 (by decide)
set_option maxHeartbeats 4000000 in
set_option maxRecDepth 100000 in
theorem n_X7_wire (l : Launch) (G : GT) (mO mS mR : Nat) (sz : Nat) (mD mT mW mQ mC mU mV : Nat) (mt ma mn my mm mf mg : Int32) (fS fR : Nat → Int32) (i0 j0 k0 : Int32) (hT : thereM fS = 0) : Met l yX7_wire wsX7_wire ({ frames := 2, cells := 0, slots := 0, locals := 43 }) (va_Pc [.ref mO, .int i0, .int j0, .int k0] (wPre G [(mO, .inr (7, [.ref mS, .ref mD, .ref mR, .ref mT, .int mt, .int ma, .int mn, .ref mW, .ref mQ, .ref mC, .int my, .ref mU, .ref mV, .int mm, .int mf, .int mg])), (mS, .inl (G.2.1 2, 49, .inl fS)), (mR, .inl (G.2.1 2, 3, .inl fR))] sz)) (va_Qi (fun (r : Int32) (u : (Nat → Int32)) => r = noneF (zAnd3 (inF i0 0 11) (inF j0 0 1) (inF k0 0 17))) (bW G (va_A [(mO, .inr (7, [.ref mS, .ref mD, .ref mR, .ref mT, .int mt, .int ma, .int mn, .ref mW, .ref mQ, .ref mC, .int my, .ref mU, .ref mV, .int mm, .int mf, .int mg])), (mS, .inl (G.2.1 2, 49, .inl fS)), (mR, .inl (G.2.1 2, 3, .inl fR))] sz) (fun u : (Nat → Int32) => [(mO, .inr (7, [.ref mS, .ref mD, .ref mR, .ref mT, .int mt, .int ma, .int mn, .ref mW, .ref mQ, .ref mC, .int my, .ref mU, .ref mV, .int mm, .int mf, .int mg])), (mS, .inl (G.2.1 2, 49, .inl fS)), (mR, .inl (G.2.1 2, 3, .inl u))])) (va_A [(mO, .inr (7, [.ref mS, .ref mD, .ref mR, .ref mT, .int mt, .int ma, .int mn, .ref mW, .ref mQ, .ref mC, .int my, .ref mU, .ref mV, .int mm, .int mf, .int mg])), (mS, .inl (G.2.1 2, 49, .inl fS)), (mR, .inl (G.2.1 2, 3, .inl fR))] sz)) 0 0 (va_A [(mO, .inr (7, [.ref mS, .ref mD, .ref mR, .ref mT, .int mt, .int ma, .int mn, .ref mW, .ref mQ, .ref mC, .int my, .ref mU, .ref mV, .int mm, .int mf, .int mg])), (mS, .inl (G.2.1 2, 49, .inl fS)), (mR, .inl (G.2.1 2, 3, .inl fR))] sz) := by
  refine met_go (cc := cX7_wire) (maxL := 7) (ret := (some .int)) (own := RX7) (by decide) rfl rfl (Nat.le_of_ble_eq_true rfl) ?_
  intro p e s m below meth c ls S hr hlocks hname hsz C w hl
  have hl : lv_has ls 7 [(0, .ref mO), (1, .int i0), (2, .int j0), (3, .int k0)] := hl
  refine w_joini 76 [] (fun z76 => z76 = (zAnd3 (inF i0 0 11) (inF j0 0 1) (inF k0 0 17))) (fun z76 hz76 => ?_) (fun J76 => ?_)
  · refine lv_istore (lv' := [(4, .int z76), (0, .ref mO), (1, .int i0), (2, .int j0), (3, .int k0)]) S.1 S.2.1 dX7_wire_76 hl (by decide) rfl (fun ls hl => ?_)
    refine lv_iload S.1 S.2.1 dX7_wire_78 (lv_at hl 0 rfl) ?_
    refine lv_if_eq (tgt := 90) S.1 S.2.1 dX7_wire_80 (by decide) (fun c80 => ?_) (fun c80 => ?_)
    · refine lv_aload_n S.1 S.2.1 dX7_wire_90 rfl (lv_at hl 1 rfl) ?_
      refine lv_iload S.1 S.2.1 dX7_wire_91 (lv_at hl 0 rfl) ?_
      refine cq_i C w [0, 2] [1] [1, 0, 2] (wr := [(mS, .inl (G.2.1 2, 49, .inl fS))]) (w' := fun u : (Nat → Int32) => [(mO, .inr (7, [.ref mS, .ref mD, .ref mR, .ref mT, .int mt, .int ma, .int mn, .ref mW, .ref mQ, .ref mC, .int my, .ref mU, .ref mV, .int mm, .int mf, .int mg])), (mR, .inl (G.2.1 2, 3, .inl u))]) (ws2 := fun u : (Nat → Int32) => [(mO, .inr (7, [.ref mS, .ref mD, .ref mR, .ref mT, .int mt, .int ma, .int mn, .ref mW, .ref mQ, .ref mC, .int my, .ref mU, .ref mV, .int mm, .int mf, .int mg])), (mS, .inl (G.2.1 2, 49, .inl fS)), (mR, .inl (G.2.1 2, 3, .inl u))]) rfl rfl rfl (by decide) rfl (fun _ => rfl) (va_runV (As := [.int z76]) (rest := []) S (c_X7_none l G mO mR _ mS mD mT mW mQ mC mU mV mt ma mn my mm mf mg fR z76) (cwV 1 S.2.2.2.2 gX7_wire_X7_none rfl rfl rfl (by decide +kernel) ⟨Nat.le_of_ble_eq_true rfl, Nat.le_of_ble_eq_true rfl⟩) ⟨wPre_blind, va_recv C.1 w.1 (ci := 7) (q0 := 0) rfl rfl, wPre_at C w [0, 2] rfl rfl⟩ rfl rfl hl.1 rfl (lv_room (Nat.le_of_ble_eq_true rfl)) dX7_wire_93 ⟨Nat.le_of_ble_eq_true rfl, Nat.le_of_ble_eq_true rfl⟩) (fun r93 u93 H locs h93 w => ?_)
      have w : Wd G _ s [(mO, .inr (7, [.ref mS, .ref mD, .ref mR, .ref mT, .int mt, .int ma, .int mn, .ref mW, .ref mQ, .ref mC, .int my, .ref mU, .ref mV, .int mm, .int mf, .int mg])), (mS, .inl (G.2.1 2, 49, .inl fS)), (mR, .inl (G.2.1 2, 3, .inl u93))] H locs := w
      exact W.iret (v := r93) S.1 S.2.1 hr (fun t ht _ => ⟨⟨r93, u93, rfl, by rw [h93]; exact congrArg _ hz76, by rw [ht]; exact w.1, w.2.1⟩, w.2.2.F ht⟩) w.2.2.2.2 dX7_wire_96
    · refine lv_aload_n S.1 S.2.1 dX7_wire_83 rfl (lv_at hl 1 rfl) ?_
      refine cs_i (va_runV (As := []) (rest := []) S (c_X7_isThere l G mO mS _ mD mR mT mW mQ mC mU mV mt ma mn my mm mf mg fS) (cwV 0 S.2.2.2.2 gX7_wire_X7_isThere rfl rfl rfl (by decide +kernel) ⟨Nat.le_of_ble_eq_true rfl, Nat.le_of_ble_eq_true rfl⟩) ⟨wPre_blind, va_recv C.1 w.1 (ci := 7) (q0 := 0) rfl rfl, wPre_at C w [0, 1] rfl rfl⟩ rfl rfl hl.1 rfl (lv_room (Nat.le_of_ble_eq_true rfl)) dX7_wire_84 ⟨Nat.le_of_ble_eq_true rfl, Nat.le_of_ble_eq_true rfl⟩) (fun r84 h84 => ?_)
      refine w_topi (y := 0) (h84.trans hT) ?_
      refine lv_if_ne (tgt := 97) S.1 S.2.1 dX7_wire_87 (by decide) (fun c87 => ?_) (fun c87 => ?_)
      · exact absurd c87 (by decide)
      · refine lv_aload_n S.1 S.2.1 dX7_wire_90 rfl (lv_at hl 1 rfl) ?_
        refine lv_iload S.1 S.2.1 dX7_wire_91 (lv_at hl 0 rfl) ?_
        refine cq_i C w [0, 2] [1] [1, 0, 2] (wr := [(mS, .inl (G.2.1 2, 49, .inl fS))]) (w' := fun u : (Nat → Int32) => [(mO, .inr (7, [.ref mS, .ref mD, .ref mR, .ref mT, .int mt, .int ma, .int mn, .ref mW, .ref mQ, .ref mC, .int my, .ref mU, .ref mV, .int mm, .int mf, .int mg])), (mR, .inl (G.2.1 2, 3, .inl u))]) (ws2 := fun u : (Nat → Int32) => [(mO, .inr (7, [.ref mS, .ref mD, .ref mR, .ref mT, .int mt, .int ma, .int mn, .ref mW, .ref mQ, .ref mC, .int my, .ref mU, .ref mV, .int mm, .int mf, .int mg])), (mS, .inl (G.2.1 2, 49, .inl fS)), (mR, .inl (G.2.1 2, 3, .inl u))]) rfl rfl rfl (by decide) rfl (fun _ => rfl) (va_runV (As := [.int z76]) (rest := []) S (c_X7_none l G mO mR _ mS mD mT mW mQ mC mU mV mt ma mn my mm mf mg fR z76) (cwV 1 S.2.2.2.2 gX7_wire_X7_none rfl rfl rfl (by decide +kernel) ⟨Nat.le_of_ble_eq_true rfl, Nat.le_of_ble_eq_true rfl⟩) ⟨wPre_blind, va_recv C.1 w.1 (ci := 7) (q0 := 0) rfl rfl, wPre_at C w [0, 2] rfl rfl⟩ rfl rfl hl.1 rfl (lv_room (Nat.le_of_ble_eq_true rfl)) dX7_wire_93 ⟨Nat.le_of_ble_eq_true rfl, Nat.le_of_ble_eq_true rfl⟩) (fun r93_1 u93_1 H locs h93_1 w => ?_)
        have w : Wd G _ s [(mO, .inr (7, [.ref mS, .ref mD, .ref mR, .ref mT, .int mt, .int ma, .int mn, .ref mW, .ref mQ, .ref mC, .int my, .ref mU, .ref mV, .int mm, .int mf, .int mg])), (mS, .inl (G.2.1 2, 49, .inl fS)), (mR, .inl (G.2.1 2, 3, .inl u93_1))] H locs := w
        exact W.iret (v := r93_1) S.1 S.2.1 hr (fun t ht _ => ⟨⟨r93_1, u93_1, rfl, by rw [h93_1]; exact congrArg _ hz76, by rw [ht]; exact w.1, w.2.1⟩, w.2.2.F ht⟩) w.2.2.2.2 dX7_wire_96
  · refine lv_aload_n S.1 S.2.1 dX7_wire_0 rfl (lv_at hl 0 rfl) ?_
    refine lv_iload_n S.1 S.2.1 dX7_wire_1 rfl (lv_at hl 1 rfl) ?_
    refine cs_i (va_runV (As := [.int i0]) (rest := []) S (n_X7_isGate l G mO mS _ mD mR mT mW mQ mC mU mV mt ma mn my mm mf mg fS i0 (hT)) (cwV 1 S.2.2.2.2 gX7_wire_X7_isGate rfl rfl rfl (by decide +kernel) ⟨Nat.le_of_ble_eq_true rfl, Nat.le_of_ble_eq_true rfl⟩) ⟨wPre_blind, va_recv C.1 w.1 (ci := 7) (q0 := 0) rfl rfl, wPre_at C w [0, 1] rfl rfl⟩ rfl rfl hl.1 rfl (lv_room (Nat.le_of_ble_eq_true rfl)) dX7_wire_2 ⟨Nat.le_of_ble_eq_true rfl, Nat.le_of_ble_eq_true rfl⟩) (fun r2 h2 => ?_)
    refine w_topi (y := (inF i0 0 11)) h2 ?_
    refine lv_if_eq (tgt := 75) S.1 S.2.1 dX7_wire_5 (by decide) (fun c5 => ?_) (fun c5 => ?_)
    · refine lv_iconst (v := 0) S.1 S.2.1 dX7_wire_75 (by decide) ?_
      exact J76 0 (by simp only [zAnd3, if_pos c5])
    · refine lv_iload_n S.1 S.2.1 dX7_wire_8 rfl (lv_at hl 2 rfl) ?_
      refine lv_iconst (v := 0) S.1 S.2.1 dX7_wire_9 (by decide) ?_
      refine lv_iconst (v := 1) S.1 S.2.1 dX7_wire_10 (by decide) ?_
      refine cs_i (va_runS (As := [.int j0, .int 0, .int 1]) (rest := []) S (c_X7_in l G _ j0 0 1) (cwS 3 S.2.2.2.2 gX7_wire_X7_in rfl rfl rfl (by decide +kernel) ⟨Nat.le_of_ble_eq_true rfl, Nat.le_of_ble_eq_true rfl⟩) ⟨wPre_blind, wPre_at C w [] rfl rfl⟩ rfl rfl hl.1 rfl (lv_room (Nat.le_of_ble_eq_true rfl)) dX7_wire_11 ⟨Nat.le_of_ble_eq_true rfl, Nat.le_of_ble_eq_true rfl⟩) (fun r11 h11 => ?_)
      refine w_topi (y := (inF j0 0 1)) h11 ?_
      refine lv_if_eq (tgt := 75) S.1 S.2.1 dX7_wire_14 (by decide) (fun c14 => ?_) (fun c14 => ?_)
      · refine lv_iconst (v := 0) S.1 S.2.1 dX7_wire_75 (by decide) ?_
        exact J76 0 (by simp only [zAnd3, if_neg c5, if_pos c14])
      · refine lv_aload_n S.1 S.2.1 dX7_wire_17 rfl (lv_at hl 0 rfl) ?_
        refine cs_i (va_runV (As := []) (rest := []) S (c_X7_isThere l G mO mS _ mD mR mT mW mQ mC mU mV mt ma mn my mm mf mg fS) (cwV 0 S.2.2.2.2 gX7_wire_X7_isThere rfl rfl rfl (by decide +kernel) ⟨Nat.le_of_ble_eq_true rfl, Nat.le_of_ble_eq_true rfl⟩) ⟨wPre_blind, va_recv C.1 w.1 (ci := 7) (q0 := 0) rfl rfl, wPre_at C w [0, 1] rfl rfl⟩ rfl rfl hl.1 rfl (lv_room (Nat.le_of_ble_eq_true rfl)) dX7_wire_18 ⟨Nat.le_of_ble_eq_true rfl, Nat.le_of_ble_eq_true rfl⟩) (fun r18 h18 => ?_)
        refine w_topi (y := 0) (h18.trans hT) ?_
        refine lv_if_eq (tgt := 61) S.1 S.2.1 dX7_wire_21 (by decide) (fun c21 => ?_) (fun c21 => ?_)
        · refine lv_iload_n S.1 S.2.1 dX7_wire_61 rfl (lv_at hl 3 rfl) ?_
          refine lv_iconst (v := 0) S.1 S.2.1 dX7_wire_62 (by decide) ?_
          refine lv_bipush (v := 17) S.1 S.2.1 dX7_wire_63 (by decide) ?_
          refine cs_i (va_runS (As := [.int k0, .int 0, .int 17]) (rest := []) S (c_X7_in l G _ k0 0 17) (cwS 3 S.2.2.2.2 gX7_wire_X7_in rfl rfl rfl (by decide +kernel) ⟨Nat.le_of_ble_eq_true rfl, Nat.le_of_ble_eq_true rfl⟩) ⟨wPre_blind, wPre_at C w [] rfl rfl⟩ rfl rfl hl.1 rfl (lv_room (Nat.le_of_ble_eq_true rfl)) dX7_wire_65 ⟨Nat.le_of_ble_eq_true rfl, Nat.le_of_ble_eq_true rfl⟩) (fun r65 h65 => ?_)
          refine w_topi (y := (inF k0 0 17)) h65 ?_
          refine lv_if_eq (tgt := 75) S.1 S.2.1 dX7_wire_68 (by decide) (fun c68 => ?_) (fun c68 => ?_)
          · refine lv_iconst (v := 0) S.1 S.2.1 dX7_wire_75 (by decide) ?_
            exact J76 0 (by simp only [zAnd3, if_neg c5, if_neg c14, if_pos c21, if_pos c68])
          · refine lv_iconst (v := 1) S.1 S.2.1 dX7_wire_71 (by decide) ?_
            refine lv_goto (tgt := 76) S.1 S.2.1 dX7_wire_72 (by decide) ?_
            exact J76 1 (by simp only [zAnd3, if_neg c5, if_neg c14, if_pos c21, if_neg c68])
        · exact absurd c21 (by decide)
set_option maxHeartbeats 4000000 in
set_option maxRecDepth 100000 in
theorem n_X7_of (l : Launch) (G : GT) (mO mS mR : Nat) (sz : Nat) (mD mT mW mQ mC mU mV : Nat) (mt ma mn my mm mf mg : Int32) (fS fR : Nat → Int32) (i0 j0 : Int32) (hT : thereM fS = 0) : Met l yX7_of wsX7_of ({ frames := 2, cells := 0, slots := 0, locals := 43 }) (va_Pc [.ref mO, .int i0, .int j0] (wPre G [(mO, .inr (7, [.ref mS, .ref mD, .ref mR, .ref mT, .int mt, .int ma, .int mn, .ref mW, .ref mQ, .ref mC, .int my, .ref mU, .ref mV, .int mm, .int mf, .int mg])), (mS, .inl (G.2.1 2, 49, .inl fS)), (mR, .inl (G.2.1 2, 3, .inl fR))] sz)) (va_Qi (fun (r : Int32) (u : (Nat → Int32)) => r = noneF (zAnd (inF i0 0 11) (inF j0 0 3))) (bW G (va_A [(mO, .inr (7, [.ref mS, .ref mD, .ref mR, .ref mT, .int mt, .int ma, .int mn, .ref mW, .ref mQ, .ref mC, .int my, .ref mU, .ref mV, .int mm, .int mf, .int mg])), (mS, .inl (G.2.1 2, 49, .inl fS)), (mR, .inl (G.2.1 2, 3, .inl fR))] sz) (fun u : (Nat → Int32) => [(mO, .inr (7, [.ref mS, .ref mD, .ref mR, .ref mT, .int mt, .int ma, .int mn, .ref mW, .ref mQ, .ref mC, .int my, .ref mU, .ref mV, .int mm, .int mf, .int mg])), (mS, .inl (G.2.1 2, 49, .inl fS)), (mR, .inl (G.2.1 2, 3, .inl u))])) (va_A [(mO, .inr (7, [.ref mS, .ref mD, .ref mR, .ref mT, .int mt, .int ma, .int mn, .ref mW, .ref mQ, .ref mC, .int my, .ref mU, .ref mV, .int mm, .int mf, .int mg])), (mS, .inl (G.2.1 2, 49, .inl fS)), (mR, .inl (G.2.1 2, 3, .inl fR))] sz)) 0 0 (va_A [(mO, .inr (7, [.ref mS, .ref mD, .ref mR, .ref mT, .int mt, .int ma, .int mn, .ref mW, .ref mQ, .ref mC, .int my, .ref mU, .ref mV, .int mm, .int mf, .int mg])), (mS, .inl (G.2.1 2, 49, .inl fS)), (mR, .inl (G.2.1 2, 3, .inl fR))] sz) := by
  refine met_go (cc := cX7_of) (maxL := 7) (ret := (some .int)) (own := RX7) (by decide) rfl rfl (Nat.le_of_ble_eq_true rfl) ?_
  intro p e s m below meth c ls S hr hlocks hname hsz C w hl
  have hl : lv_has ls 7 [(0, .ref mO), (1, .int i0), (2, .int j0)] := hl
  refine w_joini 22 [] (fun z22 => z22 = (zAnd (inF i0 0 11) (inF j0 0 3))) (fun z22 hz22 => ?_) (fun J22 => ?_)
  · refine lv_istore_n (lv' := [(3, .int z22), (0, .ref mO), (1, .int i0), (2, .int j0)]) S.1 S.2.1 dX7_of_22 rfl hl (by decide) rfl (fun ls hl => ?_)
    refine lv_iload_n S.1 S.2.1 dX7_of_23 rfl (lv_at hl 0 rfl) ?_
    refine lv_if_eq (tgt := 34) S.1 S.2.1 dX7_of_24 (by decide) (fun c24 => ?_) (fun c24 => ?_)
    · refine lv_aload_n S.1 S.2.1 dX7_of_34 rfl (lv_at hl 1 rfl) ?_
      refine lv_iload_n S.1 S.2.1 dX7_of_35 rfl (lv_at hl 0 rfl) ?_
      refine cq_i C w [0, 2] [1] [1, 0, 2] (wr := [(mS, .inl (G.2.1 2, 49, .inl fS))]) (w' := fun u : (Nat → Int32) => [(mO, .inr (7, [.ref mS, .ref mD, .ref mR, .ref mT, .int mt, .int ma, .int mn, .ref mW, .ref mQ, .ref mC, .int my, .ref mU, .ref mV, .int mm, .int mf, .int mg])), (mR, .inl (G.2.1 2, 3, .inl u))]) (ws2 := fun u : (Nat → Int32) => [(mO, .inr (7, [.ref mS, .ref mD, .ref mR, .ref mT, .int mt, .int ma, .int mn, .ref mW, .ref mQ, .ref mC, .int my, .ref mU, .ref mV, .int mm, .int mf, .int mg])), (mS, .inl (G.2.1 2, 49, .inl fS)), (mR, .inl (G.2.1 2, 3, .inl u))]) rfl rfl rfl (by decide) rfl (fun _ => rfl) (va_runV (As := [.int z22]) (rest := []) S (c_X7_none l G mO mR _ mS mD mT mW mQ mC mU mV mt ma mn my mm mf mg fR z22) (cwV 1 S.2.2.2.2 gX7_of_X7_none rfl rfl rfl (by decide +kernel) ⟨Nat.le_of_ble_eq_true rfl, Nat.le_of_ble_eq_true rfl⟩) ⟨wPre_blind, va_recv C.1 w.1 (ci := 7) (q0 := 0) rfl rfl, wPre_at C w [0, 2] rfl rfl⟩ rfl rfl hl.1 rfl (lv_room (Nat.le_of_ble_eq_true rfl)) dX7_of_36 ⟨Nat.le_of_ble_eq_true rfl, Nat.le_of_ble_eq_true rfl⟩) (fun r36 u36 H locs h36 w => ?_)
      have w : Wd G _ s [(mO, .inr (7, [.ref mS, .ref mD, .ref mR, .ref mT, .int mt, .int ma, .int mn, .ref mW, .ref mQ, .ref mC, .int my, .ref mU, .ref mV, .int mm, .int mf, .int mg])), (mS, .inl (G.2.1 2, 49, .inl fS)), (mR, .inl (G.2.1 2, 3, .inl u36))] H locs := w
      exact W.iret (v := r36) S.1 S.2.1 hr (fun t ht _ => ⟨⟨r36, u36, rfl, by rw [h36]; exact congrArg _ hz22, by rw [ht]; exact w.1, w.2.1⟩, w.2.2.F ht⟩) w.2.2.2.2 dX7_of_39
    · refine lv_aload_n S.1 S.2.1 dX7_of_27 rfl (lv_at hl 1 rfl) ?_
      refine cs_i (va_runV (As := []) (rest := []) S (c_X7_isThere l G mO mS _ mD mR mT mW mQ mC mU mV mt ma mn my mm mf mg fS) (cwV 0 S.2.2.2.2 gX7_of_X7_isThere rfl rfl rfl (by decide +kernel) ⟨Nat.le_of_ble_eq_true rfl, Nat.le_of_ble_eq_true rfl⟩) ⟨wPre_blind, va_recv C.1 w.1 (ci := 7) (q0 := 0) rfl rfl, wPre_at C w [0, 1] rfl rfl⟩ rfl rfl hl.1 rfl (lv_room (Nat.le_of_ble_eq_true rfl)) dX7_of_28 ⟨Nat.le_of_ble_eq_true rfl, Nat.le_of_ble_eq_true rfl⟩) (fun r28 h28 => ?_)
      refine w_topi (y := 0) (h28.trans hT) ?_
      refine lv_if_ne (tgt := 40) S.1 S.2.1 dX7_of_31 (by decide) (fun c31 => ?_) (fun c31 => ?_)
      · exact absurd c31 (by decide)
      · refine lv_aload_n S.1 S.2.1 dX7_of_34 rfl (lv_at hl 1 rfl) ?_
        refine lv_iload_n S.1 S.2.1 dX7_of_35 rfl (lv_at hl 0 rfl) ?_
        refine cq_i C w [0, 2] [1] [1, 0, 2] (wr := [(mS, .inl (G.2.1 2, 49, .inl fS))]) (w' := fun u : (Nat → Int32) => [(mO, .inr (7, [.ref mS, .ref mD, .ref mR, .ref mT, .int mt, .int ma, .int mn, .ref mW, .ref mQ, .ref mC, .int my, .ref mU, .ref mV, .int mm, .int mf, .int mg])), (mR, .inl (G.2.1 2, 3, .inl u))]) (ws2 := fun u : (Nat → Int32) => [(mO, .inr (7, [.ref mS, .ref mD, .ref mR, .ref mT, .int mt, .int ma, .int mn, .ref mW, .ref mQ, .ref mC, .int my, .ref mU, .ref mV, .int mm, .int mf, .int mg])), (mS, .inl (G.2.1 2, 49, .inl fS)), (mR, .inl (G.2.1 2, 3, .inl u))]) rfl rfl rfl (by decide) rfl (fun _ => rfl) (va_runV (As := [.int z22]) (rest := []) S (c_X7_none l G mO mR _ mS mD mT mW mQ mC mU mV mt ma mn my mm mf mg fR z22) (cwV 1 S.2.2.2.2 gX7_of_X7_none rfl rfl rfl (by decide +kernel) ⟨Nat.le_of_ble_eq_true rfl, Nat.le_of_ble_eq_true rfl⟩) ⟨wPre_blind, va_recv C.1 w.1 (ci := 7) (q0 := 0) rfl rfl, wPre_at C w [0, 2] rfl rfl⟩ rfl rfl hl.1 rfl (lv_room (Nat.le_of_ble_eq_true rfl)) dX7_of_36 ⟨Nat.le_of_ble_eq_true rfl, Nat.le_of_ble_eq_true rfl⟩) (fun r36_1 u36_1 H locs h36_1 w => ?_)
        have w : Wd G _ s [(mO, .inr (7, [.ref mS, .ref mD, .ref mR, .ref mT, .int mt, .int ma, .int mn, .ref mW, .ref mQ, .ref mC, .int my, .ref mU, .ref mV, .int mm, .int mf, .int mg])), (mS, .inl (G.2.1 2, 49, .inl fS)), (mR, .inl (G.2.1 2, 3, .inl u36_1))] H locs := w
        exact W.iret (v := r36_1) S.1 S.2.1 hr (fun t ht _ => ⟨⟨r36_1, u36_1, rfl, by rw [h36_1]; exact congrArg _ hz22, by rw [ht]; exact w.1, w.2.1⟩, w.2.2.F ht⟩) w.2.2.2.2 dX7_of_39
  · refine lv_aload_n S.1 S.2.1 dX7_of_0 rfl (lv_at hl 0 rfl) ?_
    refine lv_iload_n S.1 S.2.1 dX7_of_1 rfl (lv_at hl 1 rfl) ?_
    refine cs_i (va_runV (As := [.int i0]) (rest := []) S (n_X7_isGate l G mO mS _ mD mR mT mW mQ mC mU mV mt ma mn my mm mf mg fS i0 (hT)) (cwV 1 S.2.2.2.2 gX7_of_X7_isGate rfl rfl rfl (by decide +kernel) ⟨Nat.le_of_ble_eq_true rfl, Nat.le_of_ble_eq_true rfl⟩) ⟨wPre_blind, va_recv C.1 w.1 (ci := 7) (q0 := 0) rfl rfl, wPre_at C w [0, 1] rfl rfl⟩ rfl rfl hl.1 rfl (lv_room (Nat.le_of_ble_eq_true rfl)) dX7_of_2 ⟨Nat.le_of_ble_eq_true rfl, Nat.le_of_ble_eq_true rfl⟩) (fun r2 h2 => ?_)
    refine w_topi (y := (inF i0 0 11)) h2 ?_
    refine lv_if_eq (tgt := 21) S.1 S.2.1 dX7_of_5 (by decide) (fun c5 => ?_) (fun c5 => ?_)
    · refine lv_iconst (v := 0) S.1 S.2.1 dX7_of_21 (by decide) ?_
      exact J22 0 (by simp only [zAnd, if_pos c5])
    · refine lv_iload_n S.1 S.2.1 dX7_of_8 rfl (lv_at hl 2 rfl) ?_
      refine lv_iconst (v := 0) S.1 S.2.1 dX7_of_9 (by decide) ?_
      refine lv_iconst (v := 3) S.1 S.2.1 dX7_of_10 (by decide) ?_
      refine cs_i (va_runS (As := [.int j0, .int 0, .int 3]) (rest := []) S (c_X7_in l G _ j0 0 3) (cwS 3 S.2.2.2.2 gX7_of_X7_in rfl rfl rfl (by decide +kernel) ⟨Nat.le_of_ble_eq_true rfl, Nat.le_of_ble_eq_true rfl⟩) ⟨wPre_blind, wPre_at C w [] rfl rfl⟩ rfl rfl hl.1 rfl (lv_room (Nat.le_of_ble_eq_true rfl)) dX7_of_11 ⟨Nat.le_of_ble_eq_true rfl, Nat.le_of_ble_eq_true rfl⟩) (fun r11 h11 => ?_)
      refine w_topi (y := (inF j0 0 3)) h11 ?_
      refine lv_if_eq (tgt := 21) S.1 S.2.1 dX7_of_14 (by decide) (fun c14 => ?_) (fun c14 => ?_)
      · refine lv_iconst (v := 0) S.1 S.2.1 dX7_of_21 (by decide) ?_
        exact J22 0 (by simp only [zAnd, if_neg c5, if_pos c14])
      · refine lv_iconst (v := 1) S.1 S.2.1 dX7_of_17 (by decide) ?_
        refine lv_goto (tgt := 22) S.1 S.2.1 dX7_of_18 (by decide) ?_
        exact J22 1 (by simp only [zAnd, if_neg c5, if_neg c14])
set_option maxHeartbeats 4000000 in
set_option maxRecDepth 100000 in
theorem n_X7_told (l : Launch) (G : GT) (mO mS mR : Nat) (sz : Nat) (mD mT mW mQ mC mU mV : Nat) (mt ma mn my mm mf mg : Int32) (fS fR : Nat → Int32) (i0 j0 : Int32) (hT : thereM fS = 0) : Met l yX7_told wsX7_told ({ frames := 2, cells := 0, slots := 0, locals := 42 }) (va_Pc [.ref mO, .int i0, .int j0] (wPre G [(mO, .inr (7, [.ref mS, .ref mD, .ref mR, .ref mT, .int mt, .int ma, .int mn, .ref mW, .ref mQ, .ref mC, .int my, .ref mU, .ref mV, .int mm, .int mf, .int mg])), (mS, .inl (G.2.1 2, 49, .inl fS)), (mR, .inl (G.2.1 2, 3, .inl fR))] sz)) (va_Qi (fun (r : Int32) (u : (Nat → Int32)) => r = noneF (zToldM i0 j0)) (bW G (va_A [(mO, .inr (7, [.ref mS, .ref mD, .ref mR, .ref mT, .int mt, .int ma, .int mn, .ref mW, .ref mQ, .ref mC, .int my, .ref mU, .ref mV, .int mm, .int mf, .int mg])), (mS, .inl (G.2.1 2, 49, .inl fS)), (mR, .inl (G.2.1 2, 3, .inl fR))] sz) (fun u : (Nat → Int32) => [(mO, .inr (7, [.ref mS, .ref mD, .ref mR, .ref mT, .int mt, .int ma, .int mn, .ref mW, .ref mQ, .ref mC, .int my, .ref mU, .ref mV, .int mm, .int mf, .int mg])), (mS, .inl (G.2.1 2, 49, .inl fS)), (mR, .inl (G.2.1 2, 3, .inl u))])) (va_A [(mO, .inr (7, [.ref mS, .ref mD, .ref mR, .ref mT, .int mt, .int ma, .int mn, .ref mW, .ref mQ, .ref mC, .int my, .ref mU, .ref mV, .int mm, .int mf, .int mg])), (mS, .inl (G.2.1 2, 49, .inl fS)), (mR, .inl (G.2.1 2, 3, .inl fR))] sz)) 0 0 (va_A [(mO, .inr (7, [.ref mS, .ref mD, .ref mR, .ref mT, .int mt, .int ma, .int mn, .ref mW, .ref mQ, .ref mC, .int my, .ref mU, .ref mV, .int mm, .int mf, .int mg])), (mS, .inl (G.2.1 2, 49, .inl fS)), (mR, .inl (G.2.1 2, 3, .inl fR))] sz) := by
  refine met_go (cc := cX7_told) (maxL := 4) (ret := (some .int)) (own := RX7) (by decide) rfl rfl (Nat.le_of_ble_eq_true rfl) ?_
  intro p e s m below meth c ls S hr hlocks hname hsz C w hl
  have hl : lv_has ls 4 [(0, .ref mO), (1, .int i0), (2, .int j0)] := hl
  refine w_joini 50 [] (fun z50 => z50 = (zToldM i0 j0)) (fun z50 hz50 => ?_) (fun J50 => ?_)
  · refine lv_istore_n (lv' := [(3, .int z50), (0, .ref mO), (1, .int i0), (2, .int j0)]) S.1 S.2.1 dX7_told_50 rfl hl (by decide) rfl (fun ls hl => ?_)
    refine lv_iload_n S.1 S.2.1 dX7_told_51 rfl (lv_at hl 0 rfl) ?_
    refine lv_if_eq (tgt := 62) S.1 S.2.1 dX7_told_52 (by decide) (fun c52 => ?_) (fun c52 => ?_)
    · refine lv_aload_n S.1 S.2.1 dX7_told_62 rfl (lv_at hl 1 rfl) ?_
      refine lv_iload_n S.1 S.2.1 dX7_told_63 rfl (lv_at hl 0 rfl) ?_
      refine cq_i C w [0, 2] [1] [1, 0, 2] (wr := [(mS, .inl (G.2.1 2, 49, .inl fS))]) (w' := fun u : (Nat → Int32) => [(mO, .inr (7, [.ref mS, .ref mD, .ref mR, .ref mT, .int mt, .int ma, .int mn, .ref mW, .ref mQ, .ref mC, .int my, .ref mU, .ref mV, .int mm, .int mf, .int mg])), (mR, .inl (G.2.1 2, 3, .inl u))]) (ws2 := fun u : (Nat → Int32) => [(mO, .inr (7, [.ref mS, .ref mD, .ref mR, .ref mT, .int mt, .int ma, .int mn, .ref mW, .ref mQ, .ref mC, .int my, .ref mU, .ref mV, .int mm, .int mf, .int mg])), (mS, .inl (G.2.1 2, 49, .inl fS)), (mR, .inl (G.2.1 2, 3, .inl u))]) rfl rfl rfl (by decide) rfl (fun _ => rfl) (va_runV (As := [.int z50]) (rest := []) S (c_X7_none l G mO mR _ mS mD mT mW mQ mC mU mV mt ma mn my mm mf mg fR z50) (cwV 1 S.2.2.2.2 gX7_told_X7_none rfl rfl rfl (by decide +kernel) ⟨Nat.le_of_ble_eq_true rfl, Nat.le_of_ble_eq_true rfl⟩) ⟨wPre_blind, va_recv C.1 w.1 (ci := 7) (q0 := 0) rfl rfl, wPre_at C w [0, 2] rfl rfl⟩ rfl rfl hl.1 rfl (lv_room (Nat.le_of_ble_eq_true rfl)) dX7_told_64 ⟨Nat.le_of_ble_eq_true rfl, Nat.le_of_ble_eq_true rfl⟩) (fun r64 u64 H locs h64 w => ?_)
      have w : Wd G _ s [(mO, .inr (7, [.ref mS, .ref mD, .ref mR, .ref mT, .int mt, .int ma, .int mn, .ref mW, .ref mQ, .ref mC, .int my, .ref mU, .ref mV, .int mm, .int mf, .int mg])), (mS, .inl (G.2.1 2, 49, .inl fS)), (mR, .inl (G.2.1 2, 3, .inl u64))] H locs := w
      exact W.iret (v := r64) S.1 S.2.1 hr (fun t ht _ => ⟨⟨r64, u64, rfl, by rw [h64]; exact congrArg _ hz50, by rw [ht]; exact w.1, w.2.1⟩, w.2.2.F ht⟩) w.2.2.2.2 dX7_told_67
    · refine lv_aload_n S.1 S.2.1 dX7_told_55 rfl (lv_at hl 1 rfl) ?_
      refine cs_i (va_runV (As := []) (rest := []) S (c_X7_isThere l G mO mS _ mD mR mT mW mQ mC mU mV mt ma mn my mm mf mg fS) (cwV 0 S.2.2.2.2 gX7_told_X7_isThere rfl rfl rfl (by decide +kernel) ⟨Nat.le_of_ble_eq_true rfl, Nat.le_of_ble_eq_true rfl⟩) ⟨wPre_blind, va_recv C.1 w.1 (ci := 7) (q0 := 0) rfl rfl, wPre_at C w [0, 1] rfl rfl⟩ rfl rfl hl.1 rfl (lv_room (Nat.le_of_ble_eq_true rfl)) dX7_told_56 ⟨Nat.le_of_ble_eq_true rfl, Nat.le_of_ble_eq_true rfl⟩) (fun r56 h56 => ?_)
      refine w_topi (y := 0) (h56.trans hT) ?_
      refine lv_if_ne (tgt := 68) S.1 S.2.1 dX7_told_59 (by decide) (fun c59 => ?_) (fun c59 => ?_)
      · exact absurd c59 (by decide)
      · refine lv_aload_n S.1 S.2.1 dX7_told_62 rfl (lv_at hl 1 rfl) ?_
        refine lv_iload_n S.1 S.2.1 dX7_told_63 rfl (lv_at hl 0 rfl) ?_
        refine cq_i C w [0, 2] [1] [1, 0, 2] (wr := [(mS, .inl (G.2.1 2, 49, .inl fS))]) (w' := fun u : (Nat → Int32) => [(mO, .inr (7, [.ref mS, .ref mD, .ref mR, .ref mT, .int mt, .int ma, .int mn, .ref mW, .ref mQ, .ref mC, .int my, .ref mU, .ref mV, .int mm, .int mf, .int mg])), (mR, .inl (G.2.1 2, 3, .inl u))]) (ws2 := fun u : (Nat → Int32) => [(mO, .inr (7, [.ref mS, .ref mD, .ref mR, .ref mT, .int mt, .int ma, .int mn, .ref mW, .ref mQ, .ref mC, .int my, .ref mU, .ref mV, .int mm, .int mf, .int mg])), (mS, .inl (G.2.1 2, 49, .inl fS)), (mR, .inl (G.2.1 2, 3, .inl u))]) rfl rfl rfl (by decide) rfl (fun _ => rfl) (va_runV (As := [.int z50]) (rest := []) S (c_X7_none l G mO mR _ mS mD mT mW mQ mC mU mV mt ma mn my mm mf mg fR z50) (cwV 1 S.2.2.2.2 gX7_told_X7_none rfl rfl rfl (by decide +kernel) ⟨Nat.le_of_ble_eq_true rfl, Nat.le_of_ble_eq_true rfl⟩) ⟨wPre_blind, va_recv C.1 w.1 (ci := 7) (q0 := 0) rfl rfl, wPre_at C w [0, 2] rfl rfl⟩ rfl rfl hl.1 rfl (lv_room (Nat.le_of_ble_eq_true rfl)) dX7_told_64 ⟨Nat.le_of_ble_eq_true rfl, Nat.le_of_ble_eq_true rfl⟩) (fun r64_1 u64_1 H locs h64_1 w => ?_)
        have w : Wd G _ s [(mO, .inr (7, [.ref mS, .ref mD, .ref mR, .ref mT, .int mt, .int ma, .int mn, .ref mW, .ref mQ, .ref mC, .int my, .ref mU, .ref mV, .int mm, .int mf, .int mg])), (mS, .inl (G.2.1 2, 49, .inl fS)), (mR, .inl (G.2.1 2, 3, .inl u64_1))] H locs := w
        exact W.iret (v := r64_1) S.1 S.2.1 hr (fun t ht _ => ⟨⟨r64_1, u64_1, rfl, by rw [h64_1]; exact congrArg _ hz50, by rw [ht]; exact w.1, w.2.1⟩, w.2.2.F ht⟩) w.2.2.2.2 dX7_told_67
  · refine lv_iload_n S.1 S.2.1 dX7_told_0 rfl (lv_at hl 1 rfl) ?_
    refine lv_if_ne (tgt := 32) S.1 S.2.1 dX7_told_1 (by decide) (fun c1 => ?_) (fun c1 => ?_)
    · refine lv_iload_n S.1 S.2.1 dX7_told_32 rfl (lv_at hl 1 rfl) ?_
      refine lv_iconst (v := 1) S.1 S.2.1 dX7_told_33 (by decide) ?_
      refine lv_iconst (v := 3) S.1 S.2.1 dX7_told_34 (by decide) ?_
      refine cs_i (va_runS (As := [.int i0, .int 1, .int 3]) (rest := []) S (c_X7_in l G _ i0 1 3) (cwS 3 S.2.2.2.2 gX7_told_X7_in rfl rfl rfl (by decide +kernel) ⟨Nat.le_of_ble_eq_true rfl, Nat.le_of_ble_eq_true rfl⟩) ⟨wPre_blind, wPre_at C w [] rfl rfl⟩ rfl rfl hl.1 rfl (lv_room (Nat.le_of_ble_eq_true rfl)) dX7_told_35 ⟨Nat.le_of_ble_eq_true rfl, Nat.le_of_ble_eq_true rfl⟩) (fun r35 h35 => ?_)
      refine w_topi (y := (inF i0 1 3)) h35 ?_
      refine lv_if_eq (tgt := 49) S.1 S.2.1 dX7_told_38 (by decide) (fun c38 => ?_) (fun c38 => ?_)
      · refine lv_iconst (v := 0) S.1 S.2.1 dX7_told_49 (by decide) ?_
        exact J50 0 (by simp only [zToldM, if_neg c1, if_pos c38])
      · refine lv_iload_n S.1 S.2.1 dX7_told_41 rfl (lv_at hl 2 rfl) ?_
        refine lv_if_ne (tgt := 49) S.1 S.2.1 dX7_told_42 (by decide) (fun c42 => ?_) (fun c42 => ?_)
        · refine lv_iconst (v := 0) S.1 S.2.1 dX7_told_49 (by decide) ?_
          exact J50 0 (by simp only [zToldM, if_neg c1, if_neg c38, if_neg c42])
        · refine lv_iconst (v := 1) S.1 S.2.1 dX7_told_45 (by decide) ?_
          refine lv_goto (tgt := 50) S.1 S.2.1 dX7_told_46 (by decide) ?_
          exact J50 1 (by simp only [zToldM, if_neg c1, if_neg c38, if_pos c42])
    · refine lv_iload_n S.1 S.2.1 dX7_told_4 rfl (lv_at hl 2 rfl) ?_
      refine lv_iconst (v := 0) S.1 S.2.1 dX7_told_5 (by decide) ?_
      refine lv_aload_n S.1 S.2.1 dX7_told_6 rfl (lv_at hl 0 rfl) ?_
      refine cs_i (va_runV (As := []) (rest := [.int 0, .int j0]) S (c_X7_isThere l G mO mS _ mD mR mT mW mQ mC mU mV mt ma mn my mm mf mg fS) (cwV 0 S.2.2.2.2 gX7_told_X7_isThere rfl rfl rfl (by decide +kernel) ⟨Nat.le_of_ble_eq_true rfl, Nat.le_of_ble_eq_true rfl⟩) ⟨wPre_blind, va_recv C.1 w.1 (ci := 7) (q0 := 0) rfl rfl, wPre_at C w [0, 1] rfl rfl⟩ rfl rfl hl.1 rfl (lv_room (Nat.le_of_ble_eq_true rfl)) dX7_told_7 ⟨Nat.le_of_ble_eq_true rfl, Nat.le_of_ble_eq_true rfl⟩) (fun r7 h7 => ?_)
      refine w_topi (y := 0) (h7.trans hT) ?_
      refine lv_if_eq (tgt := 24) S.1 S.2.1 dX7_told_10 (by decide) (fun c10 => ?_) (fun c10 => ?_)
      · refine lv_bipush (v := 6) S.1 S.2.1 dX7_told_24 (by decide) ?_
        refine cs_i (va_runS (As := [.int j0, .int 0, .int 6]) (rest := []) S (c_X7_in l G _ j0 0 6) (cwS 3 S.2.2.2.2 gX7_told_X7_in rfl rfl rfl (by decide +kernel) ⟨Nat.le_of_ble_eq_true rfl, Nat.le_of_ble_eq_true rfl⟩) ⟨wPre_blind, wPre_at C w [] rfl rfl⟩ rfl rfl hl.1 rfl (lv_room (Nat.le_of_ble_eq_true rfl)) dX7_told_26 ⟨Nat.le_of_ble_eq_true rfl, Nat.le_of_ble_eq_true rfl⟩) (fun r26 h26 => ?_)
        refine w_topi (y := (inF j0 0 6)) h26 ?_
        refine lv_goto (tgt := 50) S.1 S.2.1 dX7_told_29 (by decide) ?_
        exact J50 (inF j0 0 6) (by simp only [zToldM, if_pos c1, if_pos c10])
      · exact absurd c10 (by decide)
set_option maxHeartbeats 4000000 in
set_option maxRecDepth 100000 in
theorem n_X7_runs (l : Launch) (G : GT) (mO mS mR : Nat) (sz : Nat) (mD mT mW mQ mC mU mV : Nat) (mt ma mn my mm mf mg : Int32) (fS fR : Nat → Int32) (i0 j0 : Int32) (hT : thereM fS = 0) : Met l yX7_runs wsX7_runs ({ frames := 2, cells := 0, slots := 0, locals := 43 }) (va_Pc [.ref mO, .int i0, .int j0] (wPre G [(mO, .inr (7, [.ref mS, .ref mD, .ref mR, .ref mT, .int mt, .int ma, .int mn, .ref mW, .ref mQ, .ref mC, .int my, .ref mU, .ref mV, .int mm, .int mf, .int mg])), (mS, .inl (G.2.1 2, 49, .inl fS)), (mR, .inl (G.2.1 2, 3, .inl fR))] sz)) (va_Qi (fun (r : Int32) (u : (Nat → Int32)) => r = noneF (zAnd (inF i0 0 63) (inF j0 0 1))) (bW G (va_A [(mO, .inr (7, [.ref mS, .ref mD, .ref mR, .ref mT, .int mt, .int ma, .int mn, .ref mW, .ref mQ, .ref mC, .int my, .ref mU, .ref mV, .int mm, .int mf, .int mg])), (mS, .inl (G.2.1 2, 49, .inl fS)), (mR, .inl (G.2.1 2, 3, .inl fR))] sz) (fun u : (Nat → Int32) => [(mO, .inr (7, [.ref mS, .ref mD, .ref mR, .ref mT, .int mt, .int ma, .int mn, .ref mW, .ref mQ, .ref mC, .int my, .ref mU, .ref mV, .int mm, .int mf, .int mg])), (mS, .inl (G.2.1 2, 49, .inl fS)), (mR, .inl (G.2.1 2, 3, .inl u))])) (va_A [(mO, .inr (7, [.ref mS, .ref mD, .ref mR, .ref mT, .int mt, .int ma, .int mn, .ref mW, .ref mQ, .ref mC, .int my, .ref mU, .ref mV, .int mm, .int mf, .int mg])), (mS, .inl (G.2.1 2, 49, .inl fS)), (mR, .inl (G.2.1 2, 3, .inl fR))] sz)) 0 0 (va_A [(mO, .inr (7, [.ref mS, .ref mD, .ref mR, .ref mT, .int mt, .int ma, .int mn, .ref mW, .ref mQ, .ref mC, .int my, .ref mU, .ref mV, .int mm, .int mf, .int mg])), (mS, .inl (G.2.1 2, 49, .inl fS)), (mR, .inl (G.2.1 2, 3, .inl fR))] sz) := by
  refine met_go (cc := cX7_runs) (maxL := 4) (ret := (some .int)) (own := RX7) (by decide) rfl rfl (Nat.le_of_ble_eq_true rfl) ?_
  intro p e s m below meth c ls S hr hlocks hname hsz C w hl
  have hl : lv_has ls 4 [(0, .ref mO), (1, .int i0), (2, .int j0)] := hl
  refine w_joini 22 [] (fun z22 => z22 = (zAnd (inF i0 0 63) (inF j0 0 1))) (fun z22 hz22 => ?_) (fun J22 => ?_)
  · refine lv_istore_n (lv' := [(3, .int z22), (0, .ref mO), (1, .int i0), (2, .int j0)]) S.1 S.2.1 dX7_runs_22 rfl hl (by decide) rfl (fun ls hl => ?_)
    refine lv_iload_n S.1 S.2.1 dX7_runs_23 rfl (lv_at hl 0 rfl) ?_
    refine lv_if_eq (tgt := 34) S.1 S.2.1 dX7_runs_24 (by decide) (fun c24 => ?_) (fun c24 => ?_)
    · refine lv_aload_n S.1 S.2.1 dX7_runs_34 rfl (lv_at hl 1 rfl) ?_
      refine lv_iload_n S.1 S.2.1 dX7_runs_35 rfl (lv_at hl 0 rfl) ?_
      refine cq_i C w [0, 2] [1] [1, 0, 2] (wr := [(mS, .inl (G.2.1 2, 49, .inl fS))]) (w' := fun u : (Nat → Int32) => [(mO, .inr (7, [.ref mS, .ref mD, .ref mR, .ref mT, .int mt, .int ma, .int mn, .ref mW, .ref mQ, .ref mC, .int my, .ref mU, .ref mV, .int mm, .int mf, .int mg])), (mR, .inl (G.2.1 2, 3, .inl u))]) (ws2 := fun u : (Nat → Int32) => [(mO, .inr (7, [.ref mS, .ref mD, .ref mR, .ref mT, .int mt, .int ma, .int mn, .ref mW, .ref mQ, .ref mC, .int my, .ref mU, .ref mV, .int mm, .int mf, .int mg])), (mS, .inl (G.2.1 2, 49, .inl fS)), (mR, .inl (G.2.1 2, 3, .inl u))]) rfl rfl rfl (by decide) rfl (fun _ => rfl) (va_runV (As := [.int z22]) (rest := []) S (c_X7_none l G mO mR _ mS mD mT mW mQ mC mU mV mt ma mn my mm mf mg fR z22) (cwV 1 S.2.2.2.2 gX7_runs_X7_none rfl rfl rfl (by decide +kernel) ⟨Nat.le_of_ble_eq_true rfl, Nat.le_of_ble_eq_true rfl⟩) ⟨wPre_blind, va_recv C.1 w.1 (ci := 7) (q0 := 0) rfl rfl, wPre_at C w [0, 2] rfl rfl⟩ rfl rfl hl.1 rfl (lv_room (Nat.le_of_ble_eq_true rfl)) dX7_runs_36 ⟨Nat.le_of_ble_eq_true rfl, Nat.le_of_ble_eq_true rfl⟩) (fun r36 u36 H locs h36 w => ?_)
      have w : Wd G _ s [(mO, .inr (7, [.ref mS, .ref mD, .ref mR, .ref mT, .int mt, .int ma, .int mn, .ref mW, .ref mQ, .ref mC, .int my, .ref mU, .ref mV, .int mm, .int mf, .int mg])), (mS, .inl (G.2.1 2, 49, .inl fS)), (mR, .inl (G.2.1 2, 3, .inl u36))] H locs := w
      exact W.iret (v := r36) S.1 S.2.1 hr (fun t ht _ => ⟨⟨r36, u36, rfl, by rw [h36]; exact congrArg _ hz22, by rw [ht]; exact w.1, w.2.1⟩, w.2.2.F ht⟩) w.2.2.2.2 dX7_runs_39
    · refine lv_aload_n S.1 S.2.1 dX7_runs_27 rfl (lv_at hl 1 rfl) ?_
      refine cs_i (va_runV (As := []) (rest := []) S (c_X7_isThere l G mO mS _ mD mR mT mW mQ mC mU mV mt ma mn my mm mf mg fS) (cwV 0 S.2.2.2.2 gX7_runs_X7_isThere rfl rfl rfl (by decide +kernel) ⟨Nat.le_of_ble_eq_true rfl, Nat.le_of_ble_eq_true rfl⟩) ⟨wPre_blind, va_recv C.1 w.1 (ci := 7) (q0 := 0) rfl rfl, wPre_at C w [0, 1] rfl rfl⟩ rfl rfl hl.1 rfl (lv_room (Nat.le_of_ble_eq_true rfl)) dX7_runs_28 ⟨Nat.le_of_ble_eq_true rfl, Nat.le_of_ble_eq_true rfl⟩) (fun r28 h28 => ?_)
      refine w_topi (y := 0) (h28.trans hT) ?_
      refine lv_if_ne (tgt := 40) S.1 S.2.1 dX7_runs_31 (by decide) (fun c31 => ?_) (fun c31 => ?_)
      · exact absurd c31 (by decide)
      · refine lv_aload_n S.1 S.2.1 dX7_runs_34 rfl (lv_at hl 1 rfl) ?_
        refine lv_iload_n S.1 S.2.1 dX7_runs_35 rfl (lv_at hl 0 rfl) ?_
        refine cq_i C w [0, 2] [1] [1, 0, 2] (wr := [(mS, .inl (G.2.1 2, 49, .inl fS))]) (w' := fun u : (Nat → Int32) => [(mO, .inr (7, [.ref mS, .ref mD, .ref mR, .ref mT, .int mt, .int ma, .int mn, .ref mW, .ref mQ, .ref mC, .int my, .ref mU, .ref mV, .int mm, .int mf, .int mg])), (mR, .inl (G.2.1 2, 3, .inl u))]) (ws2 := fun u : (Nat → Int32) => [(mO, .inr (7, [.ref mS, .ref mD, .ref mR, .ref mT, .int mt, .int ma, .int mn, .ref mW, .ref mQ, .ref mC, .int my, .ref mU, .ref mV, .int mm, .int mf, .int mg])), (mS, .inl (G.2.1 2, 49, .inl fS)), (mR, .inl (G.2.1 2, 3, .inl u))]) rfl rfl rfl (by decide) rfl (fun _ => rfl) (va_runV (As := [.int z22]) (rest := []) S (c_X7_none l G mO mR _ mS mD mT mW mQ mC mU mV mt ma mn my mm mf mg fR z22) (cwV 1 S.2.2.2.2 gX7_runs_X7_none rfl rfl rfl (by decide +kernel) ⟨Nat.le_of_ble_eq_true rfl, Nat.le_of_ble_eq_true rfl⟩) ⟨wPre_blind, va_recv C.1 w.1 (ci := 7) (q0 := 0) rfl rfl, wPre_at C w [0, 2] rfl rfl⟩ rfl rfl hl.1 rfl (lv_room (Nat.le_of_ble_eq_true rfl)) dX7_runs_36 ⟨Nat.le_of_ble_eq_true rfl, Nat.le_of_ble_eq_true rfl⟩) (fun r36_1 u36_1 H locs h36_1 w => ?_)
        have w : Wd G _ s [(mO, .inr (7, [.ref mS, .ref mD, .ref mR, .ref mT, .int mt, .int ma, .int mn, .ref mW, .ref mQ, .ref mC, .int my, .ref mU, .ref mV, .int mm, .int mf, .int mg])), (mS, .inl (G.2.1 2, 49, .inl fS)), (mR, .inl (G.2.1 2, 3, .inl u36_1))] H locs := w
        exact W.iret (v := r36_1) S.1 S.2.1 hr (fun t ht _ => ⟨⟨r36_1, u36_1, rfl, by rw [h36_1]; exact congrArg _ hz22, by rw [ht]; exact w.1, w.2.1⟩, w.2.2.F ht⟩) w.2.2.2.2 dX7_runs_39
  · refine lv_aload_n S.1 S.2.1 dX7_runs_0 rfl (lv_at hl 0 rfl) ?_
    refine lv_iload_n S.1 S.2.1 dX7_runs_1 rfl (lv_at hl 1 rfl) ?_
    refine cs_i (va_runV (As := [.int i0]) (rest := []) S (n_X7_isInput l G mO mS _ mD mR mT mW mQ mC mU mV mt ma mn my mm mf mg fS i0 (hT)) (cwV 1 S.2.2.2.2 gX7_runs_X7_isInput rfl rfl rfl (by decide +kernel) ⟨Nat.le_of_ble_eq_true rfl, Nat.le_of_ble_eq_true rfl⟩) ⟨wPre_blind, va_recv C.1 w.1 (ci := 7) (q0 := 0) rfl rfl, wPre_at C w [0, 1] rfl rfl⟩ rfl rfl hl.1 rfl (lv_room (Nat.le_of_ble_eq_true rfl)) dX7_runs_2 ⟨Nat.le_of_ble_eq_true rfl, Nat.le_of_ble_eq_true rfl⟩) (fun r2 h2 => ?_)
    refine w_topi (y := (inF i0 0 63)) h2 ?_
    refine lv_if_eq (tgt := 21) S.1 S.2.1 dX7_runs_5 (by decide) (fun c5 => ?_) (fun c5 => ?_)
    · refine lv_iconst (v := 0) S.1 S.2.1 dX7_runs_21 (by decide) ?_
      exact J22 0 (by simp only [zAnd, if_pos c5])
    · refine lv_iload_n S.1 S.2.1 dX7_runs_8 rfl (lv_at hl 2 rfl) ?_
      refine lv_iconst (v := 0) S.1 S.2.1 dX7_runs_9 (by decide) ?_
      refine lv_iconst (v := 1) S.1 S.2.1 dX7_runs_10 (by decide) ?_
      refine cs_i (va_runS (As := [.int j0, .int 0, .int 1]) (rest := []) S (c_X7_in l G _ j0 0 1) (cwS 3 S.2.2.2.2 gX7_runs_X7_in rfl rfl rfl (by decide +kernel) ⟨Nat.le_of_ble_eq_true rfl, Nat.le_of_ble_eq_true rfl⟩) ⟨wPre_blind, wPre_at C w [] rfl rfl⟩ rfl rfl hl.1 rfl (lv_room (Nat.le_of_ble_eq_true rfl)) dX7_runs_11 ⟨Nat.le_of_ble_eq_true rfl, Nat.le_of_ble_eq_true rfl⟩) (fun r11 h11 => ?_)
      refine w_topi (y := (inF j0 0 1)) h11 ?_
      refine lv_if_eq (tgt := 21) S.1 S.2.1 dX7_runs_14 (by decide) (fun c14 => ?_) (fun c14 => ?_)
      · refine lv_iconst (v := 0) S.1 S.2.1 dX7_runs_21 (by decide) ?_
        exact J22 0 (by simp only [zAnd, if_neg c5, if_pos c14])
      · refine lv_iconst (v := 1) S.1 S.2.1 dX7_runs_17 (by decide) ?_
        refine lv_goto (tgt := 22) S.1 S.2.1 dX7_runs_18 (by decide) ?_
        exact J22 1 (by simp only [zAnd, if_neg c5, if_neg c14])
set_option maxHeartbeats 4000000 in
set_option maxRecDepth 100000 in
theorem n_X7_signal (l : Launch) (G : GT) (mO mS mR : Nat) (sz : Nat) (mD mT mW mQ mC mU mV : Nat) (mt ma mn my mm mf mg : Int32) (fS fR : Nat → Int32) (i0 j0 : Int32) (hT : thereM fS = 0) : Met l yX7_signal wsX7_signal ({ frames := 2, cells := 0, slots := 0, locals := 43 }) (va_Pc [.ref mO, .int i0, .int j0] (wPre G [(mO, .inr (7, [.ref mS, .ref mD, .ref mR, .ref mT, .int mt, .int ma, .int mn, .ref mW, .ref mQ, .ref mC, .int my, .ref mU, .ref mV, .int mm, .int mf, .int mg])), (mS, .inl (G.2.1 2, 49, .inl fS)), (mR, .inl (G.2.1 2, 3, .inl fR))] sz)) (va_Qi (fun (r : Int32) (u : (Nat → Int32)) => r = noneF (zAnd (inF i0 0 17) (inF j0 0 63))) (bW G (va_A [(mO, .inr (7, [.ref mS, .ref mD, .ref mR, .ref mT, .int mt, .int ma, .int mn, .ref mW, .ref mQ, .ref mC, .int my, .ref mU, .ref mV, .int mm, .int mf, .int mg])), (mS, .inl (G.2.1 2, 49, .inl fS)), (mR, .inl (G.2.1 2, 3, .inl fR))] sz) (fun u : (Nat → Int32) => [(mO, .inr (7, [.ref mS, .ref mD, .ref mR, .ref mT, .int mt, .int ma, .int mn, .ref mW, .ref mQ, .ref mC, .int my, .ref mU, .ref mV, .int mm, .int mf, .int mg])), (mS, .inl (G.2.1 2, 49, .inl fS)), (mR, .inl (G.2.1 2, 3, .inl u))])) (va_A [(mO, .inr (7, [.ref mS, .ref mD, .ref mR, .ref mT, .int mt, .int ma, .int mn, .ref mW, .ref mQ, .ref mC, .int my, .ref mU, .ref mV, .int mm, .int mf, .int mg])), (mS, .inl (G.2.1 2, 49, .inl fS)), (mR, .inl (G.2.1 2, 3, .inl fR))] sz)) 0 0 (va_A [(mO, .inr (7, [.ref mS, .ref mD, .ref mR, .ref mT, .int mt, .int ma, .int mn, .ref mW, .ref mQ, .ref mC, .int my, .ref mU, .ref mV, .int mm, .int mf, .int mg])), (mS, .inl (G.2.1 2, 49, .inl fS)), (mR, .inl (G.2.1 2, 3, .inl fR))] sz) := by
  refine met_go (cc := cX7_signal) (maxL := 4) (ret := (some .int)) (own := RX7) (by decide) rfl rfl (Nat.le_of_ble_eq_true rfl) ?_
  intro p e s m below meth c ls S hr hlocks hname hsz C w hl
  have hl : lv_has ls 4 [(0, .ref mO), (1, .int i0), (2, .int j0)] := hl
  refine w_joini 48 [] (fun z48 => z48 = (zAnd (inF i0 0 17) (inF j0 0 63))) (fun z48 hz48 => ?_) (fun J48 => ?_)
  · refine lv_istore_n (lv' := [(3, .int z48), (0, .ref mO), (1, .int i0), (2, .int j0)]) S.1 S.2.1 dX7_signal_48 rfl hl (by decide) rfl (fun ls hl => ?_)
    refine lv_iload_n S.1 S.2.1 dX7_signal_49 rfl (lv_at hl 0 rfl) ?_
    refine lv_if_eq (tgt := 60) S.1 S.2.1 dX7_signal_50 (by decide) (fun c50 => ?_) (fun c50 => ?_)
    · refine lv_aload_n S.1 S.2.1 dX7_signal_60 rfl (lv_at hl 1 rfl) ?_
      refine lv_iload_n S.1 S.2.1 dX7_signal_61 rfl (lv_at hl 0 rfl) ?_
      refine cq_i C w [0, 2] [1] [1, 0, 2] (wr := [(mS, .inl (G.2.1 2, 49, .inl fS))]) (w' := fun u : (Nat → Int32) => [(mO, .inr (7, [.ref mS, .ref mD, .ref mR, .ref mT, .int mt, .int ma, .int mn, .ref mW, .ref mQ, .ref mC, .int my, .ref mU, .ref mV, .int mm, .int mf, .int mg])), (mR, .inl (G.2.1 2, 3, .inl u))]) (ws2 := fun u : (Nat → Int32) => [(mO, .inr (7, [.ref mS, .ref mD, .ref mR, .ref mT, .int mt, .int ma, .int mn, .ref mW, .ref mQ, .ref mC, .int my, .ref mU, .ref mV, .int mm, .int mf, .int mg])), (mS, .inl (G.2.1 2, 49, .inl fS)), (mR, .inl (G.2.1 2, 3, .inl u))]) rfl rfl rfl (by decide) rfl (fun _ => rfl) (va_runV (As := [.int z48]) (rest := []) S (c_X7_none l G mO mR _ mS mD mT mW mQ mC mU mV mt ma mn my mm mf mg fR z48) (cwV 1 S.2.2.2.2 gX7_signal_X7_none rfl rfl rfl (by decide +kernel) ⟨Nat.le_of_ble_eq_true rfl, Nat.le_of_ble_eq_true rfl⟩) ⟨wPre_blind, va_recv C.1 w.1 (ci := 7) (q0 := 0) rfl rfl, wPre_at C w [0, 2] rfl rfl⟩ rfl rfl hl.1 rfl (lv_room (Nat.le_of_ble_eq_true rfl)) dX7_signal_62 ⟨Nat.le_of_ble_eq_true rfl, Nat.le_of_ble_eq_true rfl⟩) (fun r62 u62 H locs h62 w => ?_)
      have w : Wd G _ s [(mO, .inr (7, [.ref mS, .ref mD, .ref mR, .ref mT, .int mt, .int ma, .int mn, .ref mW, .ref mQ, .ref mC, .int my, .ref mU, .ref mV, .int mm, .int mf, .int mg])), (mS, .inl (G.2.1 2, 49, .inl fS)), (mR, .inl (G.2.1 2, 3, .inl u62))] H locs := w
      exact W.iret (v := r62) S.1 S.2.1 hr (fun t ht _ => ⟨⟨r62, u62, rfl, by rw [h62]; exact congrArg _ hz48, by rw [ht]; exact w.1, w.2.1⟩, w.2.2.F ht⟩) w.2.2.2.2 dX7_signal_65
    · refine lv_aload_n S.1 S.2.1 dX7_signal_53 rfl (lv_at hl 1 rfl) ?_
      refine cs_i (va_runV (As := []) (rest := []) S (c_X7_isThere l G mO mS _ mD mR mT mW mQ mC mU mV mt ma mn my mm mf mg fS) (cwV 0 S.2.2.2.2 gX7_signal_X7_isThere rfl rfl rfl (by decide +kernel) ⟨Nat.le_of_ble_eq_true rfl, Nat.le_of_ble_eq_true rfl⟩) ⟨wPre_blind, va_recv C.1 w.1 (ci := 7) (q0 := 0) rfl rfl, wPre_at C w [0, 1] rfl rfl⟩ rfl rfl hl.1 rfl (lv_room (Nat.le_of_ble_eq_true rfl)) dX7_signal_54 ⟨Nat.le_of_ble_eq_true rfl, Nat.le_of_ble_eq_true rfl⟩) (fun r54 h54 => ?_)
      refine w_topi (y := 0) (h54.trans hT) ?_
      refine lv_if_ne (tgt := 66) S.1 S.2.1 dX7_signal_57 (by decide) (fun c57 => ?_) (fun c57 => ?_)
      · exact absurd c57 (by decide)
      · refine lv_aload_n S.1 S.2.1 dX7_signal_60 rfl (lv_at hl 1 rfl) ?_
        refine lv_iload_n S.1 S.2.1 dX7_signal_61 rfl (lv_at hl 0 rfl) ?_
        refine cq_i C w [0, 2] [1] [1, 0, 2] (wr := [(mS, .inl (G.2.1 2, 49, .inl fS))]) (w' := fun u : (Nat → Int32) => [(mO, .inr (7, [.ref mS, .ref mD, .ref mR, .ref mT, .int mt, .int ma, .int mn, .ref mW, .ref mQ, .ref mC, .int my, .ref mU, .ref mV, .int mm, .int mf, .int mg])), (mR, .inl (G.2.1 2, 3, .inl u))]) (ws2 := fun u : (Nat → Int32) => [(mO, .inr (7, [.ref mS, .ref mD, .ref mR, .ref mT, .int mt, .int ma, .int mn, .ref mW, .ref mQ, .ref mC, .int my, .ref mU, .ref mV, .int mm, .int mf, .int mg])), (mS, .inl (G.2.1 2, 49, .inl fS)), (mR, .inl (G.2.1 2, 3, .inl u))]) rfl rfl rfl (by decide) rfl (fun _ => rfl) (va_runV (As := [.int z48]) (rest := []) S (c_X7_none l G mO mR _ mS mD mT mW mQ mC mU mV mt ma mn my mm mf mg fR z48) (cwV 1 S.2.2.2.2 gX7_signal_X7_none rfl rfl rfl (by decide +kernel) ⟨Nat.le_of_ble_eq_true rfl, Nat.le_of_ble_eq_true rfl⟩) ⟨wPre_blind, va_recv C.1 w.1 (ci := 7) (q0 := 0) rfl rfl, wPre_at C w [0, 2] rfl rfl⟩ rfl rfl hl.1 rfl (lv_room (Nat.le_of_ble_eq_true rfl)) dX7_signal_62 ⟨Nat.le_of_ble_eq_true rfl, Nat.le_of_ble_eq_true rfl⟩) (fun r62_1 u62_1 H locs h62_1 w => ?_)
        have w : Wd G _ s [(mO, .inr (7, [.ref mS, .ref mD, .ref mR, .ref mT, .int mt, .int ma, .int mn, .ref mW, .ref mQ, .ref mC, .int my, .ref mU, .ref mV, .int mm, .int mf, .int mg])), (mS, .inl (G.2.1 2, 49, .inl fS)), (mR, .inl (G.2.1 2, 3, .inl u62_1))] H locs := w
        exact W.iret (v := r62_1) S.1 S.2.1 hr (fun t ht _ => ⟨⟨r62_1, u62_1, rfl, by rw [h62_1]; exact congrArg _ hz48, by rw [ht]; exact w.1, w.2.1⟩, w.2.2.F ht⟩) w.2.2.2.2 dX7_signal_65
  · refine lv_iload_n S.1 S.2.1 dX7_signal_0 rfl (lv_at hl 1 rfl) ?_
    refine lv_iconst (v := 0) S.1 S.2.1 dX7_signal_1 (by decide) ?_
    refine lv_aload_n S.1 S.2.1 dX7_signal_2 rfl (lv_at hl 0 rfl) ?_
    refine cs_i (va_runV (As := []) (rest := [.int 0, .int i0]) S (c_X7_isThere l G mO mS _ mD mR mT mW mQ mC mU mV mt ma mn my mm mf mg fS) (cwV 0 S.2.2.2.2 gX7_signal_X7_isThere rfl rfl rfl (by decide +kernel) ⟨Nat.le_of_ble_eq_true rfl, Nat.le_of_ble_eq_true rfl⟩) ⟨wPre_blind, va_recv C.1 w.1 (ci := 7) (q0 := 0) rfl rfl, wPre_at C w [0, 1] rfl rfl⟩ rfl rfl hl.1 rfl (lv_room (Nat.le_of_ble_eq_true rfl)) dX7_signal_3 ⟨Nat.le_of_ble_eq_true rfl, Nat.le_of_ble_eq_true rfl⟩) (fun r3 h3 => ?_)
    refine w_topi (y := 0) (h3.trans hT) ?_
    refine lv_if_eq (tgt := 27) S.1 S.2.1 dX7_signal_6 (by decide) (fun c6 => ?_) (fun c6 => ?_)
    · refine lv_bipush (v := 17) S.1 S.2.1 dX7_signal_27 (by decide) ?_
      refine cs_i (va_runS (As := [.int i0, .int 0, .int 17]) (rest := []) S (c_X7_in l G _ i0 0 17) (cwS 3 S.2.2.2.2 gX7_signal_X7_in rfl rfl rfl (by decide +kernel) ⟨Nat.le_of_ble_eq_true rfl, Nat.le_of_ble_eq_true rfl⟩) ⟨wPre_blind, wPre_at C w [] rfl rfl⟩ rfl rfl hl.1 rfl (lv_room (Nat.le_of_ble_eq_true rfl)) dX7_signal_29 ⟨Nat.le_of_ble_eq_true rfl, Nat.le_of_ble_eq_true rfl⟩) (fun r29 h29 => ?_)
      refine w_topi (y := (inF i0 0 17)) h29 ?_
      refine lv_if_eq (tgt := 47) S.1 S.2.1 dX7_signal_32 (by decide) (fun c32 => ?_) (fun c32 => ?_)
      · refine lv_iconst (v := 0) S.1 S.2.1 dX7_signal_47 (by decide) ?_
        exact J48 0 (by simp only [zAnd, if_pos c6, if_pos c32])
      · refine lv_aload_n S.1 S.2.1 dX7_signal_35 rfl (lv_at hl 0 rfl) ?_
        refine lv_iload_n S.1 S.2.1 dX7_signal_36 rfl (lv_at hl 2 rfl) ?_
        refine cs_i (va_runV (As := [.int j0]) (rest := []) S (n_X7_isInput l G mO mS _ mD mR mT mW mQ mC mU mV mt ma mn my mm mf mg fS j0 (hT)) (cwV 1 S.2.2.2.2 gX7_signal_X7_isInput rfl rfl rfl (by decide +kernel) ⟨Nat.le_of_ble_eq_true rfl, Nat.le_of_ble_eq_true rfl⟩) ⟨wPre_blind, va_recv C.1 w.1 (ci := 7) (q0 := 0) rfl rfl, wPre_at C w [0, 1] rfl rfl⟩ rfl rfl hl.1 rfl (lv_room (Nat.le_of_ble_eq_true rfl)) dX7_signal_37 ⟨Nat.le_of_ble_eq_true rfl, Nat.le_of_ble_eq_true rfl⟩) (fun r37 h37 => ?_)
        refine w_topi (y := (inF j0 0 63)) h37 ?_
        refine lv_if_eq (tgt := 47) S.1 S.2.1 dX7_signal_40 (by decide) (fun c40 => ?_) (fun c40 => ?_)
        · refine lv_iconst (v := 0) S.1 S.2.1 dX7_signal_47 (by decide) ?_
          exact J48 0 (by simp only [zAnd, if_pos c6, if_neg c32, if_pos c40])
        · refine lv_iconst (v := 1) S.1 S.2.1 dX7_signal_43 (by decide) ?_
          refine lv_goto (tgt := 48) S.1 S.2.1 dX7_signal_44 (by decide) ?_
          exact J48 1 (by simp only [zAnd, if_pos c6, if_neg c32, if_neg c40])
    · exact absurd c6 (by decide)
set_option maxHeartbeats 4000000 in
set_option maxRecDepth 100000 in
theorem n_X7_wrong (l : Launch) (G : GT) (mO mS mR : Nat) (sz : Nat) (mD mT mW mQ mC mU mV : Nat) (mt ma mn my mm mf mg : Int32) (fS fR : Nat → Int32) (i0 : Int32) (hT : thereM fS = 0) : Met l yX7_wrong wsX7_wrong ({ frames := 2, cells := 0, slots := 0, locals := 42 }) (va_Pc [.ref mO, .int i0] (wPre G [(mO, .inr (7, [.ref mS, .ref mD, .ref mR, .ref mT, .int mt, .int ma, .int mn, .ref mW, .ref mQ, .ref mC, .int my, .ref mU, .ref mV, .int mm, .int mf, .int mg])), (mS, .inl (G.2.1 2, 49, .inl fS)), (mR, .inl (G.2.1 2, 3, .inl fR))] sz)) (va_Qi (fun (r : Int32) (u : (Nat → Int32)) => r = noneF (inF i0 0 1)) (bW G (va_A [(mO, .inr (7, [.ref mS, .ref mD, .ref mR, .ref mT, .int mt, .int ma, .int mn, .ref mW, .ref mQ, .ref mC, .int my, .ref mU, .ref mV, .int mm, .int mf, .int mg])), (mS, .inl (G.2.1 2, 49, .inl fS)), (mR, .inl (G.2.1 2, 3, .inl fR))] sz) (fun u : (Nat → Int32) => [(mO, .inr (7, [.ref mS, .ref mD, .ref mR, .ref mT, .int mt, .int ma, .int mn, .ref mW, .ref mQ, .ref mC, .int my, .ref mU, .ref mV, .int mm, .int mf, .int mg])), (mS, .inl (G.2.1 2, 49, .inl fS)), (mR, .inl (G.2.1 2, 3, .inl u))])) (va_A [(mO, .inr (7, [.ref mS, .ref mD, .ref mR, .ref mT, .int mt, .int ma, .int mn, .ref mW, .ref mQ, .ref mC, .int my, .ref mU, .ref mV, .int mm, .int mf, .int mg])), (mS, .inl (G.2.1 2, 49, .inl fS)), (mR, .inl (G.2.1 2, 3, .inl fR))] sz)) 0 0 (va_A [(mO, .inr (7, [.ref mS, .ref mD, .ref mR, .ref mT, .int mt, .int ma, .int mn, .ref mW, .ref mQ, .ref mC, .int my, .ref mU, .ref mV, .int mm, .int mf, .int mg])), (mS, .inl (G.2.1 2, 49, .inl fS)), (mR, .inl (G.2.1 2, 3, .inl fR))] sz) := by
  refine met_go (cc := cX7_wrong) (maxL := 3) (ret := (some .int)) (own := RX7) (by decide) rfl rfl (Nat.le_of_ble_eq_true rfl) ?_
  intro p e s m below meth c ls S hr hlocks hname hsz C w hl
  have hl : lv_has ls 3 [(0, .ref mO), (1, .int i0)] := hl
  refine lv_iload_n S.1 S.2.1 dX7_wrong_0 rfl (lv_at hl 1 rfl) ?_
  refine lv_iconst (v := 0) S.1 S.2.1 dX7_wrong_1 (by decide) ?_
  refine lv_iconst (v := 1) S.1 S.2.1 dX7_wrong_2 (by decide) ?_
  refine cs_i (va_runS (As := [.int i0, .int 0, .int 1]) (rest := []) S (c_X7_in l G _ i0 0 1) (cwS 3 S.2.2.2.2 gX7_wrong_X7_in rfl rfl rfl (by decide +kernel) ⟨Nat.le_of_ble_eq_true rfl, Nat.le_of_ble_eq_true rfl⟩) ⟨wPre_blind, wPre_at C w [] rfl rfl⟩ rfl rfl hl.1 rfl (lv_room (Nat.le_of_ble_eq_true rfl)) dX7_wrong_3 ⟨Nat.le_of_ble_eq_true rfl, Nat.le_of_ble_eq_true rfl⟩) (fun r3 h3 => ?_)
  refine w_topi (y := (inF i0 0 1)) h3 ?_
  refine lv_istore_n (lv' := [(2, .int (inF i0 0 1)), (0, .ref mO), (1, .int i0)]) S.1 S.2.1 dX7_wrong_6 rfl hl (by decide) rfl (fun ls hl => ?_)
  refine lv_iload_n S.1 S.2.1 dX7_wrong_7 rfl (lv_at hl 0 rfl) ?_
  refine lv_if_eq (tgt := 18) S.1 S.2.1 dX7_wrong_8 (by decide) (fun c8 => ?_) (fun c8 => ?_)
  · refine lv_aload_n S.1 S.2.1 dX7_wrong_18 rfl (lv_at hl 1 rfl) ?_
    refine lv_iload_n S.1 S.2.1 dX7_wrong_19 rfl (lv_at hl 0 rfl) ?_
    refine cq_i C w [0, 2] [1] [1, 0, 2] (wr := [(mS, .inl (G.2.1 2, 49, .inl fS))]) (w' := fun u : (Nat → Int32) => [(mO, .inr (7, [.ref mS, .ref mD, .ref mR, .ref mT, .int mt, .int ma, .int mn, .ref mW, .ref mQ, .ref mC, .int my, .ref mU, .ref mV, .int mm, .int mf, .int mg])), (mR, .inl (G.2.1 2, 3, .inl u))]) (ws2 := fun u : (Nat → Int32) => [(mO, .inr (7, [.ref mS, .ref mD, .ref mR, .ref mT, .int mt, .int ma, .int mn, .ref mW, .ref mQ, .ref mC, .int my, .ref mU, .ref mV, .int mm, .int mf, .int mg])), (mS, .inl (G.2.1 2, 49, .inl fS)), (mR, .inl (G.2.1 2, 3, .inl u))]) rfl rfl rfl (by decide) rfl (fun _ => rfl) (va_runV (As := [.int (inF i0 0 1)]) (rest := []) S (c_X7_none l G mO mR _ mS mD mT mW mQ mC mU mV mt ma mn my mm mf mg fR (inF i0 0 1)) (cwV 1 S.2.2.2.2 gX7_wrong_X7_none rfl rfl rfl (by decide +kernel) ⟨Nat.le_of_ble_eq_true rfl, Nat.le_of_ble_eq_true rfl⟩) ⟨wPre_blind, va_recv C.1 w.1 (ci := 7) (q0 := 0) rfl rfl, wPre_at C w [0, 2] rfl rfl⟩ rfl rfl hl.1 rfl (lv_room (Nat.le_of_ble_eq_true rfl)) dX7_wrong_20 ⟨Nat.le_of_ble_eq_true rfl, Nat.le_of_ble_eq_true rfl⟩) (fun r20 u20 H locs h20 w => ?_)
    have w : Wd G _ s [(mO, .inr (7, [.ref mS, .ref mD, .ref mR, .ref mT, .int mt, .int ma, .int mn, .ref mW, .ref mQ, .ref mC, .int my, .ref mU, .ref mV, .int mm, .int mf, .int mg])), (mS, .inl (G.2.1 2, 49, .inl fS)), (mR, .inl (G.2.1 2, 3, .inl u20))] H locs := w
    exact W.iret (v := r20) S.1 S.2.1 hr (fun t ht _ => ⟨⟨r20, u20, rfl, h20, by rw [ht]; exact w.1, w.2.1⟩, w.2.2.F ht⟩) w.2.2.2.2 dX7_wrong_23
  · refine lv_aload_n S.1 S.2.1 dX7_wrong_11 rfl (lv_at hl 1 rfl) ?_
    refine cs_i (va_runV (As := []) (rest := []) S (c_X7_isThere l G mO mS _ mD mR mT mW mQ mC mU mV mt ma mn my mm mf mg fS) (cwV 0 S.2.2.2.2 gX7_wrong_X7_isThere rfl rfl rfl (by decide +kernel) ⟨Nat.le_of_ble_eq_true rfl, Nat.le_of_ble_eq_true rfl⟩) ⟨wPre_blind, va_recv C.1 w.1 (ci := 7) (q0 := 0) rfl rfl, wPre_at C w [0, 1] rfl rfl⟩ rfl rfl hl.1 rfl (lv_room (Nat.le_of_ble_eq_true rfl)) dX7_wrong_12 ⟨Nat.le_of_ble_eq_true rfl, Nat.le_of_ble_eq_true rfl⟩) (fun r12 h12 => ?_)
    refine w_topi (y := 0) (h12.trans hT) ?_
    refine lv_if_ne (tgt := 24) S.1 S.2.1 dX7_wrong_15 (by decide) (fun c15 => ?_) (fun c15 => ?_)
    · exact absurd c15 (by decide)
    · refine lv_aload_n S.1 S.2.1 dX7_wrong_18 rfl (lv_at hl 1 rfl) ?_
      refine lv_iload_n S.1 S.2.1 dX7_wrong_19 rfl (lv_at hl 0 rfl) ?_
      refine cq_i C w [0, 2] [1] [1, 0, 2] (wr := [(mS, .inl (G.2.1 2, 49, .inl fS))]) (w' := fun u : (Nat → Int32) => [(mO, .inr (7, [.ref mS, .ref mD, .ref mR, .ref mT, .int mt, .int ma, .int mn, .ref mW, .ref mQ, .ref mC, .int my, .ref mU, .ref mV, .int mm, .int mf, .int mg])), (mR, .inl (G.2.1 2, 3, .inl u))]) (ws2 := fun u : (Nat → Int32) => [(mO, .inr (7, [.ref mS, .ref mD, .ref mR, .ref mT, .int mt, .int ma, .int mn, .ref mW, .ref mQ, .ref mC, .int my, .ref mU, .ref mV, .int mm, .int mf, .int mg])), (mS, .inl (G.2.1 2, 49, .inl fS)), (mR, .inl (G.2.1 2, 3, .inl u))]) rfl rfl rfl (by decide) rfl (fun _ => rfl) (va_runV (As := [.int (inF i0 0 1)]) (rest := []) S (c_X7_none l G mO mR _ mS mD mT mW mQ mC mU mV mt ma mn my mm mf mg fR (inF i0 0 1)) (cwV 1 S.2.2.2.2 gX7_wrong_X7_none rfl rfl rfl (by decide +kernel) ⟨Nat.le_of_ble_eq_true rfl, Nat.le_of_ble_eq_true rfl⟩) ⟨wPre_blind, va_recv C.1 w.1 (ci := 7) (q0 := 0) rfl rfl, wPre_at C w [0, 2] rfl rfl⟩ rfl rfl hl.1 rfl (lv_room (Nat.le_of_ble_eq_true rfl)) dX7_wrong_20 ⟨Nat.le_of_ble_eq_true rfl, Nat.le_of_ble_eq_true rfl⟩) (fun r20_1 u20_1 H locs h20_1 w => ?_)
      have w : Wd G _ s [(mO, .inr (7, [.ref mS, .ref mD, .ref mR, .ref mT, .int mt, .int ma, .int mn, .ref mW, .ref mQ, .ref mC, .int my, .ref mU, .ref mV, .int mm, .int mf, .int mg])), (mS, .inl (G.2.1 2, 49, .inl fS)), (mR, .inl (G.2.1 2, 3, .inl u20_1))] H locs := w
      exact W.iret (v := r20_1) S.1 S.2.1 hr (fun t ht _ => ⟨⟨r20_1, u20_1, rfl, h20_1, by rw [ht]; exact w.1, w.2.1⟩, w.2.2.F ht⟩) w.2.2.2.2 dX7_wrong_23
set_option maxHeartbeats 4000000 in
set_option maxRecDepth 100000 in
theorem n_X7_cures (l : Launch) (G : GT) (mO mS mR : Nat) (sz : Nat) (mD mT mW mQ mC mU mV : Nat) (mt ma mn my mm mf mg : Int32) (fS fR : Nat → Int32) (i0 : Int32) (hT : thereM fS = 0) : Met l yX7_cures wsX7_cures ({ frames := 2, cells := 0, slots := 0, locals := 43 }) (va_Pc [.ref mO, .int i0] (wPre G [(mO, .inr (7, [.ref mS, .ref mD, .ref mR, .ref mT, .int mt, .int ma, .int mn, .ref mW, .ref mQ, .ref mC, .int my, .ref mU, .ref mV, .int mm, .int mf, .int mg])), (mS, .inl (G.2.1 2, 49, .inl fS)), (mR, .inl (G.2.1 2, 3, .inl fR))] sz)) (va_Qi (fun (r : Int32) (u : (Nat → Int32)) => r = noneF (inF i0 0 11)) (bW G (va_A [(mO, .inr (7, [.ref mS, .ref mD, .ref mR, .ref mT, .int mt, .int ma, .int mn, .ref mW, .ref mQ, .ref mC, .int my, .ref mU, .ref mV, .int mm, .int mf, .int mg])), (mS, .inl (G.2.1 2, 49, .inl fS)), (mR, .inl (G.2.1 2, 3, .inl fR))] sz) (fun u : (Nat → Int32) => [(mO, .inr (7, [.ref mS, .ref mD, .ref mR, .ref mT, .int mt, .int ma, .int mn, .ref mW, .ref mQ, .ref mC, .int my, .ref mU, .ref mV, .int mm, .int mf, .int mg])), (mS, .inl (G.2.1 2, 49, .inl fS)), (mR, .inl (G.2.1 2, 3, .inl u))])) (va_A [(mO, .inr (7, [.ref mS, .ref mD, .ref mR, .ref mT, .int mt, .int ma, .int mn, .ref mW, .ref mQ, .ref mC, .int my, .ref mU, .ref mV, .int mm, .int mf, .int mg])), (mS, .inl (G.2.1 2, 49, .inl fS)), (mR, .inl (G.2.1 2, 3, .inl fR))] sz)) 0 0 (va_A [(mO, .inr (7, [.ref mS, .ref mD, .ref mR, .ref mT, .int mt, .int ma, .int mn, .ref mW, .ref mQ, .ref mC, .int my, .ref mU, .ref mV, .int mm, .int mf, .int mg])), (mS, .inl (G.2.1 2, 49, .inl fS)), (mR, .inl (G.2.1 2, 3, .inl fR))] sz) := by
  refine met_go (cc := cX7_cures) (maxL := 6) (ret := (some .int)) (own := RX7) (by decide) rfl rfl (Nat.le_of_ble_eq_true rfl) ?_
  intro p e s m below meth c ls S hr hlocks hname hsz C w hl
  have hl : lv_has ls 6 [(0, .ref mO), (1, .int i0)] := hl
  refine lv_aload_n S.1 S.2.1 dX7_cures_0 rfl (lv_at hl 0 rfl) ?_
  refine lv_iload_n S.1 S.2.1 dX7_cures_1 rfl (lv_at hl 1 rfl) ?_
  refine cs_i (va_runV (As := [.int i0]) (rest := []) S (n_X7_isGate l G mO mS _ mD mR mT mW mQ mC mU mV mt ma mn my mm mf mg fS i0 (hT)) (cwV 1 S.2.2.2.2 gX7_cures_X7_isGate rfl rfl rfl (by decide +kernel) ⟨Nat.le_of_ble_eq_true rfl, Nat.le_of_ble_eq_true rfl⟩) ⟨wPre_blind, va_recv C.1 w.1 (ci := 7) (q0 := 0) rfl rfl, wPre_at C w [0, 1] rfl rfl⟩ rfl rfl hl.1 rfl (lv_room (Nat.le_of_ble_eq_true rfl)) dX7_cures_2 ⟨Nat.le_of_ble_eq_true rfl, Nat.le_of_ble_eq_true rfl⟩) (fun r2 h2 => ?_)
  refine w_topi (y := (inF i0 0 11)) h2 ?_
  refine lv_istore_n (lv' := [(2, .int (inF i0 0 11)), (0, .ref mO), (1, .int i0)]) S.1 S.2.1 dX7_cures_5 rfl hl (by decide) rfl (fun ls hl => ?_)
  refine lv_iload_n S.1 S.2.1 dX7_cures_6 rfl (lv_at hl 0 rfl) ?_
  refine lv_if_eq (tgt := 17) S.1 S.2.1 dX7_cures_7 (by decide) (fun c7 => ?_) (fun c7 => ?_)
  · refine lv_aload_n S.1 S.2.1 dX7_cures_17 rfl (lv_at hl 1 rfl) ?_
    refine lv_iload_n S.1 S.2.1 dX7_cures_18 rfl (lv_at hl 0 rfl) ?_
    refine cq_i C w [0, 2] [1] [1, 0, 2] (wr := [(mS, .inl (G.2.1 2, 49, .inl fS))]) (w' := fun u : (Nat → Int32) => [(mO, .inr (7, [.ref mS, .ref mD, .ref mR, .ref mT, .int mt, .int ma, .int mn, .ref mW, .ref mQ, .ref mC, .int my, .ref mU, .ref mV, .int mm, .int mf, .int mg])), (mR, .inl (G.2.1 2, 3, .inl u))]) (ws2 := fun u : (Nat → Int32) => [(mO, .inr (7, [.ref mS, .ref mD, .ref mR, .ref mT, .int mt, .int ma, .int mn, .ref mW, .ref mQ, .ref mC, .int my, .ref mU, .ref mV, .int mm, .int mf, .int mg])), (mS, .inl (G.2.1 2, 49, .inl fS)), (mR, .inl (G.2.1 2, 3, .inl u))]) rfl rfl rfl (by decide) rfl (fun _ => rfl) (va_runV (As := [.int (inF i0 0 11)]) (rest := []) S (c_X7_none l G mO mR _ mS mD mT mW mQ mC mU mV mt ma mn my mm mf mg fR (inF i0 0 11)) (cwV 1 S.2.2.2.2 gX7_cures_X7_none rfl rfl rfl (by decide +kernel) ⟨Nat.le_of_ble_eq_true rfl, Nat.le_of_ble_eq_true rfl⟩) ⟨wPre_blind, va_recv C.1 w.1 (ci := 7) (q0 := 0) rfl rfl, wPre_at C w [0, 2] rfl rfl⟩ rfl rfl hl.1 rfl (lv_room (Nat.le_of_ble_eq_true rfl)) dX7_cures_19 ⟨Nat.le_of_ble_eq_true rfl, Nat.le_of_ble_eq_true rfl⟩) (fun r19 u19 H locs h19 w => ?_)
    have w : Wd G _ s [(mO, .inr (7, [.ref mS, .ref mD, .ref mR, .ref mT, .int mt, .int ma, .int mn, .ref mW, .ref mQ, .ref mC, .int my, .ref mU, .ref mV, .int mm, .int mf, .int mg])), (mS, .inl (G.2.1 2, 49, .inl fS)), (mR, .inl (G.2.1 2, 3, .inl u19))] H locs := w
    exact W.iret (v := r19) S.1 S.2.1 hr (fun t ht _ => ⟨⟨r19, u19, rfl, h19, by rw [ht]; exact w.1, w.2.1⟩, w.2.2.F ht⟩) w.2.2.2.2 dX7_cures_22
  · refine lv_aload_n S.1 S.2.1 dX7_cures_10 rfl (lv_at hl 1 rfl) ?_
    refine cs_i (va_runV (As := []) (rest := []) S (c_X7_isThere l G mO mS _ mD mR mT mW mQ mC mU mV mt ma mn my mm mf mg fS) (cwV 0 S.2.2.2.2 gX7_cures_X7_isThere rfl rfl rfl (by decide +kernel) ⟨Nat.le_of_ble_eq_true rfl, Nat.le_of_ble_eq_true rfl⟩) ⟨wPre_blind, va_recv C.1 w.1 (ci := 7) (q0 := 0) rfl rfl, wPre_at C w [0, 1] rfl rfl⟩ rfl rfl hl.1 rfl (lv_room (Nat.le_of_ble_eq_true rfl)) dX7_cures_11 ⟨Nat.le_of_ble_eq_true rfl, Nat.le_of_ble_eq_true rfl⟩) (fun r11 h11 => ?_)
    refine w_topi (y := 0) (h11.trans hT) ?_
    refine lv_if_ne (tgt := 23) S.1 S.2.1 dX7_cures_14 (by decide) (fun c14 => ?_) (fun c14 => ?_)
    · exact absurd c14 (by decide)
    · refine lv_aload_n S.1 S.2.1 dX7_cures_17 rfl (lv_at hl 1 rfl) ?_
      refine lv_iload_n S.1 S.2.1 dX7_cures_18 rfl (lv_at hl 0 rfl) ?_
      refine cq_i C w [0, 2] [1] [1, 0, 2] (wr := [(mS, .inl (G.2.1 2, 49, .inl fS))]) (w' := fun u : (Nat → Int32) => [(mO, .inr (7, [.ref mS, .ref mD, .ref mR, .ref mT, .int mt, .int ma, .int mn, .ref mW, .ref mQ, .ref mC, .int my, .ref mU, .ref mV, .int mm, .int mf, .int mg])), (mR, .inl (G.2.1 2, 3, .inl u))]) (ws2 := fun u : (Nat → Int32) => [(mO, .inr (7, [.ref mS, .ref mD, .ref mR, .ref mT, .int mt, .int ma, .int mn, .ref mW, .ref mQ, .ref mC, .int my, .ref mU, .ref mV, .int mm, .int mf, .int mg])), (mS, .inl (G.2.1 2, 49, .inl fS)), (mR, .inl (G.2.1 2, 3, .inl u))]) rfl rfl rfl (by decide) rfl (fun _ => rfl) (va_runV (As := [.int (inF i0 0 11)]) (rest := []) S (c_X7_none l G mO mR _ mS mD mT mW mQ mC mU mV mt ma mn my mm mf mg fR (inF i0 0 11)) (cwV 1 S.2.2.2.2 gX7_cures_X7_none rfl rfl rfl (by decide +kernel) ⟨Nat.le_of_ble_eq_true rfl, Nat.le_of_ble_eq_true rfl⟩) ⟨wPre_blind, va_recv C.1 w.1 (ci := 7) (q0 := 0) rfl rfl, wPre_at C w [0, 2] rfl rfl⟩ rfl rfl hl.1 rfl (lv_room (Nat.le_of_ble_eq_true rfl)) dX7_cures_19 ⟨Nat.le_of_ble_eq_true rfl, Nat.le_of_ble_eq_true rfl⟩) (fun r19_1 u19_1 H locs h19_1 w => ?_)
      have w : Wd G _ s [(mO, .inr (7, [.ref mS, .ref mD, .ref mR, .ref mT, .int mt, .int ma, .int mn, .ref mW, .ref mQ, .ref mC, .int my, .ref mU, .ref mV, .int mm, .int mf, .int mg])), (mS, .inl (G.2.1 2, 49, .inl fS)), (mR, .inl (G.2.1 2, 3, .inl u19_1))] H locs := w
      exact W.iret (v := r19_1) S.1 S.2.1 hr (fun t ht _ => ⟨⟨r19_1, u19_1, rfl, h19_1, by rw [ht]; exact w.1, w.2.1⟩, w.2.2.F ht⟩) w.2.2.2.2 dX7_cures_22
set_option maxHeartbeats 4000000 in
set_option maxRecDepth 100000 in
theorem n_X7_right (l : Launch) (G : GT) (mO mS mR : Nat) (sz : Nat) (mD mT mW mQ mC mU mV : Nat) (mt ma mn my mm mf mg : Int32) (fS fR : Nat → Int32)  (hT : thereM fS = 0) : Met l yX7_right wsX7_right ({ frames := 1, cells := 0, slots := 0, locals := 21 }) (va_Pc [.ref mO] (wPre G [(mO, .inr (7, [.ref mS, .ref mD, .ref mR, .ref mT, .int mt, .int ma, .int mn, .ref mW, .ref mQ, .ref mC, .int my, .ref mU, .ref mV, .int mm, .int mf, .int mg])), (mS, .inl (G.2.1 2, 49, .inl fS)), (mR, .inl (G.2.1 2, 3, .inl fR))] sz)) (va_Qi (fun (r : Int32) (u : (Nat → Int32)) => r = noneF 1) (bW G (va_A [(mO, .inr (7, [.ref mS, .ref mD, .ref mR, .ref mT, .int mt, .int ma, .int mn, .ref mW, .ref mQ, .ref mC, .int my, .ref mU, .ref mV, .int mm, .int mf, .int mg])), (mS, .inl (G.2.1 2, 49, .inl fS)), (mR, .inl (G.2.1 2, 3, .inl fR))] sz) (fun u : (Nat → Int32) => [(mO, .inr (7, [.ref mS, .ref mD, .ref mR, .ref mT, .int mt, .int ma, .int mn, .ref mW, .ref mQ, .ref mC, .int my, .ref mU, .ref mV, .int mm, .int mf, .int mg])), (mS, .inl (G.2.1 2, 49, .inl fS)), (mR, .inl (G.2.1 2, 3, .inl u))])) (va_A [(mO, .inr (7, [.ref mS, .ref mD, .ref mR, .ref mT, .int mt, .int ma, .int mn, .ref mW, .ref mQ, .ref mC, .int my, .ref mU, .ref mV, .int mm, .int mf, .int mg])), (mS, .inl (G.2.1 2, 49, .inl fS)), (mR, .inl (G.2.1 2, 3, .inl fR))] sz)) 0 0 (va_A [(mO, .inr (7, [.ref mS, .ref mD, .ref mR, .ref mT, .int mt, .int ma, .int mn, .ref mW, .ref mQ, .ref mC, .int my, .ref mU, .ref mV, .int mm, .int mf, .int mg])), (mS, .inl (G.2.1 2, 49, .inl fS)), (mR, .inl (G.2.1 2, 3, .inl fR))] sz) := by
  refine met_go (cc := cX7_right) (maxL := 1) (ret := (some .int)) (own := RX7) (by decide) rfl rfl (Nat.le_of_ble_eq_true rfl) ?_
  intro p e s m below meth c ls S hr hlocks hname hsz C w hl
  have hl : lv_has ls 1 [(0, .ref mO)] := hl
  refine lv_aload_n S.1 S.2.1 dX7_right_0 rfl (lv_at hl 0 rfl) ?_
  refine cs_i (va_runV (As := []) (rest := []) S (c_X7_isThere l G mO mS _ mD mR mT mW mQ mC mU mV mt ma mn my mm mf mg fS) (cwV 0 S.2.2.2.2 gX7_right_X7_isThere rfl rfl rfl (by decide +kernel) ⟨Nat.le_of_ble_eq_true rfl, Nat.le_of_ble_eq_true rfl⟩) ⟨wPre_blind, va_recv C.1 w.1 (ci := 7) (q0 := 0) rfl rfl, wPre_at C w [0, 1] rfl rfl⟩ rfl rfl hl.1 rfl (lv_room (Nat.le_of_ble_eq_true rfl)) dX7_right_1 ⟨Nat.le_of_ble_eq_true rfl, Nat.le_of_ble_eq_true rfl⟩) (fun r1 h1 => ?_)
  refine w_topi (y := 0) (h1.trans hT) ?_
  refine lv_if_ne (tgt := 14) S.1 S.2.1 dX7_right_4 (by decide) (fun c4 => ?_) (fun c4 => ?_)
  · exact absurd c4 (by decide)
  · refine lv_aload_n S.1 S.2.1 dX7_right_7 rfl (lv_at hl 0 rfl) ?_
    refine lv_bipush (v := (-3)) S.1 S.2.1 dX7_right_8 (by decide) ?_
    refine cq_i C w [0, 2] [1] [1, 0, 2] (wr := [(mS, .inl (G.2.1 2, 49, .inl fS))]) (w' := fun u : Unit => [(mO, .inr (7, [.ref mS, .ref mD, .ref mR, .ref mT, .int mt, .int ma, .int mn, .ref mW, .ref mQ, .ref mC, .int my, .ref mU, .ref mV, .int mm, .int mf, .int mg])), (mR, .inl (G.2.1 2, 3, .inl (upd fR 1 (fR 1 + 1))))]) (ws2 := fun u : Unit => [(mO, .inr (7, [.ref mS, .ref mD, .ref mR, .ref mT, .int mt, .int ma, .int mn, .ref mW, .ref mQ, .ref mC, .int my, .ref mU, .ref mV, .int mm, .int mf, .int mg])), (mS, .inl (G.2.1 2, 49, .inl fS)), (mR, .inl (G.2.1 2, 3, .inl (upd fR 1 (fR 1 + 1))))]) rfl rfl rfl (by decide) rfl (fun _ => rfl) (va_runV (As := [.int (-3)]) (rest := []) S (c_X7_refuses_N l G mO mR _ mS mD mT mW mQ mC mU mV mt ma mn my mm mf mg fR) (cwV 1 S.2.2.2.2 gX7_right_X7_refuses rfl rfl rfl (by decide +kernel) ⟨Nat.le_of_ble_eq_true rfl, Nat.le_of_ble_eq_true rfl⟩) ⟨wPre_blind, va_recv C.1 w.1 (ci := 7) (q0 := 0) rfl rfl, wPre_at C w [0, 2] rfl rfl⟩ rfl rfl hl.1 rfl (lv_room (Nat.le_of_ble_eq_true rfl)) dX7_right_10 ⟨Nat.le_of_ble_eq_true rfl, Nat.le_of_ble_eq_true rfl⟩) (fun r10 u10 H locs h10 w => ?_)
    have w : Wd G _ s [(mO, .inr (7, [.ref mS, .ref mD, .ref mR, .ref mT, .int mt, .int ma, .int mn, .ref mW, .ref mQ, .ref mC, .int my, .ref mU, .ref mV, .int mm, .int mf, .int mg])), (mS, .inl (G.2.1 2, 49, .inl fS)), (mR, .inl (G.2.1 2, 3, .inl (upd fR 1 (fR 1 + 1))))] H locs := w
    exact W.iret (v := r10) S.1 S.2.1 hr (fun t ht _ => ⟨⟨r10, (upd fR 1 (fR 1 + 1)), rfl, h10, by rw [ht]; exact w.1, w.2.1⟩, w.2.2.F ht⟩) w.2.2.2.2 dX7_right_13
set_option maxHeartbeats 4000000 in
set_option maxRecDepth 100000 in
theorem n_X7_witness (l : Launch) (G : GT) (mO mS mR : Nat) (sz : Nat) (mD mT mW mQ mC mU mV : Nat) (mt ma mn my mm mf mg : Int32) (fS fR : Nat → Int32)  (hT : thereM fS = 0) : Met l yX7_witness wsX7_witness ({ frames := 1, cells := 0, slots := 0, locals := 21 }) (va_Pc [.ref mO] (wPre G [(mO, .inr (7, [.ref mS, .ref mD, .ref mR, .ref mT, .int mt, .int ma, .int mn, .ref mW, .ref mQ, .ref mC, .int my, .ref mU, .ref mV, .int mm, .int mf, .int mg])), (mS, .inl (G.2.1 2, 49, .inl fS)), (mR, .inl (G.2.1 2, 3, .inl fR))] sz)) (va_Qi (fun (r : Int32) (u : (Nat → Int32)) => r = noneF 1) (bW G (va_A [(mO, .inr (7, [.ref mS, .ref mD, .ref mR, .ref mT, .int mt, .int ma, .int mn, .ref mW, .ref mQ, .ref mC, .int my, .ref mU, .ref mV, .int mm, .int mf, .int mg])), (mS, .inl (G.2.1 2, 49, .inl fS)), (mR, .inl (G.2.1 2, 3, .inl fR))] sz) (fun u : (Nat → Int32) => [(mO, .inr (7, [.ref mS, .ref mD, .ref mR, .ref mT, .int mt, .int ma, .int mn, .ref mW, .ref mQ, .ref mC, .int my, .ref mU, .ref mV, .int mm, .int mf, .int mg])), (mS, .inl (G.2.1 2, 49, .inl fS)), (mR, .inl (G.2.1 2, 3, .inl u))])) (va_A [(mO, .inr (7, [.ref mS, .ref mD, .ref mR, .ref mT, .int mt, .int ma, .int mn, .ref mW, .ref mQ, .ref mC, .int my, .ref mU, .ref mV, .int mm, .int mf, .int mg])), (mS, .inl (G.2.1 2, 49, .inl fS)), (mR, .inl (G.2.1 2, 3, .inl fR))] sz)) 0 0 (va_A [(mO, .inr (7, [.ref mS, .ref mD, .ref mR, .ref mT, .int mt, .int ma, .int mn, .ref mW, .ref mQ, .ref mC, .int my, .ref mU, .ref mV, .int mm, .int mf, .int mg])), (mS, .inl (G.2.1 2, 49, .inl fS)), (mR, .inl (G.2.1 2, 3, .inl fR))] sz) := by
  refine met_go (cc := cX7_witness) (maxL := 3) (ret := (some .int)) (own := RX7) (by decide) rfl rfl (Nat.le_of_ble_eq_true rfl) ?_
  intro p e s m below meth c ls S hr hlocks hname hsz C w hl
  have hl : lv_has ls 3 [(0, .ref mO)] := hl
  refine lv_aload_n S.1 S.2.1 dX7_witness_0 rfl (lv_at hl 0 rfl) ?_
  refine cs_i (va_runV (As := []) (rest := []) S (c_X7_isThere l G mO mS _ mD mR mT mW mQ mC mU mV mt ma mn my mm mf mg fS) (cwV 0 S.2.2.2.2 gX7_witness_X7_isThere rfl rfl rfl (by decide +kernel) ⟨Nat.le_of_ble_eq_true rfl, Nat.le_of_ble_eq_true rfl⟩) ⟨wPre_blind, va_recv C.1 w.1 (ci := 7) (q0 := 0) rfl rfl, wPre_at C w [0, 1] rfl rfl⟩ rfl rfl hl.1 rfl (lv_room (Nat.le_of_ble_eq_true rfl)) dX7_witness_1 ⟨Nat.le_of_ble_eq_true rfl, Nat.le_of_ble_eq_true rfl⟩) (fun r1 h1 => ?_)
  refine w_topi (y := 0) (h1.trans hT) ?_
  refine lv_if_ne (tgt := 14) S.1 S.2.1 dX7_witness_4 (by decide) (fun c4 => ?_) (fun c4 => ?_)
  · exact absurd c4 (by decide)
  · refine lv_aload_n S.1 S.2.1 dX7_witness_7 rfl (lv_at hl 0 rfl) ?_
    refine lv_bipush (v := (-3)) S.1 S.2.1 dX7_witness_8 (by decide) ?_
    refine cq_i C w [0, 2] [1] [1, 0, 2] (wr := [(mS, .inl (G.2.1 2, 49, .inl fS))]) (w' := fun u : Unit => [(mO, .inr (7, [.ref mS, .ref mD, .ref mR, .ref mT, .int mt, .int ma, .int mn, .ref mW, .ref mQ, .ref mC, .int my, .ref mU, .ref mV, .int mm, .int mf, .int mg])), (mR, .inl (G.2.1 2, 3, .inl (upd fR 1 (fR 1 + 1))))]) (ws2 := fun u : Unit => [(mO, .inr (7, [.ref mS, .ref mD, .ref mR, .ref mT, .int mt, .int ma, .int mn, .ref mW, .ref mQ, .ref mC, .int my, .ref mU, .ref mV, .int mm, .int mf, .int mg])), (mS, .inl (G.2.1 2, 49, .inl fS)), (mR, .inl (G.2.1 2, 3, .inl (upd fR 1 (fR 1 + 1))))]) rfl rfl rfl (by decide) rfl (fun _ => rfl) (va_runV (As := [.int (-3)]) (rest := []) S (c_X7_refuses_N l G mO mR _ mS mD mT mW mQ mC mU mV mt ma mn my mm mf mg fR) (cwV 1 S.2.2.2.2 gX7_witness_X7_refuses rfl rfl rfl (by decide +kernel) ⟨Nat.le_of_ble_eq_true rfl, Nat.le_of_ble_eq_true rfl⟩) ⟨wPre_blind, va_recv C.1 w.1 (ci := 7) (q0 := 0) rfl rfl, wPre_at C w [0, 2] rfl rfl⟩ rfl rfl hl.1 rfl (lv_room (Nat.le_of_ble_eq_true rfl)) dX7_witness_10 ⟨Nat.le_of_ble_eq_true rfl, Nat.le_of_ble_eq_true rfl⟩) (fun r10 u10 H locs h10 w => ?_)
    have w : Wd G _ s [(mO, .inr (7, [.ref mS, .ref mD, .ref mR, .ref mT, .int mt, .int ma, .int mn, .ref mW, .ref mQ, .ref mC, .int my, .ref mU, .ref mV, .int mm, .int mf, .int mg])), (mS, .inl (G.2.1 2, 49, .inl fS)), (mR, .inl (G.2.1 2, 3, .inl (upd fR 1 (fR 1 + 1))))] H locs := w
    exact W.iret (v := r10) S.1 S.2.1 hr (fun t ht _ => ⟨⟨r10, (upd fR 1 (fR 1 + 1)), rfl, h10, by rw [ht]; exact w.1, w.2.1⟩, w.2.2.F ht⟩) w.2.2.2.2 dX7_witness_13
set_option maxHeartbeats 4000000 in
set_option maxRecDepth 100000 in
theorem n_X7_terms (l : Launch) (G : GT) (mO mS mR : Nat) (sz : Nat) (mD mT mW mQ mC mU mV : Nat) (mt ma mn my mm mf mg : Int32) (fS fR : Nat → Int32) (i0 : Int32) (hT : thereM fS = 0) : Met l yX7_terms wsX7_terms ({ frames := 2, cells := 0, slots := 0, locals := 43 }) (va_Pc [.ref mO, .int i0] (wPre G [(mO, .inr (7, [.ref mS, .ref mD, .ref mR, .ref mT, .int mt, .int ma, .int mn, .ref mW, .ref mQ, .ref mC, .int my, .ref mU, .ref mV, .int mm, .int mf, .int mg])), (mS, .inl (G.2.1 2, 49, .inl fS)), (mR, .inl (G.2.1 2, 3, .inl fR))] sz)) (va_Qi (fun (r : Int32) (u : (Nat → Int32)) => r = noneF (inF i0 0 12)) (bW G (va_A [(mO, .inr (7, [.ref mS, .ref mD, .ref mR, .ref mT, .int mt, .int ma, .int mn, .ref mW, .ref mQ, .ref mC, .int my, .ref mU, .ref mV, .int mm, .int mf, .int mg])), (mS, .inl (G.2.1 2, 49, .inl fS)), (mR, .inl (G.2.1 2, 3, .inl fR))] sz) (fun u : (Nat → Int32) => [(mO, .inr (7, [.ref mS, .ref mD, .ref mR, .ref mT, .int mt, .int ma, .int mn, .ref mW, .ref mQ, .ref mC, .int my, .ref mU, .ref mV, .int mm, .int mf, .int mg])), (mS, .inl (G.2.1 2, 49, .inl fS)), (mR, .inl (G.2.1 2, 3, .inl u))])) (va_A [(mO, .inr (7, [.ref mS, .ref mD, .ref mR, .ref mT, .int mt, .int ma, .int mn, .ref mW, .ref mQ, .ref mC, .int my, .ref mU, .ref mV, .int mm, .int mf, .int mg])), (mS, .inl (G.2.1 2, 49, .inl fS)), (mR, .inl (G.2.1 2, 3, .inl fR))] sz)) 0 0 (va_A [(mO, .inr (7, [.ref mS, .ref mD, .ref mR, .ref mT, .int mt, .int ma, .int mn, .ref mW, .ref mQ, .ref mC, .int my, .ref mU, .ref mV, .int mm, .int mf, .int mg])), (mS, .inl (G.2.1 2, 49, .inl fS)), (mR, .inl (G.2.1 2, 3, .inl fR))] sz) := by
  refine met_go (cc := cX7_terms) (maxL := 3) (ret := (some .int)) (own := RX7) (by decide) rfl rfl (Nat.le_of_ble_eq_true rfl) ?_
  intro p e s m below meth c ls S hr hlocks hname hsz C w hl
  have hl : lv_has ls 3 [(0, .ref mO), (1, .int i0)] := hl
  refine lv_aload_n S.1 S.2.1 dX7_terms_0 rfl (lv_at hl 0 rfl) ?_
  refine lv_iload_n S.1 S.2.1 dX7_terms_1 rfl (lv_at hl 1 rfl) ?_
  refine cs_i (va_runV (As := [.int i0]) (rest := []) S (n_X7_isStage l G mO mS _ mD mR mT mW mQ mC mU mV mt ma mn my mm mf mg fS i0 (hT)) (cwV 1 S.2.2.2.2 gX7_terms_X7_isStage rfl rfl rfl (by decide +kernel) ⟨Nat.le_of_ble_eq_true rfl, Nat.le_of_ble_eq_true rfl⟩) ⟨wPre_blind, va_recv C.1 w.1 (ci := 7) (q0 := 0) rfl rfl, wPre_at C w [0, 1] rfl rfl⟩ rfl rfl hl.1 rfl (lv_room (Nat.le_of_ble_eq_true rfl)) dX7_terms_2 ⟨Nat.le_of_ble_eq_true rfl, Nat.le_of_ble_eq_true rfl⟩) (fun r2 h2 => ?_)
  refine w_topi (y := (inF i0 0 12)) h2 ?_
  refine lv_istore_n (lv' := [(2, .int (inF i0 0 12)), (0, .ref mO), (1, .int i0)]) S.1 S.2.1 dX7_terms_5 rfl hl (by decide) rfl (fun ls hl => ?_)
  refine lv_iload_n S.1 S.2.1 dX7_terms_6 rfl (lv_at hl 0 rfl) ?_
  refine lv_if_eq (tgt := 17) S.1 S.2.1 dX7_terms_7 (by decide) (fun c7 => ?_) (fun c7 => ?_)
  · refine lv_aload_n S.1 S.2.1 dX7_terms_17 rfl (lv_at hl 1 rfl) ?_
    refine lv_iload_n S.1 S.2.1 dX7_terms_18 rfl (lv_at hl 0 rfl) ?_
    refine cq_i C w [0, 2] [1] [1, 0, 2] (wr := [(mS, .inl (G.2.1 2, 49, .inl fS))]) (w' := fun u : (Nat → Int32) => [(mO, .inr (7, [.ref mS, .ref mD, .ref mR, .ref mT, .int mt, .int ma, .int mn, .ref mW, .ref mQ, .ref mC, .int my, .ref mU, .ref mV, .int mm, .int mf, .int mg])), (mR, .inl (G.2.1 2, 3, .inl u))]) (ws2 := fun u : (Nat → Int32) => [(mO, .inr (7, [.ref mS, .ref mD, .ref mR, .ref mT, .int mt, .int ma, .int mn, .ref mW, .ref mQ, .ref mC, .int my, .ref mU, .ref mV, .int mm, .int mf, .int mg])), (mS, .inl (G.2.1 2, 49, .inl fS)), (mR, .inl (G.2.1 2, 3, .inl u))]) rfl rfl rfl (by decide) rfl (fun _ => rfl) (va_runV (As := [.int (inF i0 0 12)]) (rest := []) S (c_X7_none l G mO mR _ mS mD mT mW mQ mC mU mV mt ma mn my mm mf mg fR (inF i0 0 12)) (cwV 1 S.2.2.2.2 gX7_terms_X7_none rfl rfl rfl (by decide +kernel) ⟨Nat.le_of_ble_eq_true rfl, Nat.le_of_ble_eq_true rfl⟩) ⟨wPre_blind, va_recv C.1 w.1 (ci := 7) (q0 := 0) rfl rfl, wPre_at C w [0, 2] rfl rfl⟩ rfl rfl hl.1 rfl (lv_room (Nat.le_of_ble_eq_true rfl)) dX7_terms_19 ⟨Nat.le_of_ble_eq_true rfl, Nat.le_of_ble_eq_true rfl⟩) (fun r19 u19 H locs h19 w => ?_)
    have w : Wd G _ s [(mO, .inr (7, [.ref mS, .ref mD, .ref mR, .ref mT, .int mt, .int ma, .int mn, .ref mW, .ref mQ, .ref mC, .int my, .ref mU, .ref mV, .int mm, .int mf, .int mg])), (mS, .inl (G.2.1 2, 49, .inl fS)), (mR, .inl (G.2.1 2, 3, .inl u19))] H locs := w
    exact W.iret (v := r19) S.1 S.2.1 hr (fun t ht _ => ⟨⟨r19, u19, rfl, h19, by rw [ht]; exact w.1, w.2.1⟩, w.2.2.F ht⟩) w.2.2.2.2 dX7_terms_22
  · refine lv_aload_n S.1 S.2.1 dX7_terms_10 rfl (lv_at hl 1 rfl) ?_
    refine cs_i (va_runV (As := []) (rest := []) S (c_X7_isThere l G mO mS _ mD mR mT mW mQ mC mU mV mt ma mn my mm mf mg fS) (cwV 0 S.2.2.2.2 gX7_terms_X7_isThere rfl rfl rfl (by decide +kernel) ⟨Nat.le_of_ble_eq_true rfl, Nat.le_of_ble_eq_true rfl⟩) ⟨wPre_blind, va_recv C.1 w.1 (ci := 7) (q0 := 0) rfl rfl, wPre_at C w [0, 1] rfl rfl⟩ rfl rfl hl.1 rfl (lv_room (Nat.le_of_ble_eq_true rfl)) dX7_terms_11 ⟨Nat.le_of_ble_eq_true rfl, Nat.le_of_ble_eq_true rfl⟩) (fun r11 h11 => ?_)
    refine w_topi (y := 0) (h11.trans hT) ?_
    refine lv_if_ne (tgt := 23) S.1 S.2.1 dX7_terms_14 (by decide) (fun c14 => ?_) (fun c14 => ?_)
    · exact absurd c14 (by decide)
    · refine lv_aload_n S.1 S.2.1 dX7_terms_17 rfl (lv_at hl 1 rfl) ?_
      refine lv_iload_n S.1 S.2.1 dX7_terms_18 rfl (lv_at hl 0 rfl) ?_
      refine cq_i C w [0, 2] [1] [1, 0, 2] (wr := [(mS, .inl (G.2.1 2, 49, .inl fS))]) (w' := fun u : (Nat → Int32) => [(mO, .inr (7, [.ref mS, .ref mD, .ref mR, .ref mT, .int mt, .int ma, .int mn, .ref mW, .ref mQ, .ref mC, .int my, .ref mU, .ref mV, .int mm, .int mf, .int mg])), (mR, .inl (G.2.1 2, 3, .inl u))]) (ws2 := fun u : (Nat → Int32) => [(mO, .inr (7, [.ref mS, .ref mD, .ref mR, .ref mT, .int mt, .int ma, .int mn, .ref mW, .ref mQ, .ref mC, .int my, .ref mU, .ref mV, .int mm, .int mf, .int mg])), (mS, .inl (G.2.1 2, 49, .inl fS)), (mR, .inl (G.2.1 2, 3, .inl u))]) rfl rfl rfl (by decide) rfl (fun _ => rfl) (va_runV (As := [.int (inF i0 0 12)]) (rest := []) S (c_X7_none l G mO mR _ mS mD mT mW mQ mC mU mV mt ma mn my mm mf mg fR (inF i0 0 12)) (cwV 1 S.2.2.2.2 gX7_terms_X7_none rfl rfl rfl (by decide +kernel) ⟨Nat.le_of_ble_eq_true rfl, Nat.le_of_ble_eq_true rfl⟩) ⟨wPre_blind, va_recv C.1 w.1 (ci := 7) (q0 := 0) rfl rfl, wPre_at C w [0, 2] rfl rfl⟩ rfl rfl hl.1 rfl (lv_room (Nat.le_of_ble_eq_true rfl)) dX7_terms_19 ⟨Nat.le_of_ble_eq_true rfl, Nat.le_of_ble_eq_true rfl⟩) (fun r19_1 u19_1 H locs h19_1 w => ?_)
      have w : Wd G _ s [(mO, .inr (7, [.ref mS, .ref mD, .ref mR, .ref mT, .int mt, .int ma, .int mn, .ref mW, .ref mQ, .ref mC, .int my, .ref mU, .ref mV, .int mm, .int mf, .int mg])), (mS, .inl (G.2.1 2, 49, .inl fS)), (mR, .inl (G.2.1 2, 3, .inl u19_1))] H locs := w
      exact W.iret (v := r19_1) S.1 S.2.1 hr (fun t ht _ => ⟨⟨r19_1, u19_1, rfl, h19_1, by rw [ht]; exact w.1, w.2.1⟩, w.2.2.F ht⟩) w.2.2.2.2 dX7_terms_22
set_option maxHeartbeats 4000000 in
set_option maxRecDepth 100000 in
theorem n_X7_stands (l : Launch) (G : GT) (mO mS mR : Nat) (sz : Nat) (mD mT mW mQ mC mU mV : Nat) (mt ma mn my mm mf mg : Int32) (fS fR : Nat → Int32) (i0 : Int32) (hT : thereM fS = 0) : Met l yX7_stands wsX7_stands ({ frames := 2, cells := 0, slots := 0, locals := 43 }) (va_Pc [.ref mO, .int i0] (wPre G [(mO, .inr (7, [.ref mS, .ref mD, .ref mR, .ref mT, .int mt, .int ma, .int mn, .ref mW, .ref mQ, .ref mC, .int my, .ref mU, .ref mV, .int mm, .int mf, .int mg])), (mS, .inl (G.2.1 2, 49, .inl fS)), (mR, .inl (G.2.1 2, 3, .inl fR))] sz)) (va_Qi (fun (r : Int32) (u : (Nat → Int32)) => r = noneF (inF i0 0 12)) (bW G (va_A [(mO, .inr (7, [.ref mS, .ref mD, .ref mR, .ref mT, .int mt, .int ma, .int mn, .ref mW, .ref mQ, .ref mC, .int my, .ref mU, .ref mV, .int mm, .int mf, .int mg])), (mS, .inl (G.2.1 2, 49, .inl fS)), (mR, .inl (G.2.1 2, 3, .inl fR))] sz) (fun u : (Nat → Int32) => [(mO, .inr (7, [.ref mS, .ref mD, .ref mR, .ref mT, .int mt, .int ma, .int mn, .ref mW, .ref mQ, .ref mC, .int my, .ref mU, .ref mV, .int mm, .int mf, .int mg])), (mS, .inl (G.2.1 2, 49, .inl fS)), (mR, .inl (G.2.1 2, 3, .inl u))])) (va_A [(mO, .inr (7, [.ref mS, .ref mD, .ref mR, .ref mT, .int mt, .int ma, .int mn, .ref mW, .ref mQ, .ref mC, .int my, .ref mU, .ref mV, .int mm, .int mf, .int mg])), (mS, .inl (G.2.1 2, 49, .inl fS)), (mR, .inl (G.2.1 2, 3, .inl fR))] sz)) 0 0 (va_A [(mO, .inr (7, [.ref mS, .ref mD, .ref mR, .ref mT, .int mt, .int ma, .int mn, .ref mW, .ref mQ, .ref mC, .int my, .ref mU, .ref mV, .int mm, .int mf, .int mg])), (mS, .inl (G.2.1 2, 49, .inl fS)), (mR, .inl (G.2.1 2, 3, .inl fR))] sz) := by
  refine met_go (cc := cX7_stands) (maxL := 5) (ret := (some .int)) (own := RX7) (by decide) rfl rfl (Nat.le_of_ble_eq_true rfl) ?_
  intro p e s m below meth c ls S hr hlocks hname hsz C w hl
  have hl : lv_has ls 5 [(0, .ref mO), (1, .int i0)] := hl
  refine lv_aload_n S.1 S.2.1 dX7_stands_0 rfl (lv_at hl 0 rfl) ?_
  refine lv_iload_n S.1 S.2.1 dX7_stands_1 rfl (lv_at hl 1 rfl) ?_
  refine cs_i (va_runV (As := [.int i0]) (rest := []) S (n_X7_isStage l G mO mS _ mD mR mT mW mQ mC mU mV mt ma mn my mm mf mg fS i0 (hT)) (cwV 1 S.2.2.2.2 gX7_stands_X7_isStage rfl rfl rfl (by decide +kernel) ⟨Nat.le_of_ble_eq_true rfl, Nat.le_of_ble_eq_true rfl⟩) ⟨wPre_blind, va_recv C.1 w.1 (ci := 7) (q0 := 0) rfl rfl, wPre_at C w [0, 1] rfl rfl⟩ rfl rfl hl.1 rfl (lv_room (Nat.le_of_ble_eq_true rfl)) dX7_stands_2 ⟨Nat.le_of_ble_eq_true rfl, Nat.le_of_ble_eq_true rfl⟩) (fun r2 h2 => ?_)
  refine w_topi (y := (inF i0 0 12)) h2 ?_
  refine lv_istore_n (lv' := [(2, .int (inF i0 0 12)), (0, .ref mO), (1, .int i0)]) S.1 S.2.1 dX7_stands_5 rfl hl (by decide) rfl (fun ls hl => ?_)
  refine lv_iload_n S.1 S.2.1 dX7_stands_6 rfl (lv_at hl 0 rfl) ?_
  refine lv_if_eq (tgt := 17) S.1 S.2.1 dX7_stands_7 (by decide) (fun c7 => ?_) (fun c7 => ?_)
  · refine lv_aload_n S.1 S.2.1 dX7_stands_17 rfl (lv_at hl 1 rfl) ?_
    refine lv_iload_n S.1 S.2.1 dX7_stands_18 rfl (lv_at hl 0 rfl) ?_
    refine cq_i C w [0, 2] [1] [1, 0, 2] (wr := [(mS, .inl (G.2.1 2, 49, .inl fS))]) (w' := fun u : (Nat → Int32) => [(mO, .inr (7, [.ref mS, .ref mD, .ref mR, .ref mT, .int mt, .int ma, .int mn, .ref mW, .ref mQ, .ref mC, .int my, .ref mU, .ref mV, .int mm, .int mf, .int mg])), (mR, .inl (G.2.1 2, 3, .inl u))]) (ws2 := fun u : (Nat → Int32) => [(mO, .inr (7, [.ref mS, .ref mD, .ref mR, .ref mT, .int mt, .int ma, .int mn, .ref mW, .ref mQ, .ref mC, .int my, .ref mU, .ref mV, .int mm, .int mf, .int mg])), (mS, .inl (G.2.1 2, 49, .inl fS)), (mR, .inl (G.2.1 2, 3, .inl u))]) rfl rfl rfl (by decide) rfl (fun _ => rfl) (va_runV (As := [.int (inF i0 0 12)]) (rest := []) S (c_X7_none l G mO mR _ mS mD mT mW mQ mC mU mV mt ma mn my mm mf mg fR (inF i0 0 12)) (cwV 1 S.2.2.2.2 gX7_stands_X7_none rfl rfl rfl (by decide +kernel) ⟨Nat.le_of_ble_eq_true rfl, Nat.le_of_ble_eq_true rfl⟩) ⟨wPre_blind, va_recv C.1 w.1 (ci := 7) (q0 := 0) rfl rfl, wPre_at C w [0, 2] rfl rfl⟩ rfl rfl hl.1 rfl (lv_room (Nat.le_of_ble_eq_true rfl)) dX7_stands_19 ⟨Nat.le_of_ble_eq_true rfl, Nat.le_of_ble_eq_true rfl⟩) (fun r19 u19 H locs h19 w => ?_)
    have w : Wd G _ s [(mO, .inr (7, [.ref mS, .ref mD, .ref mR, .ref mT, .int mt, .int ma, .int mn, .ref mW, .ref mQ, .ref mC, .int my, .ref mU, .ref mV, .int mm, .int mf, .int mg])), (mS, .inl (G.2.1 2, 49, .inl fS)), (mR, .inl (G.2.1 2, 3, .inl u19))] H locs := w
    exact W.iret (v := r19) S.1 S.2.1 hr (fun t ht _ => ⟨⟨r19, u19, rfl, h19, by rw [ht]; exact w.1, w.2.1⟩, w.2.2.F ht⟩) w.2.2.2.2 dX7_stands_22
  · refine lv_aload_n S.1 S.2.1 dX7_stands_10 rfl (lv_at hl 1 rfl) ?_
    refine cs_i (va_runV (As := []) (rest := []) S (c_X7_isThere l G mO mS _ mD mR mT mW mQ mC mU mV mt ma mn my mm mf mg fS) (cwV 0 S.2.2.2.2 gX7_stands_X7_isThere rfl rfl rfl (by decide +kernel) ⟨Nat.le_of_ble_eq_true rfl, Nat.le_of_ble_eq_true rfl⟩) ⟨wPre_blind, va_recv C.1 w.1 (ci := 7) (q0 := 0) rfl rfl, wPre_at C w [0, 1] rfl rfl⟩ rfl rfl hl.1 rfl (lv_room (Nat.le_of_ble_eq_true rfl)) dX7_stands_11 ⟨Nat.le_of_ble_eq_true rfl, Nat.le_of_ble_eq_true rfl⟩) (fun r11 h11 => ?_)
    refine w_topi (y := 0) (h11.trans hT) ?_
    refine lv_if_ne (tgt := 23) S.1 S.2.1 dX7_stands_14 (by decide) (fun c14 => ?_) (fun c14 => ?_)
    · exact absurd c14 (by decide)
    · refine lv_aload_n S.1 S.2.1 dX7_stands_17 rfl (lv_at hl 1 rfl) ?_
      refine lv_iload_n S.1 S.2.1 dX7_stands_18 rfl (lv_at hl 0 rfl) ?_
      refine cq_i C w [0, 2] [1] [1, 0, 2] (wr := [(mS, .inl (G.2.1 2, 49, .inl fS))]) (w' := fun u : (Nat → Int32) => [(mO, .inr (7, [.ref mS, .ref mD, .ref mR, .ref mT, .int mt, .int ma, .int mn, .ref mW, .ref mQ, .ref mC, .int my, .ref mU, .ref mV, .int mm, .int mf, .int mg])), (mR, .inl (G.2.1 2, 3, .inl u))]) (ws2 := fun u : (Nat → Int32) => [(mO, .inr (7, [.ref mS, .ref mD, .ref mR, .ref mT, .int mt, .int ma, .int mn, .ref mW, .ref mQ, .ref mC, .int my, .ref mU, .ref mV, .int mm, .int mf, .int mg])), (mS, .inl (G.2.1 2, 49, .inl fS)), (mR, .inl (G.2.1 2, 3, .inl u))]) rfl rfl rfl (by decide) rfl (fun _ => rfl) (va_runV (As := [.int (inF i0 0 12)]) (rest := []) S (c_X7_none l G mO mR _ mS mD mT mW mQ mC mU mV mt ma mn my mm mf mg fR (inF i0 0 12)) (cwV 1 S.2.2.2.2 gX7_stands_X7_none rfl rfl rfl (by decide +kernel) ⟨Nat.le_of_ble_eq_true rfl, Nat.le_of_ble_eq_true rfl⟩) ⟨wPre_blind, va_recv C.1 w.1 (ci := 7) (q0 := 0) rfl rfl, wPre_at C w [0, 2] rfl rfl⟩ rfl rfl hl.1 rfl (lv_room (Nat.le_of_ble_eq_true rfl)) dX7_stands_19 ⟨Nat.le_of_ble_eq_true rfl, Nat.le_of_ble_eq_true rfl⟩) (fun r19_1 u19_1 H locs h19_1 w => ?_)
      have w : Wd G _ s [(mO, .inr (7, [.ref mS, .ref mD, .ref mR, .ref mT, .int mt, .int ma, .int mn, .ref mW, .ref mQ, .ref mC, .int my, .ref mU, .ref mV, .int mm, .int mf, .int mg])), (mS, .inl (G.2.1 2, 49, .inl fS)), (mR, .inl (G.2.1 2, 3, .inl u19_1))] H locs := w
      exact W.iret (v := r19_1) S.1 S.2.1 hr (fun t ht _ => ⟨⟨r19_1, u19_1, rfl, h19_1, by rw [ht]; exact w.1, w.2.1⟩, w.2.2.F ht⟩) w.2.2.2.2 dX7_stands_22
set_option maxHeartbeats 4000000 in
set_option maxRecDepth 100000 in
theorem n_X7_term (l : Launch) (G : GT) (mO mS mR : Nat) (sz : Nat) (mD mT mW mQ mC mU mV : Nat) (mt ma mn my mm mf mg : Int32) (fS fR : Nat → Int32) (i0 j0 k0 : Int32) (hT : thereM fS = 0) : Met l yX7_term wsX7_term ({ frames := 2, cells := 0, slots := 0, locals := 43 }) (va_Pc [.ref mO, .int i0, .int j0, .int k0] (wPre G [(mO, .inr (7, [.ref mS, .ref mD, .ref mR, .ref mT, .int mt, .int ma, .int mn, .ref mW, .ref mQ, .ref mC, .int my, .ref mU, .ref mV, .int mm, .int mf, .int mg])), (mS, .inl (G.2.1 2, 49, .inl fS)), (mR, .inl (G.2.1 2, 3, .inl fR))] sz)) (va_Qi (fun (r : Int32) (u : (Nat → Int32)) => r = noneF (zDear2 (inF i0 0 12) j0 (inF k0 0 1))) (bW G (va_A [(mO, .inr (7, [.ref mS, .ref mD, .ref mR, .ref mT, .int mt, .int ma, .int mn, .ref mW, .ref mQ, .ref mC, .int my, .ref mU, .ref mV, .int mm, .int mf, .int mg])), (mS, .inl (G.2.1 2, 49, .inl fS)), (mR, .inl (G.2.1 2, 3, .inl fR))] sz) (fun u : (Nat → Int32) => [(mO, .inr (7, [.ref mS, .ref mD, .ref mR, .ref mT, .int mt, .int ma, .int mn, .ref mW, .ref mQ, .ref mC, .int my, .ref mU, .ref mV, .int mm, .int mf, .int mg])), (mS, .inl (G.2.1 2, 49, .inl fS)), (mR, .inl (G.2.1 2, 3, .inl u))])) (va_A [(mO, .inr (7, [.ref mS, .ref mD, .ref mR, .ref mT, .int mt, .int ma, .int mn, .ref mW, .ref mQ, .ref mC, .int my, .ref mU, .ref mV, .int mm, .int mf, .int mg])), (mS, .inl (G.2.1 2, 49, .inl fS)), (mR, .inl (G.2.1 2, 3, .inl fR))] sz)) 0 0 (va_A [(mO, .inr (7, [.ref mS, .ref mD, .ref mR, .ref mT, .int mt, .int ma, .int mn, .ref mW, .ref mQ, .ref mC, .int my, .ref mU, .ref mV, .int mm, .int mf, .int mg])), (mS, .inl (G.2.1 2, 49, .inl fS)), (mR, .inl (G.2.1 2, 3, .inl fR))] sz) := by
  refine met_go (cc := cX7_term) (maxL := 5) (ret := (some .int)) (own := RX7) (by decide) rfl rfl (Nat.le_of_ble_eq_true rfl) ?_
  intro p e s m below meth c ls S hr hlocks hname hsz C w hl
  have hl : lv_has ls 5 [(0, .ref mO), (1, .int i0), (2, .int j0), (3, .int k0)] := hl
  refine w_joini 26 [] (fun z26 => z26 = (zDear2 (inF i0 0 12) j0 (inF k0 0 1))) (fun z26 hz26 => ?_) (fun J26 => ?_)
  · refine lv_istore (lv' := [(4, .int z26), (0, .ref mO), (1, .int i0), (2, .int j0), (3, .int k0)]) S.1 S.2.1 dX7_term_26 hl (by decide) rfl (fun ls hl => ?_)
    refine lv_iload S.1 S.2.1 dX7_term_28 (lv_at hl 0 rfl) ?_
    refine lv_if_eq (tgt := 40) S.1 S.2.1 dX7_term_30 (by decide) (fun c30 => ?_) (fun c30 => ?_)
    · refine lv_aload_n S.1 S.2.1 dX7_term_40 rfl (lv_at hl 1 rfl) ?_
      refine lv_iload S.1 S.2.1 dX7_term_41 (lv_at hl 0 rfl) ?_
      refine cq_i C w [0, 2] [1] [1, 0, 2] (wr := [(mS, .inl (G.2.1 2, 49, .inl fS))]) (w' := fun u : (Nat → Int32) => [(mO, .inr (7, [.ref mS, .ref mD, .ref mR, .ref mT, .int mt, .int ma, .int mn, .ref mW, .ref mQ, .ref mC, .int my, .ref mU, .ref mV, .int mm, .int mf, .int mg])), (mR, .inl (G.2.1 2, 3, .inl u))]) (ws2 := fun u : (Nat → Int32) => [(mO, .inr (7, [.ref mS, .ref mD, .ref mR, .ref mT, .int mt, .int ma, .int mn, .ref mW, .ref mQ, .ref mC, .int my, .ref mU, .ref mV, .int mm, .int mf, .int mg])), (mS, .inl (G.2.1 2, 49, .inl fS)), (mR, .inl (G.2.1 2, 3, .inl u))]) rfl rfl rfl (by decide) rfl (fun _ => rfl) (va_runV (As := [.int z26]) (rest := []) S (c_X7_none l G mO mR _ mS mD mT mW mQ mC mU mV mt ma mn my mm mf mg fR z26) (cwV 1 S.2.2.2.2 gX7_term_X7_none rfl rfl rfl (by decide +kernel) ⟨Nat.le_of_ble_eq_true rfl, Nat.le_of_ble_eq_true rfl⟩) ⟨wPre_blind, va_recv C.1 w.1 (ci := 7) (q0 := 0) rfl rfl, wPre_at C w [0, 2] rfl rfl⟩ rfl rfl hl.1 rfl (lv_room (Nat.le_of_ble_eq_true rfl)) dX7_term_43 ⟨Nat.le_of_ble_eq_true rfl, Nat.le_of_ble_eq_true rfl⟩) (fun r43 u43 H locs h43 w => ?_)
      have w : Wd G _ s [(mO, .inr (7, [.ref mS, .ref mD, .ref mR, .ref mT, .int mt, .int ma, .int mn, .ref mW, .ref mQ, .ref mC, .int my, .ref mU, .ref mV, .int mm, .int mf, .int mg])), (mS, .inl (G.2.1 2, 49, .inl fS)), (mR, .inl (G.2.1 2, 3, .inl u43))] H locs := w
      exact W.iret (v := r43) S.1 S.2.1 hr (fun t ht _ => ⟨⟨r43, u43, rfl, by rw [h43]; exact congrArg _ hz26, by rw [ht]; exact w.1, w.2.1⟩, w.2.2.F ht⟩) w.2.2.2.2 dX7_term_46
    · refine lv_aload_n S.1 S.2.1 dX7_term_33 rfl (lv_at hl 1 rfl) ?_
      refine cs_i (va_runV (As := []) (rest := []) S (c_X7_isThere l G mO mS _ mD mR mT mW mQ mC mU mV mt ma mn my mm mf mg fS) (cwV 0 S.2.2.2.2 gX7_term_X7_isThere rfl rfl rfl (by decide +kernel) ⟨Nat.le_of_ble_eq_true rfl, Nat.le_of_ble_eq_true rfl⟩) ⟨wPre_blind, va_recv C.1 w.1 (ci := 7) (q0 := 0) rfl rfl, wPre_at C w [0, 1] rfl rfl⟩ rfl rfl hl.1 rfl (lv_room (Nat.le_of_ble_eq_true rfl)) dX7_term_34 ⟨Nat.le_of_ble_eq_true rfl, Nat.le_of_ble_eq_true rfl⟩) (fun r34 h34 => ?_)
      refine w_topi (y := 0) (h34.trans hT) ?_
      refine lv_if_ne (tgt := 47) S.1 S.2.1 dX7_term_37 (by decide) (fun c37 => ?_) (fun c37 => ?_)
      · exact absurd c37 (by decide)
      · refine lv_aload_n S.1 S.2.1 dX7_term_40 rfl (lv_at hl 1 rfl) ?_
        refine lv_iload S.1 S.2.1 dX7_term_41 (lv_at hl 0 rfl) ?_
        refine cq_i C w [0, 2] [1] [1, 0, 2] (wr := [(mS, .inl (G.2.1 2, 49, .inl fS))]) (w' := fun u : (Nat → Int32) => [(mO, .inr (7, [.ref mS, .ref mD, .ref mR, .ref mT, .int mt, .int ma, .int mn, .ref mW, .ref mQ, .ref mC, .int my, .ref mU, .ref mV, .int mm, .int mf, .int mg])), (mR, .inl (G.2.1 2, 3, .inl u))]) (ws2 := fun u : (Nat → Int32) => [(mO, .inr (7, [.ref mS, .ref mD, .ref mR, .ref mT, .int mt, .int ma, .int mn, .ref mW, .ref mQ, .ref mC, .int my, .ref mU, .ref mV, .int mm, .int mf, .int mg])), (mS, .inl (G.2.1 2, 49, .inl fS)), (mR, .inl (G.2.1 2, 3, .inl u))]) rfl rfl rfl (by decide) rfl (fun _ => rfl) (va_runV (As := [.int z26]) (rest := []) S (c_X7_none l G mO mR _ mS mD mT mW mQ mC mU mV mt ma mn my mm mf mg fR z26) (cwV 1 S.2.2.2.2 gX7_term_X7_none rfl rfl rfl (by decide +kernel) ⟨Nat.le_of_ble_eq_true rfl, Nat.le_of_ble_eq_true rfl⟩) ⟨wPre_blind, va_recv C.1 w.1 (ci := 7) (q0 := 0) rfl rfl, wPre_at C w [0, 2] rfl rfl⟩ rfl rfl hl.1 rfl (lv_room (Nat.le_of_ble_eq_true rfl)) dX7_term_43 ⟨Nat.le_of_ble_eq_true rfl, Nat.le_of_ble_eq_true rfl⟩) (fun r43_1 u43_1 H locs h43_1 w => ?_)
        have w : Wd G _ s [(mO, .inr (7, [.ref mS, .ref mD, .ref mR, .ref mT, .int mt, .int ma, .int mn, .ref mW, .ref mQ, .ref mC, .int my, .ref mU, .ref mV, .int mm, .int mf, .int mg])), (mS, .inl (G.2.1 2, 49, .inl fS)), (mR, .inl (G.2.1 2, 3, .inl u43_1))] H locs := w
        exact W.iret (v := r43_1) S.1 S.2.1 hr (fun t ht _ => ⟨⟨r43_1, u43_1, rfl, by rw [h43_1]; exact congrArg _ hz26, by rw [ht]; exact w.1, w.2.1⟩, w.2.2.F ht⟩) w.2.2.2.2 dX7_term_46
  · refine lv_aload_n S.1 S.2.1 dX7_term_0 rfl (lv_at hl 0 rfl) ?_
    refine lv_iload_n S.1 S.2.1 dX7_term_1 rfl (lv_at hl 1 rfl) ?_
    refine cs_i (va_runV (As := [.int i0]) (rest := []) S (n_X7_isStage l G mO mS _ mD mR mT mW mQ mC mU mV mt ma mn my mm mf mg fS i0 (hT)) (cwV 1 S.2.2.2.2 gX7_term_X7_isStage rfl rfl rfl (by decide +kernel) ⟨Nat.le_of_ble_eq_true rfl, Nat.le_of_ble_eq_true rfl⟩) ⟨wPre_blind, va_recv C.1 w.1 (ci := 7) (q0 := 0) rfl rfl, wPre_at C w [0, 1] rfl rfl⟩ rfl rfl hl.1 rfl (lv_room (Nat.le_of_ble_eq_true rfl)) dX7_term_2 ⟨Nat.le_of_ble_eq_true rfl, Nat.le_of_ble_eq_true rfl⟩) (fun r2 h2 => ?_)
    refine w_topi (y := (inF i0 0 12)) h2 ?_
    refine lv_if_eq (tgt := 25) S.1 S.2.1 dX7_term_5 (by decide) (fun c5 => ?_) (fun c5 => ?_)
    · refine lv_iconst (v := 0) S.1 S.2.1 dX7_term_25 (by decide) ?_
      exact J26 0 (by simp only [zDear2, if_pos c5])
    · refine lv_iload_n S.1 S.2.1 dX7_term_8 rfl (lv_at hl 2 rfl) ?_
      refine lv_if_lt (tgt := 25) S.1 S.2.1 dX7_term_9 (by decide) (fun c9 => ?_) (fun c9 => ?_)
      · refine lv_iconst (v := 0) S.1 S.2.1 dX7_term_25 (by decide) ?_
        exact J26 0 (by simp only [zDear2, if_neg c5, if_pos c9])
      · refine lv_iload_n S.1 S.2.1 dX7_term_12 rfl (lv_at hl 3 rfl) ?_
        refine lv_iconst (v := 0) S.1 S.2.1 dX7_term_13 (by decide) ?_
        refine lv_iconst (v := 1) S.1 S.2.1 dX7_term_14 (by decide) ?_
        refine cs_i (va_runS (As := [.int k0, .int 0, .int 1]) (rest := []) S (c_X7_in l G _ k0 0 1) (cwS 3 S.2.2.2.2 gX7_term_X7_in rfl rfl rfl (by decide +kernel) ⟨Nat.le_of_ble_eq_true rfl, Nat.le_of_ble_eq_true rfl⟩) ⟨wPre_blind, wPre_at C w [] rfl rfl⟩ rfl rfl hl.1 rfl (lv_room (Nat.le_of_ble_eq_true rfl)) dX7_term_15 ⟨Nat.le_of_ble_eq_true rfl, Nat.le_of_ble_eq_true rfl⟩) (fun r15 h15 => ?_)
        refine w_topi (y := (inF k0 0 1)) h15 ?_
        refine lv_if_eq (tgt := 25) S.1 S.2.1 dX7_term_18 (by decide) (fun c18 => ?_) (fun c18 => ?_)
        · refine lv_iconst (v := 0) S.1 S.2.1 dX7_term_25 (by decide) ?_
          exact J26 0 (by simp only [zDear2, if_neg c5, if_neg c9, if_pos c18])
        · refine lv_iconst (v := 1) S.1 S.2.1 dX7_term_21 (by decide) ?_
          refine lv_goto (tgt := 26) S.1 S.2.1 dX7_term_22 (by decide) ?_
          exact J26 1 (by simp only [zDear2, if_neg c5, if_neg c9, if_neg c18])
set_option maxHeartbeats 4000000 in
set_option maxRecDepth 100000 in
theorem n_X7_most (l : Launch) (G : GT) (mO mS mR : Nat) (sz : Nat) (mD mT mW mQ mC mU mV : Nat) (mt ma mn my mm mf mg : Int32) (fS fR : Nat → Int32) (i0 : Int32) (hT : thereM fS = 0) : Met l yX7_most wsX7_most ({ frames := 2, cells := 0, slots := 0, locals := 42 }) (va_Pc [.ref mO, .int i0] (wPre G [(mO, .inr (7, [.ref mS, .ref mD, .ref mR, .ref mT, .int mt, .int ma, .int mn, .ref mW, .ref mQ, .ref mC, .int my, .ref mU, .ref mV, .int mm, .int mf, .int mg])), (mS, .inl (G.2.1 2, 49, .inl fS)), (mR, .inl (G.2.1 2, 3, .inl fR))] sz)) (va_Qi (fun (r : Int32) (u : (Nat → Int32)) => r = noneF (inF i0 0 2)) (bW G (va_A [(mO, .inr (7, [.ref mS, .ref mD, .ref mR, .ref mT, .int mt, .int ma, .int mn, .ref mW, .ref mQ, .ref mC, .int my, .ref mU, .ref mV, .int mm, .int mf, .int mg])), (mS, .inl (G.2.1 2, 49, .inl fS)), (mR, .inl (G.2.1 2, 3, .inl fR))] sz) (fun u : (Nat → Int32) => [(mO, .inr (7, [.ref mS, .ref mD, .ref mR, .ref mT, .int mt, .int ma, .int mn, .ref mW, .ref mQ, .ref mC, .int my, .ref mU, .ref mV, .int mm, .int mf, .int mg])), (mS, .inl (G.2.1 2, 49, .inl fS)), (mR, .inl (G.2.1 2, 3, .inl u))])) (va_A [(mO, .inr (7, [.ref mS, .ref mD, .ref mR, .ref mT, .int mt, .int ma, .int mn, .ref mW, .ref mQ, .ref mC, .int my, .ref mU, .ref mV, .int mm, .int mf, .int mg])), (mS, .inl (G.2.1 2, 49, .inl fS)), (mR, .inl (G.2.1 2, 3, .inl fR))] sz)) 0 0 (va_A [(mO, .inr (7, [.ref mS, .ref mD, .ref mR, .ref mT, .int mt, .int ma, .int mn, .ref mW, .ref mQ, .ref mC, .int my, .ref mU, .ref mV, .int mm, .int mf, .int mg])), (mS, .inl (G.2.1 2, 49, .inl fS)), (mR, .inl (G.2.1 2, 3, .inl fR))] sz) := by
  refine met_go (cc := cX7_most) (maxL := 7) (ret := (some .int)) (own := RX7) (by decide) rfl rfl (Nat.le_of_ble_eq_true rfl) ?_
  intro p e s m below meth c ls S hr hlocks hname hsz C w hl
  have hl : lv_has ls 7 [(0, .ref mO), (1, .int i0)] := hl
  refine lv_iload_n S.1 S.2.1 dX7_most_0 rfl (lv_at hl 1 rfl) ?_
  refine lv_iconst (v := 0) S.1 S.2.1 dX7_most_1 (by decide) ?_
  refine lv_iconst (v := 2) S.1 S.2.1 dX7_most_2 (by decide) ?_
  refine cs_i (va_runS (As := [.int i0, .int 0, .int 2]) (rest := []) S (c_X7_in l G _ i0 0 2) (cwS 3 S.2.2.2.2 gX7_most_X7_in rfl rfl rfl (by decide +kernel) ⟨Nat.le_of_ble_eq_true rfl, Nat.le_of_ble_eq_true rfl⟩) ⟨wPre_blind, wPre_at C w [] rfl rfl⟩ rfl rfl hl.1 rfl (lv_room (Nat.le_of_ble_eq_true rfl)) dX7_most_3 ⟨Nat.le_of_ble_eq_true rfl, Nat.le_of_ble_eq_true rfl⟩) (fun r3 h3 => ?_)
  refine w_topi (y := (inF i0 0 2)) h3 ?_
  refine lv_istore_n (lv' := [(2, .int (inF i0 0 2)), (0, .ref mO), (1, .int i0)]) S.1 S.2.1 dX7_most_6 rfl hl (by decide) rfl (fun ls hl => ?_)
  refine lv_iload_n S.1 S.2.1 dX7_most_7 rfl (lv_at hl 0 rfl) ?_
  refine lv_if_eq (tgt := 18) S.1 S.2.1 dX7_most_8 (by decide) (fun c8 => ?_) (fun c8 => ?_)
  · refine lv_aload_n S.1 S.2.1 dX7_most_18 rfl (lv_at hl 1 rfl) ?_
    refine lv_iload_n S.1 S.2.1 dX7_most_19 rfl (lv_at hl 0 rfl) ?_
    refine cq_i C w [0, 2] [1] [1, 0, 2] (wr := [(mS, .inl (G.2.1 2, 49, .inl fS))]) (w' := fun u : (Nat → Int32) => [(mO, .inr (7, [.ref mS, .ref mD, .ref mR, .ref mT, .int mt, .int ma, .int mn, .ref mW, .ref mQ, .ref mC, .int my, .ref mU, .ref mV, .int mm, .int mf, .int mg])), (mR, .inl (G.2.1 2, 3, .inl u))]) (ws2 := fun u : (Nat → Int32) => [(mO, .inr (7, [.ref mS, .ref mD, .ref mR, .ref mT, .int mt, .int ma, .int mn, .ref mW, .ref mQ, .ref mC, .int my, .ref mU, .ref mV, .int mm, .int mf, .int mg])), (mS, .inl (G.2.1 2, 49, .inl fS)), (mR, .inl (G.2.1 2, 3, .inl u))]) rfl rfl rfl (by decide) rfl (fun _ => rfl) (va_runV (As := [.int (inF i0 0 2)]) (rest := []) S (c_X7_none l G mO mR _ mS mD mT mW mQ mC mU mV mt ma mn my mm mf mg fR (inF i0 0 2)) (cwV 1 S.2.2.2.2 gX7_most_X7_none rfl rfl rfl (by decide +kernel) ⟨Nat.le_of_ble_eq_true rfl, Nat.le_of_ble_eq_true rfl⟩) ⟨wPre_blind, va_recv C.1 w.1 (ci := 7) (q0 := 0) rfl rfl, wPre_at C w [0, 2] rfl rfl⟩ rfl rfl hl.1 rfl (lv_room (Nat.le_of_ble_eq_true rfl)) dX7_most_20 ⟨Nat.le_of_ble_eq_true rfl, Nat.le_of_ble_eq_true rfl⟩) (fun r20 u20 H locs h20 w => ?_)
    have w : Wd G _ s [(mO, .inr (7, [.ref mS, .ref mD, .ref mR, .ref mT, .int mt, .int ma, .int mn, .ref mW, .ref mQ, .ref mC, .int my, .ref mU, .ref mV, .int mm, .int mf, .int mg])), (mS, .inl (G.2.1 2, 49, .inl fS)), (mR, .inl (G.2.1 2, 3, .inl u20))] H locs := w
    exact W.iret (v := r20) S.1 S.2.1 hr (fun t ht _ => ⟨⟨r20, u20, rfl, h20, by rw [ht]; exact w.1, w.2.1⟩, w.2.2.F ht⟩) w.2.2.2.2 dX7_most_23
  · refine lv_aload_n S.1 S.2.1 dX7_most_11 rfl (lv_at hl 1 rfl) ?_
    refine cs_i (va_runV (As := []) (rest := []) S (c_X7_isThere l G mO mS _ mD mR mT mW mQ mC mU mV mt ma mn my mm mf mg fS) (cwV 0 S.2.2.2.2 gX7_most_X7_isThere rfl rfl rfl (by decide +kernel) ⟨Nat.le_of_ble_eq_true rfl, Nat.le_of_ble_eq_true rfl⟩) ⟨wPre_blind, va_recv C.1 w.1 (ci := 7) (q0 := 0) rfl rfl, wPre_at C w [0, 1] rfl rfl⟩ rfl rfl hl.1 rfl (lv_room (Nat.le_of_ble_eq_true rfl)) dX7_most_12 ⟨Nat.le_of_ble_eq_true rfl, Nat.le_of_ble_eq_true rfl⟩) (fun r12 h12 => ?_)
    refine w_topi (y := 0) (h12.trans hT) ?_
    refine lv_if_ne (tgt := 24) S.1 S.2.1 dX7_most_15 (by decide) (fun c15 => ?_) (fun c15 => ?_)
    · exact absurd c15 (by decide)
    · refine lv_aload_n S.1 S.2.1 dX7_most_18 rfl (lv_at hl 1 rfl) ?_
      refine lv_iload_n S.1 S.2.1 dX7_most_19 rfl (lv_at hl 0 rfl) ?_
      refine cq_i C w [0, 2] [1] [1, 0, 2] (wr := [(mS, .inl (G.2.1 2, 49, .inl fS))]) (w' := fun u : (Nat → Int32) => [(mO, .inr (7, [.ref mS, .ref mD, .ref mR, .ref mT, .int mt, .int ma, .int mn, .ref mW, .ref mQ, .ref mC, .int my, .ref mU, .ref mV, .int mm, .int mf, .int mg])), (mR, .inl (G.2.1 2, 3, .inl u))]) (ws2 := fun u : (Nat → Int32) => [(mO, .inr (7, [.ref mS, .ref mD, .ref mR, .ref mT, .int mt, .int ma, .int mn, .ref mW, .ref mQ, .ref mC, .int my, .ref mU, .ref mV, .int mm, .int mf, .int mg])), (mS, .inl (G.2.1 2, 49, .inl fS)), (mR, .inl (G.2.1 2, 3, .inl u))]) rfl rfl rfl (by decide) rfl (fun _ => rfl) (va_runV (As := [.int (inF i0 0 2)]) (rest := []) S (c_X7_none l G mO mR _ mS mD mT mW mQ mC mU mV mt ma mn my mm mf mg fR (inF i0 0 2)) (cwV 1 S.2.2.2.2 gX7_most_X7_none rfl rfl rfl (by decide +kernel) ⟨Nat.le_of_ble_eq_true rfl, Nat.le_of_ble_eq_true rfl⟩) ⟨wPre_blind, va_recv C.1 w.1 (ci := 7) (q0 := 0) rfl rfl, wPre_at C w [0, 2] rfl rfl⟩ rfl rfl hl.1 rfl (lv_room (Nat.le_of_ble_eq_true rfl)) dX7_most_20 ⟨Nat.le_of_ble_eq_true rfl, Nat.le_of_ble_eq_true rfl⟩) (fun r20_1 u20_1 H locs h20_1 w => ?_)
      have w : Wd G _ s [(mO, .inr (7, [.ref mS, .ref mD, .ref mR, .ref mT, .int mt, .int ma, .int mn, .ref mW, .ref mQ, .ref mC, .int my, .ref mU, .ref mV, .int mm, .int mf, .int mg])), (mS, .inl (G.2.1 2, 49, .inl fS)), (mR, .inl (G.2.1 2, 3, .inl u20_1))] H locs := w
      exact W.iret (v := r20_1) S.1 S.2.1 hr (fun t ht _ => ⟨⟨r20_1, u20_1, rfl, h20_1, by rw [ht]; exact w.1, w.2.1⟩, w.2.2.F ht⟩) w.2.2.2.2 dX7_most_23
set_option maxHeartbeats 4000000 in
set_option maxRecDepth 100000 in
theorem n_X7_dearest (l : Launch) (G : GT) (mO mS mR : Nat) (sz : Nat) (mD mT mW mQ mC mU mV : Nat) (mt ma mn my mm mf mg : Int32) (fS fR : Nat → Int32) (i0 j0 : Int32) (hT : thereM fS = 0) : Met l yX7_dearest wsX7_dearest ({ frames := 2, cells := 0, slots := 0, locals := 43 }) (va_Pc [.ref mO, .int i0, .int j0] (wPre G [(mO, .inr (7, [.ref mS, .ref mD, .ref mR, .ref mT, .int mt, .int ma, .int mn, .ref mW, .ref mQ, .ref mC, .int my, .ref mU, .ref mV, .int mm, .int mf, .int mg])), (mS, .inl (G.2.1 2, 49, .inl fS)), (mR, .inl (G.2.1 2, 3, .inl fR))] sz)) (va_Qi (fun (r : Int32) (u : (Nat → Int32)) => r = noneF (zDear (inF i0 0 12) j0)) (bW G (va_A [(mO, .inr (7, [.ref mS, .ref mD, .ref mR, .ref mT, .int mt, .int ma, .int mn, .ref mW, .ref mQ, .ref mC, .int my, .ref mU, .ref mV, .int mm, .int mf, .int mg])), (mS, .inl (G.2.1 2, 49, .inl fS)), (mR, .inl (G.2.1 2, 3, .inl fR))] sz) (fun u : (Nat → Int32) => [(mO, .inr (7, [.ref mS, .ref mD, .ref mR, .ref mT, .int mt, .int ma, .int mn, .ref mW, .ref mQ, .ref mC, .int my, .ref mU, .ref mV, .int mm, .int mf, .int mg])), (mS, .inl (G.2.1 2, 49, .inl fS)), (mR, .inl (G.2.1 2, 3, .inl u))])) (va_A [(mO, .inr (7, [.ref mS, .ref mD, .ref mR, .ref mT, .int mt, .int ma, .int mn, .ref mW, .ref mQ, .ref mC, .int my, .ref mU, .ref mV, .int mm, .int mf, .int mg])), (mS, .inl (G.2.1 2, 49, .inl fS)), (mR, .inl (G.2.1 2, 3, .inl fR))] sz)) 0 0 (va_A [(mO, .inr (7, [.ref mS, .ref mD, .ref mR, .ref mT, .int mt, .int ma, .int mn, .ref mW, .ref mQ, .ref mC, .int my, .ref mU, .ref mV, .int mm, .int mf, .int mg])), (mS, .inl (G.2.1 2, 49, .inl fS)), (mR, .inl (G.2.1 2, 3, .inl fR))] sz) := by
  refine met_go (cc := cX7_dearest) (maxL := 10) (ret := (some .int)) (own := RX7) (by decide) rfl rfl (Nat.le_of_ble_eq_true rfl) ?_
  intro p e s m below meth c ls S hr hlocks hname hsz C w hl
  have hl : lv_has ls 10 [(0, .ref mO), (1, .int i0), (2, .int j0)] := hl
  refine w_joini 17 [] (fun z17 => z17 = (zDear (inF i0 0 12) j0)) (fun z17 hz17 => ?_) (fun J17 => ?_)
  · refine lv_istore_n (lv' := [(3, .int z17), (0, .ref mO), (1, .int i0), (2, .int j0)]) S.1 S.2.1 dX7_dearest_17 rfl hl (by decide) rfl (fun ls hl => ?_)
    refine lv_iload_n S.1 S.2.1 dX7_dearest_18 rfl (lv_at hl 0 rfl) ?_
    refine lv_if_eq (tgt := 29) S.1 S.2.1 dX7_dearest_19 (by decide) (fun c19 => ?_) (fun c19 => ?_)
    · refine lv_aload_n S.1 S.2.1 dX7_dearest_29 rfl (lv_at hl 1 rfl) ?_
      refine lv_iload_n S.1 S.2.1 dX7_dearest_30 rfl (lv_at hl 0 rfl) ?_
      refine cq_i C w [0, 2] [1] [1, 0, 2] (wr := [(mS, .inl (G.2.1 2, 49, .inl fS))]) (w' := fun u : (Nat → Int32) => [(mO, .inr (7, [.ref mS, .ref mD, .ref mR, .ref mT, .int mt, .int ma, .int mn, .ref mW, .ref mQ, .ref mC, .int my, .ref mU, .ref mV, .int mm, .int mf, .int mg])), (mR, .inl (G.2.1 2, 3, .inl u))]) (ws2 := fun u : (Nat → Int32) => [(mO, .inr (7, [.ref mS, .ref mD, .ref mR, .ref mT, .int mt, .int ma, .int mn, .ref mW, .ref mQ, .ref mC, .int my, .ref mU, .ref mV, .int mm, .int mf, .int mg])), (mS, .inl (G.2.1 2, 49, .inl fS)), (mR, .inl (G.2.1 2, 3, .inl u))]) rfl rfl rfl (by decide) rfl (fun _ => rfl) (va_runV (As := [.int z17]) (rest := []) S (c_X7_none l G mO mR _ mS mD mT mW mQ mC mU mV mt ma mn my mm mf mg fR z17) (cwV 1 S.2.2.2.2 gX7_dearest_X7_none rfl rfl rfl (by decide +kernel) ⟨Nat.le_of_ble_eq_true rfl, Nat.le_of_ble_eq_true rfl⟩) ⟨wPre_blind, va_recv C.1 w.1 (ci := 7) (q0 := 0) rfl rfl, wPre_at C w [0, 2] rfl rfl⟩ rfl rfl hl.1 rfl (lv_room (Nat.le_of_ble_eq_true rfl)) dX7_dearest_31 ⟨Nat.le_of_ble_eq_true rfl, Nat.le_of_ble_eq_true rfl⟩) (fun r31 u31 H locs h31 w => ?_)
      have w : Wd G _ s [(mO, .inr (7, [.ref mS, .ref mD, .ref mR, .ref mT, .int mt, .int ma, .int mn, .ref mW, .ref mQ, .ref mC, .int my, .ref mU, .ref mV, .int mm, .int mf, .int mg])), (mS, .inl (G.2.1 2, 49, .inl fS)), (mR, .inl (G.2.1 2, 3, .inl u31))] H locs := w
      exact W.iret (v := r31) S.1 S.2.1 hr (fun t ht _ => ⟨⟨r31, u31, rfl, by rw [h31]; exact congrArg _ hz17, by rw [ht]; exact w.1, w.2.1⟩, w.2.2.F ht⟩) w.2.2.2.2 dX7_dearest_34
    · refine lv_aload_n S.1 S.2.1 dX7_dearest_22 rfl (lv_at hl 1 rfl) ?_
      refine cs_i (va_runV (As := []) (rest := []) S (c_X7_isThere l G mO mS _ mD mR mT mW mQ mC mU mV mt ma mn my mm mf mg fS) (cwV 0 S.2.2.2.2 gX7_dearest_X7_isThere rfl rfl rfl (by decide +kernel) ⟨Nat.le_of_ble_eq_true rfl, Nat.le_of_ble_eq_true rfl⟩) ⟨wPre_blind, va_recv C.1 w.1 (ci := 7) (q0 := 0) rfl rfl, wPre_at C w [0, 1] rfl rfl⟩ rfl rfl hl.1 rfl (lv_room (Nat.le_of_ble_eq_true rfl)) dX7_dearest_23 ⟨Nat.le_of_ble_eq_true rfl, Nat.le_of_ble_eq_true rfl⟩) (fun r23 h23 => ?_)
      refine w_topi (y := 0) (h23.trans hT) ?_
      refine lv_if_ne (tgt := 35) S.1 S.2.1 dX7_dearest_26 (by decide) (fun c26 => ?_) (fun c26 => ?_)
      · exact absurd c26 (by decide)
      · refine lv_aload_n S.1 S.2.1 dX7_dearest_29 rfl (lv_at hl 1 rfl) ?_
        refine lv_iload_n S.1 S.2.1 dX7_dearest_30 rfl (lv_at hl 0 rfl) ?_
        refine cq_i C w [0, 2] [1] [1, 0, 2] (wr := [(mS, .inl (G.2.1 2, 49, .inl fS))]) (w' := fun u : (Nat → Int32) => [(mO, .inr (7, [.ref mS, .ref mD, .ref mR, .ref mT, .int mt, .int ma, .int mn, .ref mW, .ref mQ, .ref mC, .int my, .ref mU, .ref mV, .int mm, .int mf, .int mg])), (mR, .inl (G.2.1 2, 3, .inl u))]) (ws2 := fun u : (Nat → Int32) => [(mO, .inr (7, [.ref mS, .ref mD, .ref mR, .ref mT, .int mt, .int ma, .int mn, .ref mW, .ref mQ, .ref mC, .int my, .ref mU, .ref mV, .int mm, .int mf, .int mg])), (mS, .inl (G.2.1 2, 49, .inl fS)), (mR, .inl (G.2.1 2, 3, .inl u))]) rfl rfl rfl (by decide) rfl (fun _ => rfl) (va_runV (As := [.int z17]) (rest := []) S (c_X7_none l G mO mR _ mS mD mT mW mQ mC mU mV mt ma mn my mm mf mg fR z17) (cwV 1 S.2.2.2.2 gX7_dearest_X7_none rfl rfl rfl (by decide +kernel) ⟨Nat.le_of_ble_eq_true rfl, Nat.le_of_ble_eq_true rfl⟩) ⟨wPre_blind, va_recv C.1 w.1 (ci := 7) (q0 := 0) rfl rfl, wPre_at C w [0, 2] rfl rfl⟩ rfl rfl hl.1 rfl (lv_room (Nat.le_of_ble_eq_true rfl)) dX7_dearest_31 ⟨Nat.le_of_ble_eq_true rfl, Nat.le_of_ble_eq_true rfl⟩) (fun r31_1 u31_1 H locs h31_1 w => ?_)
        have w : Wd G _ s [(mO, .inr (7, [.ref mS, .ref mD, .ref mR, .ref mT, .int mt, .int ma, .int mn, .ref mW, .ref mQ, .ref mC, .int my, .ref mU, .ref mV, .int mm, .int mf, .int mg])), (mS, .inl (G.2.1 2, 49, .inl fS)), (mR, .inl (G.2.1 2, 3, .inl u31_1))] H locs := w
        exact W.iret (v := r31_1) S.1 S.2.1 hr (fun t ht _ => ⟨⟨r31_1, u31_1, rfl, by rw [h31_1]; exact congrArg _ hz17, by rw [ht]; exact w.1, w.2.1⟩, w.2.2.F ht⟩) w.2.2.2.2 dX7_dearest_34
  · refine lv_aload_n S.1 S.2.1 dX7_dearest_0 rfl (lv_at hl 0 rfl) ?_
    refine lv_iload_n S.1 S.2.1 dX7_dearest_1 rfl (lv_at hl 1 rfl) ?_
    refine cs_i (va_runV (As := [.int i0]) (rest := []) S (n_X7_isStage l G mO mS _ mD mR mT mW mQ mC mU mV mt ma mn my mm mf mg fS i0 (hT)) (cwV 1 S.2.2.2.2 gX7_dearest_X7_isStage rfl rfl rfl (by decide +kernel) ⟨Nat.le_of_ble_eq_true rfl, Nat.le_of_ble_eq_true rfl⟩) ⟨wPre_blind, va_recv C.1 w.1 (ci := 7) (q0 := 0) rfl rfl, wPre_at C w [0, 1] rfl rfl⟩ rfl rfl hl.1 rfl (lv_room (Nat.le_of_ble_eq_true rfl)) dX7_dearest_2 ⟨Nat.le_of_ble_eq_true rfl, Nat.le_of_ble_eq_true rfl⟩) (fun r2 h2 => ?_)
    refine w_topi (y := (inF i0 0 12)) h2 ?_
    refine lv_if_eq (tgt := 16) S.1 S.2.1 dX7_dearest_5 (by decide) (fun c5 => ?_) (fun c5 => ?_)
    · refine lv_iconst (v := 0) S.1 S.2.1 dX7_dearest_16 (by decide) ?_
      exact J17 0 (by simp only [zDear, if_pos c5])
    · refine lv_iload_n S.1 S.2.1 dX7_dearest_8 rfl (lv_at hl 2 rfl) ?_
      refine lv_if_lt (tgt := 16) S.1 S.2.1 dX7_dearest_9 (by decide) (fun c9 => ?_) (fun c9 => ?_)
      · refine lv_iconst (v := 0) S.1 S.2.1 dX7_dearest_16 (by decide) ?_
        exact J17 0 (by simp only [zDear, if_neg c5, if_pos c9])
      · refine lv_iconst (v := 1) S.1 S.2.1 dX7_dearest_12 (by decide) ?_
        refine lv_goto (tgt := 17) S.1 S.2.1 dX7_dearest_13 (by decide) ?_
        exact J17 1 (by simp only [zDear, if_neg c5, if_neg c9])
set_option maxHeartbeats 4000000 in
set_option maxRecDepth 100000 in
theorem n_X7_value (l : Launch) (G : GT) (mO mS mR : Nat) (sz : Nat) (mD mT mW mQ mC mU mV : Nat) (mt ma mn my mm mf mg : Int32) (fS fR : Nat → Int32) (i0 j0 : Int32) (hT : thereM fS = 0) : Met l yX7_value wsX7_value ({ frames := 2, cells := 0, slots := 0, locals := 43 }) (va_Pc [.ref mO, .int i0, .int j0] (wPre G [(mO, .inr (7, [.ref mS, .ref mD, .ref mR, .ref mT, .int mt, .int ma, .int mn, .ref mW, .ref mQ, .ref mC, .int my, .ref mU, .ref mV, .int mm, .int mf, .int mg])), (mS, .inl (G.2.1 2, 49, .inl fS)), (mR, .inl (G.2.1 2, 3, .inl fR))] sz)) (va_Qi (fun (r : Int32) (u : (Nat → Int32)) => r = noneF (zAnd (inF i0 0 12) (inF j0 0 63))) (bW G (va_A [(mO, .inr (7, [.ref mS, .ref mD, .ref mR, .ref mT, .int mt, .int ma, .int mn, .ref mW, .ref mQ, .ref mC, .int my, .ref mU, .ref mV, .int mm, .int mf, .int mg])), (mS, .inl (G.2.1 2, 49, .inl fS)), (mR, .inl (G.2.1 2, 3, .inl fR))] sz) (fun u : (Nat → Int32) => [(mO, .inr (7, [.ref mS, .ref mD, .ref mR, .ref mT, .int mt, .int ma, .int mn, .ref mW, .ref mQ, .ref mC, .int my, .ref mU, .ref mV, .int mm, .int mf, .int mg])), (mS, .inl (G.2.1 2, 49, .inl fS)), (mR, .inl (G.2.1 2, 3, .inl u))])) (va_A [(mO, .inr (7, [.ref mS, .ref mD, .ref mR, .ref mT, .int mt, .int ma, .int mn, .ref mW, .ref mQ, .ref mC, .int my, .ref mU, .ref mV, .int mm, .int mf, .int mg])), (mS, .inl (G.2.1 2, 49, .inl fS)), (mR, .inl (G.2.1 2, 3, .inl fR))] sz)) 0 0 (va_A [(mO, .inr (7, [.ref mS, .ref mD, .ref mR, .ref mT, .int mt, .int ma, .int mn, .ref mW, .ref mQ, .ref mC, .int my, .ref mU, .ref mV, .int mm, .int mf, .int mg])), (mS, .inl (G.2.1 2, 49, .inl fS)), (mR, .inl (G.2.1 2, 3, .inl fR))] sz) := by
  refine met_go (cc := cX7_value) (maxL := 8) (ret := (some .int)) (own := RX7) (by decide) rfl rfl (Nat.le_of_ble_eq_true rfl) ?_
  intro p e s m below meth c ls S hr hlocks hname hsz C w hl
  have hl : lv_has ls 8 [(0, .ref mO), (1, .int i0), (2, .int j0)] := hl
  refine w_joini 21 [] (fun z21 => z21 = (zAnd (inF i0 0 12) (inF j0 0 63))) (fun z21 hz21 => ?_) (fun J21 => ?_)
  · refine lv_istore_n (lv' := [(3, .int z21), (0, .ref mO), (1, .int i0), (2, .int j0)]) S.1 S.2.1 dX7_value_21 rfl hl (by decide) rfl (fun ls hl => ?_)
    refine lv_iload_n S.1 S.2.1 dX7_value_22 rfl (lv_at hl 0 rfl) ?_
    refine lv_if_eq (tgt := 33) S.1 S.2.1 dX7_value_23 (by decide) (fun c23 => ?_) (fun c23 => ?_)
    · refine lv_aload_n S.1 S.2.1 dX7_value_33 rfl (lv_at hl 1 rfl) ?_
      refine lv_iload_n S.1 S.2.1 dX7_value_34 rfl (lv_at hl 0 rfl) ?_
      refine cq_i C w [0, 2] [1] [1, 0, 2] (wr := [(mS, .inl (G.2.1 2, 49, .inl fS))]) (w' := fun u : (Nat → Int32) => [(mO, .inr (7, [.ref mS, .ref mD, .ref mR, .ref mT, .int mt, .int ma, .int mn, .ref mW, .ref mQ, .ref mC, .int my, .ref mU, .ref mV, .int mm, .int mf, .int mg])), (mR, .inl (G.2.1 2, 3, .inl u))]) (ws2 := fun u : (Nat → Int32) => [(mO, .inr (7, [.ref mS, .ref mD, .ref mR, .ref mT, .int mt, .int ma, .int mn, .ref mW, .ref mQ, .ref mC, .int my, .ref mU, .ref mV, .int mm, .int mf, .int mg])), (mS, .inl (G.2.1 2, 49, .inl fS)), (mR, .inl (G.2.1 2, 3, .inl u))]) rfl rfl rfl (by decide) rfl (fun _ => rfl) (va_runV (As := [.int z21]) (rest := []) S (c_X7_none l G mO mR _ mS mD mT mW mQ mC mU mV mt ma mn my mm mf mg fR z21) (cwV 1 S.2.2.2.2 gX7_value_X7_none rfl rfl rfl (by decide +kernel) ⟨Nat.le_of_ble_eq_true rfl, Nat.le_of_ble_eq_true rfl⟩) ⟨wPre_blind, va_recv C.1 w.1 (ci := 7) (q0 := 0) rfl rfl, wPre_at C w [0, 2] rfl rfl⟩ rfl rfl hl.1 rfl (lv_room (Nat.le_of_ble_eq_true rfl)) dX7_value_35 ⟨Nat.le_of_ble_eq_true rfl, Nat.le_of_ble_eq_true rfl⟩) (fun r35 u35 H locs h35 w => ?_)
      have w : Wd G _ s [(mO, .inr (7, [.ref mS, .ref mD, .ref mR, .ref mT, .int mt, .int ma, .int mn, .ref mW, .ref mQ, .ref mC, .int my, .ref mU, .ref mV, .int mm, .int mf, .int mg])), (mS, .inl (G.2.1 2, 49, .inl fS)), (mR, .inl (G.2.1 2, 3, .inl u35))] H locs := w
      exact W.iret (v := r35) S.1 S.2.1 hr (fun t ht _ => ⟨⟨r35, u35, rfl, by rw [h35]; exact congrArg _ hz21, by rw [ht]; exact w.1, w.2.1⟩, w.2.2.F ht⟩) w.2.2.2.2 dX7_value_38
    · refine lv_aload_n S.1 S.2.1 dX7_value_26 rfl (lv_at hl 1 rfl) ?_
      refine cs_i (va_runV (As := []) (rest := []) S (c_X7_isThere l G mO mS _ mD mR mT mW mQ mC mU mV mt ma mn my mm mf mg fS) (cwV 0 S.2.2.2.2 gX7_value_X7_isThere rfl rfl rfl (by decide +kernel) ⟨Nat.le_of_ble_eq_true rfl, Nat.le_of_ble_eq_true rfl⟩) ⟨wPre_blind, va_recv C.1 w.1 (ci := 7) (q0 := 0) rfl rfl, wPre_at C w [0, 1] rfl rfl⟩ rfl rfl hl.1 rfl (lv_room (Nat.le_of_ble_eq_true rfl)) dX7_value_27 ⟨Nat.le_of_ble_eq_true rfl, Nat.le_of_ble_eq_true rfl⟩) (fun r27 h27 => ?_)
      refine w_topi (y := 0) (h27.trans hT) ?_
      refine lv_if_ne (tgt := 39) S.1 S.2.1 dX7_value_30 (by decide) (fun c30 => ?_) (fun c30 => ?_)
      · exact absurd c30 (by decide)
      · refine lv_aload_n S.1 S.2.1 dX7_value_33 rfl (lv_at hl 1 rfl) ?_
        refine lv_iload_n S.1 S.2.1 dX7_value_34 rfl (lv_at hl 0 rfl) ?_
        refine cq_i C w [0, 2] [1] [1, 0, 2] (wr := [(mS, .inl (G.2.1 2, 49, .inl fS))]) (w' := fun u : (Nat → Int32) => [(mO, .inr (7, [.ref mS, .ref mD, .ref mR, .ref mT, .int mt, .int ma, .int mn, .ref mW, .ref mQ, .ref mC, .int my, .ref mU, .ref mV, .int mm, .int mf, .int mg])), (mR, .inl (G.2.1 2, 3, .inl u))]) (ws2 := fun u : (Nat → Int32) => [(mO, .inr (7, [.ref mS, .ref mD, .ref mR, .ref mT, .int mt, .int ma, .int mn, .ref mW, .ref mQ, .ref mC, .int my, .ref mU, .ref mV, .int mm, .int mf, .int mg])), (mS, .inl (G.2.1 2, 49, .inl fS)), (mR, .inl (G.2.1 2, 3, .inl u))]) rfl rfl rfl (by decide) rfl (fun _ => rfl) (va_runV (As := [.int z21]) (rest := []) S (c_X7_none l G mO mR _ mS mD mT mW mQ mC mU mV mt ma mn my mm mf mg fR z21) (cwV 1 S.2.2.2.2 gX7_value_X7_none rfl rfl rfl (by decide +kernel) ⟨Nat.le_of_ble_eq_true rfl, Nat.le_of_ble_eq_true rfl⟩) ⟨wPre_blind, va_recv C.1 w.1 (ci := 7) (q0 := 0) rfl rfl, wPre_at C w [0, 2] rfl rfl⟩ rfl rfl hl.1 rfl (lv_room (Nat.le_of_ble_eq_true rfl)) dX7_value_35 ⟨Nat.le_of_ble_eq_true rfl, Nat.le_of_ble_eq_true rfl⟩) (fun r35_1 u35_1 H locs h35_1 w => ?_)
        have w : Wd G _ s [(mO, .inr (7, [.ref mS, .ref mD, .ref mR, .ref mT, .int mt, .int ma, .int mn, .ref mW, .ref mQ, .ref mC, .int my, .ref mU, .ref mV, .int mm, .int mf, .int mg])), (mS, .inl (G.2.1 2, 49, .inl fS)), (mR, .inl (G.2.1 2, 3, .inl u35_1))] H locs := w
        exact W.iret (v := r35_1) S.1 S.2.1 hr (fun t ht _ => ⟨⟨r35_1, u35_1, rfl, by rw [h35_1]; exact congrArg _ hz21, by rw [ht]; exact w.1, w.2.1⟩, w.2.2.F ht⟩) w.2.2.2.2 dX7_value_38
  · refine lv_aload_n S.1 S.2.1 dX7_value_0 rfl (lv_at hl 0 rfl) ?_
    refine lv_iload_n S.1 S.2.1 dX7_value_1 rfl (lv_at hl 1 rfl) ?_
    refine cs_i (va_runV (As := [.int i0]) (rest := []) S (n_X7_isStage l G mO mS _ mD mR mT mW mQ mC mU mV mt ma mn my mm mf mg fS i0 (hT)) (cwV 1 S.2.2.2.2 gX7_value_X7_isStage rfl rfl rfl (by decide +kernel) ⟨Nat.le_of_ble_eq_true rfl, Nat.le_of_ble_eq_true rfl⟩) ⟨wPre_blind, va_recv C.1 w.1 (ci := 7) (q0 := 0) rfl rfl, wPre_at C w [0, 1] rfl rfl⟩ rfl rfl hl.1 rfl (lv_room (Nat.le_of_ble_eq_true rfl)) dX7_value_2 ⟨Nat.le_of_ble_eq_true rfl, Nat.le_of_ble_eq_true rfl⟩) (fun r2 h2 => ?_)
    refine w_topi (y := (inF i0 0 12)) h2 ?_
    refine lv_if_eq (tgt := 20) S.1 S.2.1 dX7_value_5 (by decide) (fun c5 => ?_) (fun c5 => ?_)
    · refine lv_iconst (v := 0) S.1 S.2.1 dX7_value_20 (by decide) ?_
      exact J21 0 (by simp only [zAnd, if_pos c5])
    · refine lv_aload_n S.1 S.2.1 dX7_value_8 rfl (lv_at hl 0 rfl) ?_
      refine lv_iload_n S.1 S.2.1 dX7_value_9 rfl (lv_at hl 2 rfl) ?_
      refine cs_i (va_runV (As := [.int j0]) (rest := []) S (n_X7_isInput l G mO mS _ mD mR mT mW mQ mC mU mV mt ma mn my mm mf mg fS j0 (hT)) (cwV 1 S.2.2.2.2 gX7_value_X7_isInput rfl rfl rfl (by decide +kernel) ⟨Nat.le_of_ble_eq_true rfl, Nat.le_of_ble_eq_true rfl⟩) ⟨wPre_blind, va_recv C.1 w.1 (ci := 7) (q0 := 0) rfl rfl, wPre_at C w [0, 1] rfl rfl⟩ rfl rfl hl.1 rfl (lv_room (Nat.le_of_ble_eq_true rfl)) dX7_value_10 ⟨Nat.le_of_ble_eq_true rfl, Nat.le_of_ble_eq_true rfl⟩) (fun r10 h10 => ?_)
      refine w_topi (y := (inF j0 0 63)) h10 ?_
      refine lv_if_eq (tgt := 20) S.1 S.2.1 dX7_value_13 (by decide) (fun c13 => ?_) (fun c13 => ?_)
      · refine lv_iconst (v := 0) S.1 S.2.1 dX7_value_20 (by decide) ?_
        exact J21 0 (by simp only [zAnd, if_neg c5, if_pos c13])
      · refine lv_iconst (v := 1) S.1 S.2.1 dX7_value_16 (by decide) ?_
        refine lv_goto (tgt := 21) S.1 S.2.1 dX7_value_17 (by decide) ?_
        exact J21 1 (by simp only [zAnd, if_neg c5, if_neg c13])
