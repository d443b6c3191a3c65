set_option maxHeartbeats 4000000 in
set_option maxRecDepth 100000 in
theorem c_X7_in (l : Launch) (G : GT) (sz : Nat) (i0 lo hi : Int32) : Met l yX7_in wsX7_in ({ frames := 0, cells := 0, slots := 0, locals := 0 }) (va_Pc [.int i0, .int lo, .int hi] (wPre G [] sz)) (vp_Si (fun r : Int32 => r = (inF i0 lo hi))) 0 0 (fun _ => False) := by
  refine met_go (cc := cX7_in) (maxL := 3) (ret := (some .boolean)) (own := RX7) (by decide) rfl rfl (Nat.le_of_ble_eq_true rfl) ?_
  intro p e s m below meth c ls S hr hlocks hname hsz C w hl
  have hl : lv_has ls 3 [(0, .int i0), (1, .int lo), (2, .int hi)] := hl
  refine lv_iload_n S.1 S.2.1 dX7_in_0 rfl (lv_at hl 0 rfl) ?_
  refine lv_iload_n S.1 S.2.1 dX7_in_1 rfl (lv_at hl 1 rfl) ?_
  refine lv_icmp_lt (tgt := 14) S.1 S.2.1 dX7_in_2 (by decide) (fun c2 => ?_) (fun c2 => ?_)
  · refine lv_iconst (v := 0) S.1 S.2.1 dX7_in_14 (by decide) ?_
    exact W.zret (v := 0) S.1 S.2.1 hr (rfl) (fun t ht _ => ⟨0, rfl, by simp only [inF, if_pos c2], ht⟩) (fun q h => absurd h List.not_mem_nil) dX7_in_15
  · refine lv_iload_n S.1 S.2.1 dX7_in_5 rfl (lv_at hl 0 rfl) ?_
    refine lv_iload_n S.1 S.2.1 dX7_in_6 rfl (lv_at hl 2 rfl) ?_
    refine lv_icmp_gt (tgt := 14) S.1 S.2.1 dX7_in_7 (by decide) (fun c7 => ?_) (fun c7 => ?_)
    · refine lv_iconst (v := 0) S.1 S.2.1 dX7_in_14 (by decide) ?_
      exact W.zret (v := 0) S.1 S.2.1 hr (rfl) (fun t ht _ => ⟨0, rfl, by simp only [inF, if_neg c2, if_pos c7], ht⟩) (fun q h => absurd h List.not_mem_nil) dX7_in_15
    · refine lv_iconst (v := 1) S.1 S.2.1 dX7_in_10 (by decide) ?_
      refine lv_goto (tgt := 15) S.1 S.2.1 dX7_in_11 (by decide) ?_
      exact W.zret (v := 1) S.1 S.2.1 hr (rfl) (fun t ht _ => ⟨1, rfl, by simp only [inF, if_neg c2, if_neg c7], ht⟩) (fun q h => absurd h List.not_mem_nil) dX7_in_15
theorem im_X7_refuses_X7 : ∀ w ∈ u_ws RX7 TX7 16, w ∈ wsX7_refuses := by decide +kernel
set_option maxHeartbeats 4000000 in
set_option maxRecDepth 100000 in
theorem c_X7_refuses_B (l : Launch) (G : GT) (mO mR : Nat) (sz : Nat) (mS mD mT mW mQ mC mU mV : Nat) (mt ma mn my mm mf mg : Int32) (fR : Nat → Int32) : Met l yX7_refuses wsX7_refuses ({ frames := 0, cells := 0, slots := 0, locals := 0 }) (va_Pc [.ref mO, .int (-2)] (wPre G [(mO, .inr (7, [.ref mS, .ref mD, .ref mR, .ref mT, .int mt, .int ma, .int mn, .ref mW, .ref mQ, .ref mC, .int my, .ref mU, .ref mV, .int mm, .int mf, .int mg])), (mR, .inl (G.2.1 2, 3, .inl fR))] sz)) (va_Qi (fun (r : Int32) (u : Unit) => r = (-2)) (bW G (va_A [(mO, .inr (7, [.ref mS, .ref mD, .ref mR, .ref mT, .int mt, .int ma, .int mn, .ref mW, .ref mQ, .ref mC, .int my, .ref mU, .ref mV, .int mm, .int mf, .int mg])), (mR, .inl (G.2.1 2, 3, .inl fR))] sz) (fun u : Unit => [(mO, .inr (7, [.ref mS, .ref mD, .ref mR, .ref mT, .int mt, .int ma, .int mn, .ref mW, .ref mQ, .ref mC, .int my, .ref mU, .ref mV, .int mm, .int mf, .int mg])), (mR, .inl (G.2.1 2, 3, .inl (upd fR 0 (fR 0 + 1))))])) (va_A [(mO, .inr (7, [.ref mS, .ref mD, .ref mR, .ref mT, .int mt, .int ma, .int mn, .ref mW, .ref mQ, .ref mC, .int my, .ref mU, .ref mV, .int mm, .int mf, .int mg])), (mR, .inl (G.2.1 2, 3, .inl fR))] sz)) 0 0 (va_A [(mO, .inr (7, [.ref mS, .ref mD, .ref mR, .ref mT, .int mt, .int ma, .int mn, .ref mW, .ref mQ, .ref mC, .int my, .ref mU, .ref mV, .int mm, .int mf, .int mg])), (mR, .inl (G.2.1 2, 3, .inl fR))] sz) := by
  refine met_go (cc := cX7_refuses) (maxL := 2) (ret := (some .int)) (own := RX7) (by decide) rfl rfl (Nat.le_of_ble_eq_true rfl) ?_
  intro p e s m below meth c ls S hr hlocks hname hsz C w hl
  have hl : lv_has ls 2 [(0, .ref mO), (1, .int (-2))] := hl
  refine lv_aload_n S.1 S.2.1 dX7_refuses_0 rfl (lv_at hl 0 rfl) ?_
  refine w_get S C w (CC := RX7) (T := TX7) (N := 16) (ref := "GateSumsModel") im_X7_refuses_X7 0 rfl rfl 2 (by decide) (List.mem_of_getElem? (i := 1) rfl) (fun _ h => h) rfl dX7_refuses_1 ?_
  refine lv_bipush (v := (-2)) S.1 S.2.1 dX7_refuses_4 (by decide) ?_
  refine lv_iload_n S.1 S.2.1 dX7_refuses_6 rfl (lv_at hl 1 rfl) ?_
  refine lv_isub S.1 S.2.1 dX7_refuses_7 ?_
  refine w_topi (y := 0) (by decide) ?_
  refine lv_dup2_11 S.1 S.2.1 dX7_refuses_8 rfl rfl ?_
  refine w_iald S C w 1 rfl (by unfold vp_in; decide) dX7_refuses_9 ?_
  refine lv_iconst (v := 1) S.1 S.2.1 dX7_refuses_10 (by decide) ?_
  refine lv_iadd S.1 S.2.1 dX7_refuses_11 ?_
  refine w_iast S C w 1 rfl (by unfold vp_in; decide) (ws2 := [(mO, .inr (7, [.ref mS, .ref mD, .ref mR, .ref mT, .int mt, .int ma, .int mn, .ref mW, .ref mQ, .ref mC, .int my, .ref mU, .ref mV, .int mm, .int mf, .int mg])), (mR, .inl (G.2.1 2, 3, .inl (upd fR (0 : Int32).toNatClampNeg ((fR (0 : Int32).toNatClampNeg) + 1))))]) rfl dX7_refuses_12 (fun H locs w => ?_)
  refine lv_iload_n S.1 S.2.1 dX7_refuses_13 rfl (lv_at hl 1 rfl) ?_
  have w : Wd G (va_A [(mO, .inr (7, [.ref mS, .ref mD, .ref mR, .ref mT, .int mt, .int ma, .int mn, .ref mW, .ref mQ, .ref mC, .int my, .ref mU, .ref mV, .int mm, .int mf, .int mg])), (mR, .inl (G.2.1 2, 3, .inl fR))] sz) s [(mO, .inr (7, [.ref mS, .ref mD, .ref mR, .ref mT, .int mt, .int ma, .int mn, .ref mW, .ref mQ, .ref mC, .int my, .ref mU, .ref mV, .int mm, .int mf, .int mg])), (mR, .inl (G.2.1 2, 3, .inl (upd fR 0 (fR 0 + 1))))] H locs := w
  exact W.iret (v := (-2)) S.1 S.2.1 hr (fun t ht _ => ⟨⟨(-2), (), rfl, rfl, by rw [ht]; exact w.1, w.2.1⟩, w.2.2.F ht⟩) w.2.2.2.2 dX7_refuses_14
set_option maxHeartbeats 4000000 in
set_option maxRecDepth 100000 in
theorem c_X7_refuses_N (l : Launch) (G : GT) (mO mR : Nat) (sz : Nat) (mS mD mT mW mQ mC mU mV : Nat) (mt ma mn my mm mf mg : Int32) (fR : Nat → Int32) : Met l yX7_refuses wsX7_refuses ({ frames := 0, cells := 0, slots := 0, locals := 0 }) (va_Pc [.ref mO, .int (-3)] (wPre G [(mO, .inr (7, [.ref mS, .ref mD, .ref mR, .ref mT, .int mt, .int ma, .int mn, .ref mW, .ref mQ, .ref mC, .int my, .ref mU, .ref mV, .int mm, .int mf, .int mg])), (mR, .inl (G.2.1 2, 3, .inl fR))] sz)) (va_Qi (fun (r : Int32) (u : Unit) => r = (-3)) (bW G (va_A [(mO, .inr (7, [.ref mS, .ref mD, .ref mR, .ref mT, .int mt, .int ma, .int mn, .ref mW, .ref mQ, .ref mC, .int my, .ref mU, .ref mV, .int mm, .int mf, .int mg])), (mR, .inl (G.2.1 2, 3, .inl fR))] sz) (fun u : Unit => [(mO, .inr (7, [.ref mS, .ref mD, .ref mR, .ref mT, .int mt, .int ma, .int mn, .ref mW, .ref mQ, .ref mC, .int my, .ref mU, .ref mV, .int mm, .int mf, .int mg])), (mR, .inl (G.2.1 2, 3, .inl (upd fR 1 (fR 1 + 1))))])) (va_A [(mO, .inr (7, [.ref mS, .ref mD, .ref mR, .ref mT, .int mt, .int ma, .int mn, .ref mW, .ref mQ, .ref mC, .int my, .ref mU, .ref mV, .int mm, .int mf, .int mg])), (mR, .inl (G.2.1 2, 3, .inl fR))] sz)) 0 0 (va_A [(mO, .inr (7, [.ref mS, .ref mD, .ref mR, .ref mT, .int mt, .int ma, .int mn, .ref mW, .ref mQ, .ref mC, .int my, .ref mU, .ref mV, .int mm, .int mf, .int mg])), (mR, .inl (G.2.1 2, 3, .inl fR))] sz) := by
  refine met_go (cc := cX7_refuses) (maxL := 2) (ret := (some .int)) (own := RX7) (by decide) rfl rfl (Nat.le_of_ble_eq_true rfl) ?_
  intro p e s m below meth c ls S hr hlocks hname hsz C w hl
  have hl : lv_has ls 2 [(0, .ref mO), (1, .int (-3))] := hl
  refine lv_aload_n S.1 S.2.1 dX7_refuses_0 rfl (lv_at hl 0 rfl) ?_
  refine w_get S C w (CC := RX7) (T := TX7) (N := 16) (ref := "GateSumsModel") im_X7_refuses_X7 0 rfl rfl 2 (by decide) (List.mem_of_getElem? (i := 1) rfl) (fun _ h => h) rfl dX7_refuses_1 ?_
  refine lv_bipush (v := (-2)) S.1 S.2.1 dX7_refuses_4 (by decide) ?_
  refine lv_iload_n S.1 S.2.1 dX7_refuses_6 rfl (lv_at hl 1 rfl) ?_
  refine lv_isub S.1 S.2.1 dX7_refuses_7 ?_
  refine w_topi (y := 1) (by decide) ?_
  refine lv_dup2_11 S.1 S.2.1 dX7_refuses_8 rfl rfl ?_
  refine w_iald S C w 1 rfl (by unfold vp_in; decide) dX7_refuses_9 ?_
  refine lv_iconst (v := 1) S.1 S.2.1 dX7_refuses_10 (by decide) ?_
  refine lv_iadd S.1 S.2.1 dX7_refuses_11 ?_
  refine w_iast S C w 1 rfl (by unfold vp_in; decide) (ws2 := [(mO, .inr (7, [.ref mS, .ref mD, .ref mR, .ref mT, .int mt, .int ma, .int mn, .ref mW, .ref mQ, .ref mC, .int my, .ref mU, .ref mV, .int mm, .int mf, .int mg])), (mR, .inl (G.2.1 2, 3, .inl (upd fR (1 : Int32).toNatClampNeg ((fR (1 : Int32).toNatClampNeg) + 1))))]) rfl dX7_refuses_12 (fun H locs w => ?_)
  refine lv_iload_n S.1 S.2.1 dX7_refuses_13 rfl (lv_at hl 1 rfl) ?_
  have w : Wd G (va_A [(mO, .inr (7, [.ref mS, .ref mD, .ref mR, .ref mT, .int mt, .int ma, .int mn, .ref mW, .ref mQ, .ref mC, .int my, .ref mU, .ref mV, .int mm, .int mf, .int mg])), (mR, .inl (G.2.1 2, 3, .inl fR))] sz) s [(mO, .inr (7, [.ref mS, .ref mD, .ref mR, .ref mT, .int mt, .int ma, .int mn, .ref mW, .ref mQ, .ref mC, .int my, .ref mU, .ref mV, .int mm, .int mf, .int mg])), (mR, .inl (G.2.1 2, 3, .inl (upd fR 1 (fR 1 + 1))))] H locs := w
  exact W.iret (v := (-3)) S.1 S.2.1 hr (fun t ht _ => ⟨⟨(-3), (), rfl, rfl, by rw [ht]; exact w.1, w.2.1⟩, w.2.2.F ht⟩) w.2.2.2.2 dX7_refuses_14
set_option maxHeartbeats 4000000 in
set_option maxRecDepth 100000 in
theorem c_X7_refuses_F (l : Launch) (G : GT) (mO mR : Nat) (sz : Nat) (mS mD mT mW mQ mC mU mV : Nat) (mt ma mn my mm mf mg : Int32) (fR : Nat → Int32) : Met l yX7_refuses wsX7_refuses ({ frames := 0, cells := 0, slots := 0, locals := 0 }) (va_Pc [.ref mO, .int (-4)] (wPre G [(mO, .inr (7, [.ref mS, .ref mD, .ref mR, .ref mT, .int mt, .int ma, .int mn, .ref mW, .ref mQ, .ref mC, .int my, .ref mU, .ref mV, .int mm, .int mf, .int mg])), (mR, .inl (G.2.1 2, 3, .inl fR))] sz)) (va_Qi (fun (r : Int32) (u : Unit) => r = (-4)) (bW G (va_A [(mO, .inr (7, [.ref mS, .ref mD, .ref mR, .ref mT, .int mt, .int ma, .int mn, .ref mW, .ref mQ, .ref mC, .int my, .ref mU, .ref mV, .int mm, .int mf, .int mg])), (mR, .inl (G.2.1 2, 3, .inl fR))] sz) (fun u : Unit => [(mO, .inr (7, [.ref mS, .ref mD, .ref mR, .ref mT, .int mt, .int ma, .int mn, .ref mW, .ref mQ, .ref mC, .int my, .ref mU, .ref mV, .int mm, .int mf, .int mg])), (mR, .inl (G.2.1 2, 3, .inl (upd fR 2 (fR 2 + 1))))])) (va_A [(mO, .inr (7, [.ref mS, .ref mD, .ref mR, .ref mT, .int mt, .int ma, .int mn, .ref mW, .ref mQ, .ref mC, .int my, .ref mU, .ref mV, .int mm, .int mf, .int mg])), (mR, .inl (G.2.1 2, 3, .inl fR))] sz)) 0 0 (va_A [(mO, .inr (7, [.ref mS, .ref mD, .ref mR, .ref mT, .int mt, .int ma, .int mn, .ref mW, .ref mQ, .ref mC, .int my, .ref mU, .ref mV, .int mm, .int mf, .int mg])), (mR, .inl (G.2.1 2, 3, .inl fR))] sz) := by
  refine met_go (cc := cX7_refuses) (maxL := 2) (ret := (some .int)) (own := RX7) (by decide) rfl rfl (Nat.le_of_ble_eq_true rfl) ?_
  intro p e s m below meth c ls S hr hlocks hname hsz C w hl
  have hl : lv_has ls 2 [(0, .ref mO), (1, .int (-4))] := hl
  refine lv_aload_n S.1 S.2.1 dX7_refuses_0 rfl (lv_at hl 0 rfl) ?_
  refine w_get S C w (CC := RX7) (T := TX7) (N := 16) (ref := "GateSumsModel") im_X7_refuses_X7 0 rfl rfl 2 (by decide) (List.mem_of_getElem? (i := 1) rfl) (fun _ h => h) rfl dX7_refuses_1 ?_
  refine lv_bipush (v := (-2)) S.1 S.2.1 dX7_refuses_4 (by decide) ?_
  refine lv_iload_n S.1 S.2.1 dX7_refuses_6 rfl (lv_at hl 1 rfl) ?_
  refine lv_isub S.1 S.2.1 dX7_refuses_7 ?_
  refine w_topi (y := 2) (by decide) ?_
  refine lv_dup2_11 S.1 S.2.1 dX7_refuses_8 rfl rfl ?_
  refine w_iald S C w 1 rfl (by unfold vp_in; decide) dX7_refuses_9 ?_
  refine lv_iconst (v := 1) S.1 S.2.1 dX7_refuses_10 (by decide) ?_
  refine lv_iadd S.1 S.2.1 dX7_refuses_11 ?_
  refine w_iast S C w 1 rfl (by unfold vp_in; decide) (ws2 := [(mO, .inr (7, [.ref mS, .ref mD, .ref mR, .ref mT, .int mt, .int ma, .int mn, .ref mW, .ref mQ, .ref mC, .int my, .ref mU, .ref mV, .int mm, .int mf, .int mg])), (mR, .inl (G.2.1 2, 3, .inl (upd fR (2 : Int32).toNatClampNeg ((fR (2 : Int32).toNatClampNeg) + 1))))]) rfl dX7_refuses_12 (fun H locs w => ?_)
  refine lv_iload_n S.1 S.2.1 dX7_refuses_13 rfl (lv_at hl 1 rfl) ?_
  have w : Wd G (va_A [(mO, .inr (7, [.ref mS, .ref mD, .ref mR, .ref mT, .int mt, .int ma, .int mn, .ref mW, .ref mQ, .ref mC, .int my, .ref mU, .ref mV, .int mm, .int mf, .int mg])), (mR, .inl (G.2.1 2, 3, .inl fR))] sz) s [(mO, .inr (7, [.ref mS, .ref mD, .ref mR, .ref mT, .int mt, .int ma, .int mn, .ref mW, .ref mQ, .ref mC, .int my, .ref mU, .ref mV, .int mm, .int mf, .int mg])), (mR, .inl (G.2.1 2, 3, .inl (upd fR 2 (fR 2 + 1))))] H locs := w
  exact W.iret (v := (-4)) S.1 S.2.1 hr (fun t ht _ => ⟨⟨(-4), (), rfl, rfl, by rw [ht]; exact w.1, w.2.1⟩, w.2.2.F ht⟩) w.2.2.2.2 dX7_refuses_14
set_option maxHeartbeats 4000000 in
set_option maxRecDepth 100000 in
theorem c_X7_none (l : Launch) (G : GT) (mO mR : Nat) (sz : Nat) (mS mD mT mW mQ mC mU mV : Nat) (mt ma mn my mm mf mg : Int32) (fR : Nat → Int32) (z0 : Int32) : Met l yX7_none wsX7_none ({ frames := 1, cells := 0, slots := 0, locals := 21 }) (va_Pc [.ref mO, .int z0] (wPre G [(mO, .inr (7, [.ref mS, .ref mD, .ref mR, .ref mT, .int mt, .int ma, .int mn, .ref mW, .ref mQ, .ref mC, .int my, .ref mU, .ref mV, .int mm, .int mf, .int mg])), (mR, .inl (G.2.1 2, 3, .inl fR))] sz)) (va_Qi (fun (r : Int32) (u : (Nat → Int32)) => r = noneF z0) (bW G (va_A [(mO, .inr (7, [.ref mS, .ref mD, .ref mR, .ref mT, .int mt, .int ma, .int mn, .ref mW, .ref mQ, .ref mC, .int my, .ref mU, .ref mV, .int mm, .int mf, .int mg])), (mR, .inl (G.2.1 2, 3, .inl fR))] sz) (fun u : (Nat → Int32) => [(mO, .inr (7, [.ref mS, .ref mD, .ref mR, .ref mT, .int mt, .int ma, .int mn, .ref mW, .ref mQ, .ref mC, .int my, .ref mU, .ref mV, .int mm, .int mf, .int mg])), (mR, .inl (G.2.1 2, 3, .inl u))])) (va_A [(mO, .inr (7, [.ref mS, .ref mD, .ref mR, .ref mT, .int mt, .int ma, .int mn, .ref mW, .ref mQ, .ref mC, .int my, .ref mU, .ref mV, .int mm, .int mf, .int mg])), (mR, .inl (G.2.1 2, 3, .inl fR))] sz)) 0 0 (va_A [(mO, .inr (7, [.ref mS, .ref mD, .ref mR, .ref mT, .int mt, .int ma, .int mn, .ref mW, .ref mQ, .ref mC, .int my, .ref mU, .ref mV, .int mm, .int mf, .int mg])), (mR, .inl (G.2.1 2, 3, .inl fR))] sz) := by
  refine met_go (cc := cX7_none) (maxL := 2) (ret := (some .int)) (own := RX7) (by decide) rfl rfl (Nat.le_of_ble_eq_true rfl) ?_
  intro p e s m below meth c ls S hr hlocks hname hsz C w hl
  have hl : lv_has ls 2 [(0, .ref mO), (1, .int z0)] := hl
  refine lv_aload_n S.1 S.2.1 dX7_none_0 rfl (lv_at hl 0 rfl) ?_
  refine lv_iload_n S.1 S.2.1 dX7_none_1 rfl (lv_at hl 1 rfl) ?_
  refine lv_if_eq (tgt := 10) S.1 S.2.1 dX7_none_2 (by decide) (fun c2 => ?_) (fun c2 => ?_)
  · refine lv_bipush (v := (-2)) S.1 S.2.1 dX7_none_10 (by decide) ?_
    refine cq_i C w [0, 1] [] [0, 1] (wr := []) (w' := fun u : Unit => [(mO, .inr (7, [.ref mS, .ref mD, .ref mR, .ref mT, .int mt, .int ma, .int mn, .ref mW, .ref mQ, .ref mC, .int my, .ref mU, .ref mV, .int mm, .int mf, .int mg])), (mR, .inl (G.2.1 2, 3, .inl (upd fR 0 (fR 0 + 1))))]) (ws2 := fun u : Unit => [(mO, .inr (7, [.ref mS, .ref mD, .ref mR, .ref mT, .int mt, .int ma, .int mn, .ref mW, .ref mQ, .ref mC, .int my, .ref mU, .ref mV, .int mm, .int mf, .int mg])), (mR, .inl (G.2.1 2, 3, .inl (upd fR 0 (fR 0 + 1))))]) rfl rfl rfl (by decide) rfl (fun _ => rfl) (va_runV (As := [.int (-2)]) (rest := []) S (c_X7_refuses_B l G mO mR _ mS mD mT mW mQ mC mU mV mt ma mn my mm mf mg fR) (cwV 1 S.2.2.2.2 gX7_none_X7_refuses rfl rfl rfl (by decide +kernel) ⟨Nat.le_of_ble_eq_true rfl, Nat.le_of_ble_eq_true rfl⟩) ⟨wPre_blind, va_recv C.1 w.1 (ci := 7) (q0 := 0) rfl rfl, wPre_at C w [0, 1] rfl rfl⟩ rfl rfl hl.1 rfl (lv_room (Nat.le_of_ble_eq_true rfl)) dX7_none_12 ⟨Nat.le_of_ble_eq_true rfl, Nat.le_of_ble_eq_true rfl⟩) (fun r12 u12 H locs h12 w => ?_)
    have w : Wd G _ s [(mO, .inr (7, [.ref mS, .ref mD, .ref mR, .ref mT, .int mt, .int ma, .int mn, .ref mW, .ref mQ, .ref mC, .int my, .ref mU, .ref mV, .int mm, .int mf, .int mg])), (mR, .inl (G.2.1 2, 3, .inl (upd fR 0 (fR 0 + 1))))] H locs := w
    exact W.iret (v := r12) S.1 S.2.1 hr (fun t ht _ => ⟨⟨r12, (upd fR 0 (fR 0 + 1)), rfl, by rw [h12]; simp only [noneF, if_pos c2], by rw [ht]; exact w.1, w.2.1⟩, w.2.2.F ht⟩) w.2.2.2.2 dX7_none_15
  · refine lv_bipush (v := (-3)) S.1 S.2.1 dX7_none_5 (by decide) ?_
    refine lv_goto (tgt := 12) S.1 S.2.1 dX7_none_7 (by decide) ?_
    refine cq_i C w [0, 1] [] [0, 1] (wr := []) (w' := fun u : Unit => [(mO, .inr (7, [.ref mS, .ref mD, .ref mR, .ref mT, .int mt, .int ma, .int mn, .ref mW, .ref mQ, .ref mC, .int my, .ref mU, .ref mV, .int mm, .int mf, .int mg])), (mR, .inl (G.2.1 2, 3, .inl (upd fR 1 (fR 1 + 1))))]) (ws2 := fun u : Unit => [(mO, .inr (7, [.ref mS, .ref mD, .ref mR, .ref mT, .int mt, .int ma, .int mn, .ref mW, .ref mQ, .ref mC, .int my, .ref mU, .ref mV, .int mm, .int mf, .int mg])), (mR, .inl (G.2.1 2, 3, .inl (upd fR 1 (fR 1 + 1))))]) rfl rfl rfl (by decide) rfl (fun _ => rfl) (va_runV (As := [.int (-3)]) (rest := []) S (c_X7_refuses_N l G mO mR _ mS mD mT mW mQ mC mU mV mt ma mn my mm mf mg fR) (cwV 1 S.2.2.2.2 gX7_none_X7_refuses rfl rfl rfl (by decide +kernel) ⟨Nat.le_of_ble_eq_true rfl, Nat.le_of_ble_eq_true rfl⟩) ⟨wPre_blind, va_recv C.1 w.1 (ci := 7) (q0 := 0) rfl rfl, wPre_at C w [0, 1] rfl rfl⟩ rfl rfl hl.1 rfl (lv_room (Nat.le_of_ble_eq_true rfl)) dX7_none_12 ⟨Nat.le_of_ble_eq_true rfl, Nat.le_of_ble_eq_true rfl⟩) (fun r12_1 u12_1 H locs h12_1 w => ?_)
    have w : Wd G _ s [(mO, .inr (7, [.ref mS, .ref mD, .ref mR, .ref mT, .int mt, .int ma, .int mn, .ref mW, .ref mQ, .ref mC, .int my, .ref mU, .ref mV, .int mm, .int mf, .int mg])), (mR, .inl (G.2.1 2, 3, .inl (upd fR 1 (fR 1 + 1))))] H locs := w
    exact W.iret (v := r12_1) S.1 S.2.1 hr (fun t ht _ => ⟨⟨r12_1, (upd fR 1 (fR 1 + 1)), rfl, by rw [h12_1]; simp only [noneF, if_neg c2], by rw [ht]; exact w.1, w.2.1⟩, w.2.2.F ht⟩) w.2.2.2.2 dX7_none_15
theorem im_X7_clear_X7 : ∀ w ∈ u_ws RX7 TX7 16, w ∈ wsX7_clear := by decide +kernel
set_option maxHeartbeats 4000000 in
set_option maxRecDepth 100000 in
theorem c_X7_clear (l : Launch) (G : GT) (mO : Nat) (sz : Nat) (mS mD mR mT mW mQ mC mU mV : Nat) (mt ma mn my mm mf mg : Int32) : Met l yX7_clear wsX7_clear ({ frames := 0, cells := 0, slots := 0, locals := 0 }) (va_Pc [.ref mO] (wPre G [(mO, .inr (7, [.ref mS, .ref mD, .ref mR, .ref mT, .int mt, .int ma, .int mn, .ref mW, .ref mQ, .ref mC, .int my, .ref mU, .ref mV, .int mm, .int mf, .int mg]))] sz)) (va_Qi (fun (r : Int32) (u : Unit) => r = mt) (bW G (va_A [(mO, .inr (7, [.ref mS, .ref mD, .ref mR, .ref mT, .int mt, .int ma, .int mn, .ref mW, .ref mQ, .ref mC, .int my, .ref mU, .ref mV, .int mm, .int mf, .int mg]))] sz) (fun u : Unit => [(mO, .inr (7, [.ref mS, .ref mD, .ref mR, .ref mT, .int 0, .int ma, .int mn, .ref mW, .ref mQ, .ref mC, .int my, .ref mU, .ref mV, .int mm, .int mf, .int mg]))])) (va_A [(mO, .inr (7, [.ref mS, .ref mD, .ref mR, .ref mT, .int mt, .int ma, .int mn, .ref mW, .ref mQ, .ref mC, .int my, .ref mU, .ref mV, .int mm, .int mf, .int mg]))] sz)) 0 0 (va_A [(mO, .inr (7, [.ref mS, .ref mD, .ref mR, .ref mT, .int mt, .int ma, .int mn, .ref mW, .ref mQ, .ref mC, .int my, .ref mU, .ref mV, .int mm, .int mf, .int mg]))] sz) := by
  refine met_go (cc := cX7_clear) (maxL := 2) (ret := (some .int)) (own := RX7) (by decide) rfl rfl (Nat.le_of_ble_eq_true rfl) ?_
  intro p e s m below meth c ls S hr hlocks hname hsz C w hl
  have hl : lv_has ls 2 [(0, .ref mO)] := hl
  refine lv_aload_n S.1 S.2.1 dX7_clear_0 rfl (lv_at hl 0 rfl) ?_
  refine w_get S C w (CC := RX7) (T := TX7) (N := 16) (ref := "GateSumsModel") im_X7_clear_X7 0 rfl rfl 4 (by decide) (List.mem_of_getElem? (i := 1) rfl) (fun _ h => h) rfl dX7_clear_1 ?_
  refine lv_istore_n (lv' := [(1, .int mt), (0, .ref mO)]) S.1 S.2.1 dX7_clear_4 rfl hl (by decide) rfl (fun ls hl => ?_)
  refine lv_aload_n S.1 S.2.1 dX7_clear_5 rfl (lv_at hl 1 rfl) ?_
  refine lv_iconst (v := 0) S.1 S.2.1 dX7_clear_6 (by decide) ?_
  refine w_put S C w (CC := RX7) (T := TX7) (N := 16) (ref := "GateSumsModel") im_X7_clear_X7 tyX7 tyX7_ok nmX7 0 rfl rfl 4 (by decide) (List.mem_of_getElem? (i := 1) rfl) (fun _ h => h) rfl (ws2 := [(mO, .inr (7, [.ref mS, .ref mD, .ref mR, .ref mT, .int 0, .int ma, .int mn, .ref mW, .ref mQ, .ref mC, .int my, .ref mU, .ref mV, .int mm, .int mf, .int mg]))]) (rfl) (rfl) (Nat.le_of_ble_eq_true rfl) rfl dX7_clear_7 (fun H locs w => ?_)
  refine lv_iload_n S.1 S.2.1 dX7_clear_10 rfl (lv_at hl 0 rfl) ?_
  exact W.iret (v := mt) S.1 S.2.1 hr (fun t ht _ => ⟨⟨mt, (), rfl, rfl, by rw [ht]; exact w.1, w.2.1⟩, w.2.2.F ht⟩) w.2.2.2.2 dX7_clear_11
theorem im_X7_byteAt_X7 : ∀ w ∈ u_ws RX7 TX7 16, w ∈ wsX7_byteAt := by decide +kernel
set_option maxHeartbeats 4000000 in
set_option maxRecDepth 100000 in
theorem c_X7_byteAt (l : Launch) (G : GT) (mO mT : Nat) (sz : Nat) (mS mD mR mW mQ mC mU mV : Nat) (mt ma mn my mm mf mg : Int32) (fT : Nat → Int32) (k0 : Int32) (hk : ¬ mt ≤ k0 → vp_in k0 120) : Met l yX7_byteAt wsX7_byteAt ({ frames := 0, cells := 0, slots := 0, locals := 0 }) (va_Pc [.ref mO, .int k0] (wPre G [(mO, .inr (7, [.ref mS, .ref mD, .ref mR, .ref mT, .int mt, .int ma, .int mn, .ref mW, .ref mQ, .ref mC, .int my, .ref mU, .ref mV, .int mm, .int mf, .int mg])), (mT, .inl (G.2.1 2, 120, .inl fT))] sz)) (vp_Si (fun r : Int32 => r = (byteAtM mt fT k0))) 0 0 (fun _ => False) := by
  refine met_go (cc := cX7_byteAt) (maxL := 2) (ret := (some .int)) (own := RX7) (by decide) rfl rfl (Nat.le_of_ble_eq_true rfl) ?_
  intro p e s m below meth c ls S hr hlocks hname hsz C w hl
  have hl : lv_has ls 2 [(0, .ref mO), (1, .int k0)] := hl
  refine lv_iload_n S.1 S.2.1 dX7_byteAt_0 rfl (lv_at hl 1 rfl) ?_
  refine lv_aload_n S.1 S.2.1 dX7_byteAt_1 rfl (lv_at hl 0 rfl) ?_
  refine w_get S C w (CC := RX7) (T := TX7) (N := 16) (ref := "GateSumsModel") im_X7_byteAt_X7 0 rfl rfl 4 (by decide) (List.mem_of_getElem? (i := 1) rfl) (fun _ h => h) rfl dX7_byteAt_2 ?_
  refine lv_icmp_ge (tgt := 17) S.1 S.2.1 dX7_byteAt_5 (by decide) (fun c5 => ?_) (fun c5 => ?_)
  · refine lv_iconst (v := (-1)) S.1 S.2.1 dX7_byteAt_17 (by decide) ?_
    exact W.iret (v := (-1)) S.1 S.2.1 hr (fun t ht _ => ⟨(-1), rfl, by simp only [byteAtM, if_pos c5], ht⟩) (fun q h => absurd h List.not_mem_nil) dX7_byteAt_18
  · refine lv_aload_n S.1 S.2.1 dX7_byteAt_8 rfl (lv_at hl 0 rfl) ?_
    refine w_get S C w (CC := RX7) (T := TX7) (N := 16) (ref := "GateSumsModel") im_X7_byteAt_X7 0 rfl rfl 3 (by decide) (List.mem_of_getElem? (i := 2) rfl) (fun _ h => h) rfl dX7_byteAt_9 ?_
    refine lv_iload_n S.1 S.2.1 dX7_byteAt_12 rfl (lv_at hl 1 rfl) ?_
    refine w_iald S C w 1 rfl (hk c5) dX7_byteAt_13 ?_
    refine lv_goto (tgt := 18) S.1 S.2.1 dX7_byteAt_14 (by decide) ?_
    exact W.iret (v := (fT k0.toNatClampNeg)) S.1 S.2.1 hr (fun t ht _ => ⟨(fT k0.toNatClampNeg), rfl, by simp only [byteAtM, if_neg c5], ht⟩) (fun q h => absurd h List.not_mem_nil) dX7_byteAt_18
theorem im_X7_isThere_X7 : ∀ w ∈ u_ws RX7 TX7 16, w ∈ wsX7_isThere := by decide +kernel
set_option maxHeartbeats 4000000 in
set_option maxRecDepth 100000 in
theorem c_X7_isThere (l : Launch) (G : GT) (mO mS : Nat) (sz : Nat) (mD mR mT mW mQ mC mU mV : Nat) (mt ma mn my mm mf mg : Int32) (fS : Nat → Int32) : Met l yX7_isThere wsX7_isThere ({ frames := 0, cells := 0, slots := 0, locals := 0 }) (va_Pc [.ref mO] (wPre G [(mO, .inr (7, [.ref mS, .ref mD, .ref mR, .ref mT, .int mt, .int ma, .int mn, .ref mW, .ref mQ, .ref mC, .int my, .ref mU, .ref mV, .int mm, .int mf, .int mg])), (mS, .inl (G.2.1 2, 49, .inl fS))] sz)) (vp_Si (fun r : Int32 => r = (thereM fS))) 0 0 (fun _ => False) := by
  refine met_go (cc := cX7_isThere) (maxL := 1) (ret := (some .boolean)) (own := RX7) (by decide) rfl rfl (Nat.le_of_ble_eq_true rfl) ?_
  intro p e s m below meth c ls S hr hlocks hname hsz C w hl
  have hl : lv_has ls 1 [(0, .ref mO)] := hl
  refine lv_aload_n S.1 S.2.1 dX7_isThere_0 rfl (lv_at hl 0 rfl) ?_
  refine w_get S C w (CC := RX7) (T := TX7) (N := 16) (ref := "GateSumsModel") im_X7_isThere_X7 0 rfl rfl 0 (by decide) (List.mem_of_getElem? (i := 1) rfl) (fun _ h => h) rfl dX7_isThere_1 ?_
  refine lv_iconst (v := 0) S.1 S.2.1 dX7_isThere_4 (by decide) ?_
  refine w_iald S C w 1 rfl (by unfold vp_in; decide) dX7_isThere_5 ?_
  refine lv_if_le (tgt := 13) S.1 S.2.1 dX7_isThere_6 (by decide) (fun c6 => ?_) (fun c6 => ?_)
  · refine lv_iconst (v := 0) S.1 S.2.1 dX7_isThere_13 (by decide) ?_
    exact W.zret (v := 0) S.1 S.2.1 hr (rfl) (fun t ht _ => ⟨0, rfl, by first | exact (if_neg c6).symm | exact (if_pos c6).symm, ht⟩) (fun q h => absurd h List.not_mem_nil) dX7_isThere_14
  · refine lv_iconst (v := 1) S.1 S.2.1 dX7_isThere_9 (by decide) ?_
    refine lv_goto (tgt := 14) S.1 S.2.1 dX7_isThere_10 (by decide) ?_
    exact W.zret (v := 1) S.1 S.2.1 hr (rfl) (fun t ht _ => ⟨1, rfl, by first | exact (if_neg c6).symm | exact (if_pos c6).symm, ht⟩) (fun q h => absurd h List.not_mem_nil) dX7_isThere_14
set_option maxHeartbeats 4000000 in
set_option maxRecDepth 100000 in
theorem c_X7_lays (l : Launch) (G : GT) (mS : Nat) (sz : Nat) (fS : Nat → Int32) (jL : Nat) (k0 x0 y0 : Int32) (hj : fS 1 = nI jL) (hl12 : jL < 12) : Met l yX7_lays wsX7_lays ({ frames := 0, cells := 0, slots := 0, locals := 0 }) (va_Pc [.ref mS, .int k0, .int x0, .int y0] (wPre G [(mS, .inl (G.2.1 2, 49, .inl fS))] sz)) (va_Qi (fun (r : Int32) (u : Unit) => r = fS 0 + nI jL) (bW G (va_A [(mS, .inl (G.2.1 2, 49, .inl fS))] sz) (fun u : Unit => [(mS, .inl (G.2.1 2, 49, .inl (laysF fS jL k0 x0 y0)))])) (va_A [(mS, .inl (G.2.1 2, 49, .inl fS))] sz)) 0 0 (va_A [(mS, .inl (G.2.1 2, 49, .inl fS))] sz) := by
  refine met_go (cc := cX7_lays) (maxL := 5) (ret := (some .int)) (own := RX7) (by decide) rfl rfl (Nat.le_of_ble_eq_true rfl) ?_
  intro p e s m below meth c ls S hr hlocks hname hsz C w hl
  have hl : lv_has ls 5 [(0, .ref mS), (1, .int k0), (2, .int x0), (3, .int y0)] := hl
  refine lv_aload_n S.1 S.2.1 dX7_lays_0 rfl (lv_at hl 0 rfl) ?_
  refine lv_iconst (v := 1) S.1 S.2.1 dX7_lays_1 (by decide) ?_
  refine w_iald S C w 0 rfl (by unfold vp_in; decide) dX7_lays_2 ?_
  refine w_topi (y := (nI jL)) (hj) ?_
  refine lv_istore (lv' := [(4, .int (nI jL)), (0, .ref mS), (1, .int k0), (2, .int x0), (3, .int y0)]) S.1 S.2.1 dX7_lays_3 hl (by decide) rfl (fun ls hl => ?_)
  refine lv_aload_n S.1 S.2.1 dX7_lays_5 rfl (lv_at hl 1 rfl) ?_
  refine lv_bipush (v := 6) S.1 S.2.1 dX7_lays_6 (by decide) ?_
  refine lv_iload S.1 S.2.1 dX7_lays_8 (lv_at hl 0 rfl) ?_
  refine lv_iadd S.1 S.2.1 dX7_lays_10 ?_
  refine w_topi (y := (nI (6 + jL))) (nI_add 6 jL) ?_
  refine lv_iload_n S.1 S.2.1 dX7_lays_11 rfl (lv_at hl 2 rfl) ?_
  refine w_iast S C w 0 rfl (nIin (by omega) (by decide)) (ws2 := [(mS, .inl (G.2.1 2, 49, .inl (upd fS (nI (6 + jL)).toNatClampNeg k0)))]) rfl dX7_lays_12 (fun H locs w => ?_)
  have w : Wd G (va_A [(mS, .inl (G.2.1 2, 49, .inl fS))] sz) s [(mS, .inl (G.2.1 2, 49, .inl (upd fS (6 + jL) k0)))] H locs := by have h := nIc (j := 6 + jL) (by omega); rw [h] at w; exact w
  refine lv_aload_n S.1 S.2.1 dX7_lays_13 rfl (lv_at hl 1 rfl) ?_
  refine lv_bipush (v := 18) S.1 S.2.1 dX7_lays_14 (by decide) ?_
  refine lv_iload S.1 S.2.1 dX7_lays_16 (lv_at hl 0 rfl) ?_
  refine lv_iadd S.1 S.2.1 dX7_lays_18 ?_
  refine w_topi (y := (nI (18 + jL))) (nI_add 18 jL) ?_
  refine lv_iload_n S.1 S.2.1 dX7_lays_19 rfl (lv_at hl 3 rfl) ?_
  refine w_iast S C w 0 rfl (nIin (by omega) (by decide)) (ws2 := [(mS, .inl (G.2.1 2, 49, .inl (upd (upd fS (6 + jL) k0) (nI (18 + jL)).toNatClampNeg x0)))]) rfl dX7_lays_20 (fun H locs w => ?_)
  have w : Wd G (va_A [(mS, .inl (G.2.1 2, 49, .inl fS))] sz) s [(mS, .inl (G.2.1 2, 49, .inl (upd (upd fS (6 + jL) k0) (18 + jL) x0)))] H locs := by have h := nIc (j := 18 + jL) (by omega); rw [h] at w; exact w
  refine lv_aload_n S.1 S.2.1 dX7_lays_21 rfl (lv_at hl 1 rfl) ?_
  refine lv_bipush (v := 30) S.1 S.2.1 dX7_lays_22 (by decide) ?_
  refine lv_iload S.1 S.2.1 dX7_lays_24 (lv_at hl 0 rfl) ?_
  refine lv_iadd S.1 S.2.1 dX7_lays_26 ?_
  refine w_topi (y := (nI (30 + jL))) (nI_add 30 jL) ?_
  refine lv_iload_n S.1 S.2.1 dX7_lays_27 rfl (lv_at hl 2 rfl) ?_
  refine w_joini 36 [.int (nI (30 + jL)), .ref mS] (fun z36 => z36 = if k0 = 0 then (-1) else y0) (fun z36 hz36 => ?_) (fun J36 => ?_)
  · refine w_topi (y := (if k0 = 0 then (-1) else y0)) (hz36) ?_
    refine w_iast S C w 0 rfl (nIin (by omega) (by decide)) (ws2 := [(mS, .inl (G.2.1 2, 49, .inl (upd (upd (upd fS (6 + jL) k0) (18 + jL) x0) (nI (30 + jL)).toNatClampNeg (if k0 = 0 then (-1) else y0))))]) rfl dX7_lays_36 (fun H locs w => ?_)
    have w : Wd G (va_A [(mS, .inl (G.2.1 2, 49, .inl fS))] sz) s [(mS, .inl (G.2.1 2, 49, .inl (upd (upd (upd fS (6 + jL) k0) (18 + jL) x0) (30 + jL) (if k0 = 0 then (-1) else y0))))] H locs := by have h := nIc (j := 30 + jL) (by omega); rw [h] at w; exact w
    refine lv_aload_n S.1 S.2.1 dX7_lays_37 rfl (lv_at hl 1 rfl) ?_
    refine lv_iconst (v := 1) S.1 S.2.1 dX7_lays_38 (by decide) ?_
    refine lv_dup2_11 S.1 S.2.1 dX7_lays_39 rfl rfl ?_
    refine w_iald S C w 0 rfl (by unfold vp_in; decide) dX7_lays_40 ?_
    refine w_topi (y := (nI jL)) (show upd (upd (upd fS (6 + jL) k0) (18 + jL) x0) (30 + jL) _ 1 = nI jL by rw [pk_un (by omega), pk_un (by omega), pk_un (by omega)]; exact hj) ?_
    refine lv_iconst (v := 1) S.1 S.2.1 dX7_lays_41 (by decide) ?_
    refine lv_iadd S.1 S.2.1 dX7_lays_42 ?_
    refine w_topi (y := (nI (jL + 1))) (nI_1 _) ?_
    refine w_iast S C w 0 rfl (by unfold vp_in; decide) (ws2 := [(mS, .inl (G.2.1 2, 49, .inl (upd (upd (upd (upd fS (6 + jL) k0) (18 + jL) x0) (30 + jL) (if k0 = 0 then (-1) else y0)) (1 : Int32).toNatClampNeg (nI (jL + 1)))))]) rfl dX7_lays_43 (fun H locs w => ?_)
    refine lv_aload_n S.1 S.2.1 dX7_lays_44 rfl (lv_at hl 1 rfl) ?_
    refine lv_iconst (v := 0) S.1 S.2.1 dX7_lays_45 (by decide) ?_
    refine w_iald S C w 0 rfl (by unfold vp_in; decide) dX7_lays_46 ?_
    refine w_topi (y := (fS 0)) ((show laysF fS jL k0 x0 y0 0 = fS 0 from laysF_0)) ?_
    refine lv_iload S.1 S.2.1 dX7_lays_47 (lv_at hl 0 rfl) ?_
    refine lv_iadd S.1 S.2.1 dX7_lays_49 ?_
    have w : Wd G (va_A [(mS, .inl (G.2.1 2, 49, .inl fS))] sz) s [(mS, .inl (G.2.1 2, 49, .inl (laysF fS jL k0 x0 y0)))] H locs := w
    exact W.iret (v := ((fS 0) + (nI jL))) S.1 S.2.1 hr (fun t ht _ => ⟨⟨((fS 0) + (nI jL)), (), rfl, rfl, by rw [ht]; exact w.1, w.2.1⟩, w.2.2.F ht⟩) w.2.2.2.2 dX7_lays_50
  · refine lv_if_ne (tgt := 35) S.1 S.2.1 dX7_lays_28 (by decide) (fun c28 => ?_) (fun c28 => ?_)
    · refine lv_iload_n S.1 S.2.1 dX7_lays_35 rfl (lv_at hl 4 rfl) ?_
      exact J36 y0 (by simp only [if_neg c28])
    · refine lv_iconst (v := (-1)) S.1 S.2.1 dX7_lays_31 (by decide) ?_
      refine lv_goto (tgt := 36) S.1 S.2.1 dX7_lays_32 (by decide) ?_
      exact J36 (-1) (by simp only [if_pos c28])
theorem im_X7_outs_X7 : ∀ w ∈ u_ws RX7 TX7 16, w ∈ wsX7_outs := by decide +kernel
set_option maxHeartbeats 4000000 in
set_option maxRecDepth 100000 in
theorem c_X7_outs (l : Launch) (G : GT) (mO mS : Nat) (sz : Nat) (mD mR mT mW mQ mC mU mV : Nat) (mt ma mn my mm mf mg : Int32) (fS : Nat → Int32) (oL : Nat) (x0 : Int32) (ho : fS 2 = nI oL) (hl7 : oL < 7) : Met l yX7_outs wsX7_outs ({ frames := 0, cells := 0, slots := 0, locals := 0 }) (va_Pc [.ref mO, .int x0] (wPre G [(mO, .inr (7, [.ref mS, .ref mD, .ref mR, .ref mT, .int mt, .int ma, .int mn, .ref mW, .ref mQ, .ref mC, .int my, .ref mU, .ref mV, .int mm, .int mf, .int mg])), (mS, .inl (G.2.1 2, 49, .inl fS))] sz)) (va_Qv (fun u : Unit => True) (bW G (va_A [(mO, .inr (7, [.ref mS, .ref mD, .ref mR, .ref mT, .int mt, .int ma, .int mn, .ref mW, .ref mQ, .ref mC, .int my, .ref mU, .ref mV, .int mm, .int mf, .int mg])), (mS, .inl (G.2.1 2, 49, .inl fS))] sz) (fun u : Unit => [(mO, .inr (7, [.ref mS, .ref mD, .ref mR, .ref mT, .int mt, .int ma, .int mn, .ref mW, .ref mQ, .ref mC, .int my, .ref mU, .ref mV, .int mm, .int mf, .int mg])), (mS, .inl (G.2.1 2, 49, .inl (outsF fS oL x0)))])) (va_A [(mO, .inr (7, [.ref mS, .ref mD, .ref mR, .ref mT, .int mt, .int ma, .int mn, .ref mW, .ref mQ, .ref mC, .int my, .ref mU, .ref mV, .int mm, .int mf, .int mg])), (mS, .inl (G.2.1 2, 49, .inl fS))] sz)) 0 0 (va_A [(mO, .inr (7, [.ref mS, .ref mD, .ref mR, .ref mT, .int mt, .int ma, .int mn, .ref mW, .ref mQ, .ref mC, .int my, .ref mU, .ref mV, .int mm, .int mf, .int mg])), (mS, .inl (G.2.1 2, 49, .inl fS))] sz) := by
  refine met_go (cc := cX7_outs) (maxL := 2) (ret := none) (own := RX7) (by decide) rfl rfl (Nat.le_of_ble_eq_true rfl) ?_
  intro p e s m below meth c ls S hr hlocks hname hsz C w hl
  have hl : lv_has ls 2 [(0, .ref mO), (1, .int x0)] := hl
  refine lv_aload_n S.1 S.2.1 dX7_outs_0 rfl (lv_at hl 0 rfl) ?_
  refine w_get S C w (CC := RX7) (T := TX7) (N := 16) (ref := "GateSumsModel") im_X7_outs_X7 0 rfl rfl 0 (by decide) (List.mem_of_getElem? (i := 1) rfl) (fun _ h => h) rfl dX7_outs_1 ?_
  refine lv_bipush (v := 42) S.1 S.2.1 dX7_outs_4 (by decide) ?_
  refine lv_aload_n S.1 S.2.1 dX7_outs_6 rfl (lv_at hl 0 rfl) ?_
  refine w_get S C w (CC := RX7) (T := TX7) (N := 16) (ref := "GateSumsModel") im_X7_outs_X7 0 rfl rfl 0 (by decide) (List.mem_of_getElem? (i := 1) rfl) (fun _ h => h) rfl dX7_outs_7 ?_
  refine lv_iconst (v := 2) S.1 S.2.1 dX7_outs_10 (by decide) ?_
  refine w_iald S C w 1 rfl (by unfold vp_in; decide) dX7_outs_11 ?_
  refine w_topi (y := (nI oL)) (ho) ?_
  refine lv_iadd S.1 S.2.1 dX7_outs_12 ?_
  refine w_topi (y := (nI (42 + oL))) (nI_add 42 oL) ?_
  refine lv_iload_n S.1 S.2.1 dX7_outs_13 rfl (lv_at hl 1 rfl) ?_
  refine w_iast S C w 1 rfl (nIin (by omega) (by decide)) (ws2 := [(mO, .inr (7, [.ref mS, .ref mD, .ref mR, .ref mT, .int mt, .int ma, .int mn, .ref mW, .ref mQ, .ref mC, .int my, .ref mU, .ref mV, .int mm, .int mf, .int mg])), (mS, .inl (G.2.1 2, 49, .inl (upd fS (nI (42 + oL)).toNatClampNeg x0)))]) rfl dX7_outs_14 (fun H locs w => ?_)
  have w : Wd G (va_A [(mO, .inr (7, [.ref mS, .ref mD, .ref mR, .ref mT, .int mt, .int ma, .int mn, .ref mW, .ref mQ, .ref mC, .int my, .ref mU, .ref mV, .int mm, .int mf, .int mg])), (mS, .inl (G.2.1 2, 49, .inl fS))] sz) s [(mO, .inr (7, [.ref mS, .ref mD, .ref mR, .ref mT, .int mt, .int ma, .int mn, .ref mW, .ref mQ, .ref mC, .int my, .ref mU, .ref mV, .int mm, .int mf, .int mg])), (mS, .inl (G.2.1 2, 49, .inl (upd fS (42 + oL) x0)))] H locs := by have h := nIc (j := 42 + oL) (by omega); rw [h] at w; exact w
  refine lv_aload_n S.1 S.2.1 dX7_outs_15 rfl (lv_at hl 0 rfl) ?_
  refine w_get S C w (CC := RX7) (T := TX7) (N := 16) (ref := "GateSumsModel") im_X7_outs_X7 0 rfl rfl 0 (by decide) (List.mem_of_getElem? (i := 1) rfl) (fun _ h => h) rfl dX7_outs_16 ?_
  refine lv_iconst (v := 2) S.1 S.2.1 dX7_outs_19 (by decide) ?_
  refine lv_dup2_11 S.1 S.2.1 dX7_outs_20 rfl rfl ?_
  refine w_iald S C w 1 rfl (by unfold vp_in; decide) dX7_outs_21 ?_
  refine w_topi (y := (nI oL)) (show upd fS (42 + oL) x0 2 = nI oL by rw [pk_un (by omega)]; exact ho) ?_
  refine lv_iconst (v := 1) S.1 S.2.1 dX7_outs_22 (by decide) ?_
  refine lv_iadd S.1 S.2.1 dX7_outs_23 ?_
  refine w_topi (y := (nI (oL + 1))) (nI_1 _) ?_
  refine w_iast S C w 1 rfl (by unfold vp_in; decide) (ws2 := [(mO, .inr (7, [.ref mS, .ref mD, .ref mR, .ref mT, .int mt, .int ma, .int mn, .ref mW, .ref mQ, .ref mC, .int my, .ref mU, .ref mV, .int mm, .int mf, .int mg])), (mS, .inl (G.2.1 2, 49, .inl (upd (upd fS (42 + oL) x0) (2 : Int32).toNatClampNeg (nI (oL + 1)))))]) rfl dX7_outs_24 (fun H locs w => ?_)
  have w : Wd G (va_A [(mO, .inr (7, [.ref mS, .ref mD, .ref mR, .ref mT, .int mt, .int ma, .int mn, .ref mW, .ref mQ, .ref mC, .int my, .ref mU, .ref mV, .int mm, .int mf, .int mg])), (mS, .inl (G.2.1 2, 49, .inl fS))] sz) s [(mO, .inr (7, [.ref mS, .ref mD, .ref mR, .ref mT, .int mt, .int ma, .int mn, .ref mW, .ref mQ, .ref mC, .int my, .ref mU, .ref mV, .int mm, .int mf, .int mg])), (mS, .inl (G.2.1 2, 49, .inl (outsF fS oL x0)))] H locs := w
  exact W.vret S.1 S.2.1 hr (fun t ht _ => ⟨⟨(), rfl, trivial, by rw [ht]; exact w.1, w.2.1⟩, w.2.2.F ht⟩) w.2.2.2.2 dX7_outs_25
theorem im_X7_begins_X7 : ∀ w ∈ u_ws RX7 TX7 16, w ∈ wsX7_begins := by decide +kernel
set_option maxHeartbeats 4000000 in
set_option maxRecDepth 100000 in
theorem c_X7_begins (l : Launch) (G : GT) (mO mS : Nat) (sz : Nat) (mD mR mT mW mQ mC mU mV : Nat) (mt ma mn my mm mf mg : Int32) (fS : Nat → Int32) (n0 t0 p0 q0 : Int32) : Met l yX7_begins wsX7_begins ({ frames := 0, cells := 0, slots := 0, locals := 0 }) (va_Pc [.ref mO, .int n0, .int t0, .int p0, .int q0] (wPre G [(mO, .inr (7, [.ref mS, .ref mD, .ref mR, .ref mT, .int mt, .int ma, .int mn, .ref mW, .ref mQ, .ref mC, .int my, .ref mU, .ref mV, .int mm, .int mf, .int mg])), (mS, .inl (G.2.1 2, 49, .inl fS))] sz)) (va_Qv (fun u : Unit => True) (bW G (va_A [(mO, .inr (7, [.ref mS, .ref mD, .ref mR, .ref mT, .int mt, .int ma, .int mn, .ref mW, .ref mQ, .ref mC, .int my, .ref mU, .ref mV, .int mm, .int mf, .int mg])), (mS, .inl (G.2.1 2, 49, .inl fS))] sz) (fun u : Unit => [(mO, .inr (7, [.ref mS, .ref mD, .ref mR, .ref mT, .int mt, .int ma, .int mn, .ref mW, .ref mQ, .ref mC, .int my, .ref mU, .ref mV, .int mm, .int mf, .int mg])), (mS, .inl (G.2.1 2, 49, .inl (begF n0 t0 p0 q0 fS)))])) (va_A [(mO, .inr (7, [.ref mS, .ref mD, .ref mR, .ref mT, .int mt, .int ma, .int mn, .ref mW, .ref mQ, .ref mC, .int my, .ref mU, .ref mV, .int mm, .int mf, .int mg])), (mS, .inl (G.2.1 2, 49, .inl fS))] sz)) 0 0 (va_A [(mO, .inr (7, [.ref mS, .ref mD, .ref mR, .ref mT, .int mt, .int ma, .int mn, .ref mW, .ref mQ, .ref mC, .int my, .ref mU, .ref mV, .int mm, .int mf, .int mg])), (mS, .inl (G.2.1 2, 49, .inl fS))] sz) := by
  refine met_go (cc := cX7_begins) (maxL := 6) (ret := none) (own := RX7) (by decide) rfl rfl (Nat.le_of_ble_eq_true rfl) ?_
  intro p e s m below meth c ls S hr hlocks hname hsz C w hl
  have hl : lv_has ls 6 [(0, .ref mO), (1, .int n0), (2, .int t0), (3, .int p0), (4, .int q0)] := hl
  refine lv_iconst (v := 0) S.1 S.2.1 dX7_begins_0 (by decide) ?_
  refine lv_istore (lv' := [(5, .int 0), (0, .ref mO), (1, .int n0), (2, .int t0), (3, .int p0), (4, .int q0)]) S.1 S.2.1 dX7_begins_1 hl (by decide) rfl (fun ls hl => ?_)
  refine w_loop (G := G) (σ := Nat) (nL := 6) 3 (fun x3 => 49 - x3) (fun x3 => x3 ≤ 49) (fun x3 => [(mO, .inr (7, [.ref mS, .ref mD, .ref mR, .ref mT, .int mt, .int ma, .int mn, .ref mW, .ref mQ, .ref mC, .int my, .ref mU, .ref mV, .int mm, .int mf, .int mg])), (mS, .inl (G.2.1 2, 49, .inl (zeroF x3 fS)))]) (fun x3 => [(5, .int (nI x3)), (0, .ref mO), (1, .int n0), (2, .int t0), (3, .int p0), (4, .int q0)]) (fun _ => []) ?_ 0 ls _ _ (Nat.zero_le _) w (lv_sub hl [0, 1, 2, 3, 4, 5] rfl)
  intro x3 ls H locs hI3 w hl ih3
  have w : Wd G _ s [(mO, .inr (7, [.ref mS, .ref mD, .ref mR, .ref mT, .int mt, .int ma, .int mn, .ref mW, .ref mQ, .ref mC, .int my, .ref mU, .ref mV, .int mm, .int mf, .int mg])), (mS, .inl (G.2.1 2, 49, .inl (zeroF x3 fS)))] H locs := w
  have hl : lv_has ls 6 [(5, .int (nI x3)), (0, .ref mO), (1, .int n0), (2, .int t0), (3, .int p0), (4, .int q0)] := hl
  refine lv_iload S.1 S.2.1 dX7_begins_3 (lv_at hl 0 rfl) ?_
  refine lv_bipush (v := 49) S.1 S.2.1 dX7_begins_5 (by decide) ?_
  refine lv_icmp_ge (tgt := 24) S.1 S.2.1 dX7_begins_7 (by decide) (fun c7 => ?_) (fun c7 => ?_)
  · refine lv_aload_n S.1 S.2.1 dX7_begins_24 rfl (lv_at hl 1 rfl) ?_
    refine w_get S C w (CC := RX7) (T := TX7) (N := 16) (ref := "GateSumsModel") im_X7_begins_X7 0 rfl rfl 0 (by decide) (List.mem_of_getElem? (i := 1) rfl) (fun _ h => h) rfl dX7_begins_25 ?_
    refine lv_iconst (v := 0) S.1 S.2.1 dX7_begins_28 (by decide) ?_
    refine lv_iload_n S.1 S.2.1 dX7_begins_29 rfl (lv_at hl 2 rfl) ?_
    refine w_iast S C w 1 rfl (by unfold vp_in; decide) (ws2 := [(mO, .inr (7, [.ref mS, .ref mD, .ref mR, .ref mT, .int mt, .int ma, .int mn, .ref mW, .ref mQ, .ref mC, .int my, .ref mU, .ref mV, .int mm, .int mf, .int mg])), (mS, .inl (G.2.1 2, 49, .inl (upd (zeroF x3 fS) (0 : Int32).toNatClampNeg n0)))]) rfl dX7_begins_30 (fun H locs w => ?_)
    refine lv_aload_n S.1 S.2.1 dX7_begins_31 rfl (lv_at hl 1 rfl) ?_
    refine w_get S C w (CC := RX7) (T := TX7) (N := 16) (ref := "GateSumsModel") im_X7_begins_X7 0 rfl rfl 0 (by decide) (List.mem_of_getElem? (i := 1) rfl) (fun _ h => h) rfl dX7_begins_32 ?_
    refine lv_iconst (v := 3) S.1 S.2.1 dX7_begins_35 (by decide) ?_
    refine lv_iload_n S.1 S.2.1 dX7_begins_36 rfl (lv_at hl 3 rfl) ?_
    refine w_iast S C w 1 rfl (by unfold vp_in; decide) (ws2 := [(mO, .inr (7, [.ref mS, .ref mD, .ref mR, .ref mT, .int mt, .int ma, .int mn, .ref mW, .ref mQ, .ref mC, .int my, .ref mU, .ref mV, .int mm, .int mf, .int mg])), (mS, .inl (G.2.1 2, 49, .inl (upd (upd (zeroF x3 fS) (0 : Int32).toNatClampNeg n0) (3 : Int32).toNatClampNeg t0)))]) rfl dX7_begins_37 (fun H locs w => ?_)
    refine lv_aload_n S.1 S.2.1 dX7_begins_38 rfl (lv_at hl 1 rfl) ?_
    refine w_get S C w (CC := RX7) (T := TX7) (N := 16) (ref := "GateSumsModel") im_X7_begins_X7 0 rfl rfl 0 (by decide) (List.mem_of_getElem? (i := 1) rfl) (fun _ h => h) rfl dX7_begins_39 ?_
    refine lv_iconst (v := 4) S.1 S.2.1 dX7_begins_42 (by decide) ?_
    refine lv_iload_n S.1 S.2.1 dX7_begins_43 rfl (lv_at hl 4 rfl) ?_
    refine w_iast S C w 1 rfl (by unfold vp_in; decide) (ws2 := [(mO, .inr (7, [.ref mS, .ref mD, .ref mR, .ref mT, .int mt, .int ma, .int mn, .ref mW, .ref mQ, .ref mC, .int my, .ref mU, .ref mV, .int mm, .int mf, .int mg])), (mS, .inl (G.2.1 2, 49, .inl (upd (upd (upd (zeroF x3 fS) (0 : Int32).toNatClampNeg n0) (3 : Int32).toNatClampNeg t0) (4 : Int32).toNatClampNeg p0)))]) rfl dX7_begins_44 (fun H locs w => ?_)
    refine lv_aload_n S.1 S.2.1 dX7_begins_45 rfl (lv_at hl 1 rfl) ?_
    refine w_get S C w (CC := RX7) (T := TX7) (N := 16) (ref := "GateSumsModel") im_X7_begins_X7 0 rfl rfl 0 (by decide) (List.mem_of_getElem? (i := 1) rfl) (fun _ h => h) rfl dX7_begins_46 ?_
    refine lv_iconst (v := 5) S.1 S.2.1 dX7_begins_49 (by decide) ?_
    refine lv_iload S.1 S.2.1 dX7_begins_50 (lv_at hl 5 rfl) ?_
    refine w_iast S C w 1 rfl (by unfold vp_in; decide) (ws2 := [(mO, .inr (7, [.ref mS, .ref mD, .ref mR, .ref mT, .int mt, .int ma, .int mn, .ref mW, .ref mQ, .ref mC, .int my, .ref mU, .ref mV, .int mm, .int mf, .int mg])), (mS, .inl (G.2.1 2, 49, .inl (upd (upd (upd (upd (zeroF x3 fS) (0 : Int32).toNatClampNeg n0) (3 : Int32).toNatClampNeg t0) (4 : Int32).toNatClampNeg p0) (5 : Int32).toNatClampNeg q0)))]) rfl dX7_begins_52 (fun H locs w => ?_)
    have w : Wd G (va_A [(mO, .inr (7, [.ref mS, .ref mD, .ref mR, .ref mT, .int mt, .int ma, .int mn, .ref mW, .ref mQ, .ref mC, .int my, .ref mU, .ref mV, .int mm, .int mf, .int mg])), (mS, .inl (G.2.1 2, 49, .inl fS))] sz) s [(mO, .inr (7, [.ref mS, .ref mD, .ref mR, .ref mT, .int mt, .int ma, .int mn, .ref mW, .ref mQ, .ref mC, .int my, .ref mU, .ref mV, .int mm, .int mf, .int mg])), (mS, .inl (G.2.1 2, 49, .inl (begF n0 t0 p0 q0 fS)))] H locs := by have h := c7; rw [show (49 : Int32) = nI 49 from rfl, nI_leI (by decide) (by omega)] at h; have e : x3 = 49 := (by omega); subst e; exact w
    exact W.vret S.1 S.2.1 hr (fun t ht _ => ⟨⟨(), rfl, trivial, by rw [ht]; exact w.1, w.2.1⟩, w.2.2.F ht⟩) w.2.2.2.2 dX7_begins_53
  · refine lv_aload_n S.1 S.2.1 dX7_begins_10 rfl (lv_at hl 1 rfl) ?_
    refine w_get S C w (CC := RX7) (T := TX7) (N := 16) (ref := "GateSumsModel") im_X7_begins_X7 0 rfl rfl 0 (by decide) (List.mem_of_getElem? (i := 1) rfl) (fun _ h => h) rfl dX7_begins_11 ?_
    refine lv_iload S.1 S.2.1 dX7_begins_14 (lv_at hl 0 rfl) ?_
    refine lv_iconst (v := 0) S.1 S.2.1 dX7_begins_16 (by decide) ?_
    refine w_iast S C w 1 rfl (nIin (by have h := c7; rw [show (49 : Int32) = nI 49 from rfl, nI_leI (by decide) (by omega)] at h; omega) (by decide)) (ws2 := [(mO, .inr (7, [.ref mS, .ref mD, .ref mR, .ref mT, .int mt, .int ma, .int mn, .ref mW, .ref mQ, .ref mC, .int my, .ref mU, .ref mV, .int mm, .int mf, .int mg])), (mS, .inl (G.2.1 2, 49, .inl (upd (zeroF x3 fS) (nI x3).toNatClampNeg 0)))]) rfl dX7_begins_17 (fun H locs w => ?_)
    have w : Wd G (va_A [(mO, .inr (7, [.ref mS, .ref mD, .ref mR, .ref mT, .int mt, .int ma, .int mn, .ref mW, .ref mQ, .ref mC, .int my, .ref mU, .ref mV, .int mm, .int mf, .int mg])), (mS, .inl (G.2.1 2, 49, .inl fS))] sz) s [(mO, .inr (7, [.ref mS, .ref mD, .ref mR, .ref mT, .int mt, .int ma, .int mn, .ref mW, .ref mQ, .ref mC, .int my, .ref mU, .ref mV, .int mm, .int mf, .int mg])), (mS, .inl (G.2.1 2, 49, .inl (upd (zeroF x3 fS) x3 0)))] H locs := by have h := nIc (j := x3) (by omega); rw [h] at w; exact w
    refine lv_iinc (v := (nI (x3 + 1))) (lv' := [(5, .int (nI (x3 + 1))), (0, .ref mO), (1, .int n0), (2, .int t0), (3, .int p0), (4, .int q0)]) S.1 S.2.1 dX7_begins_18 hl (k := 0) rfl (nI_1 _) (by decide) rfl (fun ls hl => ?_)
    refine lv_goto (tgt := 3) S.1 S.2.1 dX7_begins_21 (by decide) ?_
    have w : Wd G (va_A [(mO, .inr (7, [.ref mS, .ref mD, .ref mR, .ref mT, .int mt, .int ma, .int mn, .ref mW, .ref mQ, .ref mC, .int my, .ref mU, .ref mV, .int mm, .int mf, .int mg])), (mS, .inl (G.2.1 2, 49, .inl fS))] sz) s [(mO, .inr (7, [.ref mS, .ref mD, .ref mR, .ref mT, .int mt, .int ma, .int mn, .ref mW, .ref mQ, .ref mC, .int my, .ref mU, .ref mV, .int mm, .int mf, .int mg])), (mS, .inl (G.2.1 2, 49, .inl (zeroF (x3 + 1) fS)))] H locs := by rw [show (zeroF (x3 + 1) fS) = (upd (zeroF x3 fS) x3 0) from rfl]; exact w
    exact ih3 (x3 + 1) ls _ _ (by have h := c7; rw [show (49 : Int32) = nI 49 from rfl, nI_leI (by decide) (by omega)] at h; omega) (by have h := c7; rw [show (49 : Int32) = nI 49 from rfl, nI_leI (by decide) (by omega)] at h; omega) w (lv_sub hl [0, 1, 2, 3, 4, 5] rfl)
theorem im_X7_adder_X7 : ∀ w ∈ u_ws RX7 TX7 16, w ∈ wsX7_adder := by decide +kernel
theorem im_X7_draw_X7 : ∀ w ∈ u_ws RX7 TX7 16, w ∈ wsX7_draw := by decide +kernel
theorem im_X7_countOf_X7 : ∀ w ∈ u_ws RX7 TX7 16, w ∈ wsX7_countOf := by decide +kernel
set_option maxHeartbeats 4000000 in
set_option maxRecDepth 100000 in
theorem c_X7_countOf (l : Launch) (G : GT) (mO mS mR : Nat) (sz : Nat) (mD mT mW mQ mC mU mV : Nat) (mt ma mn my mm mf mg : Int32) (fS fR : Nat → Int32) (x0 : Int32) : Met l yX7_countOf wsX7_countOf ({ frames := 0, cells := 0, slots := 0, locals := 0 }) (va_Pc [.ref mO, .int x0] (wPre G [(mO, .inr (7, [.ref mS, .ref mD, .ref mR, .ref mT, .int mt, .int ma, .int mn, .ref mW, .ref mQ, .ref mC, .int my, .ref mU, .ref mV, .int mm, .int mf, .int mg])), (mS, .inl (G.2.1 2, 49, .inl fS)), (mR, .inl (G.2.1 2, 3, .inl fR))] sz)) (vp_Si (fun r : Int32 => r = (countM fR mt fS x0))) 0 0 (fun _ => False) := by
  refine met_go (cc := cX7_countOf) (maxL := 2) (ret := (some .int)) (own := RX7) (by decide) rfl rfl (Nat.le_of_ble_eq_true rfl) ?_
  intro p e s m below meth c ls S hr hlocks hname hsz C w hl
  have hl : lv_has ls 2 [(0, .ref mO), (1, .int x0)] := hl
  refine lv_iload_n S.1 S.2.1 dX7_countOf_0 rfl (lv_at hl 1 rfl) ?_
  rcases sw_cases 0 5 x0.toInt (by decide) with c1 | ⟨c1n, c1l, c1q⟩
  · refine lv_tableOut (tgt := 66) S.1 S.2.1 dX7_countOf_1 c1 (by decide) ?_
    refine lv_aload_n S.1 S.2.1 dX7_countOf_66 rfl (lv_at hl 0 rfl) ?_
    refine w_get S C w (CC := RX7) (T := TX7) (N := 16) (ref := "GateSumsModel") im_X7_countOf_X7 0 rfl rfl 0 (by decide) (List.mem_of_getElem? (i := 3) rfl) (fun _ h => h) rfl dX7_countOf_67 ?_
    refine lv_iconst (v := 2) S.1 S.2.1 dX7_countOf_70 (by decide) ?_
    refine w_iald S C w 1 rfl (by unfold vp_in; decide) dX7_countOf_71 ?_
    exact W.iret (v := (fS (2 : Int32).toNatClampNeg)) S.1 S.2.1 hr (fun t ht _ => ⟨(fS (2 : Int32).toNatClampNeg), rfl, by first | (unfold countM; rw [if_pos (by omega)]; done) | (unfold countM; rw [if_neg (by omega), if_pos c1]; done) | (unfold countM; rw [if_neg (by omega), if_neg (by omega), if_pos c1]; rfl) | (unfold countM; rw [if_neg (by omega), if_neg (by omega), if_neg (by omega), if_pos c1]; rfl) | (unfold countM; rw [if_neg (by omega), if_neg (by omega), if_neg (by omega), if_neg (by omega)]; rfl), ht⟩) (fun q h => absurd h List.not_mem_nil) dX7_countOf_72
  · have c1l2 : c1n < 6 := by omega
    rcases Nat.lt_or_ge c1n 1 with c1a | c1a
    · have c1e : c1n = 0 := by omega
      subst c1e
      have c1 : x0.toInt = 0 := by omega
      refine lv_tableIn (off := 39) (tgt := 40) S.1 S.2.1 dX7_countOf_1 (by omega) (by omega) (by rw [c1]; rfl) (by decide) ?_
      refine lv_aload_n S.1 S.2.1 dX7_countOf_40 rfl (lv_at hl 0 rfl) ?_
      refine w_get S C w (CC := RX7) (T := TX7) (N := 16) (ref := "GateSumsModel") im_X7_countOf_X7 0 rfl rfl 2 (by decide) (List.mem_of_getElem? (i := 1) rfl) (fun _ h => h) rfl dX7_countOf_41 ?_
      refine lv_iload_n S.1 S.2.1 dX7_countOf_44 rfl (lv_at hl 1 rfl) ?_
      refine w_iald S C w 2 rfl (in3 (by omega)) dX7_countOf_45 ?_
      exact W.iret (v := (fR x0.toNatClampNeg)) S.1 S.2.1 hr (fun t ht _ => ⟨(fR x0.toNatClampNeg), rfl, by first | (unfold countM; rw [if_pos (by omega)]; done) | (unfold countM; rw [if_neg (by omega), if_pos c1]; done) | (unfold countM; rw [if_neg (by omega), if_neg (by omega), if_pos c1]; rfl) | (unfold countM; rw [if_neg (by omega), if_neg (by omega), if_neg (by omega), if_pos c1]; rfl) | (unfold countM; rw [if_neg (by omega), if_neg (by omega), if_neg (by omega), if_neg (by omega)]; rfl), ht⟩) (fun q h => absurd h List.not_mem_nil) dX7_countOf_46
    rcases Nat.lt_or_ge c1n 2 with c1a | c1a
    · have c1e : c1n = 1 := by omega
      subst c1e
      have c1 : x0.toInt = 1 := by omega
      refine lv_tableIn (off := 39) (tgt := 40) S.1 S.2.1 dX7_countOf_1 (by omega) (by omega) (by rw [c1]; rfl) (by decide) ?_
      refine lv_aload_n S.1 S.2.1 dX7_countOf_40 rfl (lv_at hl 0 rfl) ?_
      refine w_get S C w (CC := RX7) (T := TX7) (N := 16) (ref := "GateSumsModel") im_X7_countOf_X7 0 rfl rfl 2 (by decide) (List.mem_of_getElem? (i := 1) rfl) (fun _ h => h) rfl dX7_countOf_41 ?_
      refine lv_iload_n S.1 S.2.1 dX7_countOf_44 rfl (lv_at hl 1 rfl) ?_
      refine w_iald S C w 2 rfl (in3 (by omega)) dX7_countOf_45 ?_
      exact W.iret (v := (fR x0.toNatClampNeg)) S.1 S.2.1 hr (fun t ht _ => ⟨(fR x0.toNatClampNeg), rfl, by first | (unfold countM; rw [if_pos (by omega)]; done) | (unfold countM; rw [if_neg (by omega), if_pos c1]; done) | (unfold countM; rw [if_neg (by omega), if_neg (by omega), if_pos c1]; rfl) | (unfold countM; rw [if_neg (by omega), if_neg (by omega), if_neg (by omega), if_pos c1]; rfl) | (unfold countM; rw [if_neg (by omega), if_neg (by omega), if_neg (by omega), if_neg (by omega)]; rfl), ht⟩) (fun q h => absurd h List.not_mem_nil) dX7_countOf_46
    rcases Nat.lt_or_ge c1n 3 with c1a | c1a
    · have c1e : c1n = 2 := by omega
      subst c1e
      have c1 : x0.toInt = 2 := by omega
      refine lv_tableIn (off := 39) (tgt := 40) S.1 S.2.1 dX7_countOf_1 (by omega) (by omega) (by rw [c1]; rfl) (by decide) ?_
      refine lv_aload_n S.1 S.2.1 dX7_countOf_40 rfl (lv_at hl 0 rfl) ?_
      refine w_get S C w (CC := RX7) (T := TX7) (N := 16) (ref := "GateSumsModel") im_X7_countOf_X7 0 rfl rfl 2 (by decide) (List.mem_of_getElem? (i := 1) rfl) (fun _ h => h) rfl dX7_countOf_41 ?_
      refine lv_iload_n S.1 S.2.1 dX7_countOf_44 rfl (lv_at hl 1 rfl) ?_
      refine w_iald S C w 2 rfl (in3 (by omega)) dX7_countOf_45 ?_
      exact W.iret (v := (fR x0.toNatClampNeg)) S.1 S.2.1 hr (fun t ht _ => ⟨(fR x0.toNatClampNeg), rfl, by first | (unfold countM; rw [if_pos (by omega)]; done) | (unfold countM; rw [if_neg (by omega), if_pos c1]; done) | (unfold countM; rw [if_neg (by omega), if_neg (by omega), if_pos c1]; rfl) | (unfold countM; rw [if_neg (by omega), if_neg (by omega), if_neg (by omega), if_pos c1]; rfl) | (unfold countM; rw [if_neg (by omega), if_neg (by omega), if_neg (by omega), if_neg (by omega)]; rfl), ht⟩) (fun q h => absurd h List.not_mem_nil) dX7_countOf_46
    rcases Nat.lt_or_ge c1n 4 with c1a | c1a
    · have c1e : c1n = 3 := by omega
      subst c1e
      have c1 : x0.toInt = 3 := by omega
      refine lv_tableIn (off := 46) (tgt := 47) S.1 S.2.1 dX7_countOf_1 (by omega) (by omega) (by rw [c1]; rfl) (by decide) ?_
      refine lv_aload_n S.1 S.2.1 dX7_countOf_47 rfl (lv_at hl 0 rfl) ?_
      refine w_get S C w (CC := RX7) (T := TX7) (N := 16) (ref := "GateSumsModel") im_X7_countOf_X7 0 rfl rfl 4 (by decide) (List.mem_of_getElem? (i := 2) rfl) (fun _ h => h) rfl dX7_countOf_48 ?_
      exact W.iret (v := mt) S.1 S.2.1 hr (fun t ht _ => ⟨mt, rfl, by first | (unfold countM; rw [if_pos (by omega)]; done) | (unfold countM; rw [if_neg (by omega), if_pos c1]; done) | (unfold countM; rw [if_neg (by omega), if_neg (by omega), if_pos c1]; rfl) | (unfold countM; rw [if_neg (by omega), if_neg (by omega), if_neg (by omega), if_pos c1]; rfl) | (unfold countM; rw [if_neg (by omega), if_neg (by omega), if_neg (by omega), if_neg (by omega)]; rfl), ht⟩) (fun q h => absurd h List.not_mem_nil) dX7_countOf_51
    rcases Nat.lt_or_ge c1n 5 with c1a | c1a
    · have c1e : c1n = 4 := by omega
      subst c1e
      have c1 : x0.toInt = 4 := by omega
      refine lv_tableIn (off := 51) (tgt := 52) S.1 S.2.1 dX7_countOf_1 (by omega) (by omega) (by rw [c1]; rfl) (by decide) ?_
      refine lv_aload_n S.1 S.2.1 dX7_countOf_52 rfl (lv_at hl 0 rfl) ?_
      refine w_get S C w (CC := RX7) (T := TX7) (N := 16) (ref := "GateSumsModel") im_X7_countOf_X7 0 rfl rfl 0 (by decide) (List.mem_of_getElem? (i := 3) rfl) (fun _ h => h) rfl dX7_countOf_53 ?_
      refine lv_iconst (v := 0) S.1 S.2.1 dX7_countOf_56 (by decide) ?_
      refine w_iald S C w 1 rfl (by unfold vp_in; decide) dX7_countOf_57 ?_
      exact W.iret (v := (fS (0 : Int32).toNatClampNeg)) S.1 S.2.1 hr (fun t ht _ => ⟨(fS (0 : Int32).toNatClampNeg), rfl, by first | (unfold countM; rw [if_pos (by omega)]; done) | (unfold countM; rw [if_neg (by omega), if_pos c1]; done) | (unfold countM; rw [if_neg (by omega), if_neg (by omega), if_pos c1]; rfl) | (unfold countM; rw [if_neg (by omega), if_neg (by omega), if_neg (by omega), if_pos c1]; rfl) | (unfold countM; rw [if_neg (by omega), if_neg (by omega), if_neg (by omega), if_neg (by omega)]; rfl), ht⟩) (fun q h => absurd h List.not_mem_nil) dX7_countOf_58
    have c1e : c1n = 5 := by omega
    subst c1e
    have c1 : x0.toInt = 5 := by omega
    refine lv_tableIn (off := 58) (tgt := 59) S.1 S.2.1 dX7_countOf_1 (by omega) (by omega) (by rw [c1]; rfl) (by decide) ?_
    refine lv_aload_n S.1 S.2.1 dX7_countOf_59 rfl (lv_at hl 0 rfl) ?_
    refine w_get S C w (CC := RX7) (T := TX7) (N := 16) (ref := "GateSumsModel") im_X7_countOf_X7 0 rfl rfl 0 (by decide) (List.mem_of_getElem? (i := 3) rfl) (fun _ h => h) rfl dX7_countOf_60 ?_
    refine lv_iconst (v := 1) S.1 S.2.1 dX7_countOf_63 (by decide) ?_
    refine w_iald S C w 1 rfl (by unfold vp_in; decide) dX7_countOf_64 ?_
    exact W.iret (v := (fS (1 : Int32).toNatClampNeg)) S.1 S.2.1 hr (fun t ht _ => ⟨(fS (1 : Int32).toNatClampNeg), rfl, by first | (unfold countM; rw [if_pos (by omega)]; done) | (unfold countM; rw [if_neg (by omega), if_pos c1]; done) | (unfold countM; rw [if_neg (by omega), if_neg (by omega), if_pos c1]; rfl) | (unfold countM; rw [if_neg (by omega), if_neg (by omega), if_neg (by omega), if_pos c1]; rfl) | (unfold countM; rw [if_neg (by omega), if_neg (by omega), if_neg (by omega), if_neg (by omega)]; rfl), ht⟩) (fun q h => absurd h List.not_mem_nil) dX7_countOf_65
set_option maxHeartbeats 4000000 in
set_option maxRecDepth 100000 in
theorem c_X7_count (l : Launch) (G : GT) (mO mS mR : Nat) (sz : Nat) (mD mT mW mQ mC mU mV : Nat) (mt ma mn my mm mf mg : Int32) (fS fR : Nat → Int32) (x0 : Int32) : Met l yX7_count wsX7_count ({ frames := 1, cells := 0, slots := 0, locals := 22 }) (va_Pc [.ref mO, .int x0] (wPre G [(mO, .inr (7, [.ref mS, .ref mD, .ref mR, .ref mT, .int mt, .int ma, .int mn, .ref mW, .ref mQ, .ref mC, .int my, .ref mU, .ref mV, .int mm, .int mf, .int mg])), (mS, .inl (G.2.1 2, 49, .inl fS)), (mR, .inl (G.2.1 2, 3, .inl fR))] sz)) (va_Qi (fun (r : Int32) (u : (Nat → Int32)) => r = cntM fR mt fS x0) (bW G (va_A [(mO, .inr (7, [.ref mS, .ref mD, .ref mR, .ref mT, .int mt, .int ma, .int mn, .ref mW, .ref mQ, .ref mC, .int my, .ref mU, .ref mV, .int mm, .int mf, .int mg])), (mS, .inl (G.2.1 2, 49, .inl fS)), (mR, .inl (G.2.1 2, 3, .inl fR))] sz) (fun u : (Nat → Int32) => [(mO, .inr (7, [.ref mS, .ref mD, .ref mR, .ref mT, .int mt, .int ma, .int mn, .ref mW, .ref mQ, .ref mC, .int my, .ref mU, .ref mV, .int mm, .int mf, .int mg])), (mS, .inl (G.2.1 2, 49, .inl fS)), (mR, .inl (G.2.1 2, 3, .inl u))])) (va_A [(mO, .inr (7, [.ref mS, .ref mD, .ref mR, .ref mT, .int mt, .int ma, .int mn, .ref mW, .ref mQ, .ref mC, .int my, .ref mU, .ref mV, .int mm, .int mf, .int mg])), (mS, .inl (G.2.1 2, 49, .inl fS)), (mR, .inl (G.2.1 2, 3, .inl fR))] sz)) 0 0 (va_A [(mO, .inr (7, [.ref mS, .ref mD, .ref mR, .ref mT, .int mt, .int ma, .int mn, .ref mW, .ref mQ, .ref mC, .int my, .ref mU, .ref mV, .int mm, .int mf, .int mg])), (mS, .inl (G.2.1 2, 49, .inl fS)), (mR, .inl (G.2.1 2, 3, .inl fR))] sz) := by
  refine met_go (cc := cX7_count) (maxL := 2) (ret := (some .int)) (own := RX7) (by decide) rfl rfl (Nat.le_of_ble_eq_true rfl) ?_
  intro p e s m below meth c ls S hr hlocks hname hsz C w hl
  have hl : lv_has ls 2 [(0, .ref mO), (1, .int x0)] := hl
  refine lv_iload_n S.1 S.2.1 dX7_count_0 rfl (lv_at hl 1 rfl) ?_
  refine lv_iconst (v := 0) S.1 S.2.1 dX7_count_1 (by decide) ?_
  refine lv_bipush (v := 6) S.1 S.2.1 dX7_count_2 (by decide) ?_
  refine cs_i (va_runS (As := [.int x0, .int 0, .int 6]) (rest := []) S (c_X7_in l G _ x0 0 6) (va_cwS 3 S.2.2.2.2 gX7_count_X7_in rfl rfl rfl (by decide +kernel) ⟨Nat.le_of_ble_eq_true rfl, Nat.le_of_ble_eq_true rfl⟩) ⟨wPre_blind, wPre_at C w [] rfl rfl⟩ rfl rfl hl.1 rfl (lv_room (Nat.le_of_ble_eq_true rfl)) dX7_count_4 ⟨Nat.le_of_ble_eq_true rfl, Nat.le_of_ble_eq_true rfl⟩) (fun r4 h4 => ?_)
  refine w_topi (y := (inF x0 0 6)) h4 ?_
  refine lv_if_eq (tgt := 18) S.1 S.2.1 dX7_count_7 (by decide) (fun c7 => ?_) (fun c7 => ?_)
  · refine lv_aload_n S.1 S.2.1 dX7_count_18 rfl (lv_at hl 0 rfl) ?_
    refine lv_bipush (v := (-2)) S.1 S.2.1 dX7_count_19 (by decide) ?_
    refine cq_i C w [0, 2] [1] [1, 0, 2] (wr := [(mS, .inl (G.2.1 2, 49, .inl fS))]) (w' := fun u : Unit => [(mO, .inr (7, [.ref mS, .ref mD, .ref mR, .ref mT, .int mt, .int ma, .int mn, .ref mW, .ref mQ, .ref mC, .int my, .ref mU, .ref mV, .int mm, .int mf, .int mg])), (mR, .inl (G.2.1 2, 3, .inl (upd fR 0 (fR 0 + 1))))]) (ws2 := fun u : Unit => [(mO, .inr (7, [.ref mS, .ref mD, .ref mR, .ref mT, .int mt, .int ma, .int mn, .ref mW, .ref mQ, .ref mC, .int my, .ref mU, .ref mV, .int mm, .int mf, .int mg])), (mS, .inl (G.2.1 2, 49, .inl fS)), (mR, .inl (G.2.1 2, 3, .inl (upd fR 0 (fR 0 + 1))))]) rfl rfl rfl (by decide) rfl (fun _ => rfl) (va_runV (As := [.int (-2)]) (rest := []) S (c_X7_refuses_B l G mO mR _ mS mD mT mW mQ mC mU mV mt ma mn my mm mf mg fR) (cwV 1 S.2.2.2.2 gX7_count_X7_refuses rfl rfl rfl (by decide +kernel) ⟨Nat.le_of_ble_eq_true rfl, Nat.le_of_ble_eq_true rfl⟩) ⟨wPre_blind, va_recv C.1 w.1 (ci := 7) (q0 := 0) rfl rfl, wPre_at C w [0, 2] rfl rfl⟩ rfl rfl hl.1 rfl (lv_room (Nat.le_of_ble_eq_true rfl)) dX7_count_21 ⟨Nat.le_of_ble_eq_true rfl, Nat.le_of_ble_eq_true rfl⟩) (fun r21 u21 H locs h21 w => ?_)
    have w : Wd G _ s [(mO, .inr (7, [.ref mS, .ref mD, .ref mR, .ref mT, .int mt, .int ma, .int mn, .ref mW, .ref mQ, .ref mC, .int my, .ref mU, .ref mV, .int mm, .int mf, .int mg])), (mS, .inl (G.2.1 2, 49, .inl fS)), (mR, .inl (G.2.1 2, 3, .inl (upd fR 0 (fR 0 + 1))))] H locs := w
    exact W.iret (v := r21) S.1 S.2.1 hr (fun t ht _ => ⟨⟨r21, (upd fR 0 (fR 0 + 1)), rfl, by first | (rw [h21]; simp only [cntM, if_pos c7]; done) | (simp only [cntM, if_pos c7]; done), by rw [ht]; exact w.1, w.2.1⟩, w.2.2.F ht⟩) w.2.2.2.2 dX7_count_24
  · refine lv_aload_n S.1 S.2.1 dX7_count_10 rfl (lv_at hl 0 rfl) ?_
    refine lv_iload_n S.1 S.2.1 dX7_count_11 rfl (lv_at hl 1 rfl) ?_
    refine cs_i (va_runV (As := [.int x0]) (rest := []) S (c_X7_countOf l G mO mS mR _ mD mT mW mQ mC mU mV mt ma mn my mm mf mg fS fR x0) (cwV 1 S.2.2.2.2 gX7_count_X7_countOf rfl rfl rfl (by decide +kernel) ⟨Nat.le_of_ble_eq_true rfl, Nat.le_of_ble_eq_true rfl⟩) ⟨wPre_blind, va_recv C.1 w.1 (ci := 7) (q0 := 0) rfl rfl, wPre_at C w [0, 1, 2] rfl rfl⟩ rfl rfl hl.1 rfl (lv_room (Nat.le_of_ble_eq_true rfl)) dX7_count_12 ⟨Nat.le_of_ble_eq_true rfl, Nat.le_of_ble_eq_true rfl⟩) (fun r12 h12 => ?_)
    refine w_topi (y := (countM fR mt fS x0)) h12 ?_
    refine lv_goto (tgt := 24) S.1 S.2.1 dX7_count_15 (by decide) ?_
    exact W.iret (v := (countM fR mt fS x0)) S.1 S.2.1 hr (fun t ht _ => ⟨⟨(countM fR mt fS x0), fR, rfl, by first | (rw [@h21]; simp only [cntM, if_neg c7]; done) | (simp only [cntM, if_neg c7]; done), by rw [ht]; exact w.1, w.2.1⟩, w.2.2.F ht⟩) w.2.2.2.2 dX7_count_24
