theorem im_X7_isGate_X7 : ∀ w ∈ u_ws RX7 TX7 16, w ∈ wsX7_isGate := by decide +kernel
set_option maxHeartbeats 4000000 in
set_option maxRecDepth 100000 in
theorem c_X7_isGate (l : Launch) (G : GT) (mO mS : Nat) (sz : Nat) (mD mR mT mW mQ mC mU mV : Nat) (mt ma mn my mm mf mg : Int32) (fS : Nat → Int32) (i0 : Int32) : Met l yX7_isGate wsX7_isGate ({ frames := 1, cells := 0, slots := 0, locals := 22 }) (va_Pc [.ref mO, .int i0] (wPre G [(mO, .inr (7, [.ref mS, .ref mD, .ref mR, .ref mT, .int mt, .int ma, .int mn, .ref mW, .ref mQ, .ref mC, .int my, .ref mU, .ref mV, .int mm, .int mf, .int mg])), (mS, .inl (G.2.1 2, 49, .inl fS))] sz)) (vp_Si (fun r : Int32 => r = (gateM fS i0))) 0 0 (fun _ => False) := by
  refine met_go (cc := cX7_isGate) (maxL := 2) (ret := (some .boolean)) (own := RX7) (by decide) rfl rfl (Nat.le_of_ble_eq_true rfl) ?_
  intro p e s m below meth c ls S hr hlocks hname hsz C w hl
  have hl : lv_has ls 2 [(0, .ref mO), (1, .int i0)] := hl
  refine lv_iload_n S.1 S.2.1 dX7_isGate_0 rfl (lv_at hl 1 rfl) ?_
  refine lv_iconst (v := 0) S.1 S.2.1 dX7_isGate_1 (by decide) ?_
  refine lv_aload_n S.1 S.2.1 dX7_isGate_2 rfl (lv_at hl 0 rfl) ?_
  refine cs_i (va_runV (As := []) (rest := [.int 0, .int i0]) S (c_X7_isThere l G mO mS _ mD mR mT mW mQ mC mU mV mt ma mn my mm mf mg fS) (cwV 0 S.2.2.2.2 gX7_isGate_X7_isThere rfl rfl rfl (by decide +kernel) ⟨Nat.le_of_ble_eq_true rfl, Nat.le_of_ble_eq_true rfl⟩) ⟨wPre_blind, va_recv C.1 w.1 (ci := 7) (q0 := 0) rfl rfl, wPre_at C w [0, 1] rfl rfl⟩ rfl rfl hl.1 rfl (lv_room (Nat.le_of_ble_eq_true rfl)) dX7_isGate_3 ⟨Nat.le_of_ble_eq_true rfl, Nat.le_of_ble_eq_true rfl⟩) (fun r3 h3 => ?_)
  refine w_topi (y := (thereM fS)) h3 ?_
  refine lv_if_eq (tgt := 20) S.1 S.2.1 dX7_isGate_6 (by decide) (fun c6 => ?_) (fun c6 => ?_)
  · refine lv_bipush (v := 11) S.1 S.2.1 dX7_isGate_20 (by decide) ?_
    refine cs_i (va_runS (As := [.int i0, .int 0, .int 11]) (rest := []) S (c_X7_in l G _ i0 0 11) (va_cwS 3 S.2.2.2.2 gX7_isGate_X7_in rfl rfl rfl (by decide +kernel) ⟨Nat.le_of_ble_eq_true rfl, Nat.le_of_ble_eq_true rfl⟩) ⟨wPre_blind, wPre_at C w [] rfl rfl⟩ rfl rfl hl.1 rfl (lv_room (Nat.le_of_ble_eq_true rfl)) dX7_isGate_22 ⟨Nat.le_of_ble_eq_true rfl, Nat.le_of_ble_eq_true rfl⟩) (fun r22 h22 => ?_)
    refine w_topi (y := (inF i0 0 11)) h22 ?_
    exact W.zret (v := (inF i0 0 11)) S.1 S.2.1 hr (inF_nar _ _ _) (fun t ht _ => ⟨(inF i0 0 11), rfl, by unfold gateM; first | (rw [if_pos c6]; done) | (rw [if_neg c6]; first | done | rfl), ht⟩) (fun q h => absurd h List.not_mem_nil) dX7_isGate_25
  · refine lv_aload_n S.1 S.2.1 dX7_isGate_9 rfl (lv_at hl 0 rfl) ?_
    refine w_get S C w (CC := RX7) (T := TX7) (N := 16) (ref := "GateSumsModel") im_X7_isGate_X7 0 rfl rfl 0 (by decide) (List.mem_of_getElem? (i := 1) rfl) (fun _ h => h) rfl dX7_isGate_10 ?_
    refine lv_iconst (v := 1) S.1 S.2.1 dX7_isGate_13 (by decide) ?_
    refine w_iald S C w 1 rfl (by unfold vp_in; decide) dX7_isGate_14 ?_
    refine lv_iconst (v := 1) S.1 S.2.1 dX7_isGate_15 (by decide) ?_
    refine lv_isub S.1 S.2.1 dX7_isGate_16 ?_
    refine lv_goto (tgt := 22) S.1 S.2.1 dX7_isGate_17 (by decide) ?_
    refine cs_i (va_runS (As := [.int i0, .int 0, .int ((fS (1 : Int32).toNatClampNeg) - 1)]) (rest := []) S (c_X7_in l G _ i0 0 ((fS (1 : Int32).toNatClampNeg) - 1)) (va_cwS 3 S.2.2.2.2 gX7_isGate_X7_in rfl rfl rfl (by decide +kernel) ⟨Nat.le_of_ble_eq_true rfl, Nat.le_of_ble_eq_true rfl⟩) ⟨wPre_blind, wPre_at C w [] rfl rfl⟩ rfl rfl hl.1 rfl (lv_room (Nat.le_of_ble_eq_true rfl)) dX7_isGate_22 ⟨Nat.le_of_ble_eq_true rfl, Nat.le_of_ble_eq_true rfl⟩) (fun r22_1 h22_1 => ?_)
    refine w_topi (y := (inF i0 0 ((fS (1 : Int32).toNatClampNeg) - 1))) h22_1 ?_
    exact W.zret (v := (inF i0 0 ((fS (1 : Int32).toNatClampNeg) - 1))) S.1 S.2.1 hr (inF_nar _ _ _) (fun t ht _ => ⟨(inF i0 0 ((fS (1 : Int32).toNatClampNeg) - 1)), rfl, by unfold gateM; first | (rw [if_pos c6]; done) | (rw [if_neg c6]; first | done | rfl), ht⟩) (fun q h => absurd h List.not_mem_nil) dX7_isGate_25
theorem im_X7_isInput_X7 : ∀ w ∈ u_ws RX7 TX7 16, w ∈ wsX7_isInput := by decide +kernel
set_option maxHeartbeats 4000000 in
set_option maxRecDepth 100000 in
theorem c_X7_isInput (l : Launch) (G : GT) (mO mS : Nat) (sz : Nat) (mD mR mT mW mQ mC mU mV : Nat) (mt ma mn my mm mf mg : Int32) (fS : Nat → Int32) (i0 : Int32) : Met l yX7_isInput wsX7_isInput ({ frames := 1, cells := 0, slots := 0, locals := 22 }) (va_Pc [.ref mO, .int i0] (wPre G [(mO, .inr (7, [.ref mS, .ref mD, .ref mR, .ref mT, .int mt, .int ma, .int mn, .ref mW, .ref mQ, .ref mC, .int my, .ref mU, .ref mV, .int mm, .int mf, .int mg])), (mS, .inl (G.2.1 2, 49, .inl fS))] sz)) (vp_Si (fun r : Int32 => r = (inpM fS i0))) 0 0 (fun _ => False) := by
  refine met_go (cc := cX7_isInput) (maxL := 2) (ret := (some .boolean)) (own := RX7) (by decide) rfl rfl (Nat.le_of_ble_eq_true rfl) ?_
  intro p e s m below meth c ls S hr hlocks hname hsz C w hl
  have hl : lv_has ls 2 [(0, .ref mO), (1, .int i0)] := hl
  refine lv_iload_n S.1 S.2.1 dX7_isInput_0 rfl (lv_at hl 1 rfl) ?_
  refine lv_iconst (v := 0) S.1 S.2.1 dX7_isInput_1 (by decide) ?_
  refine lv_aload_n S.1 S.2.1 dX7_isInput_2 rfl (lv_at hl 0 rfl) ?_
  refine cs_i (va_runV (As := []) (rest := [.int 0, .int i0]) S (c_X7_isThere l G mO mS _ mD mR mT mW mQ mC mU mV mt ma mn my mm mf mg fS) (cwV 0 S.2.2.2.2 gX7_isInput_X7_isThere rfl rfl rfl (by decide +kernel) ⟨Nat.le_of_ble_eq_true rfl, Nat.le_of_ble_eq_true rfl⟩) ⟨wPre_blind, va_recv C.1 w.1 (ci := 7) (q0 := 0) rfl rfl, wPre_at C w [0, 1] rfl rfl⟩ rfl rfl hl.1 rfl (lv_room (Nat.le_of_ble_eq_true rfl)) dX7_isInput_3 ⟨Nat.le_of_ble_eq_true rfl, Nat.le_of_ble_eq_true rfl⟩) (fun r3 h3 => ?_)
  refine w_topi (y := (thereM fS)) h3 ?_
  refine lv_if_eq (tgt := 22) S.1 S.2.1 dX7_isInput_6 (by decide) (fun c6 => ?_) (fun c6 => ?_)
  · refine lv_bipush (v := 63) S.1 S.2.1 dX7_isInput_22 (by decide) ?_
    refine cs_i (va_runS (As := [.int i0, .int 0, .int 63]) (rest := []) S (c_X7_in l G _ i0 0 63) (va_cwS 3 S.2.2.2.2 gX7_isInput_X7_in rfl rfl rfl (by decide +kernel) ⟨Nat.le_of_ble_eq_true rfl, Nat.le_of_ble_eq_true rfl⟩) ⟨wPre_blind, wPre_at C w [] rfl rfl⟩ rfl rfl hl.1 rfl (lv_room (Nat.le_of_ble_eq_true rfl)) dX7_isInput_24 ⟨Nat.le_of_ble_eq_true rfl, Nat.le_of_ble_eq_true rfl⟩) (fun r24 h24 => ?_)
    refine w_topi (y := (inF i0 0 63)) h24 ?_
    exact W.zret (v := (inF i0 0 63)) S.1 S.2.1 hr (inF_nar _ _ _) (fun t ht _ => ⟨(inF i0 0 63), rfl, by unfold inpM; first | (rw [if_pos c6]; done) | (rw [if_neg c6]; first | done | rfl), ht⟩) (fun q h => absurd h List.not_mem_nil) dX7_isInput_27
  · refine lv_iconst (v := 1) S.1 S.2.1 dX7_isInput_9 (by decide) ?_
    refine lv_aload_n S.1 S.2.1 dX7_isInput_10 rfl (lv_at hl 0 rfl) ?_
    refine w_get S C w (CC := RX7) (T := TX7) (N := 16) (ref := "GateSumsModel") im_X7_isInput_X7 0 rfl rfl 0 (by decide) (List.mem_of_getElem? (i := 1) rfl) (fun _ h => h) rfl dX7_isInput_11 ?_
    refine lv_iconst (v := 0) S.1 S.2.1 dX7_isInput_14 (by decide) ?_
    refine w_iald S C w 1 rfl (by unfold vp_in; decide) dX7_isInput_15 ?_
    refine lv_ishl S.1 S.2.1 dX7_isInput_16 ?_
    refine lv_iconst (v := 1) S.1 S.2.1 dX7_isInput_17 (by decide) ?_
    refine lv_isub S.1 S.2.1 dX7_isInput_18 ?_
    refine lv_goto (tgt := 24) S.1 S.2.1 dX7_isInput_19 (by decide) ?_
    refine cs_i (va_runS (As := [.int i0, .int 0, .int (((1 : Int32) <<< ((fS (0 : Int32).toNatClampNeg) &&& 31)) - 1)]) (rest := []) S (c_X7_in l G _ i0 0 (((1 : Int32) <<< ((fS (0 : Int32).toNatClampNeg) &&& 31)) - 1)) (va_cwS 3 S.2.2.2.2 gX7_isInput_X7_in rfl rfl rfl (by decide +kernel) ⟨Nat.le_of_ble_eq_true rfl, Nat.le_of_ble_eq_true rfl⟩) ⟨wPre_blind, wPre_at C w [] rfl rfl⟩ rfl rfl hl.1 rfl (lv_room (Nat.le_of_ble_eq_true rfl)) dX7_isInput_24 ⟨Nat.le_of_ble_eq_true rfl, Nat.le_of_ble_eq_true rfl⟩) (fun r24_1 h24_1 => ?_)
    refine w_topi (y := (inF i0 0 (((1 : Int32) <<< ((fS (0 : Int32).toNatClampNeg) &&& 31)) - 1))) h24_1 ?_
    exact W.zret (v := (inF i0 0 (((1 : Int32) <<< ((fS (0 : Int32).toNatClampNeg) &&& 31)) - 1))) S.1 S.2.1 hr (inF_nar _ _ _) (fun t ht _ => ⟨(inF i0 0 (((1 : Int32) <<< ((fS (0 : Int32).toNatClampNeg) &&& 31)) - 1)), rfl, by unfold inpM; first | (rw [if_pos c6]; done) | (rw [if_neg c6]; first | done | rfl), ht⟩) (fun q h => absurd h List.not_mem_nil) dX7_isInput_27
theorem im_X7_isStage_X7 : ∀ w ∈ u_ws RX7 TX7 16, w ∈ wsX7_isStage := by decide +kernel
set_option maxHeartbeats 4000000 in
set_option maxRecDepth 100000 in
theorem c_X7_isStage (l : Launch) (G : GT) (mO mS : Nat) (sz : Nat) (mD mR mT mW mQ mC mU mV : Nat) (mt ma mn my mm mf mg : Int32) (fS : Nat → Int32) (i0 : Int32) : Met l yX7_isStage wsX7_isStage ({ frames := 1, cells := 0, slots := 0, locals := 22 }) (va_Pc [.ref mO, .int i0] (wPre G [(mO, .inr (7, [.ref mS, .ref mD, .ref mR, .ref mT, .int mt, .int ma, .int mn, .ref mW, .ref mQ, .ref mC, .int my, .ref mU, .ref mV, .int mm, .int mf, .int mg])), (mS, .inl (G.2.1 2, 49, .inl fS))] sz)) (vp_Si (fun r : Int32 => r = (stgM fS i0))) 0 0 (fun _ => False) := by
  refine met_go (cc := cX7_isStage) (maxL := 2) (ret := (some .boolean)) (own := RX7) (by decide) rfl rfl (Nat.le_of_ble_eq_true rfl) ?_
  intro p e s m below meth c ls S hr hlocks hname hsz C w hl
  have hl : lv_has ls 2 [(0, .ref mO), (1, .int i0)] := hl
  refine lv_iload_n S.1 S.2.1 dX7_isStage_0 rfl (lv_at hl 1 rfl) ?_
  refine lv_iconst (v := 0) S.1 S.2.1 dX7_isStage_1 (by decide) ?_
  refine lv_aload_n S.1 S.2.1 dX7_isStage_2 rfl (lv_at hl 0 rfl) ?_
  refine cs_i (va_runV (As := []) (rest := [.int 0, .int i0]) S (c_X7_isThere l G mO mS _ mD mR mT mW mQ mC mU mV mt ma mn my mm mf mg fS) (cwV 0 S.2.2.2.2 gX7_isStage_X7_isThere rfl rfl rfl (by decide +kernel) ⟨Nat.le_of_ble_eq_true rfl, Nat.le_of_ble_eq_true rfl⟩) ⟨wPre_blind, va_recv C.1 w.1 (ci := 7) (q0 := 0) rfl rfl, wPre_at C w [0, 1] rfl rfl⟩ rfl rfl hl.1 rfl (lv_room (Nat.le_of_ble_eq_true rfl)) dX7_isStage_3 ⟨Nat.le_of_ble_eq_true rfl, Nat.le_of_ble_eq_true rfl⟩) (fun r3 h3 => ?_)
  refine w_topi (y := (thereM fS)) h3 ?_
  refine lv_if_eq (tgt := 18) S.1 S.2.1 dX7_isStage_6 (by decide) (fun c6 => ?_) (fun c6 => ?_)
  · refine lv_bipush (v := 12) S.1 S.2.1 dX7_isStage_18 (by decide) ?_
    refine cs_i (va_runS (As := [.int i0, .int 0, .int 12]) (rest := []) S (c_X7_in l G _ i0 0 12) (va_cwS 3 S.2.2.2.2 gX7_isStage_X7_in rfl rfl rfl (by decide +kernel) ⟨Nat.le_of_ble_eq_true rfl, Nat.le_of_ble_eq_true rfl⟩) ⟨wPre_blind, wPre_at C w [] rfl rfl⟩ rfl rfl hl.1 rfl (lv_room (Nat.le_of_ble_eq_true rfl)) dX7_isStage_20 ⟨Nat.le_of_ble_eq_true rfl, Nat.le_of_ble_eq_true rfl⟩) (fun r20 h20 => ?_)
    refine w_topi (y := (inF i0 0 12)) h20 ?_
    exact W.zret (v := (inF i0 0 12)) S.1 S.2.1 hr (inF_nar _ _ _) (fun t ht _ => ⟨(inF i0 0 12), rfl, by unfold stgM; first | (rw [if_pos c6]; done) | (rw [if_neg c6]; first | done | rfl), ht⟩) (fun q h => absurd h List.not_mem_nil) dX7_isStage_23
  · refine lv_aload_n S.1 S.2.1 dX7_isStage_9 rfl (lv_at hl 0 rfl) ?_
    refine w_get S C w (CC := RX7) (T := TX7) (N := 16) (ref := "GateSumsModel") im_X7_isStage_X7 0 rfl rfl 0 (by decide) (List.mem_of_getElem? (i := 1) rfl) (fun _ h => h) rfl dX7_isStage_10 ?_
    refine lv_iconst (v := 1) S.1 S.2.1 dX7_isStage_13 (by decide) ?_
    refine w_iald S C w 1 rfl (by unfold vp_in; decide) dX7_isStage_14 ?_
    refine lv_goto (tgt := 20) S.1 S.2.1 dX7_isStage_15 (by decide) ?_
    refine cs_i (va_runS (As := [.int i0, .int 0, .int (fS (1 : Int32).toNatClampNeg)]) (rest := []) S (c_X7_in l G _ i0 0 (fS (1 : Int32).toNatClampNeg)) (va_cwS 3 S.2.2.2.2 gX7_isStage_X7_in rfl rfl rfl (by decide +kernel) ⟨Nat.le_of_ble_eq_true rfl, Nat.le_of_ble_eq_true rfl⟩) ⟨wPre_blind, wPre_at C w [] rfl rfl⟩ rfl rfl hl.1 rfl (lv_room (Nat.le_of_ble_eq_true rfl)) dX7_isStage_20 ⟨Nat.le_of_ble_eq_true rfl, Nat.le_of_ble_eq_true rfl⟩) (fun r20_1 h20_1 => ?_)
    refine w_topi (y := (inF i0 0 (fS (1 : Int32).toNatClampNeg))) h20_1 ?_
    exact W.zret (v := (inF i0 0 (fS (1 : Int32).toNatClampNeg))) S.1 S.2.1 hr (inF_nar _ _ _) (fun t ht _ => ⟨(inF i0 0 (fS (1 : Int32).toNatClampNeg)), rfl, by unfold stgM; first | (rw [if_pos c6]; done) | (rw [if_neg c6]; first | done | rfl), ht⟩) (fun q h => absurd h List.not_mem_nil) dX7_isStage_23
