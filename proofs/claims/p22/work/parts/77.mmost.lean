set_option maxHeartbeats 4000000 in
set_option maxRecDepth 100000 in
theorem k_X7_ones (l : Launch) (G : GT) (sz : Nat) (x0 : Int32) : Met l yX7_ones wsX7_ones ({ frames := 0, cells := 0, slots := 0, locals := 0 }) (va_Pc [.int x0] (wPre G [] sz)) (vp_Si (fun r : Int32 => r = (onesF x0))) 0 0 (fun _ => False) := by
  refine met_go (cc := cX7_ones) (maxL := 3) (ret := (some .int)) (own := RX7) (by decide) rfl rfl (Nat.le_of_ble_eq_true rfl) ?_
  intro p e s m below meth c ls S hr hlocks hname hsz C w hl
  have hl : lv_has ls 3 [(0, .int x0)] := hl
  refine lv_iconst (v := 0) S.1 S.2.1 dX7_ones_0 (by decide) ?_
  refine lv_istore_n (lv' := [(1, .int 0), (0, .int x0)]) S.1 S.2.1 dX7_ones_1 rfl hl (by decide) rfl (fun ls hl => ?_)
  refine lv_iconst (v := 0) S.1 S.2.1 dX7_ones_2 (by decide) ?_
  refine lv_istore_n (lv' := [(2, .int 0), (1, .int 0), (0, .int x0)]) S.1 S.2.1 dX7_ones_3 rfl hl (by decide) rfl (fun ls hl => ?_)
  refine w_loopS (σ := Nat) (nL := 3) 4 (fun x4 => 18 - x4) (fun x4 => x4 ≤ 18) (fun x4 => [(2, .int (nI x4)), (1, .int (foldF (on1 x0) x4 0)), (0, .int x0)]) (fun _ => []) ?_ 0 ls (Nat.zero_le _) (lv_sub hl [0, 1, 2] rfl)
  intro x4 ls hI4 hl ih4
  have hl : lv_has ls 3 [(2, .int (nI x4)), (1, .int (foldF (on1 x0) x4 0)), (0, .int x0)] := hl
  refine lv_iload_n S.1 S.2.1 dX7_ones_4 rfl (lv_at hl 0 rfl) ?_
  refine lv_bipush (v := 18) S.1 S.2.1 dX7_ones_5 (by decide) ?_
  refine lv_icmp_ge (tgt := 24) S.1 S.2.1 dX7_ones_7 (by decide) (fun c7 => ?_) (fun c7 => ?_)
  · refine lv_iload_n S.1 S.2.1 dX7_ones_24 rfl (lv_at hl 1 rfl) ?_
    exact W.iret (v := (foldF (on1 x0) x4 0)) S.1 S.2.1 hr (fun t ht _ => ⟨(foldF (on1 x0) x4 0), rfl, (by have e : x4 = 18 := (by have h := c7; rw [show (18 : Int32) = nI 18 from rfl, nI_leI (by decide) (by omega)] at h; omega); rw [e]; rfl), ht⟩) (fun q h => absurd h List.not_mem_nil) dX7_ones_25
  · refine lv_iload_n S.1 S.2.1 dX7_ones_10 rfl (lv_at hl 1 rfl) ?_
    refine lv_iload_n S.1 S.2.1 dX7_ones_11 rfl (lv_at hl 2 rfl) ?_
    refine lv_iload_n S.1 S.2.1 dX7_ones_12 rfl (lv_at hl 0 rfl) ?_
    refine lv_ishr S.1 S.2.1 dX7_ones_13 ?_
    refine lv_iconst (v := 1) S.1 S.2.1 dX7_ones_14 (by decide) ?_
    refine lv_iand S.1 S.2.1 dX7_ones_15 ?_
    refine lv_iadd S.1 S.2.1 dX7_ones_16 ?_
    refine lv_istore_n (lv' := [(1, .int ((foldF (on1 x0) x4 0) + ((x0 >>> ((nI x4) &&& 31)) &&& 1))), (2, .int (nI x4)), (0, .int x0)]) S.1 S.2.1 dX7_ones_17 rfl hl (by decide) rfl (fun ls hl => ?_)
    refine lv_iinc (v := (nI (x4 + 1))) (lv' := [(2, .int (nI (x4 + 1))), (1, .int ((foldF (on1 x0) x4 0) + ((x0 >>> ((nI x4) &&& 31)) &&& 1))), (0, .int x0)]) S.1 S.2.1 dX7_ones_18 hl (k := 1) rfl (nI_1 _) (by decide) rfl (fun ls hl => ?_)
    refine lv_goto (tgt := 4) S.1 S.2.1 dX7_ones_21 (by decide) ?_
    have hlt : x4 < 18 := by have h := c7; rw [show (18 : Int32) = nI 18 from rfl, nI_leI (by decide) (by omega)] at h; omega
    exact ih4 (x4 + 1) ls (hlt) (by omega) (lv_sub hl [0, 1, 2] rfl)
set_option maxHeartbeats 4000000 in
set_option maxRecDepth 100000 in
theorem k_X7_witness (l : Launch) (G : GT) (mO mS mR mQ mC mU mV : Nat) (sz : Nat) (mD mT mW : Nat) (mt ma mn my mm mf mg : Int32) (fS fR fQ fU : Nat → Int32) (lC lV : Nat → Int64)  (hwk : ¬ thereM fS = 0 → WK fS) : Met l yX7_witness wsX7_witness ({ frames := 4, cells := 0, slots := 0, locals := 104 }) (va_Pc [.ref mO] (wPre G [(mO, .inr (7, [.ref mS, .ref mD, .ref mR, .ref mT, .int mt, .int ma, .int mn, .ref mW, .ref mQ, .ref mC, .int my, .ref mU, .ref mV, .int mm, .int mf, .int mg])), (mS, .inl (G.2.1 2, 49, .inl fS)), (mR, .inl (G.2.1 2, 3, .inl fR)), (mQ, .inl (G.2.1 2, 200, .inl fQ)), (mC, .inl (G.2.1 3, 200, .inr (.inl lC))), (mU, .inl (G.2.1 2, 200, .inl fU)), (mV, .inl (G.2.1 3, 200, .inr (.inl lV)))] sz)) (va_Qi (fun (r : Int32) (u : Int32 × Int32 × Int32 × Int32 × (Nat → Int32) × (Nat → Int32) × (Nat → Int64) × (Nat → Int32) × (Nat → Int64)) => r = (if thereM fS = 0 then -3 else witV fS)) (bW G (va_A [(mO, .inr (7, [.ref mS, .ref mD, .ref mR, .ref mT, .int mt, .int ma, .int mn, .ref mW, .ref mQ, .ref mC, .int my, .ref mU, .ref mV, .int mm, .int mf, .int mg])), (mS, .inl (G.2.1 2, 49, .inl fS)), (mR, .inl (G.2.1 2, 3, .inl fR)), (mQ, .inl (G.2.1 2, 200, .inl fQ)), (mC, .inl (G.2.1 3, 200, .inr (.inl lC))), (mU, .inl (G.2.1 2, 200, .inl fU)), (mV, .inl (G.2.1 3, 200, .inr (.inl lV)))] sz) (fun u : Int32 × Int32 × Int32 × Int32 × (Nat → Int32) × (Nat → Int32) × (Nat → Int64) × (Nat → Int32) × (Nat → Int64) => [(mO, .inr (7, [.ref mS, .ref mD, .ref mR, .ref mT, .int mt, .int ma, .int mn, .ref mW, .ref mQ, .ref mC, .int u.1, .ref mU, .ref mV, .int u.2.1, .int u.2.2.1, .int u.2.2.2.1])), (mS, .inl (G.2.1 2, 49, .inl fS)), (mR, .inl (G.2.1 2, 3, .inl u.2.2.2.2.1)), (mQ, .inl (G.2.1 2, 200, .inl u.2.2.2.2.2.1)), (mC, .inl (G.2.1 3, 200, .inr (.inl u.2.2.2.2.2.2.1))), (mU, .inl (G.2.1 2, 200, .inl u.2.2.2.2.2.2.2.1)), (mV, .inl (G.2.1 3, 200, .inr (.inl u.2.2.2.2.2.2.2.2)))])) (va_A [(mO, .inr (7, [.ref mS, .ref mD, .ref mR, .ref mT, .int mt, .int ma, .int mn, .ref mW, .ref mQ, .ref mC, .int my, .ref mU, .ref mV, .int mm, .int mf, .int mg])), (mS, .inl (G.2.1 2, 49, .inl fS)), (mR, .inl (G.2.1 2, 3, .inl fR)), (mQ, .inl (G.2.1 2, 200, .inl fQ)), (mC, .inl (G.2.1 3, 200, .inr (.inl lC))), (mU, .inl (G.2.1 2, 200, .inl fU)), (mV, .inl (G.2.1 3, 200, .inr (.inl lV)))] sz)) 0 0 (va_A [(mO, .inr (7, [.ref mS, .ref mD, .ref mR, .ref mT, .int mt, .int ma, .int mn, .ref mW, .ref mQ, .ref mC, .int my, .ref mU, .ref mV, .int mm, .int mf, .int mg])), (mS, .inl (G.2.1 2, 49, .inl fS)), (mR, .inl (G.2.1 2, 3, .inl fR)), (mQ, .inl (G.2.1 2, 200, .inl fQ)), (mC, .inl (G.2.1 3, 200, .inr (.inl lC))), (mU, .inl (G.2.1 2, 200, .inl fU)), (mV, .inl (G.2.1 3, 200, .inr (.inl lV)))] sz) := by
  refine met_go (cc := cX7_witness) (maxL := 3) (ret := (some .int)) (own := RX7) (by decide) rfl rfl (Nat.le_of_ble_eq_true rfl) ?_
  intro p e s m below meth c ls S hr hlocks hname hsz C w hl
  have hl : lv_has ls 3 [(0, .ref mO)] := hl
  refine lv_aload_n S.1 S.2.1 dX7_witness_0 rfl (lv_at hl 0 rfl) ?_
  refine cs_i (va_runV (As := []) (rest := []) S (c_X7_isThere l G mO mS _ mD mR mT mW mQ mC mU mV mt ma mn my mm mf mg fS) (cwV 0 S.2.2.2.2 gX7_witness_X7_isThere rfl rfl rfl (by decide +kernel) ⟨Nat.le_of_ble_eq_true rfl, Nat.le_of_ble_eq_true rfl⟩) ⟨wPre_blind, va_recv C.1 w.1 (ci := 7) (q0 := 0) rfl rfl, wPre_at C w [0, 1] rfl rfl⟩ rfl rfl hl.1 rfl (lv_room (Nat.le_of_ble_eq_true rfl)) dX7_witness_1 ⟨Nat.le_of_ble_eq_true rfl, Nat.le_of_ble_eq_true rfl⟩) (fun r1 h1 => ?_)
  refine w_topi (y := (thereM fS)) h1 ?_
  refine lv_if_ne (tgt := 14) S.1 S.2.1 dX7_witness_4 (by decide) (fun c4 => ?_) (fun c4 => ?_)
  · have hW := hwk c4
    obtain ⟨iN, hw0, hw1, hw2, hw4, hw5, hoN, hpN, hqN, hwf, hwo, hkd⟩ := id hW
    refine lv_aload_n S.1 S.2.1 dX7_witness_14 rfl (lv_at hl 0 rfl) ?_
    refine lv_aload_n S.1 S.2.1 dX7_witness_15 rfl (lv_at hl 0 rfl) ?_
    refine w_get S C w (CC := RX7) (T := TX7) (N := 16) (ref := "GateSumsModel") im_X7_witness_X7 0 rfl rfl 0 (by decide) (List.mem_of_getElem? (i := 1) rfl) (fun _ h => h) rfl dX7_witness_16 ?_
    refine lv_iconst (v := 1) S.1 S.2.1 dX7_witness_19 (by decide) ?_
    refine w_iald S C w 1 rfl (by unfold vp_in; decide) dX7_witness_20 ?_
    refine w_topi (y := (nI (gf fS))) (hw1) ?_
    refine cq_i C w [0, 1, 3, 4, 5, 6] [2] [1, 2, 0, 3, 4, 5, 6] (wr := [(mR, .inl (G.2.1 2, 3, .inl fR))]) (w' := fun u : Nat × (Nat → Int32) × (Nat → Int64) × (Nat → Int32) × (Nat → Int64) × Nat => [(mO, .inr (7, [.ref mS, .ref mD, .ref mR, .ref mT, .int mt, .int ma, .int mn, .ref mW, .ref mQ, .ref mC, .int (nI u.1), .ref mU, .ref mV, .int 0, .int mf, .int (nI u.2.2.2.2.2)])), (mS, .inl (G.2.1 2, 49, .inl fS)), (mQ, .inl (G.2.1 2, 200, .inl u.2.1)), (mC, .inl (G.2.1 3, 200, .inr (.inl u.2.2.1))), (mU, .inl (G.2.1 2, 200, .inl u.2.2.2.1)), (mV, .inl (G.2.1 3, 200, .inr (.inl u.2.2.2.2.1)))]) (ws2 := fun u : Nat × (Nat → Int32) × (Nat → Int64) × (Nat → Int32) × (Nat → Int64) × Nat => [(mO, .inr (7, [.ref mS, .ref mD, .ref mR, .ref mT, .int mt, .int ma, .int mn, .ref mW, .ref mQ, .ref mC, .int (nI u.1), .ref mU, .ref mV, .int 0, .int mf, .int (nI u.2.2.2.2.2)])), (mS, .inl (G.2.1 2, 49, .inl fS)), (mR, .inl (G.2.1 2, 3, .inl fR)), (mQ, .inl (G.2.1 2, 200, .inl u.2.1)), (mC, .inl (G.2.1 3, 200, .inr (.inl u.2.2.1))), (mU, .inl (G.2.1 2, 200, .inl u.2.2.2.1)), (mV, .inl (G.2.1 3, 200, .inr (.inl u.2.2.2.2.1)))]) rfl rfl rfl (by decide) rfl (fun _ => rfl) (va_runV (As := [.int (nI (gf fS))]) (rest := []) S (k_X7_comes l G mO mS mQ mC mU mV _ mD mR mT mW mt ma mn my mm mf mg fS fQ fU lC lV iN (gf fS) (of_ fS) (pf_ fS) (qf_ fS) (gf fS) (hw1) (hW.g12) (hw2) (hoN) (hw4) (hpN) (hw5) (hqN) (hwf) (hwo) (hkd) (Nat.le_refl _)) (cwV 1 S.2.2.2.2 gX7_witness_X7_comes rfl rfl rfl (by decide +kernel) ⟨Nat.le_of_ble_eq_true rfl, Nat.le_of_ble_eq_true rfl⟩) ⟨wPre_blind, va_recv C.1 w.1 (ci := 7) (q0 := 0) rfl rfl, wPre_at C w [0, 1, 3, 4, 5, 6] rfl rfl⟩ rfl rfl hl.1 rfl (lv_room (Nat.le_of_ble_eq_true rfl)) dX7_witness_21 ⟨Nat.le_of_ble_eq_true rfl, Nat.le_of_ble_eq_true rfl⟩) (fun r21 u21 H locs h21 w => ?_)
    have w : Wd G _ s [(mO, .inr (7, [.ref mS, .ref mD, .ref mR, .ref mT, .int mt, .int ma, .int mn, .ref mW, .ref mQ, .ref mC, .int (nI u21.1), .ref mU, .ref mV, .int 0, .int mf, .int (nI u21.2.2.2.2.2)])), (mS, .inl (G.2.1 2, 49, .inl fS)), (mR, .inl (G.2.1 2, 3, .inl fR)), (mQ, .inl (G.2.1 2, 200, .inl u21.2.1)), (mC, .inl (G.2.1 3, 200, .inr (.inl u21.2.2.1))), (mU, .inl (G.2.1 2, 200, .inl u21.2.2.2.1)), (mV, .inl (G.2.1 3, 200, .inr (.inl u21.2.2.2.2.1)))] H locs := w
    refine lv_if_ne (tgt := 34) S.1 S.2.1 dX7_witness_24 (by decide) (fun c24 => ?_) (fun c24 => ?_)
    · have hv := CI.val hW (Nat.le_refl _) (h21).2 c24
      have hnf := (CI.full_iff hW (Nat.le_refl _) (h21).2).2 c24
      have hv40 := hv.2.1
      refine lv_iconst (v := (-1)) S.1 S.2.1 dX7_witness_34 (by decide) ?_
      refine lv_istore_n (lv' := [(1, .int (-1)), (0, .ref mO)]) S.1 S.2.1 dX7_witness_35 rfl hl (by decide) rfl (fun ls hl => ?_)
      refine lv_aload_n S.1 S.2.1 dX7_witness_36 rfl (lv_at hl 1 rfl) ?_
      refine lv_bipush (v := 99) S.1 S.2.1 dX7_witness_37 (by decide) ?_
      refine w_put S C w (CC := RX7) (T := TX7) (N := 16) (ref := "GateSumsModel") im_X7_witness_X7 tyX7 tyX7_ok nmX7 0 rfl rfl 14 (by decide) (List.mem_of_getElem? (i := 2) rfl) (fun _ h => h) rfl (ws2 := [(mO, .inr (7, [.ref mS, .ref mD, .ref mR, .ref mT, .int mt, .int ma, .int mn, .ref mW, .ref mQ, .ref mC, .int (nI u21.1), .ref mU, .ref mV, .int 0, .int 99, .int (nI u21.2.2.2.2.2)])), (mS, .inl (G.2.1 2, 49, .inl fS)), (mR, .inl (G.2.1 2, 3, .inl fR)), (mQ, .inl (G.2.1 2, 200, .inl u21.2.1)), (mC, .inl (G.2.1 3, 200, .inr (.inl u21.2.2.1))), (mU, .inl (G.2.1 2, 200, .inl u21.2.2.2.1)), (mV, .inl (G.2.1 3, 200, .inr (.inl u21.2.2.2.2.1)))]) (rfl) (rfl) (Nat.le_of_ble_eq_true rfl) rfl dX7_witness_39 (fun H locs w => ?_)
      refine lv_iconst (v := 0) S.1 S.2.1 dX7_witness_42 (by decide) ?_
      refine lv_istore_n (lv' := [(2, .int 0), (1, .int (-1)), (0, .ref mO)]) S.1 S.2.1 dX7_witness_43 rfl hl (by decide) rfl (fun ls hl => ?_)
      refine w_loop (G := G) (σ := Nat × Int32 × Int32) (nL := 3) 44 (fun x44 => u21.1 - x44.1) (fun x44 => x44.1 ≤ u21.1 ∧ x44.2.1 = (nwO (cset (PQ fS (gf fS))) x44.1).1 ∧ x44.2.2 = (nwO (cset (PQ fS (gf fS))) x44.1).2) (fun x44 => [(mO, .inr (7, [.ref mS, .ref mD, .ref mR, .ref mT, .int mt, .int ma, .int mn, .ref mW, .ref mQ, .ref mC, .int (nI u21.1), .ref mU, .ref mV, .int 0, .int x44.2.2, .int (nI u21.2.2.2.2.2)])), (mS, .inl (G.2.1 2, 49, .inl fS)), (mR, .inl (G.2.1 2, 3, .inl fR)), (mQ, .inl (G.2.1 2, 200, .inl u21.2.1)), (mC, .inl (G.2.1 3, 200, .inr (.inl u21.2.2.1))), (mU, .inl (G.2.1 2, 200, .inl u21.2.2.2.1)), (mV, .inl (G.2.1 3, 200, .inr (.inl u21.2.2.2.2.1)))]) (fun x44 => [(2, .int (nI x44.1)), (1, .int x44.2.1), (0, .ref mO)]) (fun _ => []) ?_ (0, -1, 99) ls _ _ (⟨Nat.zero_le _, rfl, rfl⟩) w (lv_sub hl [0, 1, 2] rfl)
      intro x44 ls H locs hI44 w hl ih44
      have w : Wd G _ s [(mO, .inr (7, [.ref mS, .ref mD, .ref mR, .ref mT, .int mt, .int ma, .int mn, .ref mW, .ref mQ, .ref mC, .int (nI u21.1), .ref mU, .ref mV, .int 0, .int x44.2.2, .int (nI u21.2.2.2.2.2)])), (mS, .inl (G.2.1 2, 49, .inl fS)), (mR, .inl (G.2.1 2, 3, .inl fR)), (mQ, .inl (G.2.1 2, 200, .inl u21.2.1)), (mC, .inl (G.2.1 3, 200, .inr (.inl u21.2.2.1))), (mU, .inl (G.2.1 2, 200, .inl u21.2.2.2.1)), (mV, .inl (G.2.1 3, 200, .inr (.inl u21.2.2.2.2.1)))] H locs := w
      have hl : lv_has ls 3 [(2, .int (nI x44.1)), (1, .int x44.2.1), (0, .ref mO)] := hl
      have hJ1 := hI44.1
      refine lv_iload_n S.1 S.2.1 dX7_witness_44 rfl (lv_at hl 0 rfl) ?_
      refine lv_aload_n S.1 S.2.1 dX7_witness_45 rfl (lv_at hl 2 rfl) ?_
      refine w_get S C w (CC := RX7) (T := TX7) (N := 16) (ref := "GateSumsModel") im_X7_witness_X7 0 rfl rfl 10 (by decide) (List.mem_of_getElem? (i := 3) rfl) (fun _ h => h) rfl dX7_witness_46 ?_
      refine lv_icmp_ge (tgt := 121) S.1 S.2.1 dX7_witness_49 (by decide) (fun c49 => ?_) (fun c49 => ?_)
      · refine lv_iload_n S.1 S.2.1 dX7_witness_121 rfl (lv_at hl 1 rfl) ?_
        exact W.iret (v := x44.2.1) S.1 S.2.1 hr (fun t ht _ => ⟨⟨x44.2.1, ((nI u21.1), 0, x44.2.2, (nI u21.2.2.2.2.2), fR, u21.2.1, u21.2.2.1, u21.2.2.2.1, u21.2.2.2.2.1), rfl, (by have e : x44.1 = u21.1 := (by have h := c49; rw [nI_leI (by omega) (by omega)] at h; omega); rw [if_neg c4]; unfold witV; rw [stV_fits hnf, hI44.2.1, e, hv.1]; exact (nw_eq (fun j hj => (cset_inS hW (Nat.le_refl _) ((h21).2.has c24).2) j (by rw [hv.1]; exact hj)) _ (Nat.le_refl _)).1), by rw [ht]; exact w.1, w.2.1⟩, w.2.2.F ht⟩) w.2.2.2.2 dX7_witness_122
      · have hlt : x44.1 < u21.1 := by have h := c49; rw [nI_leI (by omega) (by omega)] at h; omega
        refine lv_aload_n S.1 S.2.1 dX7_witness_52 rfl (lv_at hl 2 rfl) ?_
        refine w_get S C w (CC := RX7) (T := TX7) (N := 16) (ref := "GateSumsModel") im_X7_witness_X7 0 rfl rfl 8 (by decide) (List.mem_of_getElem? (i := 4) rfl) (fun _ h => h) rfl dX7_witness_53 ?_
        refine lv_iload_n S.1 S.2.1 dX7_witness_56 rfl (lv_at hl 0 rfl) ?_
        refine w_iald S C w 3 rfl (nIin (by omega) (by decide)) dX7_witness_57 ?_
        refine w_topi (y := (cset (PQ fS (gf fS)) x44.1)) ((congrArg u21.2.1 (nIc (by omega))).trans (hv.2.2.1 _ (by omega))) ?_
        refine cs_i (va_runS (As := [.int (cset (PQ fS (gf fS)) x44.1)]) (rest := []) S (k_X7_ones l G _ (cset (PQ fS (gf fS)) x44.1)) (va_cwS 1 S.2.2.2.2 gX7_witness_X7_ones rfl rfl rfl (by decide +kernel) ⟨Nat.le_of_ble_eq_true rfl, Nat.le_of_ble_eq_true rfl⟩) ⟨wPre_blind, wPre_at C w [] rfl rfl⟩ rfl rfl hl.1 rfl (lv_room (Nat.le_of_ble_eq_true rfl)) dX7_witness_58 ⟨Nat.le_of_ble_eq_true rfl, Nat.le_of_ble_eq_true rfl⟩) (fun r58 h58 => ?_)
        refine w_topi (y := (onesF (cset (PQ fS (gf fS)) x44.1))) h58 ?_
        refine w_joini 78 [] (fun z78 => z78 = if x44.2.2 < onesF (cset (PQ fS (gf fS)) x44.1) then x44.2.1 else cset (PQ fS (gf fS)) x44.1) (fun z78 hz78 => ?_) (fun J78 => ?_)
        · refine lv_istore_n (lv' := [(1, .int z78), (2, .int (nI x44.1)), (0, .ref mO)]) S.1 S.2.1 dX7_witness_78 rfl hl (by decide) rfl (fun ls hl => ?_)
          refine lv_aload_n S.1 S.2.1 dX7_witness_79 rfl (lv_at hl 2 rfl) ?_
          refine lv_aload_n S.1 S.2.1 dX7_witness_80 rfl (lv_at hl 2 rfl) ?_
          refine w_get S C w (CC := RX7) (T := TX7) (N := 16) (ref := "GateSumsModel") im_X7_witness_X7 0 rfl rfl 8 (by decide) (List.mem_of_getElem? (i := 4) rfl) (fun _ h => h) rfl dX7_witness_81 ?_
          refine lv_iload_n S.1 S.2.1 dX7_witness_84 rfl (lv_at hl 1 rfl) ?_
          refine w_iald S C w 3 rfl (nIin (by omega) (by decide)) dX7_witness_85 ?_
          refine w_topi (y := (cset (PQ fS (gf fS)) x44.1)) ((congrArg u21.2.1 (nIc (by omega))).trans (hv.2.2.1 _ (by omega))) ?_
          refine cs_i (va_runS (As := [.int (cset (PQ fS (gf fS)) x44.1)]) (rest := [.ref mO]) S (k_X7_ones l G _ (cset (PQ fS (gf fS)) x44.1)) (va_cwS 1 S.2.2.2.2 gX7_witness_X7_ones rfl rfl rfl (by decide +kernel) ⟨Nat.le_of_ble_eq_true rfl, Nat.le_of_ble_eq_true rfl⟩) ⟨wPre_blind, wPre_at C w [] rfl rfl⟩ rfl rfl hl.1 rfl (lv_room (Nat.le_of_ble_eq_true rfl)) dX7_witness_86 ⟨Nat.le_of_ble_eq_true rfl, Nat.le_of_ble_eq_true rfl⟩) (fun r86 h86 => ?_)
          refine w_topi (y := (onesF (cset (PQ fS (gf fS)) x44.1))) h86 ?_
          refine w_joini 112 [.ref mO] (fun z112 => z112 = if x44.2.2 ≤ onesF (cset (PQ fS (gf fS)) x44.1) then x44.2.2 else onesF (cset (PQ fS (gf fS)) x44.1)) (fun z112 hz112 => ?_) (fun J112 => ?_)
          · refine w_put S C w (CC := RX7) (T := TX7) (N := 16) (ref := "GateSumsModel") im_X7_witness_X7 tyX7 tyX7_ok nmX7 0 rfl rfl 14 (by decide) (List.mem_of_getElem? (i := 2) rfl) (fun _ h => h) rfl (ws2 := [(mO, .inr (7, [.ref mS, .ref mD, .ref mR, .ref mT, .int mt, .int ma, .int mn, .ref mW, .ref mQ, .ref mC, .int (nI u21.1), .ref mU, .ref mV, .int 0, .int z112, .int (nI u21.2.2.2.2.2)])), (mS, .inl (G.2.1 2, 49, .inl fS)), (mR, .inl (G.2.1 2, 3, .inl fR)), (mQ, .inl (G.2.1 2, 200, .inl u21.2.1)), (mC, .inl (G.2.1 3, 200, .inr (.inl u21.2.2.1))), (mU, .inl (G.2.1 2, 200, .inl u21.2.2.2.1)), (mV, .inl (G.2.1 3, 200, .inr (.inl u21.2.2.2.2.1)))]) (rfl) (rfl) (Nat.le_of_ble_eq_true rfl) rfl dX7_witness_112 (fun H locs w => ?_)
            refine lv_iinc (v := (nI (x44.1 + 1))) (lv' := [(2, .int (nI (x44.1 + 1))), (1, .int z78), (0, .ref mO)]) S.1 S.2.1 dX7_witness_115 hl (k := 1) rfl (nI_1 _) (by decide) rfl (fun ls hl => ?_)
            refine lv_goto (tgt := 44) S.1 S.2.1 dX7_witness_118 (by decide) ?_
            have hlt : x44.1 < u21.1 := by have h := c49; rw [nI_leI (by omega) (by omega)] at h; omega
            exact ih44 (x44.1 + 1, z78, z112) ls _ _ (⟨hlt, (by dsimp only; rw [hz78, hI44.2.1, hI44.2.2]; rfl), (by dsimp only; rw [hz112, hI44.2.2]; rfl)⟩) (by dsimp only; omega) w (lv_sub hl [0, 1, 2] rfl)
          · refine lv_aload_n S.1 S.2.1 dX7_witness_89 rfl (lv_at hl 2 rfl) ?_
            refine w_get S C w (CC := RX7) (T := TX7) (N := 16) (ref := "GateSumsModel") im_X7_witness_X7 0 rfl rfl 14 (by decide) (List.mem_of_getElem? (i := 2) rfl) (fun _ h => h) rfl dX7_witness_90 ?_
            refine lv_icmp_ge (tgt := 108) S.1 S.2.1 dX7_witness_93 (by decide) (fun c93 => ?_) (fun c93 => ?_)
            · refine lv_aload_n S.1 S.2.1 dX7_witness_108 rfl (lv_at hl 2 rfl) ?_
              refine w_get S C w (CC := RX7) (T := TX7) (N := 16) (ref := "GateSumsModel") im_X7_witness_X7 0 rfl rfl 14 (by decide) (List.mem_of_getElem? (i := 2) rfl) (fun _ h => h) rfl dX7_witness_109 ?_
              exact J112 x44.2.2 (by first | exact (if_pos c93).symm | exact (if_neg c93).symm)
            · refine lv_aload_n S.1 S.2.1 dX7_witness_96 rfl (lv_at hl 2 rfl) ?_
              refine w_get S C w (CC := RX7) (T := TX7) (N := 16) (ref := "GateSumsModel") im_X7_witness_X7 0 rfl rfl 8 (by decide) (List.mem_of_getElem? (i := 4) rfl) (fun _ h => h) rfl dX7_witness_97 ?_
              refine lv_iload_n S.1 S.2.1 dX7_witness_100 rfl (lv_at hl 1 rfl) ?_
              refine w_iald S C w 3 rfl (nIin (by omega) (by decide)) dX7_witness_101 ?_
              refine w_topi (y := (cset (PQ fS (gf fS)) x44.1)) ((congrArg u21.2.1 (nIc (by omega))).trans (hv.2.2.1 _ (by omega))) ?_
              refine cs_i (va_runS (As := [.int (cset (PQ fS (gf fS)) x44.1)]) (rest := [.ref mO]) S (k_X7_ones l G _ (cset (PQ fS (gf fS)) x44.1)) (va_cwS 1 S.2.2.2.2 gX7_witness_X7_ones rfl rfl rfl (by decide +kernel) ⟨Nat.le_of_ble_eq_true rfl, Nat.le_of_ble_eq_true rfl⟩) ⟨wPre_blind, wPre_at C w [] rfl rfl⟩ rfl rfl hl.1 rfl (lv_room (Nat.le_of_ble_eq_true rfl)) dX7_witness_102 ⟨Nat.le_of_ble_eq_true rfl, Nat.le_of_ble_eq_true rfl⟩) (fun r102 h102 => ?_)
              refine w_topi (y := (onesF (cset (PQ fS (gf fS)) x44.1))) h102 ?_
              refine lv_goto (tgt := 112) S.1 S.2.1 dX7_witness_105 (by decide) ?_
              exact J112 (onesF (cset (PQ fS (gf fS)) x44.1)) (by first | exact (if_pos c93).symm | exact (if_neg c93).symm)
        · refine lv_aload_n S.1 S.2.1 dX7_witness_61 rfl (lv_at hl 2 rfl) ?_
          refine w_get S C w (CC := RX7) (T := TX7) (N := 16) (ref := "GateSumsModel") im_X7_witness_X7 0 rfl rfl 14 (by decide) (List.mem_of_getElem? (i := 2) rfl) (fun _ h => h) rfl dX7_witness_62 ?_
          refine lv_icmp_gt (tgt := 77) S.1 S.2.1 dX7_witness_65 (by decide) (fun c65 => ?_) (fun c65 => ?_)
          · refine lv_iload_n S.1 S.2.1 dX7_witness_77 rfl (lv_at hl 1 rfl) ?_
            exact J78 x44.2.1 (by first | exact (if_pos c65).symm | exact (if_neg c65).symm)
          · refine lv_aload_n S.1 S.2.1 dX7_witness_68 rfl (lv_at hl 2 rfl) ?_
            refine w_get S C w (CC := RX7) (T := TX7) (N := 16) (ref := "GateSumsModel") im_X7_witness_X7 0 rfl rfl 8 (by decide) (List.mem_of_getElem? (i := 4) rfl) (fun _ h => h) rfl dX7_witness_69 ?_
            refine lv_iload_n S.1 S.2.1 dX7_witness_72 rfl (lv_at hl 0 rfl) ?_
            refine w_iald S C w 3 rfl (nIin (by omega) (by decide)) dX7_witness_73 ?_
            refine w_topi (y := (cset (PQ fS (gf fS)) x44.1)) ((congrArg u21.2.1 (nIc (by omega))).trans (hv.2.2.1 _ (by omega))) ?_
            refine lv_goto (tgt := 78) S.1 S.2.1 dX7_witness_74 (by decide) ?_
            exact J78 (cset (PQ fS (gf fS)) x44.1) (by first | exact (if_pos c65).symm | exact (if_neg c65).symm)
    · have hfu := (CI.full_iff hW (Nat.le_refl _) (h21).2).1 c24
      refine lv_aload_n S.1 S.2.1 dX7_witness_27 rfl (lv_at hl 0 rfl) ?_
      refine lv_bipush (v := (-4)) S.1 S.2.1 dX7_witness_28 (by decide) ?_
      refine cq_i C w [0, 2] [1, 3, 4, 5, 6] [5, 0, 6, 1, 2, 3, 4] (wr := [(mS, .inl (G.2.1 2, 49, .inl fS)), (mQ, .inl (G.2.1 2, 200, .inl u21.2.1)), (mC, .inl (G.2.1 3, 200, .inr (.inl u21.2.2.1))), (mU, .inl (G.2.1 2, 200, .inl u21.2.2.2.1)), (mV, .inl (G.2.1 3, 200, .inr (.inl u21.2.2.2.2.1)))]) (w' := fun u : Unit => [(mO, .inr (7, [.ref mS, .ref mD, .ref mR, .ref mT, .int mt, .int ma, .int mn, .ref mW, .ref mQ, .ref mC, .int (nI u21.1), .ref mU, .ref mV, .int 0, .int mf, .int (nI u21.2.2.2.2.2)])), (mR, .inl (G.2.1 2, 3, .inl (upd fR 2 (fR 2 + 1))))]) (ws2 := fun u : Unit => [(mO, .inr (7, [.ref mS, .ref mD, .ref mR, .ref mT, .int mt, .int ma, .int mn, .ref mW, .ref mQ, .ref mC, .int (nI u21.1), .ref mU, .ref mV, .int 0, .int mf, .int (nI u21.2.2.2.2.2)])), (mS, .inl (G.2.1 2, 49, .inl fS)), (mR, .inl (G.2.1 2, 3, .inl (upd fR 2 (fR 2 + 1)))), (mQ, .inl (G.2.1 2, 200, .inl u21.2.1)), (mC, .inl (G.2.1 3, 200, .inr (.inl u21.2.2.1))), (mU, .inl (G.2.1 2, 200, .inl u21.2.2.2.1)), (mV, .inl (G.2.1 3, 200, .inr (.inl u21.2.2.2.2.1)))]) rfl rfl rfl (by decide) rfl (fun _ => rfl) (va_runV (As := [.int (-4)]) (rest := []) S (c_X7_refuses_F l G mO mR _ mS mD mT mW mQ mC mU mV mt ma mn (nI u21.1) 0 mf (nI u21.2.2.2.2.2) fR) (cwV 1 S.2.2.2.2 gX7_witness_X7_refuses rfl rfl rfl (by decide +kernel) ⟨Nat.le_of_ble_eq_true rfl, Nat.le_of_ble_eq_true rfl⟩) ⟨wPre_blind, va_recv C.1 w.1 (ci := 7) (q0 := 0) rfl rfl, wPre_at C w [0, 2] rfl rfl⟩ rfl rfl hl.1 rfl (lv_room (Nat.le_of_ble_eq_true rfl)) dX7_witness_30 ⟨Nat.le_of_ble_eq_true rfl, Nat.le_of_ble_eq_true rfl⟩) (fun r30 u30 H locs h30 w => ?_)
      have w : Wd G _ s [(mO, .inr (7, [.ref mS, .ref mD, .ref mR, .ref mT, .int mt, .int ma, .int mn, .ref mW, .ref mQ, .ref mC, .int (nI u21.1), .ref mU, .ref mV, .int 0, .int mf, .int (nI u21.2.2.2.2.2)])), (mS, .inl (G.2.1 2, 49, .inl fS)), (mR, .inl (G.2.1 2, 3, .inl (upd fR 2 (fR 2 + 1)))), (mQ, .inl (G.2.1 2, 200, .inl u21.2.1)), (mC, .inl (G.2.1 3, 200, .inr (.inl u21.2.2.1))), (mU, .inl (G.2.1 2, 200, .inl u21.2.2.2.1)), (mV, .inl (G.2.1 3, 200, .inr (.inl u21.2.2.2.2.1)))] H locs := w
      exact W.iret (v := r30) S.1 S.2.1 hr (fun t ht _ => ⟨⟨r30, ((nI u21.1), 0, mf, (nI u21.2.2.2.2.2), (upd fR 2 (fR 2 + 1)), u21.2.1, u21.2.2.1, u21.2.2.2.1, u21.2.2.2.2.1), rfl, by rw [h30, if_neg c4]; unfold witV; rw [stV_full hfu], by rw [ht]; exact w.1, w.2.1⟩, w.2.2.F ht⟩) w.2.2.2.2 dX7_witness_33
  · refine lv_aload_n S.1 S.2.1 dX7_witness_7 rfl (lv_at hl 0 rfl) ?_
    refine lv_bipush (v := (-3)) S.1 S.2.1 dX7_witness_8 (by decide) ?_
    refine cq_i C w [0, 2] [1, 3, 4, 5, 6] [5, 0, 6, 1, 2, 3, 4] (wr := [(mS, .inl (G.2.1 2, 49, .inl fS)), (mQ, .inl (G.2.1 2, 200, .inl fQ)), (mC, .inl (G.2.1 3, 200, .inr (.inl lC))), (mU, .inl (G.2.1 2, 200, .inl fU)), (mV, .inl (G.2.1 3, 200, .inr (.inl lV)))]) (w' := fun u : Unit => [(mO, .inr (7, [.ref mS, .ref mD, .ref mR, .ref mT, .int mt, .int ma, .int mn, .ref mW, .ref mQ, .ref mC, .int my, .ref mU, .ref mV, .int mm, .int mf, .int mg])), (mR, .inl (G.2.1 2, 3, .inl (upd fR 1 (fR 1 + 1))))]) (ws2 := fun u : Unit => [(mO, .inr (7, [.ref mS, .ref mD, .ref mR, .ref mT, .int mt, .int ma, .int mn, .ref mW, .ref mQ, .ref mC, .int my, .ref mU, .ref mV, .int mm, .int mf, .int mg])), (mS, .inl (G.2.1 2, 49, .inl fS)), (mR, .inl (G.2.1 2, 3, .inl (upd fR 1 (fR 1 + 1)))), (mQ, .inl (G.2.1 2, 200, .inl fQ)), (mC, .inl (G.2.1 3, 200, .inr (.inl lC))), (mU, .inl (G.2.1 2, 200, .inl fU)), (mV, .inl (G.2.1 3, 200, .inr (.inl lV)))]) rfl rfl rfl (by decide) rfl (fun _ => rfl) (va_runV (As := [.int (-3)]) (rest := []) S (c_X7_refuses_N l G mO mR _ mS mD mT mW mQ mC mU mV mt ma mn my mm mf mg fR) (cwV 1 S.2.2.2.2 gX7_witness_X7_refuses rfl rfl rfl (by decide +kernel) ⟨Nat.le_of_ble_eq_true rfl, Nat.le_of_ble_eq_true rfl⟩) ⟨wPre_blind, va_recv C.1 w.1 (ci := 7) (q0 := 0) rfl rfl, wPre_at C w [0, 2] rfl rfl⟩ rfl rfl hl.1 rfl (lv_room (Nat.le_of_ble_eq_true rfl)) dX7_witness_10 ⟨Nat.le_of_ble_eq_true rfl, Nat.le_of_ble_eq_true rfl⟩) (fun r10 u10 H locs h10 w => ?_)
    have w : Wd G _ s [(mO, .inr (7, [.ref mS, .ref mD, .ref mR, .ref mT, .int mt, .int ma, .int mn, .ref mW, .ref mQ, .ref mC, .int my, .ref mU, .ref mV, .int mm, .int mf, .int mg])), (mS, .inl (G.2.1 2, 49, .inl fS)), (mR, .inl (G.2.1 2, 3, .inl (upd fR 1 (fR 1 + 1)))), (mQ, .inl (G.2.1 2, 200, .inl fQ)), (mC, .inl (G.2.1 3, 200, .inr (.inl lC))), (mU, .inl (G.2.1 2, 200, .inl fU)), (mV, .inl (G.2.1 3, 200, .inr (.inl lV)))] H locs := w
    exact W.iret (v := r10) S.1 S.2.1 hr (fun t ht _ => ⟨⟨r10, (my, mm, mf, mg, (upd fR 1 (fR 1 + 1)), fQ, lC, fU, lV), rfl, by rw [h10, if_pos c4], by rw [ht]; exact w.1, w.2.1⟩, w.2.2.F ht⟩) w.2.2.2.2 dX7_witness_13
