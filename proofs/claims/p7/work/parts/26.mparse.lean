theorem im_X7_skips_X7 : ∀ w ∈ u_ws RX7 TX7 16, w ∈ wsX7_skips := by decide +kernel
set_option maxHeartbeats 4000000 in
set_option maxRecDepth 100000 in
theorem c_X7_skips (l : Launch) (G : GT) (mO mT : Nat) (sz : Nat) (mS mD mR mW mQ mC mU mV : Nat) (mn my mm mf mg : Int32) (tN aN : Nat) (fT : Nat → Int32) (htN : tN ≤ 120) (haN : aN ≤ 120) : Met l yX7_skips wsX7_skips ({ frames := 1, cells := 0, slots := 0, locals := 21 }) (va_Pc [.ref mO] (wPre G [(mO, .inr (7, [.ref mS, .ref mD, .ref mR, .ref mT, .int (nI tN), .int (nI aN), .int mn, .ref mW, .ref mQ, .ref mC, .int my, .ref mU, .ref mV, .int mm, .int mf, .int mg])), (mT, .inl (G.2.1 2, 120, .inl fT))] sz)) (va_Qv (fun u : Nat => u ≤ 120) (bW G (va_A [(mO, .inr (7, [.ref mS, .ref mD, .ref mR, .ref mT, .int (nI tN), .int (nI aN), .int mn, .ref mW, .ref mQ, .ref mC, .int my, .ref mU, .ref mV, .int mm, .int mf, .int mg])), (mT, .inl (G.2.1 2, 120, .inl fT))] sz) (fun u : Nat => [(mO, .inr (7, [.ref mS, .ref mD, .ref mR, .ref mT, .int (nI tN), .int (nI u), .int mn, .ref mW, .ref mQ, .ref mC, .int my, .ref mU, .ref mV, .int mm, .int mf, .int mg])), (mT, .inl (G.2.1 2, 120, .inl fT))])) (va_A [(mO, .inr (7, [.ref mS, .ref mD, .ref mR, .ref mT, .int (nI tN), .int (nI aN), .int mn, .ref mW, .ref mQ, .ref mC, .int my, .ref mU, .ref mV, .int mm, .int mf, .int mg])), (mT, .inl (G.2.1 2, 120, .inl fT))] sz)) 0 0 (va_A [(mO, .inr (7, [.ref mS, .ref mD, .ref mR, .ref mT, .int (nI tN), .int (nI aN), .int mn, .ref mW, .ref mQ, .ref mC, .int my, .ref mU, .ref mV, .int mm, .int mf, .int mg])), (mT, .inl (G.2.1 2, 120, .inl fT))] sz) := by
  refine met_go (cc := cX7_skips) (maxL := 1) (ret := none) (own := RX7) (by decide) rfl rfl (Nat.le_of_ble_eq_true rfl) ?_
  intro p e s m below meth c ls S hr hlocks hname hsz C w hl
  have hl : lv_has ls 1 [(0, .ref mO)] := hl
  refine w_loop (G := G) (σ := Nat) (nL := 1) 0 (fun x0 => 120 - x0) (fun x0 => x0 ≤ 120) (fun x0 => [(mO, .inr (7, [.ref mS, .ref mD, .ref mR, .ref mT, .int (nI tN), .int (nI x0), .int mn, .ref mW, .ref mQ, .ref mC, .int my, .ref mU, .ref mV, .int mm, .int mf, .int mg])), (mT, .inl (G.2.1 2, 120, .inl fT))]) (fun x0 => [(0, .ref mO)]) (fun _ => []) ?_ aN ls _ _ (haN) w (lv_sub hl [0] rfl)
  intro x0 ls H locs hI0 w hl ih0
  have w : Wd G _ s [(mO, .inr (7, [.ref mS, .ref mD, .ref mR, .ref mT, .int (nI tN), .int (nI x0), .int mn, .ref mW, .ref mQ, .ref mC, .int my, .ref mU, .ref mV, .int mm, .int mf, .int mg])), (mT, .inl (G.2.1 2, 120, .inl fT))] H locs := w
  have hl : lv_has ls 1 [(0, .ref mO)] := hl
  refine lv_aload_n S.1 S.2.1 dX7_skips_0 rfl (lv_at hl 0 rfl) ?_
  refine lv_aload_n S.1 S.2.1 dX7_skips_1 rfl (lv_at hl 0 rfl) ?_
  refine w_get S C w (CC := RX7) (T := TX7) (N := 16) (ref := "GateSumsModel") im_X7_skips_X7 0 rfl rfl 5 (by decide) (List.mem_of_getElem? (i := 1) rfl) (fun _ h => h) rfl dX7_skips_2 ?_
  refine cs_i (va_runV (As := [.int (nI x0)]) (rest := []) S (c_X7_byteAt l G mO mT _ mS mD mR mW mQ mC mU mV (nI tN) (nI x0) mn my mm mf mg fT (nI x0) (fun h => bt_ok htN (by omega) h)) (cwV 1 S.2.2.2.2 gX7_skips_X7_byteAt rfl rfl rfl (by decide +kernel) ⟨Nat.le_of_ble_eq_true rfl, Nat.le_of_ble_eq_true rfl⟩) ⟨wPre_blind, va_recv C.1 w.1 (ci := 7) (q0 := 0) rfl rfl, wPre_at C w [0, 1] rfl rfl⟩ rfl rfl hl.1 rfl (lv_room (Nat.le_of_ble_eq_true rfl)) dX7_skips_5 ⟨Nat.le_of_ble_eq_true rfl, Nat.le_of_ble_eq_true rfl⟩) (fun r5 h5 => ?_)
  refine w_topi (y := (byteAtM (nI tN) fT (nI x0))) h5 ?_
  refine lv_bipush (v := 32) S.1 S.2.1 dX7_skips_8 (by decide) ?_
  refine lv_icmp_ne (tgt := 26) S.1 S.2.1 dX7_skips_10 (by decide) (fun c10 => ?_) (fun c10 => ?_)
  · exact W.vret S.1 S.2.1 hr (fun t ht _ => ⟨⟨x0, rfl, hI0, by rw [ht]; exact w.1, w.2.1⟩, w.2.2.F ht⟩) w.2.2.2.2 dX7_skips_26
  · refine lv_aload_n S.1 S.2.1 dX7_skips_13 rfl (lv_at hl 0 rfl) ?_
    refine lv_dup S.1 S.2.1 dX7_skips_14 rfl ?_
    refine w_get S C w (CC := RX7) (T := TX7) (N := 16) (ref := "GateSumsModel") im_X7_skips_X7 0 rfl rfl 5 (by decide) (List.mem_of_getElem? (i := 1) rfl) (fun _ h => h) rfl dX7_skips_15 ?_
    refine lv_iconst (v := 1) S.1 S.2.1 dX7_skips_18 (by decide) ?_
    refine lv_iadd S.1 S.2.1 dX7_skips_19 ?_
    refine w_topi (y := (nI (x0 + 1))) (nI_1 _) ?_
    refine w_put S C w (CC := RX7) (T := TX7) (N := 16) (ref := "GateSumsModel") im_X7_skips_X7 tyX7 tyX7_ok nmX7 0 rfl rfl 5 (by decide) (List.mem_of_getElem? (i := 1) rfl) (fun _ h => h) rfl (ws2 := [(mO, .inr (7, [.ref mS, .ref mD, .ref mR, .ref mT, .int (nI tN), .int (nI (x0 + 1)), .int mn, .ref mW, .ref mQ, .ref mC, .int my, .ref mU, .ref mV, .int mm, .int mf, .int mg])), (mT, .inl (G.2.1 2, 120, .inl fT))]) (rfl) (rfl) (Nat.le_of_ble_eq_true rfl) rfl dX7_skips_20 (fun H locs w => ?_)
    refine lv_goto (tgt := 0) S.1 S.2.1 dX7_skips_23 (by decide) ?_
    have hlt : x0 < 120 := by have := bt_lt htN (by omega) c10 (by decide); omega
    exact ih0 (x0 + 1) ls _ _ (hlt) (by omega) w (lv_sub hl [0] rfl)
set_option maxHeartbeats 4000000 in
set_option maxRecDepth 100000 in
theorem c_X7_isDigit (l : Launch) (G : GT) (sz : Nat) (c0 : Int32) : Met l yX7_isDigit wsX7_isDigit ({ frames := 1, cells := 0, slots := 0, locals := 22 }) (va_Pc [.int c0] (wPre G [] sz)) (vp_Si (fun r : Int32 => r = (inF c0 48 57))) 0 0 (fun _ => False) := by
  refine met_go (cc := cX7_isDigit) (maxL := 1) (ret := (some .boolean)) (own := RX7) (by decide) rfl rfl (Nat.le_of_ble_eq_true rfl) ?_
  intro p e s m below meth c ls S hr hlocks hname hsz C w hl
  have hl : lv_has ls 1 [(0, .int c0)] := hl
  refine lv_iload_n S.1 S.2.1 dX7_isDigit_0 rfl (lv_at hl 0 rfl) ?_
  refine lv_bipush (v := 48) S.1 S.2.1 dX7_isDigit_1 (by decide) ?_
  refine lv_bipush (v := 57) S.1 S.2.1 dX7_isDigit_3 (by decide) ?_
  refine cs_i (va_runS (As := [.int c0, .int 48, .int 57]) (rest := []) S (c_X7_in l G _ c0 48 57) (va_cwS 3 S.2.2.2.2 gX7_isDigit_X7_in rfl rfl rfl (by decide +kernel) ⟨Nat.le_of_ble_eq_true rfl, Nat.le_of_ble_eq_true rfl⟩) ⟨wPre_blind, wPre_at C w [] rfl rfl⟩ rfl rfl hl.1 rfl (lv_room (Nat.le_of_ble_eq_true rfl)) dX7_isDigit_5 ⟨Nat.le_of_ble_eq_true rfl, Nat.le_of_ble_eq_true rfl⟩) (fun r5 h5 => ?_)
  refine w_topi (y := (inF c0 48 57)) h5 ?_
  exact W.zret (v := (inF c0 48 57)) S.1 S.2.1 hr (inF_nar _ _ _) (fun t ht _ => ⟨(inF c0 48 57), rfl, rfl, ht⟩) (fun q h => absurd h List.not_mem_nil) dX7_isDigit_8
theorem im_X7_isNumber_X7 : ∀ w ∈ u_ws RX7 TX7 16, w ∈ wsX7_isNumber := by decide +kernel
set_option maxHeartbeats 4000000 in
set_option maxRecDepth 100000 in
theorem c_X7_isNumber (l : Launch) (G : GT) (mO mT : Nat) (sz : Nat) (mS mD mR mW mQ mC mU mV : Nat) (mn my mm mf mg : Int32) (tN aN : Nat) (fT : Nat → Int32) (lo hi : Int32) (htN : tN ≤ 120) (haN : aN ≤ 120) : Met l yX7_isNumber wsX7_isNumber ({ frames := 2, cells := 0, slots := 0, locals := 42 }) (va_Pc [.ref mO, .int lo, .int hi] (wPre G [(mO, .inr (7, [.ref mS, .ref mD, .ref mR, .ref mT, .int (nI tN), .int (nI aN), .int mn, .ref mW, .ref mQ, .ref mC, .int my, .ref mU, .ref mV, .int mm, .int mf, .int mg])), (mT, .inl (G.2.1 2, 120, .inl fT))] sz)) (va_Qi (fun (r : Int32) (u : Nat × Int32) => (r = 0 ∨ r = 1) ∧ u.1 ≤ 120 ∧ (¬ r = 0 → ¬ inF u.2 lo hi = 0)) (bW G (va_A [(mO, .inr (7, [.ref mS, .ref mD, .ref mR, .ref mT, .int (nI tN), .int (nI aN), .int mn, .ref mW, .ref mQ, .ref mC, .int my, .ref mU, .ref mV, .int mm, .int mf, .int mg])), (mT, .inl (G.2.1 2, 120, .inl fT))] sz) (fun u : Nat × Int32 => [(mO, .inr (7, [.ref mS, .ref mD, .ref mR, .ref mT, .int (nI tN), .int (nI u.1), .int u.2, .ref mW, .ref mQ, .ref mC, .int my, .ref mU, .ref mV, .int mm, .int mf, .int mg])), (mT, .inl (G.2.1 2, 120, .inl fT))])) (va_A [(mO, .inr (7, [.ref mS, .ref mD, .ref mR, .ref mT, .int (nI tN), .int (nI aN), .int mn, .ref mW, .ref mQ, .ref mC, .int my, .ref mU, .ref mV, .int mm, .int mf, .int mg])), (mT, .inl (G.2.1 2, 120, .inl fT))] sz)) 0 0 (va_A [(mO, .inr (7, [.ref mS, .ref mD, .ref mR, .ref mT, .int (nI tN), .int (nI aN), .int mn, .ref mW, .ref mQ, .ref mC, .int my, .ref mU, .ref mV, .int mm, .int mf, .int mg])), (mT, .inl (G.2.1 2, 120, .inl fT))] sz) := by
  refine met_go (cc := cX7_isNumber) (maxL := 6) (ret := (some .boolean)) (own := RX7) (by decide) rfl rfl (Nat.le_of_ble_eq_true rfl) ?_
  intro p e s m below meth c ls S hr hlocks hname hsz C w hl
  have hl : lv_has ls 6 [(0, .ref mO), (1, .int lo), (2, .int hi)] := hl
  refine lv_aload_n S.1 S.2.1 dX7_isNumber_0 rfl (lv_at hl 0 rfl) ?_
  refine cq_v C w [0, 1] [] [0, 1] (wr := []) (w' := fun u : Nat => [(mO, .inr (7, [.ref mS, .ref mD, .ref mR, .ref mT, .int (nI tN), .int (nI u), .int mn, .ref mW, .ref mQ, .ref mC, .int my, .ref mU, .ref mV, .int mm, .int mf, .int mg])), (mT, .inl (G.2.1 2, 120, .inl fT))]) (ws2 := fun u : Nat => [(mO, .inr (7, [.ref mS, .ref mD, .ref mR, .ref mT, .int (nI tN), .int (nI u), .int mn, .ref mW, .ref mQ, .ref mC, .int my, .ref mU, .ref mV, .int mm, .int mf, .int mg])), (mT, .inl (G.2.1 2, 120, .inl fT))]) rfl rfl rfl (by decide) rfl (fun _ => rfl) (va_runV (As := []) (rest := []) S (c_X7_skips l G mO mT _ mS mD mR mW mQ mC mU mV mn my mm mf mg tN aN fT (htN) (haN)) (cwV 0 S.2.2.2.2 gX7_isNumber_X7_skips rfl rfl rfl (by decide +kernel) ⟨Nat.le_of_ble_eq_true rfl, Nat.le_of_ble_eq_true rfl⟩) ⟨wPre_blind, va_recv C.1 w.1 (ci := 7) (q0 := 0) rfl rfl, wPre_at C w [0, 1] rfl rfl⟩ rfl rfl hl.1 rfl (lv_room (Nat.le_of_ble_eq_true rfl)) dX7_isNumber_1 ⟨Nat.le_of_ble_eq_true rfl, Nat.le_of_ble_eq_true rfl⟩) (fun u1 H locs h1 w => ?_)
  have w : Wd G _ s [(mO, .inr (7, [.ref mS, .ref mD, .ref mR, .ref mT, .int (nI tN), .int (nI u1), .int mn, .ref mW, .ref mQ, .ref mC, .int my, .ref mU, .ref mV, .int mm, .int mf, .int mg])), (mT, .inl (G.2.1 2, 120, .inl fT))] H locs := w
  refine lv_aload_n S.1 S.2.1 dX7_isNumber_4 rfl (lv_at hl 0 rfl) ?_
  refine w_get S C w (CC := RX7) (T := TX7) (N := 16) (ref := "GateSumsModel") im_X7_isNumber_X7 0 rfl rfl 5 (by decide) (List.mem_of_getElem? (i := 1) rfl) (fun _ h => h) rfl dX7_isNumber_5 ?_
  refine lv_istore_n (lv' := [(3, .int (nI u1)), (0, .ref mO), (1, .int lo), (2, .int hi)]) S.1 S.2.1 dX7_isNumber_8 rfl hl (by decide) rfl (fun ls hl => ?_)
  refine lv_iconst (v := 0) S.1 S.2.1 dX7_isNumber_9 (by decide) ?_
  refine lv_istore (lv' := [(4, .int 0), (3, .int (nI u1)), (0, .ref mO), (1, .int lo), (2, .int hi)]) S.1 S.2.1 dX7_isNumber_10 hl (by decide) rfl (fun ls hl => ?_)
  refine w_loopS (σ := Nat × Int32) (nL := 6) 12 (fun x12 => 120 - x12.1) (fun x12 => x12.1 ≤ 120) (fun x12 => [(4, .int x12.2), (3, .int (nI x12.1)), (0, .ref mO), (1, .int lo), (2, .int hi)]) (fun _ => []) ?_ (u1, 0) ls (h1) (lv_sub hl [0, 1, 2, 3, 4] rfl)
  intro x12 ls hI12 hl ih12
  have hl : lv_has ls 6 [(4, .int x12.2), (3, .int (nI x12.1)), (0, .ref mO), (1, .int lo), (2, .int hi)] := hl
  refine lv_aload_n S.1 S.2.1 dX7_isNumber_12 rfl (lv_at hl 2 rfl) ?_
  refine lv_iload_n S.1 S.2.1 dX7_isNumber_13 rfl (lv_at hl 1 rfl) ?_
  refine cs_i (va_runV (As := [.int (nI x12.1)]) (rest := []) S (c_X7_byteAt l G mO mT _ mS mD mR mW mQ mC mU mV (nI tN) (nI u1) mn my mm mf mg fT (nI x12.1) (fun h => bt_ok htN (by omega) h)) (cwV 1 S.2.2.2.2 gX7_isNumber_X7_byteAt rfl rfl rfl (by decide +kernel) ⟨Nat.le_of_ble_eq_true rfl, Nat.le_of_ble_eq_true rfl⟩) ⟨wPre_blind, va_recv C.1 w.1 (ci := 7) (q0 := 0) rfl rfl, wPre_at C w [0, 1] rfl rfl⟩ rfl rfl hl.1 rfl (lv_room (Nat.le_of_ble_eq_true rfl)) dX7_isNumber_14 ⟨Nat.le_of_ble_eq_true rfl, Nat.le_of_ble_eq_true rfl⟩) (fun r14 h14 => ?_)
  refine w_topi (y := (byteAtM (nI tN) fT (nI x12.1))) h14 ?_
  refine cs_i (va_runS (As := [.int (byteAtM (nI tN) fT (nI x12.1))]) (rest := []) S (c_X7_isDigit l G _ (byteAtM (nI tN) fT (nI x12.1))) (va_cwS 1 S.2.2.2.2 gX7_isNumber_X7_isDigit rfl rfl rfl (by decide +kernel) ⟨Nat.le_of_ble_eq_true rfl, Nat.le_of_ble_eq_true rfl⟩) ⟨wPre_blind, wPre_at C w [] rfl rfl⟩ rfl rfl hl.1 rfl (lv_room (Nat.le_of_ble_eq_true rfl)) dX7_isNumber_17 ⟨Nat.le_of_ble_eq_true rfl, Nat.le_of_ble_eq_true rfl⟩) (fun r17 h17 => ?_)
  refine w_topi (y := (inF (byteAtM (nI tN) fT (nI x12.1)) 48 57)) h17 ?_
  refine lv_if_eq (tgt := 56) S.1 S.2.1 dX7_isNumber_20 (by decide) (fun c20 => ?_) (fun c20 => ?_)
  · refine w_joini 89 [] (fun z89 => (z89 = 0 ∨ z89 = 1) ∧ (¬ z89 = 0 → ¬ inF x12.2 lo hi = 0)) (fun z89 hz89 => ?_) (fun J89 => ?_)
    · refine lv_istore (lv' := [(5, .int z89), (4, .int x12.2), (3, .int (nI x12.1)), (0, .ref mO), (1, .int lo), (2, .int hi)]) S.1 S.2.1 dX7_isNumber_89 hl (by decide) rfl (fun ls hl => ?_)
      refine lv_aload_n S.1 S.2.1 dX7_isNumber_91 rfl (lv_at hl 3 rfl) ?_
      refine lv_iload S.1 S.2.1 dX7_isNumber_92 (lv_at hl 1 rfl) ?_
      refine w_put S C w (CC := RX7) (T := TX7) (N := 16) (ref := "GateSumsModel") im_X7_isNumber_X7 tyX7 tyX7_ok nmX7 0 rfl rfl 6 (by decide) (List.mem_of_getElem? (i := 3) rfl) (fun _ h => h) rfl (ws2 := [(mO, .inr (7, [.ref mS, .ref mD, .ref mR, .ref mT, .int (nI tN), .int (nI u1), .int x12.2, .ref mW, .ref mQ, .ref mC, .int my, .ref mU, .ref mV, .int mm, .int mf, .int mg])), (mT, .inl (G.2.1 2, 120, .inl fT))]) (rfl) (rfl) (Nat.le_of_ble_eq_true rfl) rfl dX7_isNumber_94 (fun H locs w => ?_)
      refine lv_aload_n S.1 S.2.1 dX7_isNumber_97 rfl (lv_at hl 3 rfl) ?_
      refine w_joini 111 [.ref mO] (fun z111 => ∃ a : Nat, z111 = nI a ∧ a ≤ 120) (fun z111 hz111 => ?_) (fun J111 => ?_)
      · obtain ⟨aZ, haZ, haZ2⟩ := hz111
        refine w_topi (y := (nI aZ)) (haZ) ?_
        refine w_put S C w (CC := RX7) (T := TX7) (N := 16) (ref := "GateSumsModel") im_X7_isNumber_X7 tyX7 tyX7_ok nmX7 0 rfl rfl 5 (by decide) (List.mem_of_getElem? (i := 1) rfl) (fun _ h => h) rfl (ws2 := [(mO, .inr (7, [.ref mS, .ref mD, .ref mR, .ref mT, .int (nI tN), .int (nI aZ), .int x12.2, .ref mW, .ref mQ, .ref mC, .int my, .ref mU, .ref mV, .int mm, .int mf, .int mg])), (mT, .inl (G.2.1 2, 120, .inl fT))]) (rfl) (rfl) (Nat.le_of_ble_eq_true rfl) rfl dX7_isNumber_111 (fun H locs w => ?_)
        refine lv_iload S.1 S.2.1 dX7_isNumber_114 (lv_at hl 0 rfl) ?_
        exact W.zret (v := z89) S.1 S.2.1 hr (z01_nar hz89.1) (fun t ht _ => ⟨⟨z89, (aZ, x12.2), rfl, ⟨hz89.1, haZ2, hz89.2⟩, by rw [ht]; exact w.1, w.2.1⟩, w.2.2.F ht⟩) w.2.2.2.2 dX7_isNumber_116
      · refine lv_iload S.1 S.2.1 dX7_isNumber_98 (lv_at hl 0 rfl) ?_
        refine lv_if_eq (tgt := 107) S.1 S.2.1 dX7_isNumber_100 (by decide) (fun c100 => ?_) (fun c100 => ?_)
        · refine lv_aload_n S.1 S.2.1 dX7_isNumber_107 rfl (lv_at hl 3 rfl) ?_
          refine w_get S C w (CC := RX7) (T := TX7) (N := 16) (ref := "GateSumsModel") im_X7_isNumber_X7 0 rfl rfl 5 (by decide) (List.mem_of_getElem? (i := 1) rfl) (fun _ h => h) rfl dX7_isNumber_108 ?_
          exact J111 (nI u1) (by first | exact ⟨_, rfl, hI12⟩ | exact ⟨_, rfl, h1⟩)
        · refine lv_iload_n S.1 S.2.1 dX7_isNumber_103 rfl (lv_at hl 2 rfl) ?_
          refine lv_goto (tgt := 111) S.1 S.2.1 dX7_isNumber_104 (by decide) ?_
          exact J111 (nI x12.1) (by first | exact ⟨_, rfl, hI12⟩ | exact ⟨_, rfl, h1⟩)
    · refine lv_iload_n S.1 S.2.1 dX7_isNumber_56 rfl (lv_at hl 1 rfl) ?_
      refine lv_aload_n S.1 S.2.1 dX7_isNumber_57 rfl (lv_at hl 2 rfl) ?_
      refine w_get S C w (CC := RX7) (T := TX7) (N := 16) (ref := "GateSumsModel") im_X7_isNumber_X7 0 rfl rfl 5 (by decide) (List.mem_of_getElem? (i := 1) rfl) (fun _ h => h) rfl dX7_isNumber_58 ?_
      refine lv_icmp_le (tgt := 88) S.1 S.2.1 dX7_isNumber_61 (by decide) (fun c61 => ?_) (fun c61 => ?_)
      · refine lv_iconst (v := 0) S.1 S.2.1 dX7_isNumber_88 (by decide) ?_
        exact J89 0 (by first | exact ⟨Or.inr rfl, fun _ => @c81⟩ | exact ⟨Or.inl rfl, fun h => absurd rfl h⟩)
      · refine lv_iload_n S.1 S.2.1 dX7_isNumber_64 rfl (lv_at hl 1 rfl) ?_
        refine lv_aload_n S.1 S.2.1 dX7_isNumber_65 rfl (lv_at hl 2 rfl) ?_
        refine w_get S C w (CC := RX7) (T := TX7) (N := 16) (ref := "GateSumsModel") im_X7_isNumber_X7 0 rfl rfl 5 (by decide) (List.mem_of_getElem? (i := 1) rfl) (fun _ h => h) rfl dX7_isNumber_66 ?_
        refine lv_isub S.1 S.2.1 dX7_isNumber_69 ?_
        refine lv_iconst (v := 3) S.1 S.2.1 dX7_isNumber_70 (by decide) ?_
        refine lv_icmp_ge (tgt := 88) S.1 S.2.1 dX7_isNumber_71 (by decide) (fun c71 => ?_) (fun c71 => ?_)
        · refine lv_iconst (v := 0) S.1 S.2.1 dX7_isNumber_88 (by decide) ?_
          exact J89 0 (by first | exact ⟨Or.inr rfl, fun _ => @c81⟩ | exact ⟨Or.inl rfl, fun h => absurd rfl h⟩)
        · refine lv_iload S.1 S.2.1 dX7_isNumber_74 (lv_at hl 0 rfl) ?_
          refine lv_iload_n S.1 S.2.1 dX7_isNumber_76 rfl (lv_at hl 3 rfl) ?_
          refine lv_iload_n S.1 S.2.1 dX7_isNumber_77 rfl (lv_at hl 4 rfl) ?_
          refine cs_i (va_runS (As := [.int x12.2, .int lo, .int hi]) (rest := []) S (c_X7_in l G _ x12.2 lo hi) (va_cwS 3 S.2.2.2.2 gX7_isNumber_X7_in rfl rfl rfl (by decide +kernel) ⟨Nat.le_of_ble_eq_true rfl, Nat.le_of_ble_eq_true rfl⟩) ⟨wPre_blind, wPre_at C w [] rfl rfl⟩ rfl rfl hl.1 rfl (lv_room (Nat.le_of_ble_eq_true rfl)) dX7_isNumber_78 ⟨Nat.le_of_ble_eq_true rfl, Nat.le_of_ble_eq_true rfl⟩) (fun r78 h78 => ?_)
          refine w_topi (y := (inF x12.2 lo hi)) h78 ?_
          refine lv_if_eq (tgt := 88) S.1 S.2.1 dX7_isNumber_81 (by decide) (fun c81 => ?_) (fun c81 => ?_)
          · refine lv_iconst (v := 0) S.1 S.2.1 dX7_isNumber_88 (by decide) ?_
            exact J89 0 (by first | exact ⟨Or.inr rfl, fun _ => c81⟩ | exact ⟨Or.inl rfl, fun h => absurd rfl h⟩)
          · refine lv_iconst (v := 1) S.1 S.2.1 dX7_isNumber_84 (by decide) ?_
            refine lv_goto (tgt := 89) S.1 S.2.1 dX7_isNumber_85 (by decide) ?_
            exact J89 1 (by first | exact ⟨Or.inr rfl, fun _ => c81⟩ | exact ⟨Or.inl rfl, fun h => absurd rfl h⟩)
  · refine lv_iload_n S.1 S.2.1 dX7_isNumber_23 rfl (lv_at hl 1 rfl) ?_
    refine lv_aload_n S.1 S.2.1 dX7_isNumber_24 rfl (lv_at hl 2 rfl) ?_
    refine w_get S C w (CC := RX7) (T := TX7) (N := 16) (ref := "GateSumsModel") im_X7_isNumber_X7 0 rfl rfl 5 (by decide) (List.mem_of_getElem? (i := 1) rfl) (fun _ h => h) rfl dX7_isNumber_25 ?_
    refine lv_isub S.1 S.2.1 dX7_isNumber_28 ?_
    refine lv_iconst (v := 3) S.1 S.2.1 dX7_isNumber_29 (by decide) ?_
    refine lv_icmp_ge (tgt := 56) S.1 S.2.1 dX7_isNumber_30 (by decide) (fun c30 => ?_) (fun c30 => ?_)
    · refine w_joini 89 [] (fun z89 => (z89 = 0 ∨ z89 = 1) ∧ (¬ z89 = 0 → ¬ inF x12.2 lo hi = 0)) (fun z89 hz89 => ?_) (fun J89 => ?_)
      · refine lv_istore (lv' := [(5, .int z89), (4, .int x12.2), (3, .int (nI x12.1)), (0, .ref mO), (1, .int lo), (2, .int hi)]) S.1 S.2.1 dX7_isNumber_89 hl (by decide) rfl (fun ls hl => ?_)
        refine lv_aload_n S.1 S.2.1 dX7_isNumber_91 rfl (lv_at hl 3 rfl) ?_
        refine lv_iload S.1 S.2.1 dX7_isNumber_92 (lv_at hl 1 rfl) ?_
        refine w_put S C w (CC := RX7) (T := TX7) (N := 16) (ref := "GateSumsModel") im_X7_isNumber_X7 tyX7 tyX7_ok nmX7 0 rfl rfl 6 (by decide) (List.mem_of_getElem? (i := 3) rfl) (fun _ h => h) rfl (ws2 := [(mO, .inr (7, [.ref mS, .ref mD, .ref mR, .ref mT, .int (nI tN), .int (nI u1), .int x12.2, .ref mW, .ref mQ, .ref mC, .int my, .ref mU, .ref mV, .int mm, .int mf, .int mg])), (mT, .inl (G.2.1 2, 120, .inl fT))]) (rfl) (rfl) (Nat.le_of_ble_eq_true rfl) rfl dX7_isNumber_94 (fun H locs w => ?_)
        refine lv_aload_n S.1 S.2.1 dX7_isNumber_97 rfl (lv_at hl 3 rfl) ?_
        refine w_joini 111 [.ref mO] (fun z111 => ∃ a : Nat, z111 = nI a ∧ a ≤ 120) (fun z111 hz111 => ?_) (fun J111 => ?_)
        · obtain ⟨aZ, haZ, haZ2⟩ := hz111
          refine w_topi (y := (nI aZ)) (haZ) ?_
          refine w_put S C w (CC := RX7) (T := TX7) (N := 16) (ref := "GateSumsModel") im_X7_isNumber_X7 tyX7 tyX7_ok nmX7 0 rfl rfl 5 (by decide) (List.mem_of_getElem? (i := 1) rfl) (fun _ h => h) rfl (ws2 := [(mO, .inr (7, [.ref mS, .ref mD, .ref mR, .ref mT, .int (nI tN), .int (nI aZ), .int x12.2, .ref mW, .ref mQ, .ref mC, .int my, .ref mU, .ref mV, .int mm, .int mf, .int mg])), (mT, .inl (G.2.1 2, 120, .inl fT))]) (rfl) (rfl) (Nat.le_of_ble_eq_true rfl) rfl dX7_isNumber_111 (fun H locs w => ?_)
          refine lv_iload S.1 S.2.1 dX7_isNumber_114 (lv_at hl 0 rfl) ?_
          exact W.zret (v := z89) S.1 S.2.1 hr (z01_nar hz89.1) (fun t ht _ => ⟨⟨z89, (aZ, x12.2), rfl, ⟨hz89.1, haZ2, hz89.2⟩, by rw [ht]; exact w.1, w.2.1⟩, w.2.2.F ht⟩) w.2.2.2.2 dX7_isNumber_116
        · refine lv_iload S.1 S.2.1 dX7_isNumber_98 (lv_at hl 0 rfl) ?_
          refine lv_if_eq (tgt := 107) S.1 S.2.1 dX7_isNumber_100 (by decide) (fun c100_1 => ?_) (fun c100_1 => ?_)
          · refine lv_aload_n S.1 S.2.1 dX7_isNumber_107 rfl (lv_at hl 3 rfl) ?_
            refine w_get S C w (CC := RX7) (T := TX7) (N := 16) (ref := "GateSumsModel") im_X7_isNumber_X7 0 rfl rfl 5 (by decide) (List.mem_of_getElem? (i := 1) rfl) (fun _ h => h) rfl dX7_isNumber_108 ?_
            exact J111 (nI u1) (by first | exact ⟨_, rfl, hI12⟩ | exact ⟨_, rfl, h1⟩)
          · refine lv_iload_n S.1 S.2.1 dX7_isNumber_103 rfl (lv_at hl 2 rfl) ?_
            refine lv_goto (tgt := 111) S.1 S.2.1 dX7_isNumber_104 (by decide) ?_
            exact J111 (nI x12.1) (by first | exact ⟨_, rfl, hI12⟩ | exact ⟨_, rfl, h1⟩)
      · refine lv_iload_n S.1 S.2.1 dX7_isNumber_56 rfl (lv_at hl 1 rfl) ?_
        refine lv_aload_n S.1 S.2.1 dX7_isNumber_57 rfl (lv_at hl 2 rfl) ?_
        refine w_get S C w (CC := RX7) (T := TX7) (N := 16) (ref := "GateSumsModel") im_X7_isNumber_X7 0 rfl rfl 5 (by decide) (List.mem_of_getElem? (i := 1) rfl) (fun _ h => h) rfl dX7_isNumber_58 ?_
        refine lv_icmp_le (tgt := 88) S.1 S.2.1 dX7_isNumber_61 (by decide) (fun c61_1 => ?_) (fun c61_1 => ?_)
        · refine lv_iconst (v := 0) S.1 S.2.1 dX7_isNumber_88 (by decide) ?_
          exact J89 0 (by first | exact ⟨Or.inr rfl, fun _ => @c81⟩ | exact ⟨Or.inl rfl, fun h => absurd rfl h⟩)
        · refine lv_iload_n S.1 S.2.1 dX7_isNumber_64 rfl (lv_at hl 1 rfl) ?_
          refine lv_aload_n S.1 S.2.1 dX7_isNumber_65 rfl (lv_at hl 2 rfl) ?_
          refine w_get S C w (CC := RX7) (T := TX7) (N := 16) (ref := "GateSumsModel") im_X7_isNumber_X7 0 rfl rfl 5 (by decide) (List.mem_of_getElem? (i := 1) rfl) (fun _ h => h) rfl dX7_isNumber_66 ?_
          refine lv_isub S.1 S.2.1 dX7_isNumber_69 ?_
          refine lv_iconst (v := 3) S.1 S.2.1 dX7_isNumber_70 (by decide) ?_
          refine lv_icmp_ge (tgt := 88) S.1 S.2.1 dX7_isNumber_71 (by decide) (fun c71_1 => ?_) (fun c71_1 => ?_)
          · refine lv_iconst (v := 0) S.1 S.2.1 dX7_isNumber_88 (by decide) ?_
            exact J89 0 (by first | exact ⟨Or.inr rfl, fun _ => @c81⟩ | exact ⟨Or.inl rfl, fun h => absurd rfl h⟩)
          · refine lv_iload S.1 S.2.1 dX7_isNumber_74 (lv_at hl 0 rfl) ?_
            refine lv_iload_n S.1 S.2.1 dX7_isNumber_76 rfl (lv_at hl 3 rfl) ?_
            refine lv_iload_n S.1 S.2.1 dX7_isNumber_77 rfl (lv_at hl 4 rfl) ?_
            refine cs_i (va_runS (As := [.int x12.2, .int lo, .int hi]) (rest := []) S (c_X7_in l G _ x12.2 lo hi) (va_cwS 3 S.2.2.2.2 gX7_isNumber_X7_in rfl rfl rfl (by decide +kernel) ⟨Nat.le_of_ble_eq_true rfl, Nat.le_of_ble_eq_true rfl⟩) ⟨wPre_blind, wPre_at C w [] rfl rfl⟩ rfl rfl hl.1 rfl (lv_room (Nat.le_of_ble_eq_true rfl)) dX7_isNumber_78 ⟨Nat.le_of_ble_eq_true rfl, Nat.le_of_ble_eq_true rfl⟩) (fun r78_1 h78_1 => ?_)
            refine w_topi (y := (inF x12.2 lo hi)) h78_1 ?_
            refine lv_if_eq (tgt := 88) S.1 S.2.1 dX7_isNumber_81 (by decide) (fun c81_1 => ?_) (fun c81_1 => ?_)
            · refine lv_iconst (v := 0) S.1 S.2.1 dX7_isNumber_88 (by decide) ?_
              exact J89 0 (by first | exact ⟨Or.inr rfl, fun _ => c81_1⟩ | exact ⟨Or.inl rfl, fun h => absurd rfl h⟩)
            · refine lv_iconst (v := 1) S.1 S.2.1 dX7_isNumber_84 (by decide) ?_
              refine lv_goto (tgt := 89) S.1 S.2.1 dX7_isNumber_85 (by decide) ?_
              exact J89 1 (by first | exact ⟨Or.inr rfl, fun _ => c81_1⟩ | exact ⟨Or.inl rfl, fun h => absurd rfl h⟩)
    · refine lv_bipush (v := 10) S.1 S.2.1 dX7_isNumber_33 (by decide) ?_
      refine lv_iload S.1 S.2.1 dX7_isNumber_35 (lv_at hl 0 rfl) ?_
      refine lv_imul S.1 S.2.1 dX7_isNumber_37 ?_
      refine lv_aload_n S.1 S.2.1 dX7_isNumber_38 rfl (lv_at hl 2 rfl) ?_
      refine w_get S C w (CC := RX7) (T := TX7) (N := 16) (ref := "GateSumsModel") im_X7_isNumber_X7 0 rfl rfl 3 (by decide) (List.mem_of_getElem? (i := 2) rfl) (fun _ h => h) rfl dX7_isNumber_39 ?_
      refine lv_iload_n S.1 S.2.1 dX7_isNumber_42 rfl (lv_at hl 1 rfl) ?_
      refine w_iald S C w 1 rfl (nIin (by have := dig_lt htN (by omega) c20; omega) (by decide)) dX7_isNumber_43 ?_
      refine lv_iadd S.1 S.2.1 dX7_isNumber_44 ?_
      refine lv_bipush (v := 48) S.1 S.2.1 dX7_isNumber_45 (by decide) ?_
      refine lv_isub S.1 S.2.1 dX7_isNumber_47 ?_
      refine lv_istore (lv' := [(4, .int (((10 * x12.2) + (fT (nI x12.1).toNatClampNeg)) - 48)), (3, .int (nI x12.1)), (0, .ref mO), (1, .int lo), (2, .int hi)]) S.1 S.2.1 dX7_isNumber_48 hl (by decide) rfl (fun ls hl => ?_)
      refine lv_iinc (v := (nI (x12.1 + 1))) (lv' := [(3, .int (nI (x12.1 + 1))), (4, .int (((10 * x12.2) + (fT (nI x12.1).toNatClampNeg)) - 48)), (0, .ref mO), (1, .int lo), (2, .int hi)]) S.1 S.2.1 dX7_isNumber_50 hl (k := 1) rfl (nI_1 _) (by decide) rfl (fun ls hl => ?_)
      refine lv_goto (tgt := 12) S.1 S.2.1 dX7_isNumber_53 (by decide) ?_
      have hlt : x12.1 < 120 := by have := dig_lt htN (by omega) c20; omega
      exact ih12 (x12.1 + 1, (((10 * x12.2) + (fT (nI x12.1).toNatClampNeg)) - 48)) ls (hlt) (by dsimp only; omega) (lv_sub hl [1, 0, 2, 3, 4] rfl)
theorem im_X7_isWord_X7 : ∀ w ∈ u_ws RX7 TX7 16, w ∈ wsX7_isWord := by decide +kernel
set_option maxHeartbeats 4000000 in
set_option maxRecDepth 100000 in
theorem c_X7_isWord (l : Launch) (G : GT) (mO mT mW : Nat) (sz : Nat) (mS mD mR mQ mC mU mV : Nat) (mn my mm mf mg : Int32) (tN aN : Nat) (fN nN : Nat) (fT : Nat → Int32) (htN : tN ≤ 120) (haN : aN ≤ 120) (hfn : fN + nN ≤ 73) : Met l yX7_isWord wsX7_isWord ({ frames := 1, cells := 0, slots := 0, locals := 22 }) (va_Pc [.ref mO, .int (nI fN), .int (nI nN)] (wPre G [(mO, .inr (7, [.ref mS, .ref mD, .ref mR, .ref mT, .int (nI tN), .int (nI aN), .int mn, .ref mW, .ref mQ, .ref mC, .int my, .ref mU, .ref mV, .int mm, .int mf, .int mg])), (mT, .inl (G.2.1 2, 120, .inl fT)), (mW, .inl (G.2.1 1, 73, .inl (wdF 73)))] sz)) (vp_Si (fun r : Int32 => (r = 0 ∨ r = 1) ∧ (¬ r = 0 → aN + nN ≤ 120))) 0 0 (fun _ => False) := by
  refine met_go (cc := cX7_isWord) (maxL := 5) (ret := (some .boolean)) (own := RX7) (by decide) rfl rfl (Nat.le_of_ble_eq_true rfl) ?_
  intro p e s m below meth c ls S hr hlocks hname hsz C w hl
  have hl : lv_has ls 5 [(0, .ref mO), (1, .int (nI fN)), (2, .int (nI nN))] := hl
  refine lv_iconst (v := 1) S.1 S.2.1 dX7_isWord_0 (by decide) ?_
  refine lv_istore_n (lv' := [(3, .int 1), (0, .ref mO), (1, .int (nI fN)), (2, .int (nI nN))]) S.1 S.2.1 dX7_isWord_1 rfl hl (by decide) rfl (fun ls hl => ?_)
  refine lv_iconst (v := 0) S.1 S.2.1 dX7_isWord_2 (by decide) ?_
  refine lv_istore (lv' := [(4, .int 0), (3, .int 1), (0, .ref mO), (1, .int (nI fN)), (2, .int (nI nN))]) S.1 S.2.1 dX7_isWord_3 hl (by decide) rfl (fun ls hl => ?_)
  refine w_loopS (σ := Nat × Int32) (nL := 5) 5 (fun x5 => nN - x5.1) (fun x5 => x5.1 ≤ nN ∧ (x5.2 = 0 ∨ x5.2 = 1) ∧ (¬ x5.2 = 0 → aN + x5.1 ≤ 120)) (fun x5 => [(4, .int (nI x5.1)), (3, .int x5.2), (0, .ref mO), (1, .int (nI fN)), (2, .int (nI nN))]) (fun _ => []) ?_ (0, 1) ls (⟨Nat.zero_le _, Or.inr rfl, fun _ => haN⟩) (lv_sub hl [0, 1, 2, 3, 4] rfl)
  intro x5 ls hI5 hl ih5
  have hl : lv_has ls 5 [(4, .int (nI x5.1)), (3, .int x5.2), (0, .ref mO), (1, .int (nI fN)), (2, .int (nI nN))] := hl
  have hj5 := hI5.1
  refine lv_iload S.1 S.2.1 dX7_isWord_5 (lv_at hl 0 rfl) ?_
  refine lv_iload_n S.1 S.2.1 dX7_isWord_7 rfl (lv_at hl 4 rfl) ?_
  refine lv_icmp_ge (tgt := 50) S.1 S.2.1 dX7_isWord_8 (by decide) (fun c8 => ?_) (fun c8 => ?_)
  · refine w_joini 79 [] (fun z79 => (z79 = 0 ∨ z79 = 1) ∧ (¬ z79 = 0 → aN + nN ≤ 120)) (fun z79 hz79 => ?_) (fun J79 => ?_)
    · exact W.zret (v := z79) S.1 S.2.1 hr (z01_nar hz79.1) (fun t ht _ => ⟨z79, rfl, hz79, ht⟩) (fun q h => absurd h List.not_mem_nil) dX7_isWord_79
    · refine lv_iload_n S.1 S.2.1 dX7_isWord_50 rfl (lv_at hl 1 rfl) ?_
      refine lv_if_eq (tgt := 78) S.1 S.2.1 dX7_isWord_51 (by decide) (fun c51 => ?_) (fun c51 => ?_)
      · refine lv_iconst (v := 0) S.1 S.2.1 dX7_isWord_78 (by decide) ?_
        exact J79 0 (by first | exact ⟨Or.inr rfl, fun _ => by have := hI5.2.2 c51; have h := c8; rw [nI_leI (by omega) (by omega)] at h; omega⟩ | exact ⟨Or.inl rfl, fun h => absurd rfl h⟩)
      · refine lv_aload_n S.1 S.2.1 dX7_isWord_54 rfl (lv_at hl 2 rfl) ?_
        refine lv_aload_n S.1 S.2.1 dX7_isWord_55 rfl (lv_at hl 2 rfl) ?_
        refine w_get S C w (CC := RX7) (T := TX7) (N := 16) (ref := "GateSumsModel") im_X7_isWord_X7 0 rfl rfl 5 (by decide) (List.mem_of_getElem? (i := 1) rfl) (fun _ h => h) rfl dX7_isWord_56 ?_
        refine lv_iload_n S.1 S.2.1 dX7_isWord_59 rfl (lv_at hl 4 rfl) ?_
        refine lv_iadd S.1 S.2.1 dX7_isWord_60 ?_
        refine w_topi (y := (nI (aN + nN))) (nI_add _ _) ?_
        refine cs_i (va_runV (As := [.int (nI (aN + nN))]) (rest := []) S (c_X7_byteAt l G mO mT _ mS mD mR mW mQ mC mU mV (nI tN) (nI aN) mn my mm mf mg fT (nI (aN + nN)) (fun h => bt_ok htN (by omega) h)) (cwV 1 S.2.2.2.2 gX7_isWord_X7_byteAt rfl rfl rfl (by decide +kernel) ⟨Nat.le_of_ble_eq_true rfl, Nat.le_of_ble_eq_true rfl⟩) ⟨wPre_blind, va_recv C.1 w.1 (ci := 7) (q0 := 0) rfl rfl, wPre_at C w [0, 1] rfl rfl⟩ rfl rfl hl.1 rfl (lv_room (Nat.le_of_ble_eq_true rfl)) dX7_isWord_61 ⟨Nat.le_of_ble_eq_true rfl, Nat.le_of_ble_eq_true rfl⟩) (fun r61 h61 => ?_)
        refine w_topi (y := (byteAtM (nI tN) fT (nI (aN + nN)))) h61 ?_
        refine lv_bipush (v := 97) S.1 S.2.1 dX7_isWord_64 (by decide) ?_
        refine lv_bipush (v := 122) S.1 S.2.1 dX7_isWord_66 (by decide) ?_
        refine cs_i (va_runS (As := [.int (byteAtM (nI tN) fT (nI (aN + nN))), .int 97, .int 122]) (rest := []) S (c_X7_in l G _ (byteAtM (nI tN) fT (nI (aN + nN))) 97 122) (va_cwS 3 S.2.2.2.2 gX7_isWord_X7_in rfl rfl rfl (by decide +kernel) ⟨Nat.le_of_ble_eq_true rfl, Nat.le_of_ble_eq_true rfl⟩) ⟨wPre_blind, wPre_at C w [] rfl rfl⟩ rfl rfl hl.1 rfl (lv_room (Nat.le_of_ble_eq_true rfl)) dX7_isWord_68 ⟨Nat.le_of_ble_eq_true rfl, Nat.le_of_ble_eq_true rfl⟩) (fun r68 h68 => ?_)
        refine w_topi (y := (inF (byteAtM (nI tN) fT (nI (aN + nN))) 97 122)) h68 ?_
        refine lv_if_ne (tgt := 78) S.1 S.2.1 dX7_isWord_71 (by decide) (fun c71 => ?_) (fun c71 => ?_)
        · refine lv_iconst (v := 0) S.1 S.2.1 dX7_isWord_78 (by decide) ?_
          exact J79 0 (by first | exact ⟨Or.inr rfl, fun _ => by have := hI5.2.2 c51; have h := c8; rw [nI_leI (by omega) (by omega)] at h; omega⟩ | exact ⟨Or.inl rfl, fun h => absurd rfl h⟩)
        · refine lv_iconst (v := 1) S.1 S.2.1 dX7_isWord_74 (by decide) ?_
          refine lv_goto (tgt := 79) S.1 S.2.1 dX7_isWord_75 (by decide) ?_
          exact J79 1 (by first | exact ⟨Or.inr rfl, fun _ => by have := hI5.2.2 c51; have h := c8; rw [nI_leI (by omega) (by omega)] at h; omega⟩ | exact ⟨Or.inl rfl, fun h => absurd rfl h⟩)
  · refine w_joini 43 [] (fun z43 => (z43 = 0 ∨ z43 = 1) ∧ (¬ z43 = 0 → aN + (x5.1 + 1) ≤ 120)) (fun z43 hz43 => ?_) (fun J43 => ?_)
    · refine lv_istore_n (lv' := [(3, .int z43), (4, .int (nI x5.1)), (0, .ref mO), (1, .int (nI fN)), (2, .int (nI nN))]) S.1 S.2.1 dX7_isWord_43 rfl hl (by decide) rfl (fun ls hl => ?_)
      refine lv_iinc (v := (nI (x5.1 + 1))) (lv' := [(4, .int (nI (x5.1 + 1))), (3, .int z43), (0, .ref mO), (1, .int (nI fN)), (2, .int (nI nN))]) S.1 S.2.1 dX7_isWord_44 hl (k := 1) rfl (nI_1 _) (by decide) rfl (fun ls hl => ?_)
      refine lv_goto (tgt := 5) S.1 S.2.1 dX7_isWord_47 (by decide) ?_
      have hlt : x5.1 < nN := by have h := c8; rw [nI_leI (by omega) (by omega)] at h; omega
      exact ih5 (x5.1 + 1, z43) ls (⟨hlt, hz43.1, hz43.2⟩) (by dsimp only; omega) (lv_sub hl [0, 1, 2, 3, 4] rfl)
    · refine lv_iload_n S.1 S.2.1 dX7_isWord_11 rfl (lv_at hl 1 rfl) ?_
      refine lv_if_eq (tgt := 42) S.1 S.2.1 dX7_isWord_12 (by decide) (fun c12 => ?_) (fun c12 => ?_)
      · refine lv_iconst (v := 0) S.1 S.2.1 dX7_isWord_42 (by decide) ?_
        exact J43 0 (by first | exact ⟨Or.inr rfl, fun _ => by have := bt_lt htN (by omega) c35 (wd_ne _); omega⟩ | exact ⟨Or.inl rfl, fun h => absurd rfl h⟩)
      · refine lv_aload_n S.1 S.2.1 dX7_isWord_15 rfl (lv_at hl 2 rfl) ?_
        refine lv_aload_n S.1 S.2.1 dX7_isWord_16 rfl (lv_at hl 2 rfl) ?_
        refine w_get S C w (CC := RX7) (T := TX7) (N := 16) (ref := "GateSumsModel") im_X7_isWord_X7 0 rfl rfl 5 (by decide) (List.mem_of_getElem? (i := 1) rfl) (fun _ h => h) rfl dX7_isWord_17 ?_
        refine lv_iload S.1 S.2.1 dX7_isWord_20 (lv_at hl 0 rfl) ?_
        refine lv_iadd S.1 S.2.1 dX7_isWord_22 ?_
        refine w_topi (y := (nI (aN + x5.1))) (nI_add _ _) ?_
        refine cs_i (va_runV (As := [.int (nI (aN + x5.1))]) (rest := []) S (c_X7_byteAt l G mO mT _ mS mD mR mW mQ mC mU mV (nI tN) (nI aN) mn my mm mf mg fT (nI (aN + x5.1)) (fun h => bt_ok htN (by omega) h)) (cwV 1 S.2.2.2.2 gX7_isWord_X7_byteAt rfl rfl rfl (by decide +kernel) ⟨Nat.le_of_ble_eq_true rfl, Nat.le_of_ble_eq_true rfl⟩) ⟨wPre_blind, va_recv C.1 w.1 (ci := 7) (q0 := 0) rfl rfl, wPre_at C w [0, 1] rfl rfl⟩ rfl rfl hl.1 rfl (lv_room (Nat.le_of_ble_eq_true rfl)) dX7_isWord_23 ⟨Nat.le_of_ble_eq_true rfl, Nat.le_of_ble_eq_true rfl⟩) (fun r23 h23 => ?_)
        refine w_topi (y := (byteAtM (nI tN) fT (nI (aN + x5.1)))) h23 ?_
        refine lv_aload_n S.1 S.2.1 dX7_isWord_26 rfl (lv_at hl 2 rfl) ?_
        refine w_get S C w (CC := RX7) (T := TX7) (N := 16) (ref := "GateSumsModel") im_X7_isWord_X7 0 rfl rfl 7 (by decide) (List.mem_of_getElem? (i := 2) rfl) (fun _ h => h) rfl dX7_isWord_27 ?_
        refine lv_iload_n S.1 S.2.1 dX7_isWord_30 rfl (lv_at hl 3 rfl) ?_
        refine lv_iload S.1 S.2.1 dX7_isWord_31 (lv_at hl 0 rfl) ?_
        refine lv_iadd S.1 S.2.1 dX7_isWord_33 ?_
        refine w_topi (y := (nI (fN + x5.1))) (nI_add _ _) ?_
        refine w_cald S C w 2 rfl (nIin (by have h := c8; rw [nI_leI (by omega) (by omega)] at h; omega) (by decide)) dX7_isWord_34 ?_
        refine lv_icmp_ne (tgt := 42) S.1 S.2.1 dX7_isWord_35 (by decide) (fun c35 => ?_) (fun c35 => ?_)
        · refine lv_iconst (v := 0) S.1 S.2.1 dX7_isWord_42 (by decide) ?_
          exact J43 0 (by first | exact ⟨Or.inr rfl, fun _ => by have := bt_lt htN (by omega) c35 (wd_ne _); omega⟩ | exact ⟨Or.inl rfl, fun h => absurd rfl h⟩)
        · refine lv_iconst (v := 1) S.1 S.2.1 dX7_isWord_38 (by decide) ?_
          refine lv_goto (tgt := 43) S.1 S.2.1 dX7_isWord_39 (by decide) ?_
          exact J43 1 (by first | exact ⟨Or.inr rfl, fun _ => by have := bt_lt htN (by omega) c35 (wd_ne _); omega⟩ | exact ⟨Or.inl rfl, fun h => absurd rfl h⟩)
theorem im_X7_word_X7 : ∀ w ∈ u_ws RX7 TX7 16, w ∈ wsX7_word := by decide +kernel
set_option maxHeartbeats 4000000 in
set_option maxRecDepth 100000 in
theorem c_X7_word (l : Launch) (G : GT) (mO mT mW : Nat) (sz : Nat) (mS mD mR mQ mC mU mV : Nat) (mn my mm mf mg : Int32) (tN aN : Nat) (fT : Nat → Int32) (lo hi : Int32) (htN : tN ≤ 120) (haN : aN ≤ 120) : Met l yX7_word wsX7_word ({ frames := 2, cells := 0, slots := 0, locals := 46 }) (va_Pc [.ref mO, .int lo, .int hi] (wPre G [(mO, .inr (7, [.ref mS, .ref mD, .ref mR, .ref mT, .int (nI tN), .int (nI aN), .int mn, .ref mW, .ref mQ, .ref mC, .int my, .ref mU, .ref mV, .int mm, .int mf, .int mg])), (mT, .inl (G.2.1 2, 120, .inl fT)), (mW, .inl (G.2.1 1, 73, .inl (wdF 73)))] sz)) (va_Qi (fun (r : Int32) (u : Nat) => u ≤ 120) (bW G (va_A [(mO, .inr (7, [.ref mS, .ref mD, .ref mR, .ref mT, .int (nI tN), .int (nI aN), .int mn, .ref mW, .ref mQ, .ref mC, .int my, .ref mU, .ref mV, .int mm, .int mf, .int mg])), (mT, .inl (G.2.1 2, 120, .inl fT)), (mW, .inl (G.2.1 1, 73, .inl (wdF 73)))] sz) (fun u : Nat => [(mO, .inr (7, [.ref mS, .ref mD, .ref mR, .ref mT, .int (nI tN), .int (nI u), .int mn, .ref mW, .ref mQ, .ref mC, .int my, .ref mU, .ref mV, .int mm, .int mf, .int mg])), (mT, .inl (G.2.1 2, 120, .inl fT)), (mW, .inl (G.2.1 1, 73, .inl (wdF 73)))])) (va_A [(mO, .inr (7, [.ref mS, .ref mD, .ref mR, .ref mT, .int (nI tN), .int (nI aN), .int mn, .ref mW, .ref mQ, .ref mC, .int my, .ref mU, .ref mV, .int mm, .int mf, .int mg])), (mT, .inl (G.2.1 2, 120, .inl fT)), (mW, .inl (G.2.1 1, 73, .inl (wdF 73)))] sz)) 0 0 (va_A [(mO, .inr (7, [.ref mS, .ref mD, .ref mR, .ref mT, .int (nI tN), .int (nI aN), .int mn, .ref mW, .ref mQ, .ref mC, .int my, .ref mU, .ref mV, .int mm, .int mf, .int mg])), (mT, .inl (G.2.1 2, 120, .inl fT)), (mW, .inl (G.2.1 1, 73, .inl (wdF 73)))] sz) := by
  refine met_go (cc := cX7_word) (maxL := 6) (ret := (some .int)) (own := RX7) (by decide) rfl rfl (Nat.le_of_ble_eq_true rfl) ?_
  intro p e s m below meth c ls S hr hlocks hname hsz C w hl
  have hl : lv_has ls 6 [(0, .ref mO), (1, .int lo), (2, .int hi)] := hl
  refine lv_aload_n S.1 S.2.1 dX7_word_0 rfl (lv_at hl 0 rfl) ?_
  refine cq_v C w [0, 1] [2] [1, 2, 0] (wr := [(mW, .inl (G.2.1 1, 73, .inl (wdF 73)))]) (w' := fun u : Nat => [(mO, .inr (7, [.ref mS, .ref mD, .ref mR, .ref mT, .int (nI tN), .int (nI u), .int mn, .ref mW, .ref mQ, .ref mC, .int my, .ref mU, .ref mV, .int mm, .int mf, .int mg])), (mT, .inl (G.2.1 2, 120, .inl fT))]) (ws2 := fun u : Nat => [(mO, .inr (7, [.ref mS, .ref mD, .ref mR, .ref mT, .int (nI tN), .int (nI u), .int mn, .ref mW, .ref mQ, .ref mC, .int my, .ref mU, .ref mV, .int mm, .int mf, .int mg])), (mT, .inl (G.2.1 2, 120, .inl fT)), (mW, .inl (G.2.1 1, 73, .inl (wdF 73)))]) rfl rfl rfl (by decide) rfl (fun _ => rfl) (va_runV (As := []) (rest := []) S (c_X7_skips l G mO mT _ mS mD mR mW mQ mC mU mV mn my mm mf mg tN aN fT (htN) (haN)) (cwV 0 S.2.2.2.2 gX7_word_X7_skips rfl rfl rfl (by decide +kernel) ⟨Nat.le_of_ble_eq_true rfl, Nat.le_of_ble_eq_true rfl⟩) ⟨wPre_blind, va_recv C.1 w.1 (ci := 7) (q0 := 0) rfl rfl, wPre_at C w [0, 1] rfl rfl⟩ rfl rfl hl.1 rfl (lv_room (Nat.le_of_ble_eq_true rfl)) dX7_word_1 ⟨Nat.le_of_ble_eq_true rfl, Nat.le_of_ble_eq_true rfl⟩) (fun u1 H locs h1 w => ?_)
  have w : Wd G _ s [(mO, .inr (7, [.ref mS, .ref mD, .ref mR, .ref mT, .int (nI tN), .int (nI u1), .int mn, .ref mW, .ref mQ, .ref mC, .int my, .ref mU, .ref mV, .int mm, .int mf, .int mg])), (mT, .inl (G.2.1 2, 120, .inl fT)), (mW, .inl (G.2.1 1, 73, .inl (wdF 73)))] H locs := w
  refine lv_iconst (v := 0) S.1 S.2.1 dX7_word_4 (by decide) ?_
  refine lv_istore_n (lv' := [(3, .int 0), (0, .ref mO), (1, .int lo), (2, .int hi)]) S.1 S.2.1 dX7_word_5 rfl hl (by decide) rfl (fun ls hl => ?_)
  refine lv_iconst (v := 0) S.1 S.2.1 dX7_word_6 (by decide) ?_
  refine lv_istore (lv' := [(4, .int 0), (3, .int 0), (0, .ref mO), (1, .int lo), (2, .int hi)]) S.1 S.2.1 dX7_word_7 hl (by decide) rfl (fun ls hl => ?_)
  refine lv_iload S.1 S.2.1 dX7_word_9 (lv_at hl 0 rfl) ?_
  refine lv_aload_n S.1 S.2.1 dX7_word_11 rfl (lv_at hl 2 rfl) ?_
  refine w_get S C w (CC := RX7) (T := TX7) (N := 16) (ref := "GateSumsModel") im_X7_word_X7 0 rfl rfl 7 (by decide) (List.mem_of_getElem? (i := 1) rfl) (fun _ h => h) rfl dX7_word_12 ?_
  refine w_alen S C w 2 1 rfl rfl (v := 73) rfl dX7_word_15 ?_
  refine lv_icmp_ge (tgt := 93) S.1 S.2.1 dX7_word_16 (by decide) (fun c16 => ?_) (fun c16 => ?_)
  · exact absurd c16 (by decide)
  · refine lv_iconst (v := 0) S.1 S.2.1 dX7_word_19 (by decide) ?_
    refine lv_istore (lv' := [(5, .int 0), (4, .int 0), (3, .int 0), (0, .ref mO), (1, .int lo), (2, .int hi)]) S.1 S.2.1 dX7_word_20 hl (by decide) rfl (fun ls hl => ?_)
    refine lv_aload_n S.1 S.2.1 dX7_word_22 rfl (lv_at hl 3 rfl) ?_
    refine w_get S C w (CC := RX7) (T := TX7) (N := 16) (ref := "GateSumsModel") im_X7_word_X7 0 rfl rfl 7 (by decide) (List.mem_of_getElem? (i := 1) rfl) (fun _ h => h) rfl dX7_word_23 ?_
    refine lv_iload S.1 S.2.1 dX7_word_26 (lv_at hl 1 rfl) ?_
    refine lv_iload S.1 S.2.1 dX7_word_28 (lv_at hl 0 rfl) ?_
    refine lv_iadd S.1 S.2.1 dX7_word_30 ?_
    refine w_topi (y := 0) (by decide) ?_
    refine w_cald S C w 2 rfl (by unfold vp_in; decide) dX7_word_31 ?_
    refine w_topi (y := 110) (by decide) ?_
    refine lv_bipush (v := 32) S.1 S.2.1 dX7_word_32 (by decide) ?_
    refine lv_icmp_eq (tgt := 43) S.1 S.2.1 dX7_word_34 (by decide) (fun c34 => ?_) (fun c34 => ?_)
    · exact absurd c34 (by decide)
    · refine lv_iinc (v := 1) (lv' := [(5, .int 1), (4, .int 0), (3, .int 0), (0, .ref mO), (1, .int lo), (2, .int hi)]) S.1 S.2.1 dX7_word_37 hl (k := 0) rfl (by decide) (by decide) rfl (fun ls hl => ?_)
      refine lv_goto (tgt := 22) S.1 S.2.1 dX7_word_40 (by decide) ?_
      refine lv_aload_n S.1 S.2.1 dX7_word_22 rfl (lv_at hl 3 rfl) ?_
      refine w_get S C w (CC := RX7) (T := TX7) (N := 16) (ref := "GateSumsModel") im_X7_word_X7 0 rfl rfl 7 (by decide) (List.mem_of_getElem? (i := 1) rfl) (fun _ h => h) rfl dX7_word_23 ?_
      refine lv_iload S.1 S.2.1 dX7_word_26 (lv_at hl 1 rfl) ?_
      refine lv_iload S.1 S.2.1 dX7_word_28 (lv_at hl 0 rfl) ?_
      refine lv_iadd S.1 S.2.1 dX7_word_30 ?_
      refine w_topi (y := 1) (by decide) ?_
      refine w_cald S C w 2 rfl (by unfold vp_in; decide) dX7_word_31 ?_
      refine w_topi (y := 111) (by decide) ?_
      refine lv_bipush (v := 32) S.1 S.2.1 dX7_word_32 (by decide) ?_
      refine lv_icmp_eq (tgt := 43) S.1 S.2.1 dX7_word_34 (by decide) (fun c34_1 => ?_) (fun c34_1 => ?_)
      · exact absurd c34_1 (by decide)
      · refine lv_iinc (v := 2) (lv' := [(5, .int 2), (4, .int 0), (3, .int 0), (0, .ref mO), (1, .int lo), (2, .int hi)]) S.1 S.2.1 dX7_word_37 hl (k := 0) rfl (by decide) (by decide) rfl (fun ls hl => ?_)
        refine lv_goto (tgt := 22) S.1 S.2.1 dX7_word_40 (by decide) ?_
        refine lv_aload_n S.1 S.2.1 dX7_word_22 rfl (lv_at hl 3 rfl) ?_
        refine w_get S C w (CC := RX7) (T := TX7) (N := 16) (ref := "GateSumsModel") im_X7_word_X7 0 rfl rfl 7 (by decide) (List.mem_of_getElem? (i := 1) rfl) (fun _ h => h) rfl dX7_word_23 ?_
        refine lv_iload S.1 S.2.1 dX7_word_26 (lv_at hl 1 rfl) ?_
        refine lv_iload S.1 S.2.1 dX7_word_28 (lv_at hl 0 rfl) ?_
        refine lv_iadd S.1 S.2.1 dX7_word_30 ?_
        refine w_topi (y := 2) (by decide) ?_
        refine w_cald S C w 2 rfl (by unfold vp_in; decide) dX7_word_31 ?_
        refine w_topi (y := 116) (by decide) ?_
        refine lv_bipush (v := 32) S.1 S.2.1 dX7_word_32 (by decide) ?_
        refine lv_icmp_eq (tgt := 43) S.1 S.2.1 dX7_word_34 (by decide) (fun c34_2 => ?_) (fun c34_2 => ?_)
        · exact absurd c34_2 (by decide)
        · refine lv_iinc (v := 3) (lv' := [(5, .int 3), (4, .int 0), (3, .int 0), (0, .ref mO), (1, .int lo), (2, .int hi)]) S.1 S.2.1 dX7_word_37 hl (k := 0) rfl (by decide) (by decide) rfl (fun ls hl => ?_)
          refine lv_goto (tgt := 22) S.1 S.2.1 dX7_word_40 (by decide) ?_
          refine lv_aload_n S.1 S.2.1 dX7_word_22 rfl (lv_at hl 3 rfl) ?_
          refine w_get S C w (CC := RX7) (T := TX7) (N := 16) (ref := "GateSumsModel") im_X7_word_X7 0 rfl rfl 7 (by decide) (List.mem_of_getElem? (i := 1) rfl) (fun _ h => h) rfl dX7_word_23 ?_
          refine lv_iload S.1 S.2.1 dX7_word_26 (lv_at hl 1 rfl) ?_
          refine lv_iload S.1 S.2.1 dX7_word_28 (lv_at hl 0 rfl) ?_
          refine lv_iadd S.1 S.2.1 dX7_word_30 ?_
          refine w_topi (y := 3) (by decide) ?_
          refine w_cald S C w 2 rfl (by unfold vp_in; decide) dX7_word_31 ?_
          refine w_topi (y := 32) (by decide) ?_
          refine lv_bipush (v := 32) S.1 S.2.1 dX7_word_32 (by decide) ?_
          refine lv_icmp_eq (tgt := 43) S.1 S.2.1 dX7_word_34 (by decide) (fun c34_3 => ?_) (fun c34_3 => ?_)
          · refine w_join0 78 [] (True) (fun hz78 => ?_) (fun J78 => ?_)
            · refine lv_iinc (v := 1) (lv' := [(3, .int 1), (5, .int 3), (4, .int 0), (0, .ref mO), (1, .int lo), (2, .int hi)]) S.1 S.2.1 dX7_word_78 hl (k := 2) rfl (by decide) (by decide) rfl (fun ls hl => ?_)
              refine lv_iload S.1 S.2.1 dX7_word_81 (lv_at hl 2 rfl) ?_
              refine lv_iload S.1 S.2.1 dX7_word_83 (lv_at hl 1 rfl) ?_
              refine lv_iconst (v := 1) S.1 S.2.1 dX7_word_85 (by decide) ?_
              refine lv_iadd S.1 S.2.1 dX7_word_86 ?_
              refine w_topi (y := 4) (by decide) ?_
              refine lv_iadd S.1 S.2.1 dX7_word_87 ?_
              refine w_topi (y := 4) (by decide) ?_
              refine lv_istore (lv' := [(4, .int 4), (3, .int 1), (5, .int 3), (0, .ref mO), (1, .int lo), (2, .int hi)]) S.1 S.2.1 dX7_word_88 hl (by decide) rfl (fun ls hl => ?_)
              refine lv_goto (tgt := 9) S.1 S.2.1 dX7_word_90 (by decide) ?_
              refine lv_iload S.1 S.2.1 dX7_word_9 (lv_at hl 0 rfl) ?_
              refine lv_aload_n S.1 S.2.1 dX7_word_11 rfl (lv_at hl 3 rfl) ?_
              refine w_get S C w (CC := RX7) (T := TX7) (N := 16) (ref := "GateSumsModel") im_X7_word_X7 0 rfl rfl 7 (by decide) (List.mem_of_getElem? (i := 1) rfl) (fun _ h => h) rfl dX7_word_12 ?_
              refine w_alen S C w 2 1 rfl rfl (v := 73) rfl dX7_word_15 ?_
              refine lv_icmp_ge (tgt := 93) S.1 S.2.1 dX7_word_16 (by decide) (fun c16_1 => ?_) (fun c16_1 => ?_)
              · exact absurd c16_1 (by decide)
              · refine lv_iconst (v := 0) S.1 S.2.1 dX7_word_19 (by decide) ?_
                refine lv_istore (lv' := [(5, .int 0), (4, .int 4), (3, .int 1), (0, .ref mO), (1, .int lo), (2, .int hi)]) S.1 S.2.1 dX7_word_20 hl (by decide) rfl (fun ls hl => ?_)
                refine lv_aload_n S.1 S.2.1 dX7_word_22 rfl (lv_at hl 3 rfl) ?_
                refine w_get S C w (CC := RX7) (T := TX7) (N := 16) (ref := "GateSumsModel") im_X7_word_X7 0 rfl rfl 7 (by decide) (List.mem_of_getElem? (i := 1) rfl) (fun _ h => h) rfl dX7_word_23 ?_
                refine lv_iload S.1 S.2.1 dX7_word_26 (lv_at hl 1 rfl) ?_
                refine lv_iload S.1 S.2.1 dX7_word_28 (lv_at hl 0 rfl) ?_
                refine lv_iadd S.1 S.2.1 dX7_word_30 ?_
                refine w_topi (y := 4) (by decide) ?_
                refine w_cald S C w 2 rfl (by unfold vp_in; decide) dX7_word_31 ?_
                refine w_topi (y := 97) (by decide) ?_
                refine lv_bipush (v := 32) S.1 S.2.1 dX7_word_32 (by decide) ?_
                refine lv_icmp_eq (tgt := 43) S.1 S.2.1 dX7_word_34 (by decide) (fun c34_4 => ?_) (fun c34_4 => ?_)
                · exact absurd c34_4 (by decide)
                · refine lv_iinc (v := 1) (lv' := [(5, .int 1), (4, .int 4), (3, .int 1), (0, .ref mO), (1, .int lo), (2, .int hi)]) S.1 S.2.1 dX7_word_37 hl (k := 0) rfl (by decide) (by decide) rfl (fun ls hl => ?_)
                  refine lv_goto (tgt := 22) S.1 S.2.1 dX7_word_40 (by decide) ?_
                  refine lv_aload_n S.1 S.2.1 dX7_word_22 rfl (lv_at hl 3 rfl) ?_
                  refine w_get S C w (CC := RX7) (T := TX7) (N := 16) (ref := "GateSumsModel") im_X7_word_X7 0 rfl rfl 7 (by decide) (List.mem_of_getElem? (i := 1) rfl) (fun _ h => h) rfl dX7_word_23 ?_
                  refine lv_iload S.1 S.2.1 dX7_word_26 (lv_at hl 1 rfl) ?_
                  refine lv_iload S.1 S.2.1 dX7_word_28 (lv_at hl 0 rfl) ?_
                  refine lv_iadd S.1 S.2.1 dX7_word_30 ?_
                  refine w_topi (y := 5) (by decide) ?_
                  refine w_cald S C w 2 rfl (by unfold vp_in; decide) dX7_word_31 ?_
                  refine w_topi (y := 110) (by decide) ?_
                  refine lv_bipush (v := 32) S.1 S.2.1 dX7_word_32 (by decide) ?_
                  refine lv_icmp_eq (tgt := 43) S.1 S.2.1 dX7_word_34 (by decide) (fun c34_5 => ?_) (fun c34_5 => ?_)
                  · exact absurd c34_5 (by decide)
                  · refine lv_iinc (v := 2) (lv' := [(5, .int 2), (4, .int 4), (3, .int 1), (0, .ref mO), (1, .int lo), (2, .int hi)]) S.1 S.2.1 dX7_word_37 hl (k := 0) rfl (by decide) (by decide) rfl (fun ls hl => ?_)
                    refine lv_goto (tgt := 22) S.1 S.2.1 dX7_word_40 (by decide) ?_
                    refine lv_aload_n S.1 S.2.1 dX7_word_22 rfl (lv_at hl 3 rfl) ?_
                    refine w_get S C w (CC := RX7) (T := TX7) (N := 16) (ref := "GateSumsModel") im_X7_word_X7 0 rfl rfl 7 (by decide) (List.mem_of_getElem? (i := 1) rfl) (fun _ h => h) rfl dX7_word_23 ?_
                    refine lv_iload S.1 S.2.1 dX7_word_26 (lv_at hl 1 rfl) ?_
                    refine lv_iload S.1 S.2.1 dX7_word_28 (lv_at hl 0 rfl) ?_
                    refine lv_iadd S.1 S.2.1 dX7_word_30 ?_
                    refine w_topi (y := 6) (by decide) ?_
                    refine w_cald S C w 2 rfl (by unfold vp_in; decide) dX7_word_31 ?_
                    refine w_topi (y := 100) (by decide) ?_
                    refine lv_bipush (v := 32) S.1 S.2.1 dX7_word_32 (by decide) ?_
                    refine lv_icmp_eq (tgt := 43) S.1 S.2.1 dX7_word_34 (by decide) (fun c34_6 => ?_) (fun c34_6 => ?_)
                    · exact absurd c34_6 (by decide)
                    · refine lv_iinc (v := 3) (lv' := [(5, .int 3), (4, .int 4), (3, .int 1), (0, .ref mO), (1, .int lo), (2, .int hi)]) S.1 S.2.1 dX7_word_37 hl (k := 0) rfl (by decide) (by decide) rfl (fun ls hl => ?_)
                      refine lv_goto (tgt := 22) S.1 S.2.1 dX7_word_40 (by decide) ?_
                      refine lv_aload_n S.1 S.2.1 dX7_word_22 rfl (lv_at hl 3 rfl) ?_
                      refine w_get S C w (CC := RX7) (T := TX7) (N := 16) (ref := "GateSumsModel") im_X7_word_X7 0 rfl rfl 7 (by decide) (List.mem_of_getElem? (i := 1) rfl) (fun _ h => h) rfl dX7_word_23 ?_
                      refine lv_iload S.1 S.2.1 dX7_word_26 (lv_at hl 1 rfl) ?_
                      refine lv_iload S.1 S.2.1 dX7_word_28 (lv_at hl 0 rfl) ?_
                      refine lv_iadd S.1 S.2.1 dX7_word_30 ?_
                      refine w_topi (y := 7) (by decide) ?_
                      refine w_cald S C w 2 rfl (by unfold vp_in; decide) dX7_word_31 ?_
                      refine w_topi (y := 32) (by decide) ?_
                      refine lv_bipush (v := 32) S.1 S.2.1 dX7_word_32 (by decide) ?_
                      refine lv_icmp_eq (tgt := 43) S.1 S.2.1 dX7_word_34 (by decide) (fun c34_7 => ?_) (fun c34_7 => ?_)
                      · refine w_join0 78 [] (True) (fun hz78 => ?_) (fun J78 => ?_)
                        · refine lv_iinc (v := 2) (lv' := [(3, .int 2), (5, .int 3), (4, .int 4), (0, .ref mO), (1, .int lo), (2, .int hi)]) S.1 S.2.1 dX7_word_78 hl (k := 2) rfl (by decide) (by decide) rfl (fun ls hl => ?_)
                          refine lv_iload S.1 S.2.1 dX7_word_81 (lv_at hl 2 rfl) ?_
                          refine lv_iload S.1 S.2.1 dX7_word_83 (lv_at hl 1 rfl) ?_
                          refine lv_iconst (v := 1) S.1 S.2.1 dX7_word_85 (by decide) ?_
                          refine lv_iadd S.1 S.2.1 dX7_word_86 ?_
                          refine w_topi (y := 4) (by decide) ?_
                          refine lv_iadd S.1 S.2.1 dX7_word_87 ?_
                          refine w_topi (y := 8) (by decide) ?_
                          refine lv_istore (lv' := [(4, .int 8), (3, .int 2), (5, .int 3), (0, .ref mO), (1, .int lo), (2, .int hi)]) S.1 S.2.1 dX7_word_88 hl (by decide) rfl (fun ls hl => ?_)
                          refine lv_goto (tgt := 9) S.1 S.2.1 dX7_word_90 (by decide) ?_
                          refine lv_iload S.1 S.2.1 dX7_word_9 (lv_at hl 0 rfl) ?_
                          refine lv_aload_n S.1 S.2.1 dX7_word_11 rfl (lv_at hl 3 rfl) ?_
                          refine w_get S C w (CC := RX7) (T := TX7) (N := 16) (ref := "GateSumsModel") im_X7_word_X7 0 rfl rfl 7 (by decide) (List.mem_of_getElem? (i := 1) rfl) (fun _ h => h) rfl dX7_word_12 ?_
                          refine w_alen S C w 2 1 rfl rfl (v := 73) rfl dX7_word_15 ?_
                          refine lv_icmp_ge (tgt := 93) S.1 S.2.1 dX7_word_16 (by decide) (fun c16_2 => ?_) (fun c16_2 => ?_)
                          · exact absurd c16_2 (by decide)
                          · refine lv_iconst (v := 0) S.1 S.2.1 dX7_word_19 (by decide) ?_
                            refine lv_istore (lv' := [(5, .int 0), (4, .int 8), (3, .int 2), (0, .ref mO), (1, .int lo), (2, .int hi)]) S.1 S.2.1 dX7_word_20 hl (by decide) rfl (fun ls hl => ?_)
                            refine lv_aload_n S.1 S.2.1 dX7_word_22 rfl (lv_at hl 3 rfl) ?_
                            refine w_get S C w (CC := RX7) (T := TX7) (N := 16) (ref := "GateSumsModel") im_X7_word_X7 0 rfl rfl 7 (by decide) (List.mem_of_getElem? (i := 1) rfl) (fun _ h => h) rfl dX7_word_23 ?_
                            refine lv_iload S.1 S.2.1 dX7_word_26 (lv_at hl 1 rfl) ?_
                            refine lv_iload S.1 S.2.1 dX7_word_28 (lv_at hl 0 rfl) ?_
                            refine lv_iadd S.1 S.2.1 dX7_word_30 ?_
                            refine w_topi (y := 8) (by decide) ?_
                            refine w_cald S C w 2 rfl (by unfold vp_in; decide) dX7_word_31 ?_
                            refine w_topi (y := 111) (by decide) ?_
                            refine lv_bipush (v := 32) S.1 S.2.1 dX7_word_32 (by decide) ?_
                            refine lv_icmp_eq (tgt := 43) S.1 S.2.1 dX7_word_34 (by decide) (fun c34_8 => ?_) (fun c34_8 => ?_)
                            · exact absurd c34_8 (by decide)
                            · refine lv_iinc (v := 1) (lv' := [(5, .int 1), (4, .int 8), (3, .int 2), (0, .ref mO), (1, .int lo), (2, .int hi)]) S.1 S.2.1 dX7_word_37 hl (k := 0) rfl (by decide) (by decide) rfl (fun ls hl => ?_)
                              refine lv_goto (tgt := 22) S.1 S.2.1 dX7_word_40 (by decide) ?_
                              refine lv_aload_n S.1 S.2.1 dX7_word_22 rfl (lv_at hl 3 rfl) ?_
                              refine w_get S C w (CC := RX7) (T := TX7) (N := 16) (ref := "GateSumsModel") im_X7_word_X7 0 rfl rfl 7 (by decide) (List.mem_of_getElem? (i := 1) rfl) (fun _ h => h) rfl dX7_word_23 ?_
                              refine lv_iload S.1 S.2.1 dX7_word_26 (lv_at hl 1 rfl) ?_
                              refine lv_iload S.1 S.2.1 dX7_word_28 (lv_at hl 0 rfl) ?_
                              refine lv_iadd S.1 S.2.1 dX7_word_30 ?_
                              refine w_topi (y := 9) (by decide) ?_
                              refine w_cald S C w 2 rfl (by unfold vp_in; decide) dX7_word_31 ?_
                              refine w_topi (y := 114) (by decide) ?_
                              refine lv_bipush (v := 32) S.1 S.2.1 dX7_word_32 (by decide) ?_
                              refine lv_icmp_eq (tgt := 43) S.1 S.2.1 dX7_word_34 (by decide) (fun c34_9 => ?_) (fun c34_9 => ?_)
                              · exact absurd c34_9 (by decide)
                              · refine lv_iinc (v := 2) (lv' := [(5, .int 2), (4, .int 8), (3, .int 2), (0, .ref mO), (1, .int lo), (2, .int hi)]) S.1 S.2.1 dX7_word_37 hl (k := 0) rfl (by decide) (by decide) rfl (fun ls hl => ?_)
                                refine lv_goto (tgt := 22) S.1 S.2.1 dX7_word_40 (by decide) ?_
                                refine lv_aload_n S.1 S.2.1 dX7_word_22 rfl (lv_at hl 3 rfl) ?_
                                refine w_get S C w (CC := RX7) (T := TX7) (N := 16) (ref := "GateSumsModel") im_X7_word_X7 0 rfl rfl 7 (by decide) (List.mem_of_getElem? (i := 1) rfl) (fun _ h => h) rfl dX7_word_23 ?_
                                refine lv_iload S.1 S.2.1 dX7_word_26 (lv_at hl 1 rfl) ?_
                                refine lv_iload S.1 S.2.1 dX7_word_28 (lv_at hl 0 rfl) ?_
                                refine lv_iadd S.1 S.2.1 dX7_word_30 ?_
                                refine w_topi (y := 10) (by decide) ?_
                                refine w_cald S C w 2 rfl (by unfold vp_in; decide) dX7_word_31 ?_
                                refine w_topi (y := 32) (by decide) ?_
                                refine lv_bipush (v := 32) S.1 S.2.1 dX7_word_32 (by decide) ?_
                                refine lv_icmp_eq (tgt := 43) S.1 S.2.1 dX7_word_34 (by decide) (fun c34_10 => ?_) (fun c34_10 => ?_)
                                · refine w_join0 78 [] (True) (fun hz78 => ?_) (fun J78 => ?_)
                                  · refine lv_iinc (v := 3) (lv' := [(3, .int 3), (5, .int 2), (4, .int 8), (0, .ref mO), (1, .int lo), (2, .int hi)]) S.1 S.2.1 dX7_word_78 hl (k := 2) rfl (by decide) (by decide) rfl (fun ls hl => ?_)
                                    refine lv_iload S.1 S.2.1 dX7_word_81 (lv_at hl 2 rfl) ?_
                                    refine lv_iload S.1 S.2.1 dX7_word_83 (lv_at hl 1 rfl) ?_
                                    refine lv_iconst (v := 1) S.1 S.2.1 dX7_word_85 (by decide) ?_
                                    refine lv_iadd S.1 S.2.1 dX7_word_86 ?_
                                    refine w_topi (y := 3) (by decide) ?_
                                    refine lv_iadd S.1 S.2.1 dX7_word_87 ?_
                                    refine w_topi (y := 11) (by decide) ?_
                                    refine lv_istore (lv' := [(4, .int 11), (3, .int 3), (5, .int 2), (0, .ref mO), (1, .int lo), (2, .int hi)]) S.1 S.2.1 dX7_word_88 hl (by decide) rfl (fun ls hl => ?_)
                                    refine lv_goto (tgt := 9) S.1 S.2.1 dX7_word_90 (by decide) ?_
                                    refine lv_iload S.1 S.2.1 dX7_word_9 (lv_at hl 0 rfl) ?_
                                    refine lv_aload_n S.1 S.2.1 dX7_word_11 rfl (lv_at hl 3 rfl) ?_
                                    refine w_get S C w (CC := RX7) (T := TX7) (N := 16) (ref := "GateSumsModel") im_X7_word_X7 0 rfl rfl 7 (by decide) (List.mem_of_getElem? (i := 1) rfl) (fun _ h => h) rfl dX7_word_12 ?_
                                    refine w_alen S C w 2 1 rfl rfl (v := 73) rfl dX7_word_15 ?_
                                    refine lv_icmp_ge (tgt := 93) S.1 S.2.1 dX7_word_16 (by decide) (fun c16_3 => ?_) (fun c16_3 => ?_)
                                    · exact absurd c16_3 (by decide)
                                    · refine lv_iconst (v := 0) S.1 S.2.1 dX7_word_19 (by decide) ?_
                                      refine lv_istore (lv' := [(5, .int 0), (4, .int 11), (3, .int 3), (0, .ref mO), (1, .int lo), (2, .int hi)]) S.1 S.2.1 dX7_word_20 hl (by decide) rfl (fun ls hl => ?_)
                                      refine lv_aload_n S.1 S.2.1 dX7_word_22 rfl (lv_at hl 3 rfl) ?_
                                      refine w_get S C w (CC := RX7) (T := TX7) (N := 16) (ref := "GateSumsModel") im_X7_word_X7 0 rfl rfl 7 (by decide) (List.mem_of_getElem? (i := 1) rfl) (fun _ h => h) rfl dX7_word_23 ?_
                                      refine lv_iload S.1 S.2.1 dX7_word_26 (lv_at hl 1 rfl) ?_
                                      refine lv_iload S.1 S.2.1 dX7_word_28 (lv_at hl 0 rfl) ?_
                                      refine lv_iadd S.1 S.2.1 dX7_word_30 ?_
                                      refine w_topi (y := 11) (by decide) ?_
                                      refine w_cald S C w 2 rfl (by unfold vp_in; decide) dX7_word_31 ?_
                                      refine w_topi (y := 120) (by decide) ?_
                                      refine lv_bipush (v := 32) S.1 S.2.1 dX7_word_32 (by decide) ?_
                                      refine lv_icmp_eq (tgt := 43) S.1 S.2.1 dX7_word_34 (by decide) (fun c34_11 => ?_) (fun c34_11 => ?_)
                                      · exact absurd c34_11 (by decide)
                                      · refine lv_iinc (v := 1) (lv' := [(5, .int 1), (4, .int 11), (3, .int 3), (0, .ref mO), (1, .int lo), (2, .int hi)]) S.1 S.2.1 dX7_word_37 hl (k := 0) rfl (by decide) (by decide) rfl (fun ls hl => ?_)
                                        refine lv_goto (tgt := 22) S.1 S.2.1 dX7_word_40 (by decide) ?_
                                        refine lv_aload_n S.1 S.2.1 dX7_word_22 rfl (lv_at hl 3 rfl) ?_
                                        refine w_get S C w (CC := RX7) (T := TX7) (N := 16) (ref := "GateSumsModel") im_X7_word_X7 0 rfl rfl 7 (by decide) (List.mem_of_getElem? (i := 1) rfl) (fun _ h => h) rfl dX7_word_23 ?_
                                        refine lv_iload S.1 S.2.1 dX7_word_26 (lv_at hl 1 rfl) ?_
                                        refine lv_iload S.1 S.2.1 dX7_word_28 (lv_at hl 0 rfl) ?_
                                        refine lv_iadd S.1 S.2.1 dX7_word_30 ?_
                                        refine w_topi (y := 12) (by decide) ?_
                                        refine w_cald S C w 2 rfl (by unfold vp_in; decide) dX7_word_31 ?_
                                        refine w_topi (y := 111) (by decide) ?_
                                        refine lv_bipush (v := 32) S.1 S.2.1 dX7_word_32 (by decide) ?_
                                        refine lv_icmp_eq (tgt := 43) S.1 S.2.1 dX7_word_34 (by decide) (fun c34_12 => ?_) (fun c34_12 => ?_)
                                        · exact absurd c34_12 (by decide)
                                        · refine lv_iinc (v := 2) (lv' := [(5, .int 2), (4, .int 11), (3, .int 3), (0, .ref mO), (1, .int lo), (2, .int hi)]) S.1 S.2.1 dX7_word_37 hl (k := 0) rfl (by decide) (by decide) rfl (fun ls hl => ?_)
                                          refine lv_goto (tgt := 22) S.1 S.2.1 dX7_word_40 (by decide) ?_
                                          refine lv_aload_n S.1 S.2.1 dX7_word_22 rfl (lv_at hl 3 rfl) ?_
                                          refine w_get S C w (CC := RX7) (T := TX7) (N := 16) (ref := "GateSumsModel") im_X7_word_X7 0 rfl rfl 7 (by decide) (List.mem_of_getElem? (i := 1) rfl) (fun _ h => h) rfl dX7_word_23 ?_
                                          refine lv_iload S.1 S.2.1 dX7_word_26 (lv_at hl 1 rfl) ?_
                                          refine lv_iload S.1 S.2.1 dX7_word_28 (lv_at hl 0 rfl) ?_
                                          refine lv_iadd S.1 S.2.1 dX7_word_30 ?_
                                          refine w_topi (y := 13) (by decide) ?_
                                          refine w_cald S C w 2 rfl (by unfold vp_in; decide) dX7_word_31 ?_
                                          refine w_topi (y := 114) (by decide) ?_
                                          refine lv_bipush (v := 32) S.1 S.2.1 dX7_word_32 (by decide) ?_
                                          refine lv_icmp_eq (tgt := 43) S.1 S.2.1 dX7_word_34 (by decide) (fun c34_13 => ?_) (fun c34_13 => ?_)
                                          · exact absurd c34_13 (by decide)
                                          · refine lv_iinc (v := 3) (lv' := [(5, .int 3), (4, .int 11), (3, .int 3), (0, .ref mO), (1, .int lo), (2, .int hi)]) S.1 S.2.1 dX7_word_37 hl (k := 0) rfl (by decide) (by decide) rfl (fun ls hl => ?_)
                                            refine lv_goto (tgt := 22) S.1 S.2.1 dX7_word_40 (by decide) ?_
                                            refine lv_aload_n S.1 S.2.1 dX7_word_22 rfl (lv_at hl 3 rfl) ?_
                                            refine w_get S C w (CC := RX7) (T := TX7) (N := 16) (ref := "GateSumsModel") im_X7_word_X7 0 rfl rfl 7 (by decide) (List.mem_of_getElem? (i := 1) rfl) (fun _ h => h) rfl dX7_word_23 ?_
                                            refine lv_iload S.1 S.2.1 dX7_word_26 (lv_at hl 1 rfl) ?_
                                            refine lv_iload S.1 S.2.1 dX7_word_28 (lv_at hl 0 rfl) ?_
                                            refine lv_iadd S.1 S.2.1 dX7_word_30 ?_
                                            refine w_topi (y := 14) (by decide) ?_
                                            refine w_cald S C w 2 rfl (by unfold vp_in; decide) dX7_word_31 ?_
                                            refine w_topi (y := 32) (by decide) ?_
                                            refine lv_bipush (v := 32) S.1 S.2.1 dX7_word_32 (by decide) ?_
                                            refine lv_icmp_eq (tgt := 43) S.1 S.2.1 dX7_word_34 (by decide) (fun c34_14 => ?_) (fun c34_14 => ?_)
                                            · refine w_join0 78 [] (True) (fun hz78 => ?_) (fun J78 => ?_)
                                              · refine lv_iinc (v := 4) (lv' := [(3, .int 4), (5, .int 3), (4, .int 11), (0, .ref mO), (1, .int lo), (2, .int hi)]) S.1 S.2.1 dX7_word_78 hl (k := 2) rfl (by decide) (by decide) rfl (fun ls hl => ?_)
                                                refine lv_iload S.1 S.2.1 dX7_word_81 (lv_at hl 2 rfl) ?_
                                                refine lv_iload S.1 S.2.1 dX7_word_83 (lv_at hl 1 rfl) ?_
                                                refine lv_iconst (v := 1) S.1 S.2.1 dX7_word_85 (by decide) ?_
                                                refine lv_iadd S.1 S.2.1 dX7_word_86 ?_
                                                refine w_topi (y := 4) (by decide) ?_
                                                refine lv_iadd S.1 S.2.1 dX7_word_87 ?_
                                                refine w_topi (y := 15) (by decide) ?_
                                                refine lv_istore (lv' := [(4, .int 15), (3, .int 4), (5, .int 3), (0, .ref mO), (1, .int lo), (2, .int hi)]) S.1 S.2.1 dX7_word_88 hl (by decide) rfl (fun ls hl => ?_)
                                                refine lv_goto (tgt := 9) S.1 S.2.1 dX7_word_90 (by decide) ?_
                                                refine lv_iload S.1 S.2.1 dX7_word_9 (lv_at hl 0 rfl) ?_
                                                refine lv_aload_n S.1 S.2.1 dX7_word_11 rfl (lv_at hl 3 rfl) ?_
                                                refine w_get S C w (CC := RX7) (T := TX7) (N := 16) (ref := "GateSumsModel") im_X7_word_X7 0 rfl rfl 7 (by decide) (List.mem_of_getElem? (i := 1) rfl) (fun _ h => h) rfl dX7_word_12 ?_
                                                refine w_alen S C w 2 1 rfl rfl (v := 73) rfl dX7_word_15 ?_
                                                refine lv_icmp_ge (tgt := 93) S.1 S.2.1 dX7_word_16 (by decide) (fun c16_4 => ?_) (fun c16_4 => ?_)
                                                · exact absurd c16_4 (by decide)
                                                · refine lv_iconst (v := 0) S.1 S.2.1 dX7_word_19 (by decide) ?_
                                                  refine lv_istore (lv' := [(5, .int 0), (4, .int 15), (3, .int 4), (0, .ref mO), (1, .int lo), (2, .int hi)]) S.1 S.2.1 dX7_word_20 hl (by decide) rfl (fun ls hl => ?_)
                                                  refine lv_aload_n S.1 S.2.1 dX7_word_22 rfl (lv_at hl 3 rfl) ?_
                                                  refine w_get S C w (CC := RX7) (T := TX7) (N := 16) (ref := "GateSumsModel") im_X7_word_X7 0 rfl rfl 7 (by decide) (List.mem_of_getElem? (i := 1) rfl) (fun _ h => h) rfl dX7_word_23 ?_
                                                  refine lv_iload S.1 S.2.1 dX7_word_26 (lv_at hl 1 rfl) ?_
                                                  refine lv_iload S.1 S.2.1 dX7_word_28 (lv_at hl 0 rfl) ?_
                                                  refine lv_iadd S.1 S.2.1 dX7_word_30 ?_
                                                  refine w_topi (y := 15) (by decide) ?_
                                                  refine w_cald S C w 2 rfl (by unfold vp_in; decide) dX7_word_31 ?_
                                                  refine w_topi (y := 110) (by decide) ?_
                                                  refine lv_bipush (v := 32) S.1 S.2.1 dX7_word_32 (by decide) ?_
                                                  refine lv_icmp_eq (tgt := 43) S.1 S.2.1 dX7_word_34 (by decide) (fun c34_15 => ?_) (fun c34_15 => ?_)
                                                  · exact absurd c34_15 (by decide)
                                                  · refine lv_iinc (v := 1) (lv' := [(5, .int 1), (4, .int 15), (3, .int 4), (0, .ref mO), (1, .int lo), (2, .int hi)]) S.1 S.2.1 dX7_word_37 hl (k := 0) rfl (by decide) (by decide) rfl (fun ls hl => ?_)
                                                    refine lv_goto (tgt := 22) S.1 S.2.1 dX7_word_40 (by decide) ?_
                                                    refine lv_aload_n S.1 S.2.1 dX7_word_22 rfl (lv_at hl 3 rfl) ?_
                                                    refine w_get S C w (CC := RX7) (T := TX7) (N := 16) (ref := "GateSumsModel") im_X7_word_X7 0 rfl rfl 7 (by decide) (List.mem_of_getElem? (i := 1) rfl) (fun _ h => h) rfl dX7_word_23 ?_
                                                    refine lv_iload S.1 S.2.1 dX7_word_26 (lv_at hl 1 rfl) ?_
                                                    refine lv_iload S.1 S.2.1 dX7_word_28 (lv_at hl 0 rfl) ?_
                                                    refine lv_iadd S.1 S.2.1 dX7_word_30 ?_
                                                    refine w_topi (y := 16) (by decide) ?_
                                                    refine w_cald S C w 2 rfl (by unfold vp_in; decide) dX7_word_31 ?_
                                                    refine w_topi (y := 97) (by decide) ?_
                                                    refine lv_bipush (v := 32) S.1 S.2.1 dX7_word_32 (by decide) ?_
                                                    refine lv_icmp_eq (tgt := 43) S.1 S.2.1 dX7_word_34 (by decide) (fun c34_16 => ?_) (fun c34_16 => ?_)
                                                    · exact absurd c34_16 (by decide)
                                                    · refine lv_iinc (v := 2) (lv' := [(5, .int 2), (4, .int 15), (3, .int 4), (0, .ref mO), (1, .int lo), (2, .int hi)]) S.1 S.2.1 dX7_word_37 hl (k := 0) rfl (by decide) (by decide) rfl (fun ls hl => ?_)
                                                      refine lv_goto (tgt := 22) S.1 S.2.1 dX7_word_40 (by decide) ?_
                                                      refine lv_aload_n S.1 S.2.1 dX7_word_22 rfl (lv_at hl 3 rfl) ?_
                                                      refine w_get S C w (CC := RX7) (T := TX7) (N := 16) (ref := "GateSumsModel") im_X7_word_X7 0 rfl rfl 7 (by decide) (List.mem_of_getElem? (i := 1) rfl) (fun _ h => h) rfl dX7_word_23 ?_
                                                      refine lv_iload S.1 S.2.1 dX7_word_26 (lv_at hl 1 rfl) ?_
                                                      refine lv_iload S.1 S.2.1 dX7_word_28 (lv_at hl 0 rfl) ?_
                                                      refine lv_iadd S.1 S.2.1 dX7_word_30 ?_
                                                      refine w_topi (y := 17) (by decide) ?_
                                                      refine w_cald S C w 2 rfl (by unfold vp_in; decide) dX7_word_31 ?_
                                                      refine w_topi (y := 110) (by decide) ?_
                                                      refine lv_bipush (v := 32) S.1 S.2.1 dX7_word_32 (by decide) ?_
                                                      refine lv_icmp_eq (tgt := 43) S.1 S.2.1 dX7_word_34 (by decide) (fun c34_17 => ?_) (fun c34_17 => ?_)
                                                      · exact absurd c34_17 (by decide)
                                                      · refine lv_iinc (v := 3) (lv' := [(5, .int 3), (4, .int 15), (3, .int 4), (0, .ref mO), (1, .int lo), (2, .int hi)]) S.1 S.2.1 dX7_word_37 hl (k := 0) rfl (by decide) (by decide) rfl (fun ls hl => ?_)
                                                        refine lv_goto (tgt := 22) S.1 S.2.1 dX7_word_40 (by decide) ?_
                                                        refine lv_aload_n S.1 S.2.1 dX7_word_22 rfl (lv_at hl 3 rfl) ?_
                                                        refine w_get S C w (CC := RX7) (T := TX7) (N := 16) (ref := "GateSumsModel") im_X7_word_X7 0 rfl rfl 7 (by decide) (List.mem_of_getElem? (i := 1) rfl) (fun _ h => h) rfl dX7_word_23 ?_
                                                        refine lv_iload S.1 S.2.1 dX7_word_26 (lv_at hl 1 rfl) ?_
                                                        refine lv_iload S.1 S.2.1 dX7_word_28 (lv_at hl 0 rfl) ?_
                                                        refine lv_iadd S.1 S.2.1 dX7_word_30 ?_
                                                        refine w_topi (y := 18) (by decide) ?_
                                                        refine w_cald S C w 2 rfl (by unfold vp_in; decide) dX7_word_31 ?_
                                                        refine w_topi (y := 100) (by decide) ?_
                                                        refine lv_bipush (v := 32) S.1 S.2.1 dX7_word_32 (by decide) ?_
                                                        refine lv_icmp_eq (tgt := 43) S.1 S.2.1 dX7_word_34 (by decide) (fun c34_18 => ?_) (fun c34_18 => ?_)
                                                        · exact absurd c34_18 (by decide)
                                                        · refine lv_iinc (v := 4) (lv' := [(5, .int 4), (4, .int 15), (3, .int 4), (0, .ref mO), (1, .int lo), (2, .int hi)]) S.1 S.2.1 dX7_word_37 hl (k := 0) rfl (by decide) (by decide) rfl (fun ls hl => ?_)
                                                          refine lv_goto (tgt := 22) S.1 S.2.1 dX7_word_40 (by decide) ?_
                                                          refine lv_aload_n S.1 S.2.1 dX7_word_22 rfl (lv_at hl 3 rfl) ?_
                                                          refine w_get S C w (CC := RX7) (T := TX7) (N := 16) (ref := "GateSumsModel") im_X7_word_X7 0 rfl rfl 7 (by decide) (List.mem_of_getElem? (i := 1) rfl) (fun _ h => h) rfl dX7_word_23 ?_
                                                          refine lv_iload S.1 S.2.1 dX7_word_26 (lv_at hl 1 rfl) ?_
                                                          refine lv_iload S.1 S.2.1 dX7_word_28 (lv_at hl 0 rfl) ?_
                                                          refine lv_iadd S.1 S.2.1 dX7_word_30 ?_
                                                          refine w_topi (y := 19) (by decide) ?_
                                                          refine w_cald S C w 2 rfl (by unfold vp_in; decide) dX7_word_31 ?_
                                                          refine w_topi (y := 32) (by decide) ?_
                                                          refine lv_bipush (v := 32) S.1 S.2.1 dX7_word_32 (by decide) ?_
                                                          refine lv_icmp_eq (tgt := 43) S.1 S.2.1 dX7_word_34 (by decide) (fun c34_19 => ?_) (fun c34_19 => ?_)
                                                          · refine w_join0 78 [] (True) (fun hz78 => ?_) (fun J78 => ?_)
                                                            · refine lv_iinc (v := 5) (lv' := [(3, .int 5), (5, .int 4), (4, .int 15), (0, .ref mO), (1, .int lo), (2, .int hi)]) S.1 S.2.1 dX7_word_78 hl (k := 2) rfl (by decide) (by decide) rfl (fun ls hl => ?_)
                                                              refine lv_iload S.1 S.2.1 dX7_word_81 (lv_at hl 2 rfl) ?_
                                                              refine lv_iload S.1 S.2.1 dX7_word_83 (lv_at hl 1 rfl) ?_
                                                              refine lv_iconst (v := 1) S.1 S.2.1 dX7_word_85 (by decide) ?_
                                                              refine lv_iadd S.1 S.2.1 dX7_word_86 ?_
                                                              refine w_topi (y := 5) (by decide) ?_
                                                              refine lv_iadd S.1 S.2.1 dX7_word_87 ?_
                                                              refine w_topi (y := 20) (by decide) ?_
                                                              refine lv_istore (lv' := [(4, .int 20), (3, .int 5), (5, .int 4), (0, .ref mO), (1, .int lo), (2, .int hi)]) S.1 S.2.1 dX7_word_88 hl (by decide) rfl (fun ls hl => ?_)
                                                              refine lv_goto (tgt := 9) S.1 S.2.1 dX7_word_90 (by decide) ?_
                                                              refine lv_iload S.1 S.2.1 dX7_word_9 (lv_at hl 0 rfl) ?_
                                                              refine lv_aload_n S.1 S.2.1 dX7_word_11 rfl (lv_at hl 3 rfl) ?_
                                                              refine w_get S C w (CC := RX7) (T := TX7) (N := 16) (ref := "GateSumsModel") im_X7_word_X7 0 rfl rfl 7 (by decide) (List.mem_of_getElem? (i := 1) rfl) (fun _ h => h) rfl dX7_word_12 ?_
                                                              refine w_alen S C w 2 1 rfl rfl (v := 73) rfl dX7_word_15 ?_
                                                              refine lv_icmp_ge (tgt := 93) S.1 S.2.1 dX7_word_16 (by decide) (fun c16_5 => ?_) (fun c16_5 => ?_)
                                                              · exact absurd c16_5 (by decide)
                                                              · refine lv_iconst (v := 0) S.1 S.2.1 dX7_word_19 (by decide) ?_
                                                                refine lv_istore (lv' := [(5, .int 0), (4, .int 20), (3, .int 5), (0, .ref mO), (1, .int lo), (2, .int hi)]) S.1 S.2.1 dX7_word_20 hl (by decide) rfl (fun ls hl => ?_)
                                                                refine lv_aload_n S.1 S.2.1 dX7_word_22 rfl (lv_at hl 3 rfl) ?_
                                                                refine w_get S C w (CC := RX7) (T := TX7) (N := 16) (ref := "GateSumsModel") im_X7_word_X7 0 rfl rfl 7 (by decide) (List.mem_of_getElem? (i := 1) rfl) (fun _ h => h) rfl dX7_word_23 ?_
                                                                refine lv_iload S.1 S.2.1 dX7_word_26 (lv_at hl 1 rfl) ?_
                                                                refine lv_iload S.1 S.2.1 dX7_word_28 (lv_at hl 0 rfl) ?_
                                                                refine lv_iadd S.1 S.2.1 dX7_word_30 ?_
                                                                refine w_topi (y := 20) (by decide) ?_
                                                                refine w_cald S C w 2 rfl (by unfold vp_in; decide) dX7_word_31 ?_
                                                                refine w_topi (y := 110) (by decide) ?_
                                                                refine lv_bipush (v := 32) S.1 S.2.1 dX7_word_32 (by decide) ?_
                                                                refine lv_icmp_eq (tgt := 43) S.1 S.2.1 dX7_word_34 (by decide) (fun c34_20 => ?_) (fun c34_20 => ?_)
                                                                · exact absurd c34_20 (by decide)
                                                                · refine lv_iinc (v := 1) (lv' := [(5, .int 1), (4, .int 20), (3, .int 5), (0, .ref mO), (1, .int lo), (2, .int hi)]) S.1 S.2.1 dX7_word_37 hl (k := 0) rfl (by decide) (by decide) rfl (fun ls hl => ?_)
                                                                  refine lv_goto (tgt := 22) S.1 S.2.1 dX7_word_40 (by decide) ?_
                                                                  refine lv_aload_n S.1 S.2.1 dX7_word_22 rfl (lv_at hl 3 rfl) ?_
                                                                  refine w_get S C w (CC := RX7) (T := TX7) (N := 16) (ref := "GateSumsModel") im_X7_word_X7 0 rfl rfl 7 (by decide) (List.mem_of_getElem? (i := 1) rfl) (fun _ h => h) rfl dX7_word_23 ?_
                                                                  refine lv_iload S.1 S.2.1 dX7_word_26 (lv_at hl 1 rfl) ?_
                                                                  refine lv_iload S.1 S.2.1 dX7_word_28 (lv_at hl 0 rfl) ?_
                                                                  refine lv_iadd S.1 S.2.1 dX7_word_30 ?_
                                                                  refine w_topi (y := 21) (by decide) ?_
                                                                  refine w_cald S C w 2 rfl (by unfold vp_in; decide) dX7_word_31 ?_
                                                                  refine w_topi (y := 111) (by decide) ?_
                                                                  refine lv_bipush (v := 32) S.1 S.2.1 dX7_word_32 (by decide) ?_
                                                                  refine lv_icmp_eq (tgt := 43) S.1 S.2.1 dX7_word_34 (by decide) (fun c34_21 => ?_) (fun c34_21 => ?_)
                                                                  · exact absurd c34_21 (by decide)
                                                                  · refine lv_iinc (v := 2) (lv' := [(5, .int 2), (4, .int 20), (3, .int 5), (0, .ref mO), (1, .int lo), (2, .int hi)]) S.1 S.2.1 dX7_word_37 hl (k := 0) rfl (by decide) (by decide) rfl (fun ls hl => ?_)
                                                                    refine lv_goto (tgt := 22) S.1 S.2.1 dX7_word_40 (by decide) ?_
                                                                    refine lv_aload_n S.1 S.2.1 dX7_word_22 rfl (lv_at hl 3 rfl) ?_
                                                                    refine w_get S C w (CC := RX7) (T := TX7) (N := 16) (ref := "GateSumsModel") im_X7_word_X7 0 rfl rfl 7 (by decide) (List.mem_of_getElem? (i := 1) rfl) (fun _ h => h) rfl dX7_word_23 ?_
                                                                    refine lv_iload S.1 S.2.1 dX7_word_26 (lv_at hl 1 rfl) ?_
                                                                    refine lv_iload S.1 S.2.1 dX7_word_28 (lv_at hl 0 rfl) ?_
                                                                    refine lv_iadd S.1 S.2.1 dX7_word_30 ?_
                                                                    refine w_topi (y := 22) (by decide) ?_
                                                                    refine w_cald S C w 2 rfl (by unfold vp_in; decide) dX7_word_31 ?_
                                                                    refine w_topi (y := 114) (by decide) ?_
                                                                    refine lv_bipush (v := 32) S.1 S.2.1 dX7_word_32 (by decide) ?_
                                                                    refine lv_icmp_eq (tgt := 43) S.1 S.2.1 dX7_word_34 (by decide) (fun c34_22 => ?_) (fun c34_22 => ?_)
                                                                    · exact absurd c34_22 (by decide)
                                                                    · refine lv_iinc (v := 3) (lv' := [(5, .int 3), (4, .int 20), (3, .int 5), (0, .ref mO), (1, .int lo), (2, .int hi)]) S.1 S.2.1 dX7_word_37 hl (k := 0) rfl (by decide) (by decide) rfl (fun ls hl => ?_)
                                                                      refine lv_goto (tgt := 22) S.1 S.2.1 dX7_word_40 (by decide) ?_
                                                                      refine lv_aload_n S.1 S.2.1 dX7_word_22 rfl (lv_at hl 3 rfl) ?_
                                                                      refine w_get S C w (CC := RX7) (T := TX7) (N := 16) (ref := "GateSumsModel") im_X7_word_X7 0 rfl rfl 7 (by decide) (List.mem_of_getElem? (i := 1) rfl) (fun _ h => h) rfl dX7_word_23 ?_
                                                                      refine lv_iload S.1 S.2.1 dX7_word_26 (lv_at hl 1 rfl) ?_
                                                                      refine lv_iload S.1 S.2.1 dX7_word_28 (lv_at hl 0 rfl) ?_
                                                                      refine lv_iadd S.1 S.2.1 dX7_word_30 ?_
                                                                      refine w_topi (y := 23) (by decide) ?_
                                                                      refine w_cald S C w 2 rfl (by unfold vp_in; decide) dX7_word_31 ?_
                                                                      refine w_topi (y := 32) (by decide) ?_
                                                                      refine lv_bipush (v := 32) S.1 S.2.1 dX7_word_32 (by decide) ?_
                                                                      refine lv_icmp_eq (tgt := 43) S.1 S.2.1 dX7_word_34 (by decide) (fun c34_23 => ?_) (fun c34_23 => ?_)
                                                                      · refine w_join0 78 [] (True) (fun hz78 => ?_) (fun J78 => ?_)
                                                                        · refine lv_iinc (v := 6) (lv' := [(3, .int 6), (5, .int 3), (4, .int 20), (0, .ref mO), (1, .int lo), (2, .int hi)]) S.1 S.2.1 dX7_word_78 hl (k := 2) rfl (by decide) (by decide) rfl (fun ls hl => ?_)
                                                                          refine lv_iload S.1 S.2.1 dX7_word_81 (lv_at hl 2 rfl) ?_
                                                                          refine lv_iload S.1 S.2.1 dX7_word_83 (lv_at hl 1 rfl) ?_
                                                                          refine lv_iconst (v := 1) S.1 S.2.1 dX7_word_85 (by decide) ?_
                                                                          refine lv_iadd S.1 S.2.1 dX7_word_86 ?_
                                                                          refine w_topi (y := 4) (by decide) ?_
                                                                          refine lv_iadd S.1 S.2.1 dX7_word_87 ?_
                                                                          refine w_topi (y := 24) (by decide) ?_
                                                                          refine lv_istore (lv' := [(4, .int 24), (3, .int 6), (5, .int 3), (0, .ref mO), (1, .int lo), (2, .int hi)]) S.1 S.2.1 dX7_word_88 hl (by decide) rfl (fun ls hl => ?_)
                                                                          refine lv_goto (tgt := 9) S.1 S.2.1 dX7_word_90 (by decide) ?_
                                                                          refine lv_iload S.1 S.2.1 dX7_word_9 (lv_at hl 0 rfl) ?_
                                                                          refine lv_aload_n S.1 S.2.1 dX7_word_11 rfl (lv_at hl 3 rfl) ?_
                                                                          refine w_get S C w (CC := RX7) (T := TX7) (N := 16) (ref := "GateSumsModel") im_X7_word_X7 0 rfl rfl 7 (by decide) (List.mem_of_getElem? (i := 1) rfl) (fun _ h => h) rfl dX7_word_12 ?_
                                                                          refine w_alen S C w 2 1 rfl rfl (v := 73) rfl dX7_word_15 ?_
                                                                          refine lv_icmp_ge (tgt := 93) S.1 S.2.1 dX7_word_16 (by decide) (fun c16_6 => ?_) (fun c16_6 => ?_)
                                                                          · exact absurd c16_6 (by decide)
                                                                          · refine lv_iconst (v := 0) S.1 S.2.1 dX7_word_19 (by decide) ?_
                                                                            refine lv_istore (lv' := [(5, .int 0), (4, .int 24), (3, .int 6), (0, .ref mO), (1, .int lo), (2, .int hi)]) S.1 S.2.1 dX7_word_20 hl (by decide) rfl (fun ls hl => ?_)
                                                                            refine lv_aload_n S.1 S.2.1 dX7_word_22 rfl (lv_at hl 3 rfl) ?_
                                                                            refine w_get S C w (CC := RX7) (T := TX7) (N := 16) (ref := "GateSumsModel") im_X7_word_X7 0 rfl rfl 7 (by decide) (List.mem_of_getElem? (i := 1) rfl) (fun _ h => h) rfl dX7_word_23 ?_
                                                                            refine lv_iload S.1 S.2.1 dX7_word_26 (lv_at hl 1 rfl) ?_
                                                                            refine lv_iload S.1 S.2.1 dX7_word_28 (lv_at hl 0 rfl) ?_
                                                                            refine lv_iadd S.1 S.2.1 dX7_word_30 ?_
                                                                            refine w_topi (y := 24) (by decide) ?_
                                                                            refine w_cald S C w 2 rfl (by unfold vp_in; decide) dX7_word_31 ?_
                                                                            refine w_topi (y := 120) (by decide) ?_
                                                                            refine lv_bipush (v := 32) S.1 S.2.1 dX7_word_32 (by decide) ?_
                                                                            refine lv_icmp_eq (tgt := 43) S.1 S.2.1 dX7_word_34 (by decide) (fun c34_24 => ?_) (fun c34_24 => ?_)
                                                                            · exact absurd c34_24 (by decide)
                                                                            · refine lv_iinc (v := 1) (lv' := [(5, .int 1), (4, .int 24), (3, .int 6), (0, .ref mO), (1, .int lo), (2, .int hi)]) S.1 S.2.1 dX7_word_37 hl (k := 0) rfl (by decide) (by decide) rfl (fun ls hl => ?_)
                                                                              refine lv_goto (tgt := 22) S.1 S.2.1 dX7_word_40 (by decide) ?_
                                                                              refine lv_aload_n S.1 S.2.1 dX7_word_22 rfl (lv_at hl 3 rfl) ?_
                                                                              refine w_get S C w (CC := RX7) (T := TX7) (N := 16) (ref := "GateSumsModel") im_X7_word_X7 0 rfl rfl 7 (by decide) (List.mem_of_getElem? (i := 1) rfl) (fun _ h => h) rfl dX7_word_23 ?_
                                                                              refine lv_iload S.1 S.2.1 dX7_word_26 (lv_at hl 1 rfl) ?_
                                                                              refine lv_iload S.1 S.2.1 dX7_word_28 (lv_at hl 0 rfl) ?_
                                                                              refine lv_iadd S.1 S.2.1 dX7_word_30 ?_
                                                                              refine w_topi (y := 25) (by decide) ?_
                                                                              refine w_cald S C w 2 rfl (by unfold vp_in; decide) dX7_word_31 ?_
                                                                              refine w_topi (y := 110) (by decide) ?_
                                                                              refine lv_bipush (v := 32) S.1 S.2.1 dX7_word_32 (by decide) ?_
                                                                              refine lv_icmp_eq (tgt := 43) S.1 S.2.1 dX7_word_34 (by decide) (fun c34_25 => ?_) (fun c34_25 => ?_)
                                                                              · exact absurd c34_25 (by decide)
                                                                              · refine lv_iinc (v := 2) (lv' := [(5, .int 2), (4, .int 24), (3, .int 6), (0, .ref mO), (1, .int lo), (2, .int hi)]) S.1 S.2.1 dX7_word_37 hl (k := 0) rfl (by decide) (by decide) rfl (fun ls hl => ?_)
                                                                                refine lv_goto (tgt := 22) S.1 S.2.1 dX7_word_40 (by decide) ?_
                                                                                refine lv_aload_n S.1 S.2.1 dX7_word_22 rfl (lv_at hl 3 rfl) ?_
                                                                                refine w_get S C w (CC := RX7) (T := TX7) (N := 16) (ref := "GateSumsModel") im_X7_word_X7 0 rfl rfl 7 (by decide) (List.mem_of_getElem? (i := 1) rfl) (fun _ h => h) rfl dX7_word_23 ?_
                                                                                refine lv_iload S.1 S.2.1 dX7_word_26 (lv_at hl 1 rfl) ?_
                                                                                refine lv_iload S.1 S.2.1 dX7_word_28 (lv_at hl 0 rfl) ?_
                                                                                refine lv_iadd S.1 S.2.1 dX7_word_30 ?_
                                                                                refine w_topi (y := 26) (by decide) ?_
                                                                                refine w_cald S C w 2 rfl (by unfold vp_in; decide) dX7_word_31 ?_
                                                                                refine w_topi (y := 111) (by decide) ?_
                                                                                refine lv_bipush (v := 32) S.1 S.2.1 dX7_word_32 (by decide) ?_
                                                                                refine lv_icmp_eq (tgt := 43) S.1 S.2.1 dX7_word_34 (by decide) (fun c34_26 => ?_) (fun c34_26 => ?_)
                                                                                · exact absurd c34_26 (by decide)
                                                                                · refine lv_iinc (v := 3) (lv' := [(5, .int 3), (4, .int 24), (3, .int 6), (0, .ref mO), (1, .int lo), (2, .int hi)]) S.1 S.2.1 dX7_word_37 hl (k := 0) rfl (by decide) (by decide) rfl (fun ls hl => ?_)
                                                                                  refine lv_goto (tgt := 22) S.1 S.2.1 dX7_word_40 (by decide) ?_
                                                                                  refine lv_aload_n S.1 S.2.1 dX7_word_22 rfl (lv_at hl 3 rfl) ?_
                                                                                  refine w_get S C w (CC := RX7) (T := TX7) (N := 16) (ref := "GateSumsModel") im_X7_word_X7 0 rfl rfl 7 (by decide) (List.mem_of_getElem? (i := 1) rfl) (fun _ h => h) rfl dX7_word_23 ?_
                                                                                  refine lv_iload S.1 S.2.1 dX7_word_26 (lv_at hl 1 rfl) ?_
                                                                                  refine lv_iload S.1 S.2.1 dX7_word_28 (lv_at hl 0 rfl) ?_
                                                                                  refine lv_iadd S.1 S.2.1 dX7_word_30 ?_
                                                                                  refine w_topi (y := 27) (by decide) ?_
                                                                                  refine w_cald S C w 2 rfl (by unfold vp_in; decide) dX7_word_31 ?_
                                                                                  refine w_topi (y := 114) (by decide) ?_
                                                                                  refine lv_bipush (v := 32) S.1 S.2.1 dX7_word_32 (by decide) ?_
                                                                                  refine lv_icmp_eq (tgt := 43) S.1 S.2.1 dX7_word_34 (by decide) (fun c34_27 => ?_) (fun c34_27 => ?_)
                                                                                  · exact absurd c34_27 (by decide)
                                                                                  · refine lv_iinc (v := 4) (lv' := [(5, .int 4), (4, .int 24), (3, .int 6), (0, .ref mO), (1, .int lo), (2, .int hi)]) S.1 S.2.1 dX7_word_37 hl (k := 0) rfl (by decide) (by decide) rfl (fun ls hl => ?_)
                                                                                    refine lv_goto (tgt := 22) S.1 S.2.1 dX7_word_40 (by decide) ?_
                                                                                    refine lv_aload_n S.1 S.2.1 dX7_word_22 rfl (lv_at hl 3 rfl) ?_
                                                                                    refine w_get S C w (CC := RX7) (T := TX7) (N := 16) (ref := "GateSumsModel") im_X7_word_X7 0 rfl rfl 7 (by decide) (List.mem_of_getElem? (i := 1) rfl) (fun _ h => h) rfl dX7_word_23 ?_
                                                                                    refine lv_iload S.1 S.2.1 dX7_word_26 (lv_at hl 1 rfl) ?_
                                                                                    refine lv_iload S.1 S.2.1 dX7_word_28 (lv_at hl 0 rfl) ?_
                                                                                    refine lv_iadd S.1 S.2.1 dX7_word_30 ?_
                                                                                    refine w_topi (y := 28) (by decide) ?_
                                                                                    refine w_cald S C w 2 rfl (by unfold vp_in; decide) dX7_word_31 ?_
                                                                                    refine w_topi (y := 32) (by decide) ?_
                                                                                    refine lv_bipush (v := 32) S.1 S.2.1 dX7_word_32 (by decide) ?_
                                                                                    refine lv_icmp_eq (tgt := 43) S.1 S.2.1 dX7_word_34 (by decide) (fun c34_28 => ?_) (fun c34_28 => ?_)
                                                                                    · refine w_join0 78 [] (True) (fun hz78 => ?_) (fun J78 => ?_)
                                                                                      · refine lv_iinc (v := 7) (lv' := [(3, .int 7), (5, .int 4), (4, .int 24), (0, .ref mO), (1, .int lo), (2, .int hi)]) S.1 S.2.1 dX7_word_78 hl (k := 2) rfl (by decide) (by decide) rfl (fun ls hl => ?_)
                                                                                        refine lv_iload S.1 S.2.1 dX7_word_81 (lv_at hl 2 rfl) ?_
                                                                                        refine lv_iload S.1 S.2.1 dX7_word_83 (lv_at hl 1 rfl) ?_
                                                                                        refine lv_iconst (v := 1) S.1 S.2.1 dX7_word_85 (by decide) ?_
                                                                                        refine lv_iadd S.1 S.2.1 dX7_word_86 ?_
                                                                                        refine w_topi (y := 5) (by decide) ?_
                                                                                        refine lv_iadd S.1 S.2.1 dX7_word_87 ?_
                                                                                        refine w_topi (y := 29) (by decide) ?_
                                                                                        refine lv_istore (lv' := [(4, .int 29), (3, .int 7), (5, .int 4), (0, .ref mO), (1, .int lo), (2, .int hi)]) S.1 S.2.1 dX7_word_88 hl (by decide) rfl (fun ls hl => ?_)
                                                                                        refine lv_goto (tgt := 9) S.1 S.2.1 dX7_word_90 (by decide) ?_
                                                                                        refine lv_iload S.1 S.2.1 dX7_word_9 (lv_at hl 0 rfl) ?_
                                                                                        refine lv_aload_n S.1 S.2.1 dX7_word_11 rfl (lv_at hl 3 rfl) ?_
                                                                                        refine w_get S C w (CC := RX7) (T := TX7) (N := 16) (ref := "GateSumsModel") im_X7_word_X7 0 rfl rfl 7 (by decide) (List.mem_of_getElem? (i := 1) rfl) (fun _ h => h) rfl dX7_word_12 ?_
                                                                                        refine w_alen S C w 2 1 rfl rfl (v := 73) rfl dX7_word_15 ?_
                                                                                        refine lv_icmp_ge (tgt := 93) S.1 S.2.1 dX7_word_16 (by decide) (fun c16_7 => ?_) (fun c16_7 => ?_)
                                                                                        · exact absurd c16_7 (by decide)
                                                                                        · refine lv_iconst (v := 0) S.1 S.2.1 dX7_word_19 (by decide) ?_
                                                                                          refine lv_istore (lv' := [(5, .int 0), (4, .int 29), (3, .int 7), (0, .ref mO), (1, .int lo), (2, .int hi)]) S.1 S.2.1 dX7_word_20 hl (by decide) rfl (fun ls hl => ?_)
                                                                                          refine lv_aload_n S.1 S.2.1 dX7_word_22 rfl (lv_at hl 3 rfl) ?_
                                                                                          refine w_get S C w (CC := RX7) (T := TX7) (N := 16) (ref := "GateSumsModel") im_X7_word_X7 0 rfl rfl 7 (by decide) (List.mem_of_getElem? (i := 1) rfl) (fun _ h => h) rfl dX7_word_23 ?_
                                                                                          refine lv_iload S.1 S.2.1 dX7_word_26 (lv_at hl 1 rfl) ?_
                                                                                          refine lv_iload S.1 S.2.1 dX7_word_28 (lv_at hl 0 rfl) ?_
                                                                                          refine lv_iadd S.1 S.2.1 dX7_word_30 ?_
                                                                                          refine w_topi (y := 29) (by decide) ?_
                                                                                          refine w_cald S C w 2 rfl (by unfold vp_in; decide) dX7_word_31 ?_
                                                                                          refine w_topi (y := 98) (by decide) ?_
                                                                                          refine lv_bipush (v := 32) S.1 S.2.1 dX7_word_32 (by decide) ?_
                                                                                          refine lv_icmp_eq (tgt := 43) S.1 S.2.1 dX7_word_34 (by decide) (fun c34_29 => ?_) (fun c34_29 => ?_)
                                                                                          · exact absurd c34_29 (by decide)
                                                                                          · refine lv_iinc (v := 1) (lv' := [(5, .int 1), (4, .int 29), (3, .int 7), (0, .ref mO), (1, .int lo), (2, .int hi)]) S.1 S.2.1 dX7_word_37 hl (k := 0) rfl (by decide) (by decide) rfl (fun ls hl => ?_)
                                                                                            refine lv_goto (tgt := 22) S.1 S.2.1 dX7_word_40 (by decide) ?_
                                                                                            refine lv_aload_n S.1 S.2.1 dX7_word_22 rfl (lv_at hl 3 rfl) ?_
                                                                                            refine w_get S C w (CC := RX7) (T := TX7) (N := 16) (ref := "GateSumsModel") im_X7_word_X7 0 rfl rfl 7 (by decide) (List.mem_of_getElem? (i := 1) rfl) (fun _ h => h) rfl dX7_word_23 ?_
                                                                                            refine lv_iload S.1 S.2.1 dX7_word_26 (lv_at hl 1 rfl) ?_
                                                                                            refine lv_iload S.1 S.2.1 dX7_word_28 (lv_at hl 0 rfl) ?_
                                                                                            refine lv_iadd S.1 S.2.1 dX7_word_30 ?_
                                                                                            refine w_topi (y := 30) (by decide) ?_
                                                                                            refine w_cald S C w 2 rfl (by unfold vp_in; decide) dX7_word_31 ?_
                                                                                            refine w_topi (y := 117) (by decide) ?_
                                                                                            refine lv_bipush (v := 32) S.1 S.2.1 dX7_word_32 (by decide) ?_
                                                                                            refine lv_icmp_eq (tgt := 43) S.1 S.2.1 dX7_word_34 (by decide) (fun c34_30 => ?_) (fun c34_30 => ?_)
                                                                                            · exact absurd c34_30 (by decide)
                                                                                            · refine lv_iinc (v := 2) (lv' := [(5, .int 2), (4, .int 29), (3, .int 7), (0, .ref mO), (1, .int lo), (2, .int hi)]) S.1 S.2.1 dX7_word_37 hl (k := 0) rfl (by decide) (by decide) rfl (fun ls hl => ?_)
                                                                                              refine lv_goto (tgt := 22) S.1 S.2.1 dX7_word_40 (by decide) ?_
                                                                                              refine lv_aload_n S.1 S.2.1 dX7_word_22 rfl (lv_at hl 3 rfl) ?_
                                                                                              refine w_get S C w (CC := RX7) (T := TX7) (N := 16) (ref := "GateSumsModel") im_X7_word_X7 0 rfl rfl 7 (by decide) (List.mem_of_getElem? (i := 1) rfl) (fun _ h => h) rfl dX7_word_23 ?_
                                                                                              refine lv_iload S.1 S.2.1 dX7_word_26 (lv_at hl 1 rfl) ?_
                                                                                              refine lv_iload S.1 S.2.1 dX7_word_28 (lv_at hl 0 rfl) ?_
                                                                                              refine lv_iadd S.1 S.2.1 dX7_word_30 ?_
                                                                                              refine w_topi (y := 31) (by decide) ?_
                                                                                              refine w_cald S C w 2 rfl (by unfold vp_in; decide) dX7_word_31 ?_
                                                                                              refine w_topi (y := 116) (by decide) ?_
                                                                                              refine lv_bipush (v := 32) S.1 S.2.1 dX7_word_32 (by decide) ?_
                                                                                              refine lv_icmp_eq (tgt := 43) S.1 S.2.1 dX7_word_34 (by decide) (fun c34_31 => ?_) (fun c34_31 => ?_)
                                                                                              · exact absurd c34_31 (by decide)
                                                                                              · refine lv_iinc (v := 3) (lv' := [(5, .int 3), (4, .int 29), (3, .int 7), (0, .ref mO), (1, .int lo), (2, .int hi)]) S.1 S.2.1 dX7_word_37 hl (k := 0) rfl (by decide) (by decide) rfl (fun ls hl => ?_)
                                                                                                refine lv_goto (tgt := 22) S.1 S.2.1 dX7_word_40 (by decide) ?_
                                                                                                refine lv_aload_n S.1 S.2.1 dX7_word_22 rfl (lv_at hl 3 rfl) ?_
                                                                                                refine w_get S C w (CC := RX7) (T := TX7) (N := 16) (ref := "GateSumsModel") im_X7_word_X7 0 rfl rfl 7 (by decide) (List.mem_of_getElem? (i := 1) rfl) (fun _ h => h) rfl dX7_word_23 ?_
                                                                                                refine lv_iload S.1 S.2.1 dX7_word_26 (lv_at hl 1 rfl) ?_
                                                                                                refine lv_iload S.1 S.2.1 dX7_word_28 (lv_at hl 0 rfl) ?_
                                                                                                refine lv_iadd S.1 S.2.1 dX7_word_30 ?_
                                                                                                refine w_topi (y := 32) (by decide) ?_
                                                                                                refine w_cald S C w 2 rfl (by unfold vp_in; decide) dX7_word_31 ?_
                                                                                                refine w_topi (y := 32) (by decide) ?_
                                                                                                refine lv_bipush (v := 32) S.1 S.2.1 dX7_word_32 (by decide) ?_
                                                                                                refine lv_icmp_eq (tgt := 43) S.1 S.2.1 dX7_word_34 (by decide) (fun c34_32 => ?_) (fun c34_32 => ?_)
                                                                                                · refine w_join0 78 [] (True) (fun hz78 => ?_) (fun J78 => ?_)
                                                                                                  · refine lv_iinc (v := 8) (lv' := [(3, .int 8), (5, .int 3), (4, .int 29), (0, .ref mO), (1, .int lo), (2, .int hi)]) S.1 S.2.1 dX7_word_78 hl (k := 2) rfl (by decide) (by decide) rfl (fun ls hl => ?_)
                                                                                                    refine lv_iload S.1 S.2.1 dX7_word_81 (lv_at hl 2 rfl) ?_
                                                                                                    refine lv_iload S.1 S.2.1 dX7_word_83 (lv_at hl 1 rfl) ?_
                                                                                                    refine lv_iconst (v := 1) S.1 S.2.1 dX7_word_85 (by decide) ?_
                                                                                                    refine lv_iadd S.1 S.2.1 dX7_word_86 ?_
                                                                                                    refine w_topi (y := 4) (by decide) ?_
                                                                                                    refine lv_iadd S.1 S.2.1 dX7_word_87 ?_
                                                                                                    refine w_topi (y := 33) (by decide) ?_
                                                                                                    refine lv_istore (lv' := [(4, .int 33), (3, .int 8), (5, .int 3), (0, .ref mO), (1, .int lo), (2, .int hi)]) S.1 S.2.1 dX7_word_88 hl (by decide) rfl (fun ls hl => ?_)
                                                                                                    refine lv_goto (tgt := 9) S.1 S.2.1 dX7_word_90 (by decide) ?_
                                                                                                    refine lv_iload S.1 S.2.1 dX7_word_9 (lv_at hl 0 rfl) ?_
                                                                                                    refine lv_aload_n S.1 S.2.1 dX7_word_11 rfl (lv_at hl 3 rfl) ?_
                                                                                                    refine w_get S C w (CC := RX7) (T := TX7) (N := 16) (ref := "GateSumsModel") im_X7_word_X7 0 rfl rfl 7 (by decide) (List.mem_of_getElem? (i := 1) rfl) (fun _ h => h) rfl dX7_word_12 ?_
                                                                                                    refine w_alen S C w 2 1 rfl rfl (v := 73) rfl dX7_word_15 ?_
                                                                                                    refine lv_icmp_ge (tgt := 93) S.1 S.2.1 dX7_word_16 (by decide) (fun c16_8 => ?_) (fun c16_8 => ?_)
                                                                                                    · exact absurd c16_8 (by decide)
                                                                                                    · refine lv_iconst (v := 0) S.1 S.2.1 dX7_word_19 (by decide) ?_
                                                                                                      refine lv_istore (lv' := [(5, .int 0), (4, .int 33), (3, .int 8), (0, .ref mO), (1, .int lo), (2, .int hi)]) S.1 S.2.1 dX7_word_20 hl (by decide) rfl (fun ls hl => ?_)
                                                                                                      refine lv_aload_n S.1 S.2.1 dX7_word_22 rfl (lv_at hl 3 rfl) ?_
                                                                                                      refine w_get S C w (CC := RX7) (T := TX7) (N := 16) (ref := "GateSumsModel") im_X7_word_X7 0 rfl rfl 7 (by decide) (List.mem_of_getElem? (i := 1) rfl) (fun _ h => h) rfl dX7_word_23 ?_
                                                                                                      refine lv_iload S.1 S.2.1 dX7_word_26 (lv_at hl 1 rfl) ?_
                                                                                                      refine lv_iload S.1 S.2.1 dX7_word_28 (lv_at hl 0 rfl) ?_
                                                                                                      refine lv_iadd S.1 S.2.1 dX7_word_30 ?_
                                                                                                      refine w_topi (y := 33) (by decide) ?_
                                                                                                      refine w_cald S C w 2 rfl (by unfold vp_in; decide) dX7_word_31 ?_
                                                                                                      refine w_topi (y := 115) (by decide) ?_
                                                                                                      refine lv_bipush (v := 32) S.1 S.2.1 dX7_word_32 (by decide) ?_
                                                                                                      refine lv_icmp_eq (tgt := 43) S.1 S.2.1 dX7_word_34 (by decide) (fun c34_33 => ?_) (fun c34_33 => ?_)
                                                                                                      · exact absurd c34_33 (by decide)
                                                                                                      · refine lv_iinc (v := 1) (lv' := [(5, .int 1), (4, .int 33), (3, .int 8), (0, .ref mO), (1, .int lo), (2, .int hi)]) S.1 S.2.1 dX7_word_37 hl (k := 0) rfl (by decide) (by decide) rfl (fun ls hl => ?_)
                                                                                                        refine lv_goto (tgt := 22) S.1 S.2.1 dX7_word_40 (by decide) ?_
                                                                                                        refine lv_aload_n S.1 S.2.1 dX7_word_22 rfl (lv_at hl 3 rfl) ?_
                                                                                                        refine w_get S C w (CC := RX7) (T := TX7) (N := 16) (ref := "GateSumsModel") im_X7_word_X7 0 rfl rfl 7 (by decide) (List.mem_of_getElem? (i := 1) rfl) (fun _ h => h) rfl dX7_word_23 ?_
                                                                                                        refine lv_iload S.1 S.2.1 dX7_word_26 (lv_at hl 1 rfl) ?_
                                                                                                        refine lv_iload S.1 S.2.1 dX7_word_28 (lv_at hl 0 rfl) ?_
                                                                                                        refine lv_iadd S.1 S.2.1 dX7_word_30 ?_
                                                                                                        refine w_topi (y := 34) (by decide) ?_
                                                                                                        refine w_cald S C w 2 rfl (by unfold vp_in; decide) dX7_word_31 ?_
                                                                                                        refine w_topi (y := 117) (by decide) ?_
                                                                                                        refine lv_bipush (v := 32) S.1 S.2.1 dX7_word_32 (by decide) ?_
                                                                                                        refine lv_icmp_eq (tgt := 43) S.1 S.2.1 dX7_word_34 (by decide) (fun c34_34 => ?_) (fun c34_34 => ?_)
                                                                                                        · exact absurd c34_34 (by decide)
                                                                                                        · refine lv_iinc (v := 2) (lv' := [(5, .int 2), (4, .int 33), (3, .int 8), (0, .ref mO), (1, .int lo), (2, .int hi)]) S.1 S.2.1 dX7_word_37 hl (k := 0) rfl (by decide) (by decide) rfl (fun ls hl => ?_)
                                                                                                          refine lv_goto (tgt := 22) S.1 S.2.1 dX7_word_40 (by decide) ?_
                                                                                                          refine lv_aload_n S.1 S.2.1 dX7_word_22 rfl (lv_at hl 3 rfl) ?_
                                                                                                          refine w_get S C w (CC := RX7) (T := TX7) (N := 16) (ref := "GateSumsModel") im_X7_word_X7 0 rfl rfl 7 (by decide) (List.mem_of_getElem? (i := 1) rfl) (fun _ h => h) rfl dX7_word_23 ?_
                                                                                                          refine lv_iload S.1 S.2.1 dX7_word_26 (lv_at hl 1 rfl) ?_
                                                                                                          refine lv_iload S.1 S.2.1 dX7_word_28 (lv_at hl 0 rfl) ?_
                                                                                                          refine lv_iadd S.1 S.2.1 dX7_word_30 ?_
                                                                                                          refine w_topi (y := 35) (by decide) ?_
                                                                                                          refine w_cald S C w 2 rfl (by unfold vp_in; decide) dX7_word_31 ?_
                                                                                                          refine w_topi (y := 109) (by decide) ?_
                                                                                                          refine lv_bipush (v := 32) S.1 S.2.1 dX7_word_32 (by decide) ?_
                                                                                                          refine lv_icmp_eq (tgt := 43) S.1 S.2.1 dX7_word_34 (by decide) (fun c34_35 => ?_) (fun c34_35 => ?_)
                                                                                                          · exact absurd c34_35 (by decide)
                                                                                                          · refine lv_iinc (v := 3) (lv' := [(5, .int 3), (4, .int 33), (3, .int 8), (0, .ref mO), (1, .int lo), (2, .int hi)]) S.1 S.2.1 dX7_word_37 hl (k := 0) rfl (by decide) (by decide) rfl (fun ls hl => ?_)
                                                                                                            refine lv_goto (tgt := 22) S.1 S.2.1 dX7_word_40 (by decide) ?_
                                                                                                            refine lv_aload_n S.1 S.2.1 dX7_word_22 rfl (lv_at hl 3 rfl) ?_
                                                                                                            refine w_get S C w (CC := RX7) (T := TX7) (N := 16) (ref := "GateSumsModel") im_X7_word_X7 0 rfl rfl 7 (by decide) (List.mem_of_getElem? (i := 1) rfl) (fun _ h => h) rfl dX7_word_23 ?_
                                                                                                            refine lv_iload S.1 S.2.1 dX7_word_26 (lv_at hl 1 rfl) ?_
                                                                                                            refine lv_iload S.1 S.2.1 dX7_word_28 (lv_at hl 0 rfl) ?_
                                                                                                            refine lv_iadd S.1 S.2.1 dX7_word_30 ?_
                                                                                                            refine w_topi (y := 36) (by decide) ?_
                                                                                                            refine w_cald S C w 2 rfl (by unfold vp_in; decide) dX7_word_31 ?_
                                                                                                            refine w_topi (y := 32) (by decide) ?_
                                                                                                            refine lv_bipush (v := 32) S.1 S.2.1 dX7_word_32 (by decide) ?_
                                                                                                            refine lv_icmp_eq (tgt := 43) S.1 S.2.1 dX7_word_34 (by decide) (fun c34_36 => ?_) (fun c34_36 => ?_)
                                                                                                            · refine w_join0 78 [] (True) (fun hz78 => ?_) (fun J78 => ?_)
                                                                                                              · refine lv_iinc (v := 9) (lv' := [(3, .int 9), (5, .int 3), (4, .int 33), (0, .ref mO), (1, .int lo), (2, .int hi)]) S.1 S.2.1 dX7_word_78 hl (k := 2) rfl (by decide) (by decide) rfl (fun ls hl => ?_)
                                                                                                                refine lv_iload S.1 S.2.1 dX7_word_81 (lv_at hl 2 rfl) ?_
                                                                                                                refine lv_iload S.1 S.2.1 dX7_word_83 (lv_at hl 1 rfl) ?_
                                                                                                                refine lv_iconst (v := 1) S.1 S.2.1 dX7_word_85 (by decide) ?_
                                                                                                                refine lv_iadd S.1 S.2.1 dX7_word_86 ?_
                                                                                                                refine w_topi (y := 4) (by decide) ?_
                                                                                                                refine lv_iadd S.1 S.2.1 dX7_word_87 ?_
                                                                                                                refine w_topi (y := 37) (by decide) ?_
                                                                                                                refine lv_istore (lv' := [(4, .int 37), (3, .int 9), (5, .int 3), (0, .ref mO), (1, .int lo), (2, .int hi)]) S.1 S.2.1 dX7_word_88 hl (by decide) rfl (fun ls hl => ?_)
                                                                                                                refine lv_goto (tgt := 9) S.1 S.2.1 dX7_word_90 (by decide) ?_
                                                                                                                refine lv_iload S.1 S.2.1 dX7_word_9 (lv_at hl 0 rfl) ?_
                                                                                                                refine lv_aload_n S.1 S.2.1 dX7_word_11 rfl (lv_at hl 3 rfl) ?_
                                                                                                                refine w_get S C w (CC := RX7) (T := TX7) (N := 16) (ref := "GateSumsModel") im_X7_word_X7 0 rfl rfl 7 (by decide) (List.mem_of_getElem? (i := 1) rfl) (fun _ h => h) rfl dX7_word_12 ?_
                                                                                                                refine w_alen S C w 2 1 rfl rfl (v := 73) rfl dX7_word_15 ?_
                                                                                                                refine lv_icmp_ge (tgt := 93) S.1 S.2.1 dX7_word_16 (by decide) (fun c16_9 => ?_) (fun c16_9 => ?_)
                                                                                                                · exact absurd c16_9 (by decide)
                                                                                                                · refine lv_iconst (v := 0) S.1 S.2.1 dX7_word_19 (by decide) ?_
                                                                                                                  refine lv_istore (lv' := [(5, .int 0), (4, .int 37), (3, .int 9), (0, .ref mO), (1, .int lo), (2, .int hi)]) S.1 S.2.1 dX7_word_20 hl (by decide) rfl (fun ls hl => ?_)
                                                                                                                  refine lv_aload_n S.1 S.2.1 dX7_word_22 rfl (lv_at hl 3 rfl) ?_
                                                                                                                  refine w_get S C w (CC := RX7) (T := TX7) (N := 16) (ref := "GateSumsModel") im_X7_word_X7 0 rfl rfl 7 (by decide) (List.mem_of_getElem? (i := 1) rfl) (fun _ h => h) rfl dX7_word_23 ?_
                                                                                                                  refine lv_iload S.1 S.2.1 dX7_word_26 (lv_at hl 1 rfl) ?_
                                                                                                                  refine lv_iload S.1 S.2.1 dX7_word_28 (lv_at hl 0 rfl) ?_
                                                                                                                  refine lv_iadd S.1 S.2.1 dX7_word_30 ?_
                                                                                                                  refine w_topi (y := 37) (by decide) ?_
                                                                                                                  refine w_cald S C w 2 rfl (by unfold vp_in; decide) dX7_word_31 ?_
                                                                                                                  refine w_topi (y := 112) (by decide) ?_
                                                                                                                  refine lv_bipush (v := 32) S.1 S.2.1 dX7_word_32 (by decide) ?_
                                                                                                                  refine lv_icmp_eq (tgt := 43) S.1 S.2.1 dX7_word_34 (by decide) (fun c34_37 => ?_) (fun c34_37 => ?_)
                                                                                                                  · exact absurd c34_37 (by decide)
                                                                                                                  · refine lv_iinc (v := 1) (lv' := [(5, .int 1), (4, .int 37), (3, .int 9), (0, .ref mO), (1, .int lo), (2, .int hi)]) S.1 S.2.1 dX7_word_37 hl (k := 0) rfl (by decide) (by decide) rfl (fun ls hl => ?_)
                                                                                                                    refine lv_goto (tgt := 22) S.1 S.2.1 dX7_word_40 (by decide) ?_
                                                                                                                    refine lv_aload_n S.1 S.2.1 dX7_word_22 rfl (lv_at hl 3 rfl) ?_
                                                                                                                    refine w_get S C w (CC := RX7) (T := TX7) (N := 16) (ref := "GateSumsModel") im_X7_word_X7 0 rfl rfl 7 (by decide) (List.mem_of_getElem? (i := 1) rfl) (fun _ h => h) rfl dX7_word_23 ?_
                                                                                                                    refine lv_iload S.1 S.2.1 dX7_word_26 (lv_at hl 1 rfl) ?_
                                                                                                                    refine lv_iload S.1 S.2.1 dX7_word_28 (lv_at hl 0 rfl) ?_
                                                                                                                    refine lv_iadd S.1 S.2.1 dX7_word_30 ?_
                                                                                                                    refine w_topi (y := 38) (by decide) ?_
                                                                                                                    refine w_cald S C w 2 rfl (by unfold vp_in; decide) dX7_word_31 ?_
                                                                                                                    refine w_topi (y := 114) (by decide) ?_
                                                                                                                    refine lv_bipush (v := 32) S.1 S.2.1 dX7_word_32 (by decide) ?_
                                                                                                                    refine lv_icmp_eq (tgt := 43) S.1 S.2.1 dX7_word_34 (by decide) (fun c34_38 => ?_) (fun c34_38 => ?_)
                                                                                                                    · exact absurd c34_38 (by decide)
                                                                                                                    · refine lv_iinc (v := 2) (lv' := [(5, .int 2), (4, .int 37), (3, .int 9), (0, .ref mO), (1, .int lo), (2, .int hi)]) S.1 S.2.1 dX7_word_37 hl (k := 0) rfl (by decide) (by decide) rfl (fun ls hl => ?_)
                                                                                                                      refine lv_goto (tgt := 22) S.1 S.2.1 dX7_word_40 (by decide) ?_
                                                                                                                      refine lv_aload_n S.1 S.2.1 dX7_word_22 rfl (lv_at hl 3 rfl) ?_
                                                                                                                      refine w_get S C w (CC := RX7) (T := TX7) (N := 16) (ref := "GateSumsModel") im_X7_word_X7 0 rfl rfl 7 (by decide) (List.mem_of_getElem? (i := 1) rfl) (fun _ h => h) rfl dX7_word_23 ?_
                                                                                                                      refine lv_iload S.1 S.2.1 dX7_word_26 (lv_at hl 1 rfl) ?_
                                                                                                                      refine lv_iload S.1 S.2.1 dX7_word_28 (lv_at hl 0 rfl) ?_
                                                                                                                      refine lv_iadd S.1 S.2.1 dX7_word_30 ?_
                                                                                                                      refine w_topi (y := 39) (by decide) ?_
                                                                                                                      refine w_cald S C w 2 rfl (by unfold vp_in; decide) dX7_word_31 ?_
                                                                                                                      refine w_topi (y := 111) (by decide) ?_
                                                                                                                      refine lv_bipush (v := 32) S.1 S.2.1 dX7_word_32 (by decide) ?_
                                                                                                                      refine lv_icmp_eq (tgt := 43) S.1 S.2.1 dX7_word_34 (by decide) (fun c34_39 => ?_) (fun c34_39 => ?_)
                                                                                                                      · exact absurd c34_39 (by decide)
                                                                                                                      · refine lv_iinc (v := 3) (lv' := [(5, .int 3), (4, .int 37), (3, .int 9), (0, .ref mO), (1, .int lo), (2, .int hi)]) S.1 S.2.1 dX7_word_37 hl (k := 0) rfl (by decide) (by decide) rfl (fun ls hl => ?_)
                                                                                                                        refine lv_goto (tgt := 22) S.1 S.2.1 dX7_word_40 (by decide) ?_
                                                                                                                        refine lv_aload_n S.1 S.2.1 dX7_word_22 rfl (lv_at hl 3 rfl) ?_
                                                                                                                        refine w_get S C w (CC := RX7) (T := TX7) (N := 16) (ref := "GateSumsModel") im_X7_word_X7 0 rfl rfl 7 (by decide) (List.mem_of_getElem? (i := 1) rfl) (fun _ h => h) rfl dX7_word_23 ?_
                                                                                                                        refine lv_iload S.1 S.2.1 dX7_word_26 (lv_at hl 1 rfl) ?_
                                                                                                                        refine lv_iload S.1 S.2.1 dX7_word_28 (lv_at hl 0 rfl) ?_
                                                                                                                        refine lv_iadd S.1 S.2.1 dX7_word_30 ?_
                                                                                                                        refine w_topi (y := 40) (by decide) ?_
                                                                                                                        refine w_cald S C w 2 rfl (by unfold vp_in; decide) dX7_word_31 ?_
                                                                                                                        refine w_topi (y := 100) (by decide) ?_
                                                                                                                        refine lv_bipush (v := 32) S.1 S.2.1 dX7_word_32 (by decide) ?_
                                                                                                                        refine lv_icmp_eq (tgt := 43) S.1 S.2.1 dX7_word_34 (by decide) (fun c34_40 => ?_) (fun c34_40 => ?_)
                                                                                                                        · exact absurd c34_40 (by decide)
                                                                                                                        · refine lv_iinc (v := 4) (lv' := [(5, .int 4), (4, .int 37), (3, .int 9), (0, .ref mO), (1, .int lo), (2, .int hi)]) S.1 S.2.1 dX7_word_37 hl (k := 0) rfl (by decide) (by decide) rfl (fun ls hl => ?_)
                                                                                                                          refine lv_goto (tgt := 22) S.1 S.2.1 dX7_word_40 (by decide) ?_
                                                                                                                          refine lv_aload_n S.1 S.2.1 dX7_word_22 rfl (lv_at hl 3 rfl) ?_
                                                                                                                          refine w_get S C w (CC := RX7) (T := TX7) (N := 16) (ref := "GateSumsModel") im_X7_word_X7 0 rfl rfl 7 (by decide) (List.mem_of_getElem? (i := 1) rfl) (fun _ h => h) rfl dX7_word_23 ?_
                                                                                                                          refine lv_iload S.1 S.2.1 dX7_word_26 (lv_at hl 1 rfl) ?_
                                                                                                                          refine lv_iload S.1 S.2.1 dX7_word_28 (lv_at hl 0 rfl) ?_
                                                                                                                          refine lv_iadd S.1 S.2.1 dX7_word_30 ?_
                                                                                                                          refine w_topi (y := 41) (by decide) ?_
                                                                                                                          refine w_cald S C w 2 rfl (by unfold vp_in; decide) dX7_word_31 ?_
                                                                                                                          refine w_topi (y := 117) (by decide) ?_
                                                                                                                          refine lv_bipush (v := 32) S.1 S.2.1 dX7_word_32 (by decide) ?_
                                                                                                                          refine lv_icmp_eq (tgt := 43) S.1 S.2.1 dX7_word_34 (by decide) (fun c34_41 => ?_) (fun c34_41 => ?_)
                                                                                                                          · exact absurd c34_41 (by decide)
                                                                                                                          · refine lv_iinc (v := 5) (lv' := [(5, .int 5), (4, .int 37), (3, .int 9), (0, .ref mO), (1, .int lo), (2, .int hi)]) S.1 S.2.1 dX7_word_37 hl (k := 0) rfl (by decide) (by decide) rfl (fun ls hl => ?_)
                                                                                                                            refine lv_goto (tgt := 22) S.1 S.2.1 dX7_word_40 (by decide) ?_
                                                                                                                            refine lv_aload_n S.1 S.2.1 dX7_word_22 rfl (lv_at hl 3 rfl) ?_
                                                                                                                            refine w_get S C w (CC := RX7) (T := TX7) (N := 16) (ref := "GateSumsModel") im_X7_word_X7 0 rfl rfl 7 (by decide) (List.mem_of_getElem? (i := 1) rfl) (fun _ h => h) rfl dX7_word_23 ?_
                                                                                                                            refine lv_iload S.1 S.2.1 dX7_word_26 (lv_at hl 1 rfl) ?_
                                                                                                                            refine lv_iload S.1 S.2.1 dX7_word_28 (lv_at hl 0 rfl) ?_
                                                                                                                            refine lv_iadd S.1 S.2.1 dX7_word_30 ?_
                                                                                                                            refine w_topi (y := 42) (by decide) ?_
                                                                                                                            refine w_cald S C w 2 rfl (by unfold vp_in; decide) dX7_word_31 ?_
                                                                                                                            refine w_topi (y := 99) (by decide) ?_
                                                                                                                            refine lv_bipush (v := 32) S.1 S.2.1 dX7_word_32 (by decide) ?_
                                                                                                                            refine lv_icmp_eq (tgt := 43) S.1 S.2.1 dX7_word_34 (by decide) (fun c34_42 => ?_) (fun c34_42 => ?_)
                                                                                                                            · exact absurd c34_42 (by decide)
                                                                                                                            · refine lv_iinc (v := 6) (lv' := [(5, .int 6), (4, .int 37), (3, .int 9), (0, .ref mO), (1, .int lo), (2, .int hi)]) S.1 S.2.1 dX7_word_37 hl (k := 0) rfl (by decide) (by decide) rfl (fun ls hl => ?_)
                                                                                                                              refine lv_goto (tgt := 22) S.1 S.2.1 dX7_word_40 (by decide) ?_
                                                                                                                              refine lv_aload_n S.1 S.2.1 dX7_word_22 rfl (lv_at hl 3 rfl) ?_
                                                                                                                              refine w_get S C w (CC := RX7) (T := TX7) (N := 16) (ref := "GateSumsModel") im_X7_word_X7 0 rfl rfl 7 (by decide) (List.mem_of_getElem? (i := 1) rfl) (fun _ h => h) rfl dX7_word_23 ?_
                                                                                                                              refine lv_iload S.1 S.2.1 dX7_word_26 (lv_at hl 1 rfl) ?_
                                                                                                                              refine lv_iload S.1 S.2.1 dX7_word_28 (lv_at hl 0 rfl) ?_
                                                                                                                              refine lv_iadd S.1 S.2.1 dX7_word_30 ?_
                                                                                                                              refine w_topi (y := 43) (by decide) ?_
                                                                                                                              refine w_cald S C w 2 rfl (by unfold vp_in; decide) dX7_word_31 ?_
                                                                                                                              refine w_topi (y := 116) (by decide) ?_
                                                                                                                              refine lv_bipush (v := 32) S.1 S.2.1 dX7_word_32 (by decide) ?_
                                                                                                                              refine lv_icmp_eq (tgt := 43) S.1 S.2.1 dX7_word_34 (by decide) (fun c34_43 => ?_) (fun c34_43 => ?_)
                                                                                                                              · exact absurd c34_43 (by decide)
                                                                                                                              · refine lv_iinc (v := 7) (lv' := [(5, .int 7), (4, .int 37), (3, .int 9), (0, .ref mO), (1, .int lo), (2, .int hi)]) S.1 S.2.1 dX7_word_37 hl (k := 0) rfl (by decide) (by decide) rfl (fun ls hl => ?_)
                                                                                                                                refine lv_goto (tgt := 22) S.1 S.2.1 dX7_word_40 (by decide) ?_
                                                                                                                                refine lv_aload_n S.1 S.2.1 dX7_word_22 rfl (lv_at hl 3 rfl) ?_
                                                                                                                                refine w_get S C w (CC := RX7) (T := TX7) (N := 16) (ref := "GateSumsModel") im_X7_word_X7 0 rfl rfl 7 (by decide) (List.mem_of_getElem? (i := 1) rfl) (fun _ h => h) rfl dX7_word_23 ?_
                                                                                                                                refine lv_iload S.1 S.2.1 dX7_word_26 (lv_at hl 1 rfl) ?_
                                                                                                                                refine lv_iload S.1 S.2.1 dX7_word_28 (lv_at hl 0 rfl) ?_
                                                                                                                                refine lv_iadd S.1 S.2.1 dX7_word_30 ?_
                                                                                                                                refine w_topi (y := 44) (by decide) ?_
                                                                                                                                refine w_cald S C w 2 rfl (by unfold vp_in; decide) dX7_word_31 ?_
                                                                                                                                refine w_topi (y := 32) (by decide) ?_
                                                                                                                                refine lv_bipush (v := 32) S.1 S.2.1 dX7_word_32 (by decide) ?_
                                                                                                                                refine lv_icmp_eq (tgt := 43) S.1 S.2.1 dX7_word_34 (by decide) (fun c34_44 => ?_) (fun c34_44 => ?_)
                                                                                                                                · refine w_join0 78 [] (True) (fun hz78 => ?_) (fun J78 => ?_)
                                                                                                                                  · refine lv_iinc (v := 10) (lv' := [(3, .int 10), (5, .int 7), (4, .int 37), (0, .ref mO), (1, .int lo), (2, .int hi)]) S.1 S.2.1 dX7_word_78 hl (k := 2) rfl (by decide) (by decide) rfl (fun ls hl => ?_)
                                                                                                                                    refine lv_iload S.1 S.2.1 dX7_word_81 (lv_at hl 2 rfl) ?_
                                                                                                                                    refine lv_iload S.1 S.2.1 dX7_word_83 (lv_at hl 1 rfl) ?_
                                                                                                                                    refine lv_iconst (v := 1) S.1 S.2.1 dX7_word_85 (by decide) ?_
                                                                                                                                    refine lv_iadd S.1 S.2.1 dX7_word_86 ?_
                                                                                                                                    refine w_topi (y := 8) (by decide) ?_
                                                                                                                                    refine lv_iadd S.1 S.2.1 dX7_word_87 ?_
                                                                                                                                    refine w_topi (y := 45) (by decide) ?_
                                                                                                                                    refine lv_istore (lv' := [(4, .int 45), (3, .int 10), (5, .int 7), (0, .ref mO), (1, .int lo), (2, .int hi)]) S.1 S.2.1 dX7_word_88 hl (by decide) rfl (fun ls hl => ?_)
                                                                                                                                    refine lv_goto (tgt := 9) S.1 S.2.1 dX7_word_90 (by decide) ?_
                                                                                                                                    refine lv_iload S.1 S.2.1 dX7_word_9 (lv_at hl 0 rfl) ?_
                                                                                                                                    refine lv_aload_n S.1 S.2.1 dX7_word_11 rfl (lv_at hl 3 rfl) ?_
                                                                                                                                    refine w_get S C w (CC := RX7) (T := TX7) (N := 16) (ref := "GateSumsModel") im_X7_word_X7 0 rfl rfl 7 (by decide) (List.mem_of_getElem? (i := 1) rfl) (fun _ h => h) rfl dX7_word_12 ?_
                                                                                                                                    refine w_alen S C w 2 1 rfl rfl (v := 73) rfl dX7_word_15 ?_
                                                                                                                                    refine lv_icmp_ge (tgt := 93) S.1 S.2.1 dX7_word_16 (by decide) (fun c16_10 => ?_) (fun c16_10 => ?_)
                                                                                                                                    · exact absurd c16_10 (by decide)
                                                                                                                                    · refine lv_iconst (v := 0) S.1 S.2.1 dX7_word_19 (by decide) ?_
                                                                                                                                      refine lv_istore (lv' := [(5, .int 0), (4, .int 45), (3, .int 10), (0, .ref mO), (1, .int lo), (2, .int hi)]) S.1 S.2.1 dX7_word_20 hl (by decide) rfl (fun ls hl => ?_)
                                                                                                                                      refine lv_aload_n S.1 S.2.1 dX7_word_22 rfl (lv_at hl 3 rfl) ?_
                                                                                                                                      refine w_get S C w (CC := RX7) (T := TX7) (N := 16) (ref := "GateSumsModel") im_X7_word_X7 0 rfl rfl 7 (by decide) (List.mem_of_getElem? (i := 1) rfl) (fun _ h => h) rfl dX7_word_23 ?_
                                                                                                                                      refine lv_iload S.1 S.2.1 dX7_word_26 (lv_at hl 1 rfl) ?_
                                                                                                                                      refine lv_iload S.1 S.2.1 dX7_word_28 (lv_at hl 0 rfl) ?_
                                                                                                                                      refine lv_iadd S.1 S.2.1 dX7_word_30 ?_
                                                                                                                                      refine w_topi (y := 45) (by decide) ?_
                                                                                                                                      refine w_cald S C w 2 rfl (by unfold vp_in; decide) dX7_word_31 ?_
                                                                                                                                      refine w_topi (y := 115) (by decide) ?_
                                                                                                                                      refine lv_bipush (v := 32) S.1 S.2.1 dX7_word_32 (by decide) ?_
                                                                                                                                      refine lv_icmp_eq (tgt := 43) S.1 S.2.1 dX7_word_34 (by decide) (fun c34_45 => ?_) (fun c34_45 => ?_)
                                                                                                                                      · exact absurd c34_45 (by decide)
                                                                                                                                      · refine lv_iinc (v := 1) (lv' := [(5, .int 1), (4, .int 45), (3, .int 10), (0, .ref mO), (1, .int lo), (2, .int hi)]) S.1 S.2.1 dX7_word_37 hl (k := 0) rfl (by decide) (by decide) rfl (fun ls hl => ?_)
                                                                                                                                        refine lv_goto (tgt := 22) S.1 S.2.1 dX7_word_40 (by decide) ?_
                                                                                                                                        refine lv_aload_n S.1 S.2.1 dX7_word_22 rfl (lv_at hl 3 rfl) ?_
                                                                                                                                        refine w_get S C w (CC := RX7) (T := TX7) (N := 16) (ref := "GateSumsModel") im_X7_word_X7 0 rfl rfl 7 (by decide) (List.mem_of_getElem? (i := 1) rfl) (fun _ h => h) rfl dX7_word_23 ?_
                                                                                                                                        refine lv_iload S.1 S.2.1 dX7_word_26 (lv_at hl 1 rfl) ?_
                                                                                                                                        refine lv_iload S.1 S.2.1 dX7_word_28 (lv_at hl 0 rfl) ?_
                                                                                                                                        refine lv_iadd S.1 S.2.1 dX7_word_30 ?_
                                                                                                                                        refine w_topi (y := 46) (by decide) ?_
                                                                                                                                        refine w_cald S C w 2 rfl (by unfold vp_in; decide) dX7_word_31 ?_
                                                                                                                                        refine w_topi (y := 113) (by decide) ?_
                                                                                                                                        refine lv_bipush (v := 32) S.1 S.2.1 dX7_word_32 (by decide) ?_
                                                                                                                                        refine lv_icmp_eq (tgt := 43) S.1 S.2.1 dX7_word_34 (by decide) (fun c34_46 => ?_) (fun c34_46 => ?_)
                                                                                                                                        · exact absurd c34_46 (by decide)
                                                                                                                                        · refine lv_iinc (v := 2) (lv' := [(5, .int 2), (4, .int 45), (3, .int 10), (0, .ref mO), (1, .int lo), (2, .int hi)]) S.1 S.2.1 dX7_word_37 hl (k := 0) rfl (by decide) (by decide) rfl (fun ls hl => ?_)
                                                                                                                                          refine lv_goto (tgt := 22) S.1 S.2.1 dX7_word_40 (by decide) ?_
                                                                                                                                          refine lv_aload_n S.1 S.2.1 dX7_word_22 rfl (lv_at hl 3 rfl) ?_
                                                                                                                                          refine w_get S C w (CC := RX7) (T := TX7) (N := 16) (ref := "GateSumsModel") im_X7_word_X7 0 rfl rfl 7 (by decide) (List.mem_of_getElem? (i := 1) rfl) (fun _ h => h) rfl dX7_word_23 ?_
                                                                                                                                          refine lv_iload S.1 S.2.1 dX7_word_26 (lv_at hl 1 rfl) ?_
                                                                                                                                          refine lv_iload S.1 S.2.1 dX7_word_28 (lv_at hl 0 rfl) ?_
                                                                                                                                          refine lv_iadd S.1 S.2.1 dX7_word_30 ?_
                                                                                                                                          refine w_topi (y := 47) (by decide) ?_
                                                                                                                                          refine w_cald S C w 2 rfl (by unfold vp_in; decide) dX7_word_31 ?_
                                                                                                                                          refine w_topi (y := 117) (by decide) ?_
                                                                                                                                          refine lv_bipush (v := 32) S.1 S.2.1 dX7_word_32 (by decide) ?_
                                                                                                                                          refine lv_icmp_eq (tgt := 43) S.1 S.2.1 dX7_word_34 (by decide) (fun c34_47 => ?_) (fun c34_47 => ?_)
                                                                                                                                          · exact absurd c34_47 (by decide)
                                                                                                                                          · refine lv_iinc (v := 3) (lv' := [(5, .int 3), (4, .int 45), (3, .int 10), (0, .ref mO), (1, .int lo), (2, .int hi)]) S.1 S.2.1 dX7_word_37 hl (k := 0) rfl (by decide) (by decide) rfl (fun ls hl => ?_)
                                                                                                                                            refine lv_goto (tgt := 22) S.1 S.2.1 dX7_word_40 (by decide) ?_
                                                                                                                                            refine lv_aload_n S.1 S.2.1 dX7_word_22 rfl (lv_at hl 3 rfl) ?_
                                                                                                                                            refine w_get S C w (CC := RX7) (T := TX7) (N := 16) (ref := "GateSumsModel") im_X7_word_X7 0 rfl rfl 7 (by decide) (List.mem_of_getElem? (i := 1) rfl) (fun _ h => h) rfl dX7_word_23 ?_
                                                                                                                                            refine lv_iload S.1 S.2.1 dX7_word_26 (lv_at hl 1 rfl) ?_
                                                                                                                                            refine lv_iload S.1 S.2.1 dX7_word_28 (lv_at hl 0 rfl) ?_
                                                                                                                                            refine lv_iadd S.1 S.2.1 dX7_word_30 ?_
                                                                                                                                            refine w_topi (y := 48) (by decide) ?_
                                                                                                                                            refine w_cald S C w 2 rfl (by unfold vp_in; decide) dX7_word_31 ?_
                                                                                                                                            refine w_topi (y := 97) (by decide) ?_
                                                                                                                                            refine lv_bipush (v := 32) S.1 S.2.1 dX7_word_32 (by decide) ?_
                                                                                                                                            refine lv_icmp_eq (tgt := 43) S.1 S.2.1 dX7_word_34 (by decide) (fun c34_48 => ?_) (fun c34_48 => ?_)
                                                                                                                                            · exact absurd c34_48 (by decide)
                                                                                                                                            · refine lv_iinc (v := 4) (lv' := [(5, .int 4), (4, .int 45), (3, .int 10), (0, .ref mO), (1, .int lo), (2, .int hi)]) S.1 S.2.1 dX7_word_37 hl (k := 0) rfl (by decide) (by decide) rfl (fun ls hl => ?_)
                                                                                                                                              refine lv_goto (tgt := 22) S.1 S.2.1 dX7_word_40 (by decide) ?_
                                                                                                                                              refine lv_aload_n S.1 S.2.1 dX7_word_22 rfl (lv_at hl 3 rfl) ?_
                                                                                                                                              refine w_get S C w (CC := RX7) (T := TX7) (N := 16) (ref := "GateSumsModel") im_X7_word_X7 0 rfl rfl 7 (by decide) (List.mem_of_getElem? (i := 1) rfl) (fun _ h => h) rfl dX7_word_23 ?_
                                                                                                                                              refine lv_iload S.1 S.2.1 dX7_word_26 (lv_at hl 1 rfl) ?_
                                                                                                                                              refine lv_iload S.1 S.2.1 dX7_word_28 (lv_at hl 0 rfl) ?_
                                                                                                                                              refine lv_iadd S.1 S.2.1 dX7_word_30 ?_
                                                                                                                                              refine w_topi (y := 49) (by decide) ?_
                                                                                                                                              refine w_cald S C w 2 rfl (by unfold vp_in; decide) dX7_word_31 ?_
                                                                                                                                              refine w_topi (y := 114) (by decide) ?_
                                                                                                                                              refine lv_bipush (v := 32) S.1 S.2.1 dX7_word_32 (by decide) ?_
                                                                                                                                              refine lv_icmp_eq (tgt := 43) S.1 S.2.1 dX7_word_34 (by decide) (fun c34_49 => ?_) (fun c34_49 => ?_)
                                                                                                                                              · exact absurd c34_49 (by decide)
                                                                                                                                              · refine lv_iinc (v := 5) (lv' := [(5, .int 5), (4, .int 45), (3, .int 10), (0, .ref mO), (1, .int lo), (2, .int hi)]) S.1 S.2.1 dX7_word_37 hl (k := 0) rfl (by decide) (by decide) rfl (fun ls hl => ?_)
                                                                                                                                                refine lv_goto (tgt := 22) S.1 S.2.1 dX7_word_40 (by decide) ?_
                                                                                                                                                refine lv_aload_n S.1 S.2.1 dX7_word_22 rfl (lv_at hl 3 rfl) ?_
                                                                                                                                                refine w_get S C w (CC := RX7) (T := TX7) (N := 16) (ref := "GateSumsModel") im_X7_word_X7 0 rfl rfl 7 (by decide) (List.mem_of_getElem? (i := 1) rfl) (fun _ h => h) rfl dX7_word_23 ?_
                                                                                                                                                refine lv_iload S.1 S.2.1 dX7_word_26 (lv_at hl 1 rfl) ?_
                                                                                                                                                refine lv_iload S.1 S.2.1 dX7_word_28 (lv_at hl 0 rfl) ?_
                                                                                                                                                refine lv_iadd S.1 S.2.1 dX7_word_30 ?_
                                                                                                                                                refine w_topi (y := 50) (by decide) ?_
                                                                                                                                                refine w_cald S C w 2 rfl (by unfold vp_in; decide) dX7_word_31 ?_
                                                                                                                                                refine w_topi (y := 101) (by decide) ?_
                                                                                                                                                refine lv_bipush (v := 32) S.1 S.2.1 dX7_word_32 (by decide) ?_
                                                                                                                                                refine lv_icmp_eq (tgt := 43) S.1 S.2.1 dX7_word_34 (by decide) (fun c34_50 => ?_) (fun c34_50 => ?_)
                                                                                                                                                · exact absurd c34_50 (by decide)
                                                                                                                                                · refine lv_iinc (v := 6) (lv' := [(5, .int 6), (4, .int 45), (3, .int 10), (0, .ref mO), (1, .int lo), (2, .int hi)]) S.1 S.2.1 dX7_word_37 hl (k := 0) rfl (by decide) (by decide) rfl (fun ls hl => ?_)
                                                                                                                                                  refine lv_goto (tgt := 22) S.1 S.2.1 dX7_word_40 (by decide) ?_
                                                                                                                                                  refine lv_aload_n S.1 S.2.1 dX7_word_22 rfl (lv_at hl 3 rfl) ?_
                                                                                                                                                  refine w_get S C w (CC := RX7) (T := TX7) (N := 16) (ref := "GateSumsModel") im_X7_word_X7 0 rfl rfl 7 (by decide) (List.mem_of_getElem? (i := 1) rfl) (fun _ h => h) rfl dX7_word_23 ?_
                                                                                                                                                  refine lv_iload S.1 S.2.1 dX7_word_26 (lv_at hl 1 rfl) ?_
                                                                                                                                                  refine lv_iload S.1 S.2.1 dX7_word_28 (lv_at hl 0 rfl) ?_
                                                                                                                                                  refine lv_iadd S.1 S.2.1 dX7_word_30 ?_
                                                                                                                                                  refine w_topi (y := 51) (by decide) ?_
                                                                                                                                                  refine w_cald S C w 2 rfl (by unfold vp_in; decide) dX7_word_31 ?_
                                                                                                                                                  refine w_topi (y := 32) (by decide) ?_
                                                                                                                                                  refine lv_bipush (v := 32) S.1 S.2.1 dX7_word_32 (by decide) ?_
                                                                                                                                                  refine lv_icmp_eq (tgt := 43) S.1 S.2.1 dX7_word_34 (by decide) (fun c34_51 => ?_) (fun c34_51 => ?_)
                                                                                                                                                  · refine w_join0 78 [] (True) (fun hz78 => ?_) (fun J78 => ?_)
                                                                                                                                                    · refine lv_iinc (v := 11) (lv' := [(3, .int 11), (5, .int 6), (4, .int 45), (0, .ref mO), (1, .int lo), (2, .int hi)]) S.1 S.2.1 dX7_word_78 hl (k := 2) rfl (by decide) (by decide) rfl (fun ls hl => ?_)
                                                                                                                                                      refine lv_iload S.1 S.2.1 dX7_word_81 (lv_at hl 2 rfl) ?_
                                                                                                                                                      refine lv_iload S.1 S.2.1 dX7_word_83 (lv_at hl 1 rfl) ?_
                                                                                                                                                      refine lv_iconst (v := 1) S.1 S.2.1 dX7_word_85 (by decide) ?_
                                                                                                                                                      refine lv_iadd S.1 S.2.1 dX7_word_86 ?_
                                                                                                                                                      refine w_topi (y := 7) (by decide) ?_
                                                                                                                                                      refine lv_iadd S.1 S.2.1 dX7_word_87 ?_
                                                                                                                                                      refine w_topi (y := 52) (by decide) ?_
                                                                                                                                                      refine lv_istore (lv' := [(4, .int 52), (3, .int 11), (5, .int 6), (0, .ref mO), (1, .int lo), (2, .int hi)]) S.1 S.2.1 dX7_word_88 hl (by decide) rfl (fun ls hl => ?_)
                                                                                                                                                      refine lv_goto (tgt := 9) S.1 S.2.1 dX7_word_90 (by decide) ?_
                                                                                                                                                      refine lv_iload S.1 S.2.1 dX7_word_9 (lv_at hl 0 rfl) ?_
                                                                                                                                                      refine lv_aload_n S.1 S.2.1 dX7_word_11 rfl (lv_at hl 3 rfl) ?_
                                                                                                                                                      refine w_get S C w (CC := RX7) (T := TX7) (N := 16) (ref := "GateSumsModel") im_X7_word_X7 0 rfl rfl 7 (by decide) (List.mem_of_getElem? (i := 1) rfl) (fun _ h => h) rfl dX7_word_12 ?_
                                                                                                                                                      refine w_alen S C w 2 1 rfl rfl (v := 73) rfl dX7_word_15 ?_
                                                                                                                                                      refine lv_icmp_ge (tgt := 93) S.1 S.2.1 dX7_word_16 (by decide) (fun c16_11 => ?_) (fun c16_11 => ?_)
                                                                                                                                                      · exact absurd c16_11 (by decide)
                                                                                                                                                      · refine lv_iconst (v := 0) S.1 S.2.1 dX7_word_19 (by decide) ?_
                                                                                                                                                        refine lv_istore (lv' := [(5, .int 0), (4, .int 52), (3, .int 11), (0, .ref mO), (1, .int lo), (2, .int hi)]) S.1 S.2.1 dX7_word_20 hl (by decide) rfl (fun ls hl => ?_)
                                                                                                                                                        refine lv_aload_n S.1 S.2.1 dX7_word_22 rfl (lv_at hl 3 rfl) ?_
                                                                                                                                                        refine w_get S C w (CC := RX7) (T := TX7) (N := 16) (ref := "GateSumsModel") im_X7_word_X7 0 rfl rfl 7 (by decide) (List.mem_of_getElem? (i := 1) rfl) (fun _ h => h) rfl dX7_word_23 ?_
                                                                                                                                                        refine lv_iload S.1 S.2.1 dX7_word_26 (lv_at hl 1 rfl) ?_
                                                                                                                                                        refine lv_iload S.1 S.2.1 dX7_word_28 (lv_at hl 0 rfl) ?_
                                                                                                                                                        refine lv_iadd S.1 S.2.1 dX7_word_30 ?_
                                                                                                                                                        refine w_topi (y := 52) (by decide) ?_
                                                                                                                                                        refine w_cald S C w 2 rfl (by unfold vp_in; decide) dX7_word_31 ?_
                                                                                                                                                        refine w_topi (y := 116) (by decide) ?_
                                                                                                                                                        refine lv_bipush (v := 32) S.1 S.2.1 dX7_word_32 (by decide) ?_
                                                                                                                                                        refine lv_icmp_eq (tgt := 43) S.1 S.2.1 dX7_word_34 (by decide) (fun c34_52 => ?_) (fun c34_52 => ?_)
                                                                                                                                                        · exact absurd c34_52 (by decide)
                                                                                                                                                        · refine lv_iinc (v := 1) (lv' := [(5, .int 1), (4, .int 52), (3, .int 11), (0, .ref mO), (1, .int lo), (2, .int hi)]) S.1 S.2.1 dX7_word_37 hl (k := 0) rfl (by decide) (by decide) rfl (fun ls hl => ?_)
                                                                                                                                                          refine lv_goto (tgt := 22) S.1 S.2.1 dX7_word_40 (by decide) ?_
                                                                                                                                                          refine lv_aload_n S.1 S.2.1 dX7_word_22 rfl (lv_at hl 3 rfl) ?_
                                                                                                                                                          refine w_get S C w (CC := RX7) (T := TX7) (N := 16) (ref := "GateSumsModel") im_X7_word_X7 0 rfl rfl 7 (by decide) (List.mem_of_getElem? (i := 1) rfl) (fun _ h => h) rfl dX7_word_23 ?_
                                                                                                                                                          refine lv_iload S.1 S.2.1 dX7_word_26 (lv_at hl 1 rfl) ?_
                                                                                                                                                          refine lv_iload S.1 S.2.1 dX7_word_28 (lv_at hl 0 rfl) ?_
                                                                                                                                                          refine lv_iadd S.1 S.2.1 dX7_word_30 ?_
                                                                                                                                                          refine w_topi (y := 53) (by decide) ?_
                                                                                                                                                          refine w_cald S C w 2 rfl (by unfold vp_in; decide) dX7_word_31 ?_
                                                                                                                                                          refine w_topi (y := 114) (by decide) ?_
                                                                                                                                                          refine lv_bipush (v := 32) S.1 S.2.1 dX7_word_32 (by decide) ?_
                                                                                                                                                          refine lv_icmp_eq (tgt := 43) S.1 S.2.1 dX7_word_34 (by decide) (fun c34_53 => ?_) (fun c34_53 => ?_)
                                                                                                                                                          · exact absurd c34_53 (by decide)
                                                                                                                                                          · refine lv_iinc (v := 2) (lv' := [(5, .int 2), (4, .int 52), (3, .int 11), (0, .ref mO), (1, .int lo), (2, .int hi)]) S.1 S.2.1 dX7_word_37 hl (k := 0) rfl (by decide) (by decide) rfl (fun ls hl => ?_)
                                                                                                                                                            refine lv_goto (tgt := 22) S.1 S.2.1 dX7_word_40 (by decide) ?_
                                                                                                                                                            refine lv_aload_n S.1 S.2.1 dX7_word_22 rfl (lv_at hl 3 rfl) ?_
                                                                                                                                                            refine w_get S C w (CC := RX7) (T := TX7) (N := 16) (ref := "GateSumsModel") im_X7_word_X7 0 rfl rfl 7 (by decide) (List.mem_of_getElem? (i := 1) rfl) (fun _ h => h) rfl dX7_word_23 ?_
                                                                                                                                                            refine lv_iload S.1 S.2.1 dX7_word_26 (lv_at hl 1 rfl) ?_
                                                                                                                                                            refine lv_iload S.1 S.2.1 dX7_word_28 (lv_at hl 0 rfl) ?_
                                                                                                                                                            refine lv_iadd S.1 S.2.1 dX7_word_30 ?_
                                                                                                                                                            refine w_topi (y := 54) (by decide) ?_
                                                                                                                                                            refine w_cald S C w 2 rfl (by unfold vp_in; decide) dX7_word_31 ?_
                                                                                                                                                            refine w_topi (y := 105) (by decide) ?_
                                                                                                                                                            refine lv_bipush (v := 32) S.1 S.2.1 dX7_word_32 (by decide) ?_
                                                                                                                                                            refine lv_icmp_eq (tgt := 43) S.1 S.2.1 dX7_word_34 (by decide) (fun c34_54 => ?_) (fun c34_54 => ?_)
                                                                                                                                                            · exact absurd c34_54 (by decide)
                                                                                                                                                            · refine lv_iinc (v := 3) (lv' := [(5, .int 3), (4, .int 52), (3, .int 11), (0, .ref mO), (1, .int lo), (2, .int hi)]) S.1 S.2.1 dX7_word_37 hl (k := 0) rfl (by decide) (by decide) rfl (fun ls hl => ?_)
                                                                                                                                                              refine lv_goto (tgt := 22) S.1 S.2.1 dX7_word_40 (by decide) ?_
                                                                                                                                                              refine lv_aload_n S.1 S.2.1 dX7_word_22 rfl (lv_at hl 3 rfl) ?_
                                                                                                                                                              refine w_get S C w (CC := RX7) (T := TX7) (N := 16) (ref := "GateSumsModel") im_X7_word_X7 0 rfl rfl 7 (by decide) (List.mem_of_getElem? (i := 1) rfl) (fun _ h => h) rfl dX7_word_23 ?_
                                                                                                                                                              refine lv_iload S.1 S.2.1 dX7_word_26 (lv_at hl 1 rfl) ?_
                                                                                                                                                              refine lv_iload S.1 S.2.1 dX7_word_28 (lv_at hl 0 rfl) ?_
                                                                                                                                                              refine lv_iadd S.1 S.2.1 dX7_word_30 ?_
                                                                                                                                                              refine w_topi (y := 55) (by decide) ?_
                                                                                                                                                              refine w_cald S C w 2 rfl (by unfold vp_in; decide) dX7_word_31 ?_
                                                                                                                                                              refine w_topi (y := 112) (by decide) ?_
                                                                                                                                                              refine lv_bipush (v := 32) S.1 S.2.1 dX7_word_32 (by decide) ?_
                                                                                                                                                              refine lv_icmp_eq (tgt := 43) S.1 S.2.1 dX7_word_34 (by decide) (fun c34_55 => ?_) (fun c34_55 => ?_)
                                                                                                                                                              · exact absurd c34_55 (by decide)
                                                                                                                                                              · refine lv_iinc (v := 4) (lv' := [(5, .int 4), (4, .int 52), (3, .int 11), (0, .ref mO), (1, .int lo), (2, .int hi)]) S.1 S.2.1 dX7_word_37 hl (k := 0) rfl (by decide) (by decide) rfl (fun ls hl => ?_)
                                                                                                                                                                refine lv_goto (tgt := 22) S.1 S.2.1 dX7_word_40 (by decide) ?_
                                                                                                                                                                refine lv_aload_n S.1 S.2.1 dX7_word_22 rfl (lv_at hl 3 rfl) ?_
                                                                                                                                                                refine w_get S C w (CC := RX7) (T := TX7) (N := 16) (ref := "GateSumsModel") im_X7_word_X7 0 rfl rfl 7 (by decide) (List.mem_of_getElem? (i := 1) rfl) (fun _ h => h) rfl dX7_word_23 ?_
                                                                                                                                                                refine lv_iload S.1 S.2.1 dX7_word_26 (lv_at hl 1 rfl) ?_
                                                                                                                                                                refine lv_iload S.1 S.2.1 dX7_word_28 (lv_at hl 0 rfl) ?_
                                                                                                                                                                refine lv_iadd S.1 S.2.1 dX7_word_30 ?_
                                                                                                                                                                refine w_topi (y := 56) (by decide) ?_
                                                                                                                                                                refine w_cald S C w 2 rfl (by unfold vp_in; decide) dX7_word_31 ?_
                                                                                                                                                                refine w_topi (y := 108) (by decide) ?_
                                                                                                                                                                refine lv_bipush (v := 32) S.1 S.2.1 dX7_word_32 (by decide) ?_
                                                                                                                                                                refine lv_icmp_eq (tgt := 43) S.1 S.2.1 dX7_word_34 (by decide) (fun c34_56 => ?_) (fun c34_56 => ?_)
                                                                                                                                                                · exact absurd c34_56 (by decide)
                                                                                                                                                                · refine lv_iinc (v := 5) (lv' := [(5, .int 5), (4, .int 52), (3, .int 11), (0, .ref mO), (1, .int lo), (2, .int hi)]) S.1 S.2.1 dX7_word_37 hl (k := 0) rfl (by decide) (by decide) rfl (fun ls hl => ?_)
                                                                                                                                                                  refine lv_goto (tgt := 22) S.1 S.2.1 dX7_word_40 (by decide) ?_
                                                                                                                                                                  refine lv_aload_n S.1 S.2.1 dX7_word_22 rfl (lv_at hl 3 rfl) ?_
                                                                                                                                                                  refine w_get S C w (CC := RX7) (T := TX7) (N := 16) (ref := "GateSumsModel") im_X7_word_X7 0 rfl rfl 7 (by decide) (List.mem_of_getElem? (i := 1) rfl) (fun _ h => h) rfl dX7_word_23 ?_
                                                                                                                                                                  refine lv_iload S.1 S.2.1 dX7_word_26 (lv_at hl 1 rfl) ?_
                                                                                                                                                                  refine lv_iload S.1 S.2.1 dX7_word_28 (lv_at hl 0 rfl) ?_
                                                                                                                                                                  refine lv_iadd S.1 S.2.1 dX7_word_30 ?_
                                                                                                                                                                  refine w_topi (y := 57) (by decide) ?_
                                                                                                                                                                  refine w_cald S C w 2 rfl (by unfold vp_in; decide) dX7_word_31 ?_
                                                                                                                                                                  refine w_topi (y := 101) (by decide) ?_
                                                                                                                                                                  refine lv_bipush (v := 32) S.1 S.2.1 dX7_word_32 (by decide) ?_
                                                                                                                                                                  refine lv_icmp_eq (tgt := 43) S.1 S.2.1 dX7_word_34 (by decide) (fun c34_57 => ?_) (fun c34_57 => ?_)
                                                                                                                                                                  · exact absurd c34_57 (by decide)
                                                                                                                                                                  · refine lv_iinc (v := 6) (lv' := [(5, .int 6), (4, .int 52), (3, .int 11), (0, .ref mO), (1, .int lo), (2, .int hi)]) S.1 S.2.1 dX7_word_37 hl (k := 0) rfl (by decide) (by decide) rfl (fun ls hl => ?_)
                                                                                                                                                                    refine lv_goto (tgt := 22) S.1 S.2.1 dX7_word_40 (by decide) ?_
                                                                                                                                                                    refine lv_aload_n S.1 S.2.1 dX7_word_22 rfl (lv_at hl 3 rfl) ?_
                                                                                                                                                                    refine w_get S C w (CC := RX7) (T := TX7) (N := 16) (ref := "GateSumsModel") im_X7_word_X7 0 rfl rfl 7 (by decide) (List.mem_of_getElem? (i := 1) rfl) (fun _ h => h) rfl dX7_word_23 ?_
                                                                                                                                                                    refine lv_iload S.1 S.2.1 dX7_word_26 (lv_at hl 1 rfl) ?_
                                                                                                                                                                    refine lv_iload S.1 S.2.1 dX7_word_28 (lv_at hl 0 rfl) ?_
                                                                                                                                                                    refine lv_iadd S.1 S.2.1 dX7_word_30 ?_
                                                                                                                                                                    refine w_topi (y := 58) (by decide) ?_
                                                                                                                                                                    refine w_cald S C w 2 rfl (by unfold vp_in; decide) dX7_word_31 ?_
                                                                                                                                                                    refine w_topi (y := 32) (by decide) ?_
                                                                                                                                                                    refine lv_bipush (v := 32) S.1 S.2.1 dX7_word_32 (by decide) ?_
                                                                                                                                                                    refine lv_icmp_eq (tgt := 43) S.1 S.2.1 dX7_word_34 (by decide) (fun c34_58 => ?_) (fun c34_58 => ?_)
                                                                                                                                                                    · refine w_join0 78 [] (True) (fun hz78 => ?_) (fun J78 => ?_)
                                                                                                                                                                      · refine lv_iinc (v := 12) (lv' := [(3, .int 12), (5, .int 6), (4, .int 52), (0, .ref mO), (1, .int lo), (2, .int hi)]) S.1 S.2.1 dX7_word_78 hl (k := 2) rfl (by decide) (by decide) rfl (fun ls hl => ?_)
                                                                                                                                                                        refine lv_iload S.1 S.2.1 dX7_word_81 (lv_at hl 2 rfl) ?_
                                                                                                                                                                        refine lv_iload S.1 S.2.1 dX7_word_83 (lv_at hl 1 rfl) ?_
                                                                                                                                                                        refine lv_iconst (v := 1) S.1 S.2.1 dX7_word_85 (by decide) ?_
                                                                                                                                                                        refine lv_iadd S.1 S.2.1 dX7_word_86 ?_
                                                                                                                                                                        refine w_topi (y := 7) (by decide) ?_
                                                                                                                                                                        refine lv_iadd S.1 S.2.1 dX7_word_87 ?_
                                                                                                                                                                        refine w_topi (y := 59) (by decide) ?_
                                                                                                                                                                        refine lv_istore (lv' := [(4, .int 59), (3, .int 12), (5, .int 6), (0, .ref mO), (1, .int lo), (2, .int hi)]) S.1 S.2.1 dX7_word_88 hl (by decide) rfl (fun ls hl => ?_)
                                                                                                                                                                        refine lv_goto (tgt := 9) S.1 S.2.1 dX7_word_90 (by decide) ?_
                                                                                                                                                                        refine lv_iload S.1 S.2.1 dX7_word_9 (lv_at hl 0 rfl) ?_
                                                                                                                                                                        refine lv_aload_n S.1 S.2.1 dX7_word_11 rfl (lv_at hl 3 rfl) ?_
                                                                                                                                                                        refine w_get S C w (CC := RX7) (T := TX7) (N := 16) (ref := "GateSumsModel") im_X7_word_X7 0 rfl rfl 7 (by decide) (List.mem_of_getElem? (i := 1) rfl) (fun _ h => h) rfl dX7_word_12 ?_
                                                                                                                                                                        refine w_alen S C w 2 1 rfl rfl (v := 73) rfl dX7_word_15 ?_
                                                                                                                                                                        refine lv_icmp_ge (tgt := 93) S.1 S.2.1 dX7_word_16 (by decide) (fun c16_12 => ?_) (fun c16_12 => ?_)
                                                                                                                                                                        · exact absurd c16_12 (by decide)
                                                                                                                                                                        · refine lv_iconst (v := 0) S.1 S.2.1 dX7_word_19 (by decide) ?_
                                                                                                                                                                          refine lv_istore (lv' := [(5, .int 0), (4, .int 59), (3, .int 12), (0, .ref mO), (1, .int lo), (2, .int hi)]) S.1 S.2.1 dX7_word_20 hl (by decide) rfl (fun ls hl => ?_)
                                                                                                                                                                          refine lv_aload_n S.1 S.2.1 dX7_word_22 rfl (lv_at hl 3 rfl) ?_
                                                                                                                                                                          refine w_get S C w (CC := RX7) (T := TX7) (N := 16) (ref := "GateSumsModel") im_X7_word_X7 0 rfl rfl 7 (by decide) (List.mem_of_getElem? (i := 1) rfl) (fun _ h => h) rfl dX7_word_23 ?_
                                                                                                                                                                          refine lv_iload S.1 S.2.1 dX7_word_26 (lv_at hl 1 rfl) ?_
                                                                                                                                                                          refine lv_iload S.1 S.2.1 dX7_word_28 (lv_at hl 0 rfl) ?_
                                                                                                                                                                          refine lv_iadd S.1 S.2.1 dX7_word_30 ?_
                                                                                                                                                                          refine w_topi (y := 59) (by decide) ?_
                                                                                                                                                                          refine w_cald S C w 2 rfl (by unfold vp_in; decide) dX7_word_31 ?_
                                                                                                                                                                          refine w_topi (y := 105) (by decide) ?_
                                                                                                                                                                          refine lv_bipush (v := 32) S.1 S.2.1 dX7_word_32 (by decide) ?_
                                                                                                                                                                          refine lv_icmp_eq (tgt := 43) S.1 S.2.1 dX7_word_34 (by decide) (fun c34_59 => ?_) (fun c34_59 => ?_)
                                                                                                                                                                          · exact absurd c34_59 (by decide)
                                                                                                                                                                          · refine lv_iinc (v := 1) (lv' := [(5, .int 1), (4, .int 59), (3, .int 12), (0, .ref mO), (1, .int lo), (2, .int hi)]) S.1 S.2.1 dX7_word_37 hl (k := 0) rfl (by decide) (by decide) rfl (fun ls hl => ?_)
                                                                                                                                                                            refine lv_goto (tgt := 22) S.1 S.2.1 dX7_word_40 (by decide) ?_
                                                                                                                                                                            refine lv_aload_n S.1 S.2.1 dX7_word_22 rfl (lv_at hl 3 rfl) ?_
                                                                                                                                                                            refine w_get S C w (CC := RX7) (T := TX7) (N := 16) (ref := "GateSumsModel") im_X7_word_X7 0 rfl rfl 7 (by decide) (List.mem_of_getElem? (i := 1) rfl) (fun _ h => h) rfl dX7_word_23 ?_
                                                                                                                                                                            refine lv_iload S.1 S.2.1 dX7_word_26 (lv_at hl 1 rfl) ?_
                                                                                                                                                                            refine lv_iload S.1 S.2.1 dX7_word_28 (lv_at hl 0 rfl) ?_
                                                                                                                                                                            refine lv_iadd S.1 S.2.1 dX7_word_30 ?_
                                                                                                                                                                            refine w_topi (y := 60) (by decide) ?_
                                                                                                                                                                            refine w_cald S C w 2 rfl (by unfold vp_in; decide) dX7_word_31 ?_
                                                                                                                                                                            refine w_topi (y := 110) (by decide) ?_
                                                                                                                                                                            refine lv_bipush (v := 32) S.1 S.2.1 dX7_word_32 (by decide) ?_
                                                                                                                                                                            refine lv_icmp_eq (tgt := 43) S.1 S.2.1 dX7_word_34 (by decide) (fun c34_60 => ?_) (fun c34_60 => ?_)
                                                                                                                                                                            · exact absurd c34_60 (by decide)
                                                                                                                                                                            · refine lv_iinc (v := 2) (lv' := [(5, .int 2), (4, .int 59), (3, .int 12), (0, .ref mO), (1, .int lo), (2, .int hi)]) S.1 S.2.1 dX7_word_37 hl (k := 0) rfl (by decide) (by decide) rfl (fun ls hl => ?_)
                                                                                                                                                                              refine lv_goto (tgt := 22) S.1 S.2.1 dX7_word_40 (by decide) ?_
                                                                                                                                                                              refine lv_aload_n S.1 S.2.1 dX7_word_22 rfl (lv_at hl 3 rfl) ?_
                                                                                                                                                                              refine w_get S C w (CC := RX7) (T := TX7) (N := 16) (ref := "GateSumsModel") im_X7_word_X7 0 rfl rfl 7 (by decide) (List.mem_of_getElem? (i := 1) rfl) (fun _ h => h) rfl dX7_word_23 ?_
                                                                                                                                                                              refine lv_iload S.1 S.2.1 dX7_word_26 (lv_at hl 1 rfl) ?_
                                                                                                                                                                              refine lv_iload S.1 S.2.1 dX7_word_28 (lv_at hl 0 rfl) ?_
                                                                                                                                                                              refine lv_iadd S.1 S.2.1 dX7_word_30 ?_
                                                                                                                                                                              refine w_topi (y := 61) (by decide) ?_
                                                                                                                                                                              refine w_cald S C w 2 rfl (by unfold vp_in; decide) dX7_word_31 ?_
                                                                                                                                                                              refine w_topi (y := 32) (by decide) ?_
                                                                                                                                                                              refine lv_bipush (v := 32) S.1 S.2.1 dX7_word_32 (by decide) ?_
                                                                                                                                                                              refine lv_icmp_eq (tgt := 43) S.1 S.2.1 dX7_word_34 (by decide) (fun c34_61 => ?_) (fun c34_61 => ?_)
                                                                                                                                                                              · refine w_join0 78 [] (True) (fun hz78 => ?_) (fun J78 => ?_)
                                                                                                                                                                                · refine lv_iinc (v := 13) (lv' := [(3, .int 13), (5, .int 2), (4, .int 59), (0, .ref mO), (1, .int lo), (2, .int hi)]) S.1 S.2.1 dX7_word_78 hl (k := 2) rfl (by decide) (by decide) rfl (fun ls hl => ?_)
                                                                                                                                                                                  refine lv_iload S.1 S.2.1 dX7_word_81 (lv_at hl 2 rfl) ?_
                                                                                                                                                                                  refine lv_iload S.1 S.2.1 dX7_word_83 (lv_at hl 1 rfl) ?_
                                                                                                                                                                                  refine lv_iconst (v := 1) S.1 S.2.1 dX7_word_85 (by decide) ?_
                                                                                                                                                                                  refine lv_iadd S.1 S.2.1 dX7_word_86 ?_
                                                                                                                                                                                  refine w_topi (y := 3) (by decide) ?_
                                                                                                                                                                                  refine lv_iadd S.1 S.2.1 dX7_word_87 ?_
                                                                                                                                                                                  refine w_topi (y := 62) (by decide) ?_
                                                                                                                                                                                  refine lv_istore (lv' := [(4, .int 62), (3, .int 13), (5, .int 2), (0, .ref mO), (1, .int lo), (2, .int hi)]) S.1 S.2.1 dX7_word_88 hl (by decide) rfl (fun ls hl => ?_)
                                                                                                                                                                                  refine lv_goto (tgt := 9) S.1 S.2.1 dX7_word_90 (by decide) ?_
                                                                                                                                                                                  refine lv_iload S.1 S.2.1 dX7_word_9 (lv_at hl 0 rfl) ?_
                                                                                                                                                                                  refine lv_aload_n S.1 S.2.1 dX7_word_11 rfl (lv_at hl 3 rfl) ?_
                                                                                                                                                                                  refine w_get S C w (CC := RX7) (T := TX7) (N := 16) (ref := "GateSumsModel") im_X7_word_X7 0 rfl rfl 7 (by decide) (List.mem_of_getElem? (i := 1) rfl) (fun _ h => h) rfl dX7_word_12 ?_
                                                                                                                                                                                  refine w_alen S C w 2 1 rfl rfl (v := 73) rfl dX7_word_15 ?_
                                                                                                                                                                                  refine lv_icmp_ge (tgt := 93) S.1 S.2.1 dX7_word_16 (by decide) (fun c16_13 => ?_) (fun c16_13 => ?_)
                                                                                                                                                                                  · exact absurd c16_13 (by decide)
                                                                                                                                                                                  · refine lv_iconst (v := 0) S.1 S.2.1 dX7_word_19 (by decide) ?_
                                                                                                                                                                                    refine lv_istore (lv' := [(5, .int 0), (4, .int 62), (3, .int 13), (0, .ref mO), (1, .int lo), (2, .int hi)]) S.1 S.2.1 dX7_word_20 hl (by decide) rfl (fun ls hl => ?_)
                                                                                                                                                                                    refine lv_aload_n S.1 S.2.1 dX7_word_22 rfl (lv_at hl 3 rfl) ?_
                                                                                                                                                                                    refine w_get S C w (CC := RX7) (T := TX7) (N := 16) (ref := "GateSumsModel") im_X7_word_X7 0 rfl rfl 7 (by decide) (List.mem_of_getElem? (i := 1) rfl) (fun _ h => h) rfl dX7_word_23 ?_
                                                                                                                                                                                    refine lv_iload S.1 S.2.1 dX7_word_26 (lv_at hl 1 rfl) ?_
                                                                                                                                                                                    refine lv_iload S.1 S.2.1 dX7_word_28 (lv_at hl 0 rfl) ?_
                                                                                                                                                                                    refine lv_iadd S.1 S.2.1 dX7_word_30 ?_
                                                                                                                                                                                    refine w_topi (y := 62) (by decide) ?_
                                                                                                                                                                                    refine w_cald S C w 2 rfl (by unfold vp_in; decide) dX7_word_31 ?_
                                                                                                                                                                                    refine w_topi (y := 103) (by decide) ?_
                                                                                                                                                                                    refine lv_bipush (v := 32) S.1 S.2.1 dX7_word_32 (by decide) ?_
                                                                                                                                                                                    refine lv_icmp_eq (tgt := 43) S.1 S.2.1 dX7_word_34 (by decide) (fun c34_62 => ?_) (fun c34_62 => ?_)
                                                                                                                                                                                    · exact absurd c34_62 (by decide)
                                                                                                                                                                                    · refine lv_iinc (v := 1) (lv' := [(5, .int 1), (4, .int 62), (3, .int 13), (0, .ref mO), (1, .int lo), (2, .int hi)]) S.1 S.2.1 dX7_word_37 hl (k := 0) rfl (by decide) (by decide) rfl (fun ls hl => ?_)
                                                                                                                                                                                      refine lv_goto (tgt := 22) S.1 S.2.1 dX7_word_40 (by decide) ?_
                                                                                                                                                                                      refine lv_aload_n S.1 S.2.1 dX7_word_22 rfl (lv_at hl 3 rfl) ?_
                                                                                                                                                                                      refine w_get S C w (CC := RX7) (T := TX7) (N := 16) (ref := "GateSumsModel") im_X7_word_X7 0 rfl rfl 7 (by decide) (List.mem_of_getElem? (i := 1) rfl) (fun _ h => h) rfl dX7_word_23 ?_
                                                                                                                                                                                      refine lv_iload S.1 S.2.1 dX7_word_26 (lv_at hl 1 rfl) ?_
                                                                                                                                                                                      refine lv_iload S.1 S.2.1 dX7_word_28 (lv_at hl 0 rfl) ?_
                                                                                                                                                                                      refine lv_iadd S.1 S.2.1 dX7_word_30 ?_
                                                                                                                                                                                      refine w_topi (y := 63) (by decide) ?_
                                                                                                                                                                                      refine w_cald S C w 2 rfl (by unfold vp_in; decide) dX7_word_31 ?_
                                                                                                                                                                                      refine w_topi (y := 32) (by decide) ?_
                                                                                                                                                                                      refine lv_bipush (v := 32) S.1 S.2.1 dX7_word_32 (by decide) ?_
                                                                                                                                                                                      refine lv_icmp_eq (tgt := 43) S.1 S.2.1 dX7_word_34 (by decide) (fun c34_63 => ?_) (fun c34_63 => ?_)
                                                                                                                                                                                      · refine w_join0 78 [] (True) (fun hz78 => ?_) (fun J78 => ?_)
                                                                                                                                                                                        · refine lv_iinc (v := 14) (lv' := [(3, .int 14), (5, .int 1), (4, .int 62), (0, .ref mO), (1, .int lo), (2, .int hi)]) S.1 S.2.1 dX7_word_78 hl (k := 2) rfl (by decide) (by decide) rfl (fun ls hl => ?_)
                                                                                                                                                                                          refine lv_iload S.1 S.2.1 dX7_word_81 (lv_at hl 2 rfl) ?_
                                                                                                                                                                                          refine lv_iload S.1 S.2.1 dX7_word_83 (lv_at hl 1 rfl) ?_
                                                                                                                                                                                          refine lv_iconst (v := 1) S.1 S.2.1 dX7_word_85 (by decide) ?_
                                                                                                                                                                                          refine lv_iadd S.1 S.2.1 dX7_word_86 ?_
                                                                                                                                                                                          refine w_topi (y := 2) (by decide) ?_
                                                                                                                                                                                          refine lv_iadd S.1 S.2.1 dX7_word_87 ?_
                                                                                                                                                                                          refine w_topi (y := 64) (by decide) ?_
                                                                                                                                                                                          refine lv_istore (lv' := [(4, .int 64), (3, .int 14), (5, .int 1), (0, .ref mO), (1, .int lo), (2, .int hi)]) S.1 S.2.1 dX7_word_88 hl (by decide) rfl (fun ls hl => ?_)
                                                                                                                                                                                          refine lv_goto (tgt := 9) S.1 S.2.1 dX7_word_90 (by decide) ?_
                                                                                                                                                                                          refine lv_iload S.1 S.2.1 dX7_word_9 (lv_at hl 0 rfl) ?_
                                                                                                                                                                                          refine lv_aload_n S.1 S.2.1 dX7_word_11 rfl (lv_at hl 3 rfl) ?_
                                                                                                                                                                                          refine w_get S C w (CC := RX7) (T := TX7) (N := 16) (ref := "GateSumsModel") im_X7_word_X7 0 rfl rfl 7 (by decide) (List.mem_of_getElem? (i := 1) rfl) (fun _ h => h) rfl dX7_word_12 ?_
                                                                                                                                                                                          refine w_alen S C w 2 1 rfl rfl (v := 73) rfl dX7_word_15 ?_
                                                                                                                                                                                          refine lv_icmp_ge (tgt := 93) S.1 S.2.1 dX7_word_16 (by decide) (fun c16_14 => ?_) (fun c16_14 => ?_)
                                                                                                                                                                                          · exact absurd c16_14 (by decide)
                                                                                                                                                                                          · refine lv_iconst (v := 0) S.1 S.2.1 dX7_word_19 (by decide) ?_
                                                                                                                                                                                            refine lv_istore (lv' := [(5, .int 0), (4, .int 64), (3, .int 14), (0, .ref mO), (1, .int lo), (2, .int hi)]) S.1 S.2.1 dX7_word_20 hl (by decide) rfl (fun ls hl => ?_)
                                                                                                                                                                                            refine lv_aload_n S.1 S.2.1 dX7_word_22 rfl (lv_at hl 3 rfl) ?_
                                                                                                                                                                                            refine w_get S C w (CC := RX7) (T := TX7) (N := 16) (ref := "GateSumsModel") im_X7_word_X7 0 rfl rfl 7 (by decide) (List.mem_of_getElem? (i := 1) rfl) (fun _ h => h) rfl dX7_word_23 ?_
                                                                                                                                                                                            refine lv_iload S.1 S.2.1 dX7_word_26 (lv_at hl 1 rfl) ?_
                                                                                                                                                                                            refine lv_iload S.1 S.2.1 dX7_word_28 (lv_at hl 0 rfl) ?_
                                                                                                                                                                                            refine lv_iadd S.1 S.2.1 dX7_word_30 ?_
                                                                                                                                                                                            refine w_topi (y := 64) (by decide) ?_
                                                                                                                                                                                            refine w_cald S C w 2 rfl (by unfold vp_in; decide) dX7_word_31 ?_
                                                                                                                                                                                            refine w_topi (y := 111) (by decide) ?_
                                                                                                                                                                                            refine lv_bipush (v := 32) S.1 S.2.1 dX7_word_32 (by decide) ?_
                                                                                                                                                                                            refine lv_icmp_eq (tgt := 43) S.1 S.2.1 dX7_word_34 (by decide) (fun c34_64 => ?_) (fun c34_64 => ?_)
                                                                                                                                                                                            · exact absurd c34_64 (by decide)
                                                                                                                                                                                            · refine lv_iinc (v := 1) (lv' := [(5, .int 1), (4, .int 64), (3, .int 14), (0, .ref mO), (1, .int lo), (2, .int hi)]) S.1 S.2.1 dX7_word_37 hl (k := 0) rfl (by decide) (by decide) rfl (fun ls hl => ?_)
                                                                                                                                                                                              refine lv_goto (tgt := 22) S.1 S.2.1 dX7_word_40 (by decide) ?_
                                                                                                                                                                                              refine lv_aload_n S.1 S.2.1 dX7_word_22 rfl (lv_at hl 3 rfl) ?_
                                                                                                                                                                                              refine w_get S C w (CC := RX7) (T := TX7) (N := 16) (ref := "GateSumsModel") im_X7_word_X7 0 rfl rfl 7 (by decide) (List.mem_of_getElem? (i := 1) rfl) (fun _ h => h) rfl dX7_word_23 ?_
                                                                                                                                                                                              refine lv_iload S.1 S.2.1 dX7_word_26 (lv_at hl 1 rfl) ?_
                                                                                                                                                                                              refine lv_iload S.1 S.2.1 dX7_word_28 (lv_at hl 0 rfl) ?_
                                                                                                                                                                                              refine lv_iadd S.1 S.2.1 dX7_word_30 ?_
                                                                                                                                                                                              refine w_topi (y := 65) (by decide) ?_
                                                                                                                                                                                              refine w_cald S C w 2 rfl (by unfold vp_in; decide) dX7_word_31 ?_
                                                                                                                                                                                              refine w_topi (y := 117) (by decide) ?_
                                                                                                                                                                                              refine lv_bipush (v := 32) S.1 S.2.1 dX7_word_32 (by decide) ?_
                                                                                                                                                                                              refine lv_icmp_eq (tgt := 43) S.1 S.2.1 dX7_word_34 (by decide) (fun c34_65 => ?_) (fun c34_65 => ?_)
                                                                                                                                                                                              · exact absurd c34_65 (by decide)
                                                                                                                                                                                              · refine lv_iinc (v := 2) (lv' := [(5, .int 2), (4, .int 64), (3, .int 14), (0, .ref mO), (1, .int lo), (2, .int hi)]) S.1 S.2.1 dX7_word_37 hl (k := 0) rfl (by decide) (by decide) rfl (fun ls hl => ?_)
                                                                                                                                                                                                refine lv_goto (tgt := 22) S.1 S.2.1 dX7_word_40 (by decide) ?_
                                                                                                                                                                                                refine lv_aload_n S.1 S.2.1 dX7_word_22 rfl (lv_at hl 3 rfl) ?_
                                                                                                                                                                                                refine w_get S C w (CC := RX7) (T := TX7) (N := 16) (ref := "GateSumsModel") im_X7_word_X7 0 rfl rfl 7 (by decide) (List.mem_of_getElem? (i := 1) rfl) (fun _ h => h) rfl dX7_word_23 ?_
                                                                                                                                                                                                refine lv_iload S.1 S.2.1 dX7_word_26 (lv_at hl 1 rfl) ?_
                                                                                                                                                                                                refine lv_iload S.1 S.2.1 dX7_word_28 (lv_at hl 0 rfl) ?_
                                                                                                                                                                                                refine lv_iadd S.1 S.2.1 dX7_word_30 ?_
                                                                                                                                                                                                refine w_topi (y := 66) (by decide) ?_
                                                                                                                                                                                                refine w_cald S C w 2 rfl (by unfold vp_in; decide) dX7_word_31 ?_
                                                                                                                                                                                                refine w_topi (y := 116) (by decide) ?_
                                                                                                                                                                                                refine lv_bipush (v := 32) S.1 S.2.1 dX7_word_32 (by decide) ?_
                                                                                                                                                                                                refine lv_icmp_eq (tgt := 43) S.1 S.2.1 dX7_word_34 (by decide) (fun c34_66 => ?_) (fun c34_66 => ?_)
                                                                                                                                                                                                · exact absurd c34_66 (by decide)
                                                                                                                                                                                                · refine lv_iinc (v := 3) (lv' := [(5, .int 3), (4, .int 64), (3, .int 14), (0, .ref mO), (1, .int lo), (2, .int hi)]) S.1 S.2.1 dX7_word_37 hl (k := 0) rfl (by decide) (by decide) rfl (fun ls hl => ?_)
                                                                                                                                                                                                  refine lv_goto (tgt := 22) S.1 S.2.1 dX7_word_40 (by decide) ?_
                                                                                                                                                                                                  refine lv_aload_n S.1 S.2.1 dX7_word_22 rfl (lv_at hl 3 rfl) ?_
                                                                                                                                                                                                  refine w_get S C w (CC := RX7) (T := TX7) (N := 16) (ref := "GateSumsModel") im_X7_word_X7 0 rfl rfl 7 (by decide) (List.mem_of_getElem? (i := 1) rfl) (fun _ h => h) rfl dX7_word_23 ?_
                                                                                                                                                                                                  refine lv_iload S.1 S.2.1 dX7_word_26 (lv_at hl 1 rfl) ?_
                                                                                                                                                                                                  refine lv_iload S.1 S.2.1 dX7_word_28 (lv_at hl 0 rfl) ?_
                                                                                                                                                                                                  refine lv_iadd S.1 S.2.1 dX7_word_30 ?_
                                                                                                                                                                                                  refine w_topi (y := 67) (by decide) ?_
                                                                                                                                                                                                  refine w_cald S C w 2 rfl (by unfold vp_in; decide) dX7_word_31 ?_
                                                                                                                                                                                                  refine w_topi (y := 32) (by decide) ?_
                                                                                                                                                                                                  refine lv_bipush (v := 32) S.1 S.2.1 dX7_word_32 (by decide) ?_
                                                                                                                                                                                                  refine lv_icmp_eq (tgt := 43) S.1 S.2.1 dX7_word_34 (by decide) (fun c34_67 => ?_) (fun c34_67 => ?_)
                                                                                                                                                                                                  · refine w_join0 78 [] (True) (fun hz78 => ?_) (fun J78 => ?_)
                                                                                                                                                                                                    · refine lv_iinc (v := 15) (lv' := [(3, .int 15), (5, .int 3), (4, .int 64), (0, .ref mO), (1, .int lo), (2, .int hi)]) S.1 S.2.1 dX7_word_78 hl (k := 2) rfl (by decide) (by decide) rfl (fun ls hl => ?_)
                                                                                                                                                                                                      refine lv_iload S.1 S.2.1 dX7_word_81 (lv_at hl 2 rfl) ?_
                                                                                                                                                                                                      refine lv_iload S.1 S.2.1 dX7_word_83 (lv_at hl 1 rfl) ?_
                                                                                                                                                                                                      refine lv_iconst (v := 1) S.1 S.2.1 dX7_word_85 (by decide) ?_
                                                                                                                                                                                                      refine lv_iadd S.1 S.2.1 dX7_word_86 ?_
                                                                                                                                                                                                      refine w_topi (y := 4) (by decide) ?_
                                                                                                                                                                                                      refine lv_iadd S.1 S.2.1 dX7_word_87 ?_
                                                                                                                                                                                                      refine w_topi (y := 68) (by decide) ?_
                                                                                                                                                                                                      refine lv_istore (lv' := [(4, .int 68), (3, .int 15), (5, .int 3), (0, .ref mO), (1, .int lo), (2, .int hi)]) S.1 S.2.1 dX7_word_88 hl (by decide) rfl (fun ls hl => ?_)
                                                                                                                                                                                                      refine lv_goto (tgt := 9) S.1 S.2.1 dX7_word_90 (by decide) ?_
                                                                                                                                                                                                      refine lv_iload S.1 S.2.1 dX7_word_9 (lv_at hl 0 rfl) ?_
                                                                                                                                                                                                      refine lv_aload_n S.1 S.2.1 dX7_word_11 rfl (lv_at hl 3 rfl) ?_
                                                                                                                                                                                                      refine w_get S C w (CC := RX7) (T := TX7) (N := 16) (ref := "GateSumsModel") im_X7_word_X7 0 rfl rfl 7 (by decide) (List.mem_of_getElem? (i := 1) rfl) (fun _ h => h) rfl dX7_word_12 ?_
                                                                                                                                                                                                      refine w_alen S C w 2 1 rfl rfl (v := 73) rfl dX7_word_15 ?_
                                                                                                                                                                                                      refine lv_icmp_ge (tgt := 93) S.1 S.2.1 dX7_word_16 (by decide) (fun c16_15 => ?_) (fun c16_15 => ?_)
                                                                                                                                                                                                      · exact absurd c16_15 (by decide)
                                                                                                                                                                                                      · refine lv_iconst (v := 0) S.1 S.2.1 dX7_word_19 (by decide) ?_
                                                                                                                                                                                                        refine lv_istore (lv' := [(5, .int 0), (4, .int 68), (3, .int 15), (0, .ref mO), (1, .int lo), (2, .int hi)]) S.1 S.2.1 dX7_word_20 hl (by decide) rfl (fun ls hl => ?_)
                                                                                                                                                                                                        refine lv_aload_n S.1 S.2.1 dX7_word_22 rfl (lv_at hl 3 rfl) ?_
                                                                                                                                                                                                        refine w_get S C w (CC := RX7) (T := TX7) (N := 16) (ref := "GateSumsModel") im_X7_word_X7 0 rfl rfl 7 (by decide) (List.mem_of_getElem? (i := 1) rfl) (fun _ h => h) rfl dX7_word_23 ?_
                                                                                                                                                                                                        refine lv_iload S.1 S.2.1 dX7_word_26 (lv_at hl 1 rfl) ?_
                                                                                                                                                                                                        refine lv_iload S.1 S.2.1 dX7_word_28 (lv_at hl 0 rfl) ?_
                                                                                                                                                                                                        refine lv_iadd S.1 S.2.1 dX7_word_30 ?_
                                                                                                                                                                                                        refine w_topi (y := 68) (by decide) ?_
                                                                                                                                                                                                        refine w_cald S C w 2 rfl (by unfold vp_in; decide) dX7_word_31 ?_
                                                                                                                                                                                                        refine w_topi (y := 116) (by decide) ?_
                                                                                                                                                                                                        refine lv_bipush (v := 32) S.1 S.2.1 dX7_word_32 (by decide) ?_
                                                                                                                                                                                                        refine lv_icmp_eq (tgt := 43) S.1 S.2.1 dX7_word_34 (by decide) (fun c34_68 => ?_) (fun c34_68 => ?_)
                                                                                                                                                                                                        · exact absurd c34_68 (by decide)
                                                                                                                                                                                                        · refine lv_iinc (v := 1) (lv' := [(5, .int 1), (4, .int 68), (3, .int 15), (0, .ref mO), (1, .int lo), (2, .int hi)]) S.1 S.2.1 dX7_word_37 hl (k := 0) rfl (by decide) (by decide) rfl (fun ls hl => ?_)
                                                                                                                                                                                                          refine lv_goto (tgt := 22) S.1 S.2.1 dX7_word_40 (by decide) ?_
                                                                                                                                                                                                          refine lv_aload_n S.1 S.2.1 dX7_word_22 rfl (lv_at hl 3 rfl) ?_
                                                                                                                                                                                                          refine w_get S C w (CC := RX7) (T := TX7) (N := 16) (ref := "GateSumsModel") im_X7_word_X7 0 rfl rfl 7 (by decide) (List.mem_of_getElem? (i := 1) rfl) (fun _ h => h) rfl dX7_word_23 ?_
                                                                                                                                                                                                          refine lv_iload S.1 S.2.1 dX7_word_26 (lv_at hl 1 rfl) ?_
                                                                                                                                                                                                          refine lv_iload S.1 S.2.1 dX7_word_28 (lv_at hl 0 rfl) ?_
                                                                                                                                                                                                          refine lv_iadd S.1 S.2.1 dX7_word_30 ?_
                                                                                                                                                                                                          refine w_topi (y := 69) (by decide) ?_
                                                                                                                                                                                                          refine w_cald S C w 2 rfl (by unfold vp_in; decide) dX7_word_31 ?_
                                                                                                                                                                                                          refine w_topi (y := 97) (by decide) ?_
                                                                                                                                                                                                          refine lv_bipush (v := 32) S.1 S.2.1 dX7_word_32 (by decide) ?_
                                                                                                                                                                                                          refine lv_icmp_eq (tgt := 43) S.1 S.2.1 dX7_word_34 (by decide) (fun c34_69 => ?_) (fun c34_69 => ?_)
                                                                                                                                                                                                          · exact absurd c34_69 (by decide)
                                                                                                                                                                                                          · refine lv_iinc (v := 2) (lv' := [(5, .int 2), (4, .int 68), (3, .int 15), (0, .ref mO), (1, .int lo), (2, .int hi)]) S.1 S.2.1 dX7_word_37 hl (k := 0) rfl (by decide) (by decide) rfl (fun ls hl => ?_)
                                                                                                                                                                                                            refine lv_goto (tgt := 22) S.1 S.2.1 dX7_word_40 (by decide) ?_
                                                                                                                                                                                                            refine lv_aload_n S.1 S.2.1 dX7_word_22 rfl (lv_at hl 3 rfl) ?_
                                                                                                                                                                                                            refine w_get S C w (CC := RX7) (T := TX7) (N := 16) (ref := "GateSumsModel") im_X7_word_X7 0 rfl rfl 7 (by decide) (List.mem_of_getElem? (i := 1) rfl) (fun _ h => h) rfl dX7_word_23 ?_
                                                                                                                                                                                                            refine lv_iload S.1 S.2.1 dX7_word_26 (lv_at hl 1 rfl) ?_
                                                                                                                                                                                                            refine lv_iload S.1 S.2.1 dX7_word_28 (lv_at hl 0 rfl) ?_
                                                                                                                                                                                                            refine lv_iadd S.1 S.2.1 dX7_word_30 ?_
                                                                                                                                                                                                            refine w_topi (y := 70) (by decide) ?_
                                                                                                                                                                                                            refine w_cald S C w 2 rfl (by unfold vp_in; decide) dX7_word_31 ?_
                                                                                                                                                                                                            refine w_topi (y := 115) (by decide) ?_
                                                                                                                                                                                                            refine lv_bipush (v := 32) S.1 S.2.1 dX7_word_32 (by decide) ?_
                                                                                                                                                                                                            refine lv_icmp_eq (tgt := 43) S.1 S.2.1 dX7_word_34 (by decide) (fun c34_70 => ?_) (fun c34_70 => ?_)
                                                                                                                                                                                                            · exact absurd c34_70 (by decide)
                                                                                                                                                                                                            · refine lv_iinc (v := 3) (lv' := [(5, .int 3), (4, .int 68), (3, .int 15), (0, .ref mO), (1, .int lo), (2, .int hi)]) S.1 S.2.1 dX7_word_37 hl (k := 0) rfl (by decide) (by decide) rfl (fun ls hl => ?_)
                                                                                                                                                                                                              refine lv_goto (tgt := 22) S.1 S.2.1 dX7_word_40 (by decide) ?_
                                                                                                                                                                                                              refine lv_aload_n S.1 S.2.1 dX7_word_22 rfl (lv_at hl 3 rfl) ?_
                                                                                                                                                                                                              refine w_get S C w (CC := RX7) (T := TX7) (N := 16) (ref := "GateSumsModel") im_X7_word_X7 0 rfl rfl 7 (by decide) (List.mem_of_getElem? (i := 1) rfl) (fun _ h => h) rfl dX7_word_23 ?_
                                                                                                                                                                                                              refine lv_iload S.1 S.2.1 dX7_word_26 (lv_at hl 1 rfl) ?_
                                                                                                                                                                                                              refine lv_iload S.1 S.2.1 dX7_word_28 (lv_at hl 0 rfl) ?_
                                                                                                                                                                                                              refine lv_iadd S.1 S.2.1 dX7_word_30 ?_
                                                                                                                                                                                                              refine w_topi (y := 71) (by decide) ?_
                                                                                                                                                                                                              refine w_cald S C w 2 rfl (by unfold vp_in; decide) dX7_word_31 ?_
                                                                                                                                                                                                              refine w_topi (y := 107) (by decide) ?_
                                                                                                                                                                                                              refine lv_bipush (v := 32) S.1 S.2.1 dX7_word_32 (by decide) ?_
                                                                                                                                                                                                              refine lv_icmp_eq (tgt := 43) S.1 S.2.1 dX7_word_34 (by decide) (fun c34_71 => ?_) (fun c34_71 => ?_)
                                                                                                                                                                                                              · exact absurd c34_71 (by decide)
                                                                                                                                                                                                              · refine lv_iinc (v := 4) (lv' := [(5, .int 4), (4, .int 68), (3, .int 15), (0, .ref mO), (1, .int lo), (2, .int hi)]) S.1 S.2.1 dX7_word_37 hl (k := 0) rfl (by decide) (by decide) rfl (fun ls hl => ?_)
                                                                                                                                                                                                                refine lv_goto (tgt := 22) S.1 S.2.1 dX7_word_40 (by decide) ?_
                                                                                                                                                                                                                refine lv_aload_n S.1 S.2.1 dX7_word_22 rfl (lv_at hl 3 rfl) ?_
                                                                                                                                                                                                                refine w_get S C w (CC := RX7) (T := TX7) (N := 16) (ref := "GateSumsModel") im_X7_word_X7 0 rfl rfl 7 (by decide) (List.mem_of_getElem? (i := 1) rfl) (fun _ h => h) rfl dX7_word_23 ?_
                                                                                                                                                                                                                refine lv_iload S.1 S.2.1 dX7_word_26 (lv_at hl 1 rfl) ?_
                                                                                                                                                                                                                refine lv_iload S.1 S.2.1 dX7_word_28 (lv_at hl 0 rfl) ?_
                                                                                                                                                                                                                refine lv_iadd S.1 S.2.1 dX7_word_30 ?_
                                                                                                                                                                                                                refine w_topi (y := 72) (by decide) ?_
                                                                                                                                                                                                                refine w_cald S C w 2 rfl (by unfold vp_in; decide) dX7_word_31 ?_
                                                                                                                                                                                                                refine w_topi (y := 32) (by decide) ?_
                                                                                                                                                                                                                refine lv_bipush (v := 32) S.1 S.2.1 dX7_word_32 (by decide) ?_
                                                                                                                                                                                                                refine lv_icmp_eq (tgt := 43) S.1 S.2.1 dX7_word_34 (by decide) (fun c34_72 => ?_) (fun c34_72 => ?_)
                                                                                                                                                                                                                · refine w_join0 78 [] (True) (fun hz78 => ?_) (fun J78 => ?_)
                                                                                                                                                                                                                  · refine lv_iinc (v := 16) (lv' := [(3, .int 16), (5, .int 4), (4, .int 68), (0, .ref mO), (1, .int lo), (2, .int hi)]) S.1 S.2.1 dX7_word_78 hl (k := 2) rfl (by decide) (by decide) rfl (fun ls hl => ?_)
                                                                                                                                                                                                                    refine lv_iload S.1 S.2.1 dX7_word_81 (lv_at hl 2 rfl) ?_
                                                                                                                                                                                                                    refine lv_iload S.1 S.2.1 dX7_word_83 (lv_at hl 1 rfl) ?_
                                                                                                                                                                                                                    refine lv_iconst (v := 1) S.1 S.2.1 dX7_word_85 (by decide) ?_
                                                                                                                                                                                                                    refine lv_iadd S.1 S.2.1 dX7_word_86 ?_
                                                                                                                                                                                                                    refine w_topi (y := 5) (by decide) ?_
                                                                                                                                                                                                                    refine lv_iadd S.1 S.2.1 dX7_word_87 ?_
                                                                                                                                                                                                                    refine w_topi (y := 73) (by decide) ?_
                                                                                                                                                                                                                    refine lv_istore (lv' := [(4, .int 73), (3, .int 16), (5, .int 4), (0, .ref mO), (1, .int lo), (2, .int hi)]) S.1 S.2.1 dX7_word_88 hl (by decide) rfl (fun ls hl => ?_)
                                                                                                                                                                                                                    refine lv_goto (tgt := 9) S.1 S.2.1 dX7_word_90 (by decide) ?_
                                                                                                                                                                                                                    refine lv_iload S.1 S.2.1 dX7_word_9 (lv_at hl 0 rfl) ?_
                                                                                                                                                                                                                    refine lv_aload_n S.1 S.2.1 dX7_word_11 rfl (lv_at hl 3 rfl) ?_
                                                                                                                                                                                                                    refine w_get S C w (CC := RX7) (T := TX7) (N := 16) (ref := "GateSumsModel") im_X7_word_X7 0 rfl rfl 7 (by decide) (List.mem_of_getElem? (i := 1) rfl) (fun _ h => h) rfl dX7_word_12 ?_
                                                                                                                                                                                                                    refine w_alen S C w 2 1 rfl rfl (v := 73) rfl dX7_word_15 ?_
                                                                                                                                                                                                                    refine lv_icmp_ge (tgt := 93) S.1 S.2.1 dX7_word_16 (by decide) (fun c16_16 => ?_) (fun c16_16 => ?_)
                                                                                                                                                                                                                    · refine lv_iconst (v := (-1)) S.1 S.2.1 dX7_word_93 (by decide) ?_
                                                                                                                                                                                                                      exact W.iret (v := (-1)) S.1 S.2.1 hr (fun t ht _ => ⟨⟨(-1), u1, rfl, h1, by rw [ht]; exact w.1, w.2.1⟩, w.2.2.F ht⟩) w.2.2.2.2 dX7_word_94
                                                                                                                                                                                                                    · exact absurd c16_16 (by decide)
                                                                                                                                                                                                                  · refine lv_iload_n S.1 S.2.1 dX7_word_43 rfl (lv_at hl 2 rfl) ?_
                                                                                                                                                                                                                    refine lv_iload_n S.1 S.2.1 dX7_word_44 rfl (lv_at hl 4 rfl) ?_
                                                                                                                                                                                                                    refine lv_iload_n S.1 S.2.1 dX7_word_45 rfl (lv_at hl 5 rfl) ?_
                                                                                                                                                                                                                    refine cs_i (va_runS (As := [.int 15, .int lo, .int hi]) (rest := []) S (c_X7_in l G _ 15 lo hi) (va_cwS 3 S.2.2.2.2 gX7_word_X7_in rfl rfl rfl (by decide +kernel) ⟨Nat.le_of_ble_eq_true rfl, Nat.le_of_ble_eq_true rfl⟩) ⟨wPre_blind, wPre_at C w [] rfl rfl⟩ rfl rfl hl.1 rfl (lv_room (Nat.le_of_ble_eq_true rfl)) dX7_word_46 ⟨Nat.le_of_ble_eq_true rfl, Nat.le_of_ble_eq_true rfl⟩) (fun r46 h46 => ?_)
                                                                                                                                                                                                                    refine w_topi (y := (inF 15 lo hi)) h46 ?_
                                                                                                                                                                                                                    refine lv_if_eq (tgt := 78) S.1 S.2.1 dX7_word_49 (by decide) (fun c49 => ?_) (fun c49 => ?_)
                                                                                                                                                                                                                    · exact J78 (trivial)
                                                                                                                                                                                                                    · refine lv_aload_n S.1 S.2.1 dX7_word_52 rfl (lv_at hl 3 rfl) ?_
                                                                                                                                                                                                                      refine lv_iload S.1 S.2.1 dX7_word_53 (lv_at hl 1 rfl) ?_
                                                                                                                                                                                                                      refine lv_iload S.1 S.2.1 dX7_word_55 (lv_at hl 0 rfl) ?_
                                                                                                                                                                                                                      refine cs_i (va_runV (As := [.int 68, .int 4]) (rest := []) S (c_X7_isWord l G mO mT mW _ mS mD mR mQ mC mU mV mn my mm mf mg tN u1 68 4 fT (htN) (h1) (by decide)) (cwV 2 S.2.2.2.2 gX7_word_X7_isWord rfl rfl rfl (by decide +kernel) ⟨Nat.le_of_ble_eq_true rfl, Nat.le_of_ble_eq_true rfl⟩) ⟨wPre_blind, va_recv C.1 w.1 (ci := 7) (q0 := 0) rfl rfl, wPre_at C w [0, 1, 2] rfl rfl⟩ rfl rfl hl.1 rfl (lv_room (Nat.le_of_ble_eq_true rfl)) dX7_word_57 ⟨Nat.le_of_ble_eq_true rfl, Nat.le_of_ble_eq_true rfl⟩) (fun r57 h57 => ?_)
                                                                                                                                                                                                                      refine lv_if_eq (tgt := 78) S.1 S.2.1 dX7_word_60 (by decide) (fun c60 => ?_) (fun c60 => ?_)
                                                                                                                                                                                                                      · exact J78 (trivial)
                                                                                                                                                                                                                      · refine lv_aload_n S.1 S.2.1 dX7_word_63 rfl (lv_at hl 3 rfl) ?_
                                                                                                                                                                                                                        refine lv_dup S.1 S.2.1 dX7_word_64 rfl ?_
                                                                                                                                                                                                                        refine w_get S C w (CC := RX7) (T := TX7) (N := 16) (ref := "GateSumsModel") im_X7_word_X7 0 rfl rfl 5 (by decide) (List.mem_of_getElem? (i := 2) rfl) (fun _ h => h) rfl dX7_word_65 ?_
                                                                                                                                                                                                                        refine lv_iload S.1 S.2.1 dX7_word_68 (lv_at hl 0 rfl) ?_
                                                                                                                                                                                                                        refine lv_iadd S.1 S.2.1 dX7_word_70 ?_
                                                                                                                                                                                                                        refine w_topi (y := (nI (u1 + 4))) (nI_add _ _) ?_
                                                                                                                                                                                                                        refine w_put S C w (CC := RX7) (T := TX7) (N := 16) (ref := "GateSumsModel") im_X7_word_X7 tyX7 tyX7_ok nmX7 0 rfl rfl 5 (by decide) (List.mem_of_getElem? (i := 2) rfl) (fun _ h => h) rfl (ws2 := [(mO, .inr (7, [.ref mS, .ref mD, .ref mR, .ref mT, .int (nI tN), .int (nI (u1 + 4)), .int mn, .ref mW, .ref mQ, .ref mC, .int my, .ref mU, .ref mV, .int mm, .int mf, .int mg])), (mT, .inl (G.2.1 2, 120, .inl fT)), (mW, .inl (G.2.1 1, 73, .inl (wdF 73)))]) (rfl) (rfl) (Nat.le_of_ble_eq_true rfl) rfl dX7_word_71 (fun H locs w => ?_)
                                                                                                                                                                                                                        refine lv_iload_n S.1 S.2.1 dX7_word_74 rfl (lv_at hl 2 rfl) ?_
                                                                                                                                                                                                                        refine lv_iload_n S.1 S.2.1 dX7_word_75 rfl (lv_at hl 4 rfl) ?_
                                                                                                                                                                                                                        refine lv_isub S.1 S.2.1 dX7_word_76 ?_
                                                                                                                                                                                                                        exact W.iret (v := (15 - lo)) S.1 S.2.1 hr (fun t ht _ => ⟨⟨(15 - lo), (u1 + 4), rfl, (h57).2 c60, by rw [ht]; exact w.1, w.2.1⟩, w.2.2.F ht⟩) w.2.2.2.2 dX7_word_77
                                                                                                                                                                                                                · exact absurd c34_72 (by decide)
                                                                                                                                                                                                    · refine lv_iload_n S.1 S.2.1 dX7_word_43 rfl (lv_at hl 2 rfl) ?_
                                                                                                                                                                                                      refine lv_iload_n S.1 S.2.1 dX7_word_44 rfl (lv_at hl 4 rfl) ?_
                                                                                                                                                                                                      refine lv_iload_n S.1 S.2.1 dX7_word_45 rfl (lv_at hl 5 rfl) ?_
                                                                                                                                                                                                      refine cs_i (va_runS (As := [.int 14, .int lo, .int hi]) (rest := []) S (c_X7_in l G _ 14 lo hi) (va_cwS 3 S.2.2.2.2 gX7_word_X7_in rfl rfl rfl (by decide +kernel) ⟨Nat.le_of_ble_eq_true rfl, Nat.le_of_ble_eq_true rfl⟩) ⟨wPre_blind, wPre_at C w [] rfl rfl⟩ rfl rfl hl.1 rfl (lv_room (Nat.le_of_ble_eq_true rfl)) dX7_word_46 ⟨Nat.le_of_ble_eq_true rfl, Nat.le_of_ble_eq_true rfl⟩) (fun r46_1 h46_1 => ?_)
                                                                                                                                                                                                      refine w_topi (y := (inF 14 lo hi)) h46_1 ?_
                                                                                                                                                                                                      refine lv_if_eq (tgt := 78) S.1 S.2.1 dX7_word_49 (by decide) (fun c49_1 => ?_) (fun c49_1 => ?_)
                                                                                                                                                                                                      · exact J78 (trivial)
                                                                                                                                                                                                      · refine lv_aload_n S.1 S.2.1 dX7_word_52 rfl (lv_at hl 3 rfl) ?_
                                                                                                                                                                                                        refine lv_iload S.1 S.2.1 dX7_word_53 (lv_at hl 1 rfl) ?_
                                                                                                                                                                                                        refine lv_iload S.1 S.2.1 dX7_word_55 (lv_at hl 0 rfl) ?_
                                                                                                                                                                                                        refine cs_i (va_runV (As := [.int 64, .int 3]) (rest := []) S (c_X7_isWord l G mO mT mW _ mS mD mR mQ mC mU mV mn my mm mf mg tN u1 64 3 fT (htN) (h1) (by decide)) (cwV 2 S.2.2.2.2 gX7_word_X7_isWord rfl rfl rfl (by decide +kernel) ⟨Nat.le_of_ble_eq_true rfl, Nat.le_of_ble_eq_true rfl⟩) ⟨wPre_blind, va_recv C.1 w.1 (ci := 7) (q0 := 0) rfl rfl, wPre_at C w [0, 1, 2] rfl rfl⟩ rfl rfl hl.1 rfl (lv_room (Nat.le_of_ble_eq_true rfl)) dX7_word_57 ⟨Nat.le_of_ble_eq_true rfl, Nat.le_of_ble_eq_true rfl⟩) (fun r57_1 h57_1 => ?_)
                                                                                                                                                                                                        refine lv_if_eq (tgt := 78) S.1 S.2.1 dX7_word_60 (by decide) (fun c60_1 => ?_) (fun c60_1 => ?_)
                                                                                                                                                                                                        · exact J78 (trivial)
                                                                                                                                                                                                        · refine lv_aload_n S.1 S.2.1 dX7_word_63 rfl (lv_at hl 3 rfl) ?_
                                                                                                                                                                                                          refine lv_dup S.1 S.2.1 dX7_word_64 rfl ?_
                                                                                                                                                                                                          refine w_get S C w (CC := RX7) (T := TX7) (N := 16) (ref := "GateSumsModel") im_X7_word_X7 0 rfl rfl 5 (by decide) (List.mem_of_getElem? (i := 2) rfl) (fun _ h => h) rfl dX7_word_65 ?_
                                                                                                                                                                                                          refine lv_iload S.1 S.2.1 dX7_word_68 (lv_at hl 0 rfl) ?_
                                                                                                                                                                                                          refine lv_iadd S.1 S.2.1 dX7_word_70 ?_
                                                                                                                                                                                                          refine w_topi (y := (nI (u1 + 3))) (nI_add _ _) ?_
                                                                                                                                                                                                          refine w_put S C w (CC := RX7) (T := TX7) (N := 16) (ref := "GateSumsModel") im_X7_word_X7 tyX7 tyX7_ok nmX7 0 rfl rfl 5 (by decide) (List.mem_of_getElem? (i := 2) rfl) (fun _ h => h) rfl (ws2 := [(mO, .inr (7, [.ref mS, .ref mD, .ref mR, .ref mT, .int (nI tN), .int (nI (u1 + 3)), .int mn, .ref mW, .ref mQ, .ref mC, .int my, .ref mU, .ref mV, .int mm, .int mf, .int mg])), (mT, .inl (G.2.1 2, 120, .inl fT)), (mW, .inl (G.2.1 1, 73, .inl (wdF 73)))]) (rfl) (rfl) (Nat.le_of_ble_eq_true rfl) rfl dX7_word_71 (fun H locs w => ?_)
                                                                                                                                                                                                          refine lv_iload_n S.1 S.2.1 dX7_word_74 rfl (lv_at hl 2 rfl) ?_
                                                                                                                                                                                                          refine lv_iload_n S.1 S.2.1 dX7_word_75 rfl (lv_at hl 4 rfl) ?_
                                                                                                                                                                                                          refine lv_isub S.1 S.2.1 dX7_word_76 ?_
                                                                                                                                                                                                          exact W.iret (v := (14 - lo)) S.1 S.2.1 hr (fun t ht _ => ⟨⟨(14 - lo), (u1 + 3), rfl, (h57_1).2 c60_1, by rw [ht]; exact w.1, w.2.1⟩, w.2.2.F ht⟩) w.2.2.2.2 dX7_word_77
                                                                                                                                                                                                  · exact absurd c34_67 (by decide)
                                                                                                                                                                                        · refine lv_iload_n S.1 S.2.1 dX7_word_43 rfl (lv_at hl 2 rfl) ?_
                                                                                                                                                                                          refine lv_iload_n S.1 S.2.1 dX7_word_44 rfl (lv_at hl 4 rfl) ?_
                                                                                                                                                                                          refine lv_iload_n S.1 S.2.1 dX7_word_45 rfl (lv_at hl 5 rfl) ?_
                                                                                                                                                                                          refine cs_i (va_runS (As := [.int 13, .int lo, .int hi]) (rest := []) S (c_X7_in l G _ 13 lo hi) (va_cwS 3 S.2.2.2.2 gX7_word_X7_in rfl rfl rfl (by decide +kernel) ⟨Nat.le_of_ble_eq_true rfl, Nat.le_of_ble_eq_true rfl⟩) ⟨wPre_blind, wPre_at C w [] rfl rfl⟩ rfl rfl hl.1 rfl (lv_room (Nat.le_of_ble_eq_true rfl)) dX7_word_46 ⟨Nat.le_of_ble_eq_true rfl, Nat.le_of_ble_eq_true rfl⟩) (fun r46_2 h46_2 => ?_)
                                                                                                                                                                                          refine w_topi (y := (inF 13 lo hi)) h46_2 ?_
                                                                                                                                                                                          refine lv_if_eq (tgt := 78) S.1 S.2.1 dX7_word_49 (by decide) (fun c49_2 => ?_) (fun c49_2 => ?_)
                                                                                                                                                                                          · exact J78 (trivial)
                                                                                                                                                                                          · refine lv_aload_n S.1 S.2.1 dX7_word_52 rfl (lv_at hl 3 rfl) ?_
                                                                                                                                                                                            refine lv_iload S.1 S.2.1 dX7_word_53 (lv_at hl 1 rfl) ?_
                                                                                                                                                                                            refine lv_iload S.1 S.2.1 dX7_word_55 (lv_at hl 0 rfl) ?_
                                                                                                                                                                                            refine cs_i (va_runV (As := [.int 62, .int 1]) (rest := []) S (c_X7_isWord l G mO mT mW _ mS mD mR mQ mC mU mV mn my mm mf mg tN u1 62 1 fT (htN) (h1) (by decide)) (cwV 2 S.2.2.2.2 gX7_word_X7_isWord rfl rfl rfl (by decide +kernel) ⟨Nat.le_of_ble_eq_true rfl, Nat.le_of_ble_eq_true rfl⟩) ⟨wPre_blind, va_recv C.1 w.1 (ci := 7) (q0 := 0) rfl rfl, wPre_at C w [0, 1, 2] rfl rfl⟩ rfl rfl hl.1 rfl (lv_room (Nat.le_of_ble_eq_true rfl)) dX7_word_57 ⟨Nat.le_of_ble_eq_true rfl, Nat.le_of_ble_eq_true rfl⟩) (fun r57_2 h57_2 => ?_)
                                                                                                                                                                                            refine lv_if_eq (tgt := 78) S.1 S.2.1 dX7_word_60 (by decide) (fun c60_2 => ?_) (fun c60_2 => ?_)
                                                                                                                                                                                            · exact J78 (trivial)
                                                                                                                                                                                            · refine lv_aload_n S.1 S.2.1 dX7_word_63 rfl (lv_at hl 3 rfl) ?_
                                                                                                                                                                                              refine lv_dup S.1 S.2.1 dX7_word_64 rfl ?_
                                                                                                                                                                                              refine w_get S C w (CC := RX7) (T := TX7) (N := 16) (ref := "GateSumsModel") im_X7_word_X7 0 rfl rfl 5 (by decide) (List.mem_of_getElem? (i := 2) rfl) (fun _ h => h) rfl dX7_word_65 ?_
                                                                                                                                                                                              refine lv_iload S.1 S.2.1 dX7_word_68 (lv_at hl 0 rfl) ?_
                                                                                                                                                                                              refine lv_iadd S.1 S.2.1 dX7_word_70 ?_
                                                                                                                                                                                              refine w_topi (y := (nI (u1 + 1))) (nI_add _ _) ?_
                                                                                                                                                                                              refine w_put S C w (CC := RX7) (T := TX7) (N := 16) (ref := "GateSumsModel") im_X7_word_X7 tyX7 tyX7_ok nmX7 0 rfl rfl 5 (by decide) (List.mem_of_getElem? (i := 2) rfl) (fun _ h => h) rfl (ws2 := [(mO, .inr (7, [.ref mS, .ref mD, .ref mR, .ref mT, .int (nI tN), .int (nI (u1 + 1)), .int mn, .ref mW, .ref mQ, .ref mC, .int my, .ref mU, .ref mV, .int mm, .int mf, .int mg])), (mT, .inl (G.2.1 2, 120, .inl fT)), (mW, .inl (G.2.1 1, 73, .inl (wdF 73)))]) (rfl) (rfl) (Nat.le_of_ble_eq_true rfl) rfl dX7_word_71 (fun H locs w => ?_)
                                                                                                                                                                                              refine lv_iload_n S.1 S.2.1 dX7_word_74 rfl (lv_at hl 2 rfl) ?_
                                                                                                                                                                                              refine lv_iload_n S.1 S.2.1 dX7_word_75 rfl (lv_at hl 4 rfl) ?_
                                                                                                                                                                                              refine lv_isub S.1 S.2.1 dX7_word_76 ?_
                                                                                                                                                                                              exact W.iret (v := (13 - lo)) S.1 S.2.1 hr (fun t ht _ => ⟨⟨(13 - lo), (u1 + 1), rfl, (h57_2).2 c60_2, by rw [ht]; exact w.1, w.2.1⟩, w.2.2.F ht⟩) w.2.2.2.2 dX7_word_77
                                                                                                                                                                                      · exact absurd c34_63 (by decide)
                                                                                                                                                                                · refine lv_iload_n S.1 S.2.1 dX7_word_43 rfl (lv_at hl 2 rfl) ?_
                                                                                                                                                                                  refine lv_iload_n S.1 S.2.1 dX7_word_44 rfl (lv_at hl 4 rfl) ?_
                                                                                                                                                                                  refine lv_iload_n S.1 S.2.1 dX7_word_45 rfl (lv_at hl 5 rfl) ?_
                                                                                                                                                                                  refine cs_i (va_runS (As := [.int 12, .int lo, .int hi]) (rest := []) S (c_X7_in l G _ 12 lo hi) (va_cwS 3 S.2.2.2.2 gX7_word_X7_in rfl rfl rfl (by decide +kernel) ⟨Nat.le_of_ble_eq_true rfl, Nat.le_of_ble_eq_true rfl⟩) ⟨wPre_blind, wPre_at C w [] rfl rfl⟩ rfl rfl hl.1 rfl (lv_room (Nat.le_of_ble_eq_true rfl)) dX7_word_46 ⟨Nat.le_of_ble_eq_true rfl, Nat.le_of_ble_eq_true rfl⟩) (fun r46_3 h46_3 => ?_)
                                                                                                                                                                                  refine w_topi (y := (inF 12 lo hi)) h46_3 ?_
                                                                                                                                                                                  refine lv_if_eq (tgt := 78) S.1 S.2.1 dX7_word_49 (by decide) (fun c49_3 => ?_) (fun c49_3 => ?_)
                                                                                                                                                                                  · exact J78 (trivial)
                                                                                                                                                                                  · refine lv_aload_n S.1 S.2.1 dX7_word_52 rfl (lv_at hl 3 rfl) ?_
                                                                                                                                                                                    refine lv_iload S.1 S.2.1 dX7_word_53 (lv_at hl 1 rfl) ?_
                                                                                                                                                                                    refine lv_iload S.1 S.2.1 dX7_word_55 (lv_at hl 0 rfl) ?_
                                                                                                                                                                                    refine cs_i (va_runV (As := [.int 59, .int 2]) (rest := []) S (c_X7_isWord l G mO mT mW _ mS mD mR mQ mC mU mV mn my mm mf mg tN u1 59 2 fT (htN) (h1) (by decide)) (cwV 2 S.2.2.2.2 gX7_word_X7_isWord rfl rfl rfl (by decide +kernel) ⟨Nat.le_of_ble_eq_true rfl, Nat.le_of_ble_eq_true rfl⟩) ⟨wPre_blind, va_recv C.1 w.1 (ci := 7) (q0 := 0) rfl rfl, wPre_at C w [0, 1, 2] rfl rfl⟩ rfl rfl hl.1 rfl (lv_room (Nat.le_of_ble_eq_true rfl)) dX7_word_57 ⟨Nat.le_of_ble_eq_true rfl, Nat.le_of_ble_eq_true rfl⟩) (fun r57_3 h57_3 => ?_)
                                                                                                                                                                                    refine lv_if_eq (tgt := 78) S.1 S.2.1 dX7_word_60 (by decide) (fun c60_3 => ?_) (fun c60_3 => ?_)
                                                                                                                                                                                    · exact J78 (trivial)
                                                                                                                                                                                    · refine lv_aload_n S.1 S.2.1 dX7_word_63 rfl (lv_at hl 3 rfl) ?_
                                                                                                                                                                                      refine lv_dup S.1 S.2.1 dX7_word_64 rfl ?_
                                                                                                                                                                                      refine w_get S C w (CC := RX7) (T := TX7) (N := 16) (ref := "GateSumsModel") im_X7_word_X7 0 rfl rfl 5 (by decide) (List.mem_of_getElem? (i := 2) rfl) (fun _ h => h) rfl dX7_word_65 ?_
                                                                                                                                                                                      refine lv_iload S.1 S.2.1 dX7_word_68 (lv_at hl 0 rfl) ?_
                                                                                                                                                                                      refine lv_iadd S.1 S.2.1 dX7_word_70 ?_
                                                                                                                                                                                      refine w_topi (y := (nI (u1 + 2))) (nI_add _ _) ?_
                                                                                                                                                                                      refine w_put S C w (CC := RX7) (T := TX7) (N := 16) (ref := "GateSumsModel") im_X7_word_X7 tyX7 tyX7_ok nmX7 0 rfl rfl 5 (by decide) (List.mem_of_getElem? (i := 2) rfl) (fun _ h => h) rfl (ws2 := [(mO, .inr (7, [.ref mS, .ref mD, .ref mR, .ref mT, .int (nI tN), .int (nI (u1 + 2)), .int mn, .ref mW, .ref mQ, .ref mC, .int my, .ref mU, .ref mV, .int mm, .int mf, .int mg])), (mT, .inl (G.2.1 2, 120, .inl fT)), (mW, .inl (G.2.1 1, 73, .inl (wdF 73)))]) (rfl) (rfl) (Nat.le_of_ble_eq_true rfl) rfl dX7_word_71 (fun H locs w => ?_)
                                                                                                                                                                                      refine lv_iload_n S.1 S.2.1 dX7_word_74 rfl (lv_at hl 2 rfl) ?_
                                                                                                                                                                                      refine lv_iload_n S.1 S.2.1 dX7_word_75 rfl (lv_at hl 4 rfl) ?_
                                                                                                                                                                                      refine lv_isub S.1 S.2.1 dX7_word_76 ?_
                                                                                                                                                                                      exact W.iret (v := (12 - lo)) S.1 S.2.1 hr (fun t ht _ => ⟨⟨(12 - lo), (u1 + 2), rfl, (h57_3).2 c60_3, by rw [ht]; exact w.1, w.2.1⟩, w.2.2.F ht⟩) w.2.2.2.2 dX7_word_77
                                                                                                                                                                              · exact absurd c34_61 (by decide)
                                                                                                                                                                      · refine lv_iload_n S.1 S.2.1 dX7_word_43 rfl (lv_at hl 2 rfl) ?_
                                                                                                                                                                        refine lv_iload_n S.1 S.2.1 dX7_word_44 rfl (lv_at hl 4 rfl) ?_
                                                                                                                                                                        refine lv_iload_n S.1 S.2.1 dX7_word_45 rfl (lv_at hl 5 rfl) ?_
                                                                                                                                                                        refine cs_i (va_runS (As := [.int 11, .int lo, .int hi]) (rest := []) S (c_X7_in l G _ 11 lo hi) (va_cwS 3 S.2.2.2.2 gX7_word_X7_in rfl rfl rfl (by decide +kernel) ⟨Nat.le_of_ble_eq_true rfl, Nat.le_of_ble_eq_true rfl⟩) ⟨wPre_blind, wPre_at C w [] rfl rfl⟩ rfl rfl hl.1 rfl (lv_room (Nat.le_of_ble_eq_true rfl)) dX7_word_46 ⟨Nat.le_of_ble_eq_true rfl, Nat.le_of_ble_eq_true rfl⟩) (fun r46_4 h46_4 => ?_)
                                                                                                                                                                        refine w_topi (y := (inF 11 lo hi)) h46_4 ?_
                                                                                                                                                                        refine lv_if_eq (tgt := 78) S.1 S.2.1 dX7_word_49 (by decide) (fun c49_4 => ?_) (fun c49_4 => ?_)
                                                                                                                                                                        · exact J78 (trivial)
                                                                                                                                                                        · refine lv_aload_n S.1 S.2.1 dX7_word_52 rfl (lv_at hl 3 rfl) ?_
                                                                                                                                                                          refine lv_iload S.1 S.2.1 dX7_word_53 (lv_at hl 1 rfl) ?_
                                                                                                                                                                          refine lv_iload S.1 S.2.1 dX7_word_55 (lv_at hl 0 rfl) ?_
                                                                                                                                                                          refine cs_i (va_runV (As := [.int 52, .int 6]) (rest := []) S (c_X7_isWord l G mO mT mW _ mS mD mR mQ mC mU mV mn my mm mf mg tN u1 52 6 fT (htN) (h1) (by decide)) (cwV 2 S.2.2.2.2 gX7_word_X7_isWord rfl rfl rfl (by decide +kernel) ⟨Nat.le_of_ble_eq_true rfl, Nat.le_of_ble_eq_true rfl⟩) ⟨wPre_blind, va_recv C.1 w.1 (ci := 7) (q0 := 0) rfl rfl, wPre_at C w [0, 1, 2] rfl rfl⟩ rfl rfl hl.1 rfl (lv_room (Nat.le_of_ble_eq_true rfl)) dX7_word_57 ⟨Nat.le_of_ble_eq_true rfl, Nat.le_of_ble_eq_true rfl⟩) (fun r57_4 h57_4 => ?_)
                                                                                                                                                                          refine lv_if_eq (tgt := 78) S.1 S.2.1 dX7_word_60 (by decide) (fun c60_4 => ?_) (fun c60_4 => ?_)
                                                                                                                                                                          · exact J78 (trivial)
                                                                                                                                                                          · refine lv_aload_n S.1 S.2.1 dX7_word_63 rfl (lv_at hl 3 rfl) ?_
                                                                                                                                                                            refine lv_dup S.1 S.2.1 dX7_word_64 rfl ?_
                                                                                                                                                                            refine w_get S C w (CC := RX7) (T := TX7) (N := 16) (ref := "GateSumsModel") im_X7_word_X7 0 rfl rfl 5 (by decide) (List.mem_of_getElem? (i := 2) rfl) (fun _ h => h) rfl dX7_word_65 ?_
                                                                                                                                                                            refine lv_iload S.1 S.2.1 dX7_word_68 (lv_at hl 0 rfl) ?_
                                                                                                                                                                            refine lv_iadd S.1 S.2.1 dX7_word_70 ?_
                                                                                                                                                                            refine w_topi (y := (nI (u1 + 6))) (nI_add _ _) ?_
                                                                                                                                                                            refine w_put S C w (CC := RX7) (T := TX7) (N := 16) (ref := "GateSumsModel") im_X7_word_X7 tyX7 tyX7_ok nmX7 0 rfl rfl 5 (by decide) (List.mem_of_getElem? (i := 2) rfl) (fun _ h => h) rfl (ws2 := [(mO, .inr (7, [.ref mS, .ref mD, .ref mR, .ref mT, .int (nI tN), .int (nI (u1 + 6)), .int mn, .ref mW, .ref mQ, .ref mC, .int my, .ref mU, .ref mV, .int mm, .int mf, .int mg])), (mT, .inl (G.2.1 2, 120, .inl fT)), (mW, .inl (G.2.1 1, 73, .inl (wdF 73)))]) (rfl) (rfl) (Nat.le_of_ble_eq_true rfl) rfl dX7_word_71 (fun H locs w => ?_)
                                                                                                                                                                            refine lv_iload_n S.1 S.2.1 dX7_word_74 rfl (lv_at hl 2 rfl) ?_
                                                                                                                                                                            refine lv_iload_n S.1 S.2.1 dX7_word_75 rfl (lv_at hl 4 rfl) ?_
                                                                                                                                                                            refine lv_isub S.1 S.2.1 dX7_word_76 ?_
                                                                                                                                                                            exact W.iret (v := (11 - lo)) S.1 S.2.1 hr (fun t ht _ => ⟨⟨(11 - lo), (u1 + 6), rfl, (h57_4).2 c60_4, by rw [ht]; exact w.1, w.2.1⟩, w.2.2.F ht⟩) w.2.2.2.2 dX7_word_77
                                                                                                                                                                    · exact absurd c34_58 (by decide)
                                                                                                                                                    · refine lv_iload_n S.1 S.2.1 dX7_word_43 rfl (lv_at hl 2 rfl) ?_
                                                                                                                                                      refine lv_iload_n S.1 S.2.1 dX7_word_44 rfl (lv_at hl 4 rfl) ?_
                                                                                                                                                      refine lv_iload_n S.1 S.2.1 dX7_word_45 rfl (lv_at hl 5 rfl) ?_
                                                                                                                                                      refine cs_i (va_runS (As := [.int 10, .int lo, .int hi]) (rest := []) S (c_X7_in l G _ 10 lo hi) (va_cwS 3 S.2.2.2.2 gX7_word_X7_in rfl rfl rfl (by decide +kernel) ⟨Nat.le_of_ble_eq_true rfl, Nat.le_of_ble_eq_true rfl⟩) ⟨wPre_blind, wPre_at C w [] rfl rfl⟩ rfl rfl hl.1 rfl (lv_room (Nat.le_of_ble_eq_true rfl)) dX7_word_46 ⟨Nat.le_of_ble_eq_true rfl, Nat.le_of_ble_eq_true rfl⟩) (fun r46_5 h46_5 => ?_)
                                                                                                                                                      refine w_topi (y := (inF 10 lo hi)) h46_5 ?_
                                                                                                                                                      refine lv_if_eq (tgt := 78) S.1 S.2.1 dX7_word_49 (by decide) (fun c49_5 => ?_) (fun c49_5 => ?_)
                                                                                                                                                      · exact J78 (trivial)
                                                                                                                                                      · refine lv_aload_n S.1 S.2.1 dX7_word_52 rfl (lv_at hl 3 rfl) ?_
                                                                                                                                                        refine lv_iload S.1 S.2.1 dX7_word_53 (lv_at hl 1 rfl) ?_
                                                                                                                                                        refine lv_iload S.1 S.2.1 dX7_word_55 (lv_at hl 0 rfl) ?_
                                                                                                                                                        refine cs_i (va_runV (As := [.int 45, .int 6]) (rest := []) S (c_X7_isWord l G mO mT mW _ mS mD mR mQ mC mU mV mn my mm mf mg tN u1 45 6 fT (htN) (h1) (by decide)) (cwV 2 S.2.2.2.2 gX7_word_X7_isWord rfl rfl rfl (by decide +kernel) ⟨Nat.le_of_ble_eq_true rfl, Nat.le_of_ble_eq_true rfl⟩) ⟨wPre_blind, va_recv C.1 w.1 (ci := 7) (q0 := 0) rfl rfl, wPre_at C w [0, 1, 2] rfl rfl⟩ rfl rfl hl.1 rfl (lv_room (Nat.le_of_ble_eq_true rfl)) dX7_word_57 ⟨Nat.le_of_ble_eq_true rfl, Nat.le_of_ble_eq_true rfl⟩) (fun r57_5 h57_5 => ?_)
                                                                                                                                                        refine lv_if_eq (tgt := 78) S.1 S.2.1 dX7_word_60 (by decide) (fun c60_5 => ?_) (fun c60_5 => ?_)
                                                                                                                                                        · exact J78 (trivial)
                                                                                                                                                        · refine lv_aload_n S.1 S.2.1 dX7_word_63 rfl (lv_at hl 3 rfl) ?_
                                                                                                                                                          refine lv_dup S.1 S.2.1 dX7_word_64 rfl ?_
                                                                                                                                                          refine w_get S C w (CC := RX7) (T := TX7) (N := 16) (ref := "GateSumsModel") im_X7_word_X7 0 rfl rfl 5 (by decide) (List.mem_of_getElem? (i := 2) rfl) (fun _ h => h) rfl dX7_word_65 ?_
                                                                                                                                                          refine lv_iload S.1 S.2.1 dX7_word_68 (lv_at hl 0 rfl) ?_
                                                                                                                                                          refine lv_iadd S.1 S.2.1 dX7_word_70 ?_
                                                                                                                                                          refine w_topi (y := (nI (u1 + 6))) (nI_add _ _) ?_
                                                                                                                                                          refine w_put S C w (CC := RX7) (T := TX7) (N := 16) (ref := "GateSumsModel") im_X7_word_X7 tyX7 tyX7_ok nmX7 0 rfl rfl 5 (by decide) (List.mem_of_getElem? (i := 2) rfl) (fun _ h => h) rfl (ws2 := [(mO, .inr (7, [.ref mS, .ref mD, .ref mR, .ref mT, .int (nI tN), .int (nI (u1 + 6)), .int mn, .ref mW, .ref mQ, .ref mC, .int my, .ref mU, .ref mV, .int mm, .int mf, .int mg])), (mT, .inl (G.2.1 2, 120, .inl fT)), (mW, .inl (G.2.1 1, 73, .inl (wdF 73)))]) (rfl) (rfl) (Nat.le_of_ble_eq_true rfl) rfl dX7_word_71 (fun H locs w => ?_)
                                                                                                                                                          refine lv_iload_n S.1 S.2.1 dX7_word_74 rfl (lv_at hl 2 rfl) ?_
                                                                                                                                                          refine lv_iload_n S.1 S.2.1 dX7_word_75 rfl (lv_at hl 4 rfl) ?_
                                                                                                                                                          refine lv_isub S.1 S.2.1 dX7_word_76 ?_
                                                                                                                                                          exact W.iret (v := (10 - lo)) S.1 S.2.1 hr (fun t ht _ => ⟨⟨(10 - lo), (u1 + 6), rfl, (h57_5).2 c60_5, by rw [ht]; exact w.1, w.2.1⟩, w.2.2.F ht⟩) w.2.2.2.2 dX7_word_77
                                                                                                                                                  · exact absurd c34_51 (by decide)
                                                                                                                                  · refine lv_iload_n S.1 S.2.1 dX7_word_43 rfl (lv_at hl 2 rfl) ?_
                                                                                                                                    refine lv_iload_n S.1 S.2.1 dX7_word_44 rfl (lv_at hl 4 rfl) ?_
                                                                                                                                    refine lv_iload_n S.1 S.2.1 dX7_word_45 rfl (lv_at hl 5 rfl) ?_
                                                                                                                                    refine cs_i (va_runS (As := [.int 9, .int lo, .int hi]) (rest := []) S (c_X7_in l G _ 9 lo hi) (va_cwS 3 S.2.2.2.2 gX7_word_X7_in rfl rfl rfl (by decide +kernel) ⟨Nat.le_of_ble_eq_true rfl, Nat.le_of_ble_eq_true rfl⟩) ⟨wPre_blind, wPre_at C w [] rfl rfl⟩ rfl rfl hl.1 rfl (lv_room (Nat.le_of_ble_eq_true rfl)) dX7_word_46 ⟨Nat.le_of_ble_eq_true rfl, Nat.le_of_ble_eq_true rfl⟩) (fun r46_6 h46_6 => ?_)
                                                                                                                                    refine w_topi (y := (inF 9 lo hi)) h46_6 ?_
                                                                                                                                    refine lv_if_eq (tgt := 78) S.1 S.2.1 dX7_word_49 (by decide) (fun c49_6 => ?_) (fun c49_6 => ?_)
                                                                                                                                    · exact J78 (trivial)
                                                                                                                                    · refine lv_aload_n S.1 S.2.1 dX7_word_52 rfl (lv_at hl 3 rfl) ?_
                                                                                                                                      refine lv_iload S.1 S.2.1 dX7_word_53 (lv_at hl 1 rfl) ?_
                                                                                                                                      refine lv_iload S.1 S.2.1 dX7_word_55 (lv_at hl 0 rfl) ?_
                                                                                                                                      refine cs_i (va_runV (As := [.int 37, .int 7]) (rest := []) S (c_X7_isWord l G mO mT mW _ mS mD mR mQ mC mU mV mn my mm mf mg tN u1 37 7 fT (htN) (h1) (by decide)) (cwV 2 S.2.2.2.2 gX7_word_X7_isWord rfl rfl rfl (by decide +kernel) ⟨Nat.le_of_ble_eq_true rfl, Nat.le_of_ble_eq_true rfl⟩) ⟨wPre_blind, va_recv C.1 w.1 (ci := 7) (q0 := 0) rfl rfl, wPre_at C w [0, 1, 2] rfl rfl⟩ rfl rfl hl.1 rfl (lv_room (Nat.le_of_ble_eq_true rfl)) dX7_word_57 ⟨Nat.le_of_ble_eq_true rfl, Nat.le_of_ble_eq_true rfl⟩) (fun r57_6 h57_6 => ?_)
                                                                                                                                      refine lv_if_eq (tgt := 78) S.1 S.2.1 dX7_word_60 (by decide) (fun c60_6 => ?_) (fun c60_6 => ?_)
                                                                                                                                      · exact J78 (trivial)
                                                                                                                                      · refine lv_aload_n S.1 S.2.1 dX7_word_63 rfl (lv_at hl 3 rfl) ?_
                                                                                                                                        refine lv_dup S.1 S.2.1 dX7_word_64 rfl ?_
                                                                                                                                        refine w_get S C w (CC := RX7) (T := TX7) (N := 16) (ref := "GateSumsModel") im_X7_word_X7 0 rfl rfl 5 (by decide) (List.mem_of_getElem? (i := 2) rfl) (fun _ h => h) rfl dX7_word_65 ?_
                                                                                                                                        refine lv_iload S.1 S.2.1 dX7_word_68 (lv_at hl 0 rfl) ?_
                                                                                                                                        refine lv_iadd S.1 S.2.1 dX7_word_70 ?_
                                                                                                                                        refine w_topi (y := (nI (u1 + 7))) (nI_add _ _) ?_
                                                                                                                                        refine w_put S C w (CC := RX7) (T := TX7) (N := 16) (ref := "GateSumsModel") im_X7_word_X7 tyX7 tyX7_ok nmX7 0 rfl rfl 5 (by decide) (List.mem_of_getElem? (i := 2) rfl) (fun _ h => h) rfl (ws2 := [(mO, .inr (7, [.ref mS, .ref mD, .ref mR, .ref mT, .int (nI tN), .int (nI (u1 + 7)), .int mn, .ref mW, .ref mQ, .ref mC, .int my, .ref mU, .ref mV, .int mm, .int mf, .int mg])), (mT, .inl (G.2.1 2, 120, .inl fT)), (mW, .inl (G.2.1 1, 73, .inl (wdF 73)))]) (rfl) (rfl) (Nat.le_of_ble_eq_true rfl) rfl dX7_word_71 (fun H locs w => ?_)
                                                                                                                                        refine lv_iload_n S.1 S.2.1 dX7_word_74 rfl (lv_at hl 2 rfl) ?_
                                                                                                                                        refine lv_iload_n S.1 S.2.1 dX7_word_75 rfl (lv_at hl 4 rfl) ?_
                                                                                                                                        refine lv_isub S.1 S.2.1 dX7_word_76 ?_
                                                                                                                                        exact W.iret (v := (9 - lo)) S.1 S.2.1 hr (fun t ht _ => ⟨⟨(9 - lo), (u1 + 7), rfl, (h57_6).2 c60_6, by rw [ht]; exact w.1, w.2.1⟩, w.2.2.F ht⟩) w.2.2.2.2 dX7_word_77
                                                                                                                                · exact absurd c34_44 (by decide)
                                                                                                              · refine lv_iload_n S.1 S.2.1 dX7_word_43 rfl (lv_at hl 2 rfl) ?_
                                                                                                                refine lv_iload_n S.1 S.2.1 dX7_word_44 rfl (lv_at hl 4 rfl) ?_
                                                                                                                refine lv_iload_n S.1 S.2.1 dX7_word_45 rfl (lv_at hl 5 rfl) ?_
                                                                                                                refine cs_i (va_runS (As := [.int 8, .int lo, .int hi]) (rest := []) S (c_X7_in l G _ 8 lo hi) (va_cwS 3 S.2.2.2.2 gX7_word_X7_in rfl rfl rfl (by decide +kernel) ⟨Nat.le_of_ble_eq_true rfl, Nat.le_of_ble_eq_true rfl⟩) ⟨wPre_blind, wPre_at C w [] rfl rfl⟩ rfl rfl hl.1 rfl (lv_room (Nat.le_of_ble_eq_true rfl)) dX7_word_46 ⟨Nat.le_of_ble_eq_true rfl, Nat.le_of_ble_eq_true rfl⟩) (fun r46_7 h46_7 => ?_)
                                                                                                                refine w_topi (y := (inF 8 lo hi)) h46_7 ?_
                                                                                                                refine lv_if_eq (tgt := 78) S.1 S.2.1 dX7_word_49 (by decide) (fun c49_7 => ?_) (fun c49_7 => ?_)
                                                                                                                · exact J78 (trivial)
                                                                                                                · refine lv_aload_n S.1 S.2.1 dX7_word_52 rfl (lv_at hl 3 rfl) ?_
                                                                                                                  refine lv_iload S.1 S.2.1 dX7_word_53 (lv_at hl 1 rfl) ?_
                                                                                                                  refine lv_iload S.1 S.2.1 dX7_word_55 (lv_at hl 0 rfl) ?_
                                                                                                                  refine cs_i (va_runV (As := [.int 33, .int 3]) (rest := []) S (c_X7_isWord l G mO mT mW _ mS mD mR mQ mC mU mV mn my mm mf mg tN u1 33 3 fT (htN) (h1) (by decide)) (cwV 2 S.2.2.2.2 gX7_word_X7_isWord rfl rfl rfl (by decide +kernel) ⟨Nat.le_of_ble_eq_true rfl, Nat.le_of_ble_eq_true rfl⟩) ⟨wPre_blind, va_recv C.1 w.1 (ci := 7) (q0 := 0) rfl rfl, wPre_at C w [0, 1, 2] rfl rfl⟩ rfl rfl hl.1 rfl (lv_room (Nat.le_of_ble_eq_true rfl)) dX7_word_57 ⟨Nat.le_of_ble_eq_true rfl, Nat.le_of_ble_eq_true rfl⟩) (fun r57_7 h57_7 => ?_)
                                                                                                                  refine lv_if_eq (tgt := 78) S.1 S.2.1 dX7_word_60 (by decide) (fun c60_7 => ?_) (fun c60_7 => ?_)
                                                                                                                  · exact J78 (trivial)
                                                                                                                  · refine lv_aload_n S.1 S.2.1 dX7_word_63 rfl (lv_at hl 3 rfl) ?_
                                                                                                                    refine lv_dup S.1 S.2.1 dX7_word_64 rfl ?_
                                                                                                                    refine w_get S C w (CC := RX7) (T := TX7) (N := 16) (ref := "GateSumsModel") im_X7_word_X7 0 rfl rfl 5 (by decide) (List.mem_of_getElem? (i := 2) rfl) (fun _ h => h) rfl dX7_word_65 ?_
                                                                                                                    refine lv_iload S.1 S.2.1 dX7_word_68 (lv_at hl 0 rfl) ?_
                                                                                                                    refine lv_iadd S.1 S.2.1 dX7_word_70 ?_
                                                                                                                    refine w_topi (y := (nI (u1 + 3))) (nI_add _ _) ?_
                                                                                                                    refine w_put S C w (CC := RX7) (T := TX7) (N := 16) (ref := "GateSumsModel") im_X7_word_X7 tyX7 tyX7_ok nmX7 0 rfl rfl 5 (by decide) (List.mem_of_getElem? (i := 2) rfl) (fun _ h => h) rfl (ws2 := [(mO, .inr (7, [.ref mS, .ref mD, .ref mR, .ref mT, .int (nI tN), .int (nI (u1 + 3)), .int mn, .ref mW, .ref mQ, .ref mC, .int my, .ref mU, .ref mV, .int mm, .int mf, .int mg])), (mT, .inl (G.2.1 2, 120, .inl fT)), (mW, .inl (G.2.1 1, 73, .inl (wdF 73)))]) (rfl) (rfl) (Nat.le_of_ble_eq_true rfl) rfl dX7_word_71 (fun H locs w => ?_)
                                                                                                                    refine lv_iload_n S.1 S.2.1 dX7_word_74 rfl (lv_at hl 2 rfl) ?_
                                                                                                                    refine lv_iload_n S.1 S.2.1 dX7_word_75 rfl (lv_at hl 4 rfl) ?_
                                                                                                                    refine lv_isub S.1 S.2.1 dX7_word_76 ?_
                                                                                                                    exact W.iret (v := (8 - lo)) S.1 S.2.1 hr (fun t ht _ => ⟨⟨(8 - lo), (u1 + 3), rfl, (h57_7).2 c60_7, by rw [ht]; exact w.1, w.2.1⟩, w.2.2.F ht⟩) w.2.2.2.2 dX7_word_77
                                                                                                            · exact absurd c34_36 (by decide)
                                                                                                  · refine lv_iload_n S.1 S.2.1 dX7_word_43 rfl (lv_at hl 2 rfl) ?_
                                                                                                    refine lv_iload_n S.1 S.2.1 dX7_word_44 rfl (lv_at hl 4 rfl) ?_
                                                                                                    refine lv_iload_n S.1 S.2.1 dX7_word_45 rfl (lv_at hl 5 rfl) ?_
                                                                                                    refine cs_i (va_runS (As := [.int 7, .int lo, .int hi]) (rest := []) S (c_X7_in l G _ 7 lo hi) (va_cwS 3 S.2.2.2.2 gX7_word_X7_in rfl rfl rfl (by decide +kernel) ⟨Nat.le_of_ble_eq_true rfl, Nat.le_of_ble_eq_true rfl⟩) ⟨wPre_blind, wPre_at C w [] rfl rfl⟩ rfl rfl hl.1 rfl (lv_room (Nat.le_of_ble_eq_true rfl)) dX7_word_46 ⟨Nat.le_of_ble_eq_true rfl, Nat.le_of_ble_eq_true rfl⟩) (fun r46_8 h46_8 => ?_)
                                                                                                    refine w_topi (y := (inF 7 lo hi)) h46_8 ?_
                                                                                                    refine lv_if_eq (tgt := 78) S.1 S.2.1 dX7_word_49 (by decide) (fun c49_8 => ?_) (fun c49_8 => ?_)
                                                                                                    · exact J78 (trivial)
                                                                                                    · refine lv_aload_n S.1 S.2.1 dX7_word_52 rfl (lv_at hl 3 rfl) ?_
                                                                                                      refine lv_iload S.1 S.2.1 dX7_word_53 (lv_at hl 1 rfl) ?_
                                                                                                      refine lv_iload S.1 S.2.1 dX7_word_55 (lv_at hl 0 rfl) ?_
                                                                                                      refine cs_i (va_runV (As := [.int 29, .int 3]) (rest := []) S (c_X7_isWord l G mO mT mW _ mS mD mR mQ mC mU mV mn my mm mf mg tN u1 29 3 fT (htN) (h1) (by decide)) (cwV 2 S.2.2.2.2 gX7_word_X7_isWord rfl rfl rfl (by decide +kernel) ⟨Nat.le_of_ble_eq_true rfl, Nat.le_of_ble_eq_true rfl⟩) ⟨wPre_blind, va_recv C.1 w.1 (ci := 7) (q0 := 0) rfl rfl, wPre_at C w [0, 1, 2] rfl rfl⟩ rfl rfl hl.1 rfl (lv_room (Nat.le_of_ble_eq_true rfl)) dX7_word_57 ⟨Nat.le_of_ble_eq_true rfl, Nat.le_of_ble_eq_true rfl⟩) (fun r57_8 h57_8 => ?_)
                                                                                                      refine lv_if_eq (tgt := 78) S.1 S.2.1 dX7_word_60 (by decide) (fun c60_8 => ?_) (fun c60_8 => ?_)
                                                                                                      · exact J78 (trivial)
                                                                                                      · refine lv_aload_n S.1 S.2.1 dX7_word_63 rfl (lv_at hl 3 rfl) ?_
                                                                                                        refine lv_dup S.1 S.2.1 dX7_word_64 rfl ?_
                                                                                                        refine w_get S C w (CC := RX7) (T := TX7) (N := 16) (ref := "GateSumsModel") im_X7_word_X7 0 rfl rfl 5 (by decide) (List.mem_of_getElem? (i := 2) rfl) (fun _ h => h) rfl dX7_word_65 ?_
                                                                                                        refine lv_iload S.1 S.2.1 dX7_word_68 (lv_at hl 0 rfl) ?_
                                                                                                        refine lv_iadd S.1 S.2.1 dX7_word_70 ?_
                                                                                                        refine w_topi (y := (nI (u1 + 3))) (nI_add _ _) ?_
                                                                                                        refine w_put S C w (CC := RX7) (T := TX7) (N := 16) (ref := "GateSumsModel") im_X7_word_X7 tyX7 tyX7_ok nmX7 0 rfl rfl 5 (by decide) (List.mem_of_getElem? (i := 2) rfl) (fun _ h => h) rfl (ws2 := [(mO, .inr (7, [.ref mS, .ref mD, .ref mR, .ref mT, .int (nI tN), .int (nI (u1 + 3)), .int mn, .ref mW, .ref mQ, .ref mC, .int my, .ref mU, .ref mV, .int mm, .int mf, .int mg])), (mT, .inl (G.2.1 2, 120, .inl fT)), (mW, .inl (G.2.1 1, 73, .inl (wdF 73)))]) (rfl) (rfl) (Nat.le_of_ble_eq_true rfl) rfl dX7_word_71 (fun H locs w => ?_)
                                                                                                        refine lv_iload_n S.1 S.2.1 dX7_word_74 rfl (lv_at hl 2 rfl) ?_
                                                                                                        refine lv_iload_n S.1 S.2.1 dX7_word_75 rfl (lv_at hl 4 rfl) ?_
                                                                                                        refine lv_isub S.1 S.2.1 dX7_word_76 ?_
                                                                                                        exact W.iret (v := (7 - lo)) S.1 S.2.1 hr (fun t ht _ => ⟨⟨(7 - lo), (u1 + 3), rfl, (h57_8).2 c60_8, by rw [ht]; exact w.1, w.2.1⟩, w.2.2.F ht⟩) w.2.2.2.2 dX7_word_77
                                                                                                · exact absurd c34_32 (by decide)
                                                                                      · refine lv_iload_n S.1 S.2.1 dX7_word_43 rfl (lv_at hl 2 rfl) ?_
                                                                                        refine lv_iload_n S.1 S.2.1 dX7_word_44 rfl (lv_at hl 4 rfl) ?_
                                                                                        refine lv_iload_n S.1 S.2.1 dX7_word_45 rfl (lv_at hl 5 rfl) ?_
                                                                                        refine cs_i (va_runS (As := [.int 6, .int lo, .int hi]) (rest := []) S (c_X7_in l G _ 6 lo hi) (va_cwS 3 S.2.2.2.2 gX7_word_X7_in rfl rfl rfl (by decide +kernel) ⟨Nat.le_of_ble_eq_true rfl, Nat.le_of_ble_eq_true rfl⟩) ⟨wPre_blind, wPre_at C w [] rfl rfl⟩ rfl rfl hl.1 rfl (lv_room (Nat.le_of_ble_eq_true rfl)) dX7_word_46 ⟨Nat.le_of_ble_eq_true rfl, Nat.le_of_ble_eq_true rfl⟩) (fun r46_9 h46_9 => ?_)
                                                                                        refine w_topi (y := (inF 6 lo hi)) h46_9 ?_
                                                                                        refine lv_if_eq (tgt := 78) S.1 S.2.1 dX7_word_49 (by decide) (fun c49_9 => ?_) (fun c49_9 => ?_)
                                                                                        · exact J78 (trivial)
                                                                                        · refine lv_aload_n S.1 S.2.1 dX7_word_52 rfl (lv_at hl 3 rfl) ?_
                                                                                          refine lv_iload S.1 S.2.1 dX7_word_53 (lv_at hl 1 rfl) ?_
                                                                                          refine lv_iload S.1 S.2.1 dX7_word_55 (lv_at hl 0 rfl) ?_
                                                                                          refine cs_i (va_runV (As := [.int 24, .int 4]) (rest := []) S (c_X7_isWord l G mO mT mW _ mS mD mR mQ mC mU mV mn my mm mf mg tN u1 24 4 fT (htN) (h1) (by decide)) (cwV 2 S.2.2.2.2 gX7_word_X7_isWord rfl rfl rfl (by decide +kernel) ⟨Nat.le_of_ble_eq_true rfl, Nat.le_of_ble_eq_true rfl⟩) ⟨wPre_blind, va_recv C.1 w.1 (ci := 7) (q0 := 0) rfl rfl, wPre_at C w [0, 1, 2] rfl rfl⟩ rfl rfl hl.1 rfl (lv_room (Nat.le_of_ble_eq_true rfl)) dX7_word_57 ⟨Nat.le_of_ble_eq_true rfl, Nat.le_of_ble_eq_true rfl⟩) (fun r57_9 h57_9 => ?_)
                                                                                          refine lv_if_eq (tgt := 78) S.1 S.2.1 dX7_word_60 (by decide) (fun c60_9 => ?_) (fun c60_9 => ?_)
                                                                                          · exact J78 (trivial)
                                                                                          · refine lv_aload_n S.1 S.2.1 dX7_word_63 rfl (lv_at hl 3 rfl) ?_
                                                                                            refine lv_dup S.1 S.2.1 dX7_word_64 rfl ?_
                                                                                            refine w_get S C w (CC := RX7) (T := TX7) (N := 16) (ref := "GateSumsModel") im_X7_word_X7 0 rfl rfl 5 (by decide) (List.mem_of_getElem? (i := 2) rfl) (fun _ h => h) rfl dX7_word_65 ?_
                                                                                            refine lv_iload S.1 S.2.1 dX7_word_68 (lv_at hl 0 rfl) ?_
                                                                                            refine lv_iadd S.1 S.2.1 dX7_word_70 ?_
                                                                                            refine w_topi (y := (nI (u1 + 4))) (nI_add _ _) ?_
                                                                                            refine w_put S C w (CC := RX7) (T := TX7) (N := 16) (ref := "GateSumsModel") im_X7_word_X7 tyX7 tyX7_ok nmX7 0 rfl rfl 5 (by decide) (List.mem_of_getElem? (i := 2) rfl) (fun _ h => h) rfl (ws2 := [(mO, .inr (7, [.ref mS, .ref mD, .ref mR, .ref mT, .int (nI tN), .int (nI (u1 + 4)), .int mn, .ref mW, .ref mQ, .ref mC, .int my, .ref mU, .ref mV, .int mm, .int mf, .int mg])), (mT, .inl (G.2.1 2, 120, .inl fT)), (mW, .inl (G.2.1 1, 73, .inl (wdF 73)))]) (rfl) (rfl) (Nat.le_of_ble_eq_true rfl) rfl dX7_word_71 (fun H locs w => ?_)
                                                                                            refine lv_iload_n S.1 S.2.1 dX7_word_74 rfl (lv_at hl 2 rfl) ?_
                                                                                            refine lv_iload_n S.1 S.2.1 dX7_word_75 rfl (lv_at hl 4 rfl) ?_
                                                                                            refine lv_isub S.1 S.2.1 dX7_word_76 ?_
                                                                                            exact W.iret (v := (6 - lo)) S.1 S.2.1 hr (fun t ht _ => ⟨⟨(6 - lo), (u1 + 4), rfl, (h57_9).2 c60_9, by rw [ht]; exact w.1, w.2.1⟩, w.2.2.F ht⟩) w.2.2.2.2 dX7_word_77
                                                                                    · exact absurd c34_28 (by decide)
                                                                        · refine lv_iload_n S.1 S.2.1 dX7_word_43 rfl (lv_at hl 2 rfl) ?_
                                                                          refine lv_iload_n S.1 S.2.1 dX7_word_44 rfl (lv_at hl 4 rfl) ?_
                                                                          refine lv_iload_n S.1 S.2.1 dX7_word_45 rfl (lv_at hl 5 rfl) ?_
                                                                          refine cs_i (va_runS (As := [.int 5, .int lo, .int hi]) (rest := []) S (c_X7_in l G _ 5 lo hi) (va_cwS 3 S.2.2.2.2 gX7_word_X7_in rfl rfl rfl (by decide +kernel) ⟨Nat.le_of_ble_eq_true rfl, Nat.le_of_ble_eq_true rfl⟩) ⟨wPre_blind, wPre_at C w [] rfl rfl⟩ rfl rfl hl.1 rfl (lv_room (Nat.le_of_ble_eq_true rfl)) dX7_word_46 ⟨Nat.le_of_ble_eq_true rfl, Nat.le_of_ble_eq_true rfl⟩) (fun r46_10 h46_10 => ?_)
                                                                          refine w_topi (y := (inF 5 lo hi)) h46_10 ?_
                                                                          refine lv_if_eq (tgt := 78) S.1 S.2.1 dX7_word_49 (by decide) (fun c49_10 => ?_) (fun c49_10 => ?_)
                                                                          · exact J78 (trivial)
                                                                          · refine lv_aload_n S.1 S.2.1 dX7_word_52 rfl (lv_at hl 3 rfl) ?_
                                                                            refine lv_iload S.1 S.2.1 dX7_word_53 (lv_at hl 1 rfl) ?_
                                                                            refine lv_iload S.1 S.2.1 dX7_word_55 (lv_at hl 0 rfl) ?_
                                                                            refine cs_i (va_runV (As := [.int 20, .int 3]) (rest := []) S (c_X7_isWord l G mO mT mW _ mS mD mR mQ mC mU mV mn my mm mf mg tN u1 20 3 fT (htN) (h1) (by decide)) (cwV 2 S.2.2.2.2 gX7_word_X7_isWord rfl rfl rfl (by decide +kernel) ⟨Nat.le_of_ble_eq_true rfl, Nat.le_of_ble_eq_true rfl⟩) ⟨wPre_blind, va_recv C.1 w.1 (ci := 7) (q0 := 0) rfl rfl, wPre_at C w [0, 1, 2] rfl rfl⟩ rfl rfl hl.1 rfl (lv_room (Nat.le_of_ble_eq_true rfl)) dX7_word_57 ⟨Nat.le_of_ble_eq_true rfl, Nat.le_of_ble_eq_true rfl⟩) (fun r57_10 h57_10 => ?_)
                                                                            refine lv_if_eq (tgt := 78) S.1 S.2.1 dX7_word_60 (by decide) (fun c60_10 => ?_) (fun c60_10 => ?_)
                                                                            · exact J78 (trivial)
                                                                            · refine lv_aload_n S.1 S.2.1 dX7_word_63 rfl (lv_at hl 3 rfl) ?_
                                                                              refine lv_dup S.1 S.2.1 dX7_word_64 rfl ?_
                                                                              refine w_get S C w (CC := RX7) (T := TX7) (N := 16) (ref := "GateSumsModel") im_X7_word_X7 0 rfl rfl 5 (by decide) (List.mem_of_getElem? (i := 2) rfl) (fun _ h => h) rfl dX7_word_65 ?_
                                                                              refine lv_iload S.1 S.2.1 dX7_word_68 (lv_at hl 0 rfl) ?_
                                                                              refine lv_iadd S.1 S.2.1 dX7_word_70 ?_
                                                                              refine w_topi (y := (nI (u1 + 3))) (nI_add _ _) ?_
                                                                              refine w_put S C w (CC := RX7) (T := TX7) (N := 16) (ref := "GateSumsModel") im_X7_word_X7 tyX7 tyX7_ok nmX7 0 rfl rfl 5 (by decide) (List.mem_of_getElem? (i := 2) rfl) (fun _ h => h) rfl (ws2 := [(mO, .inr (7, [.ref mS, .ref mD, .ref mR, .ref mT, .int (nI tN), .int (nI (u1 + 3)), .int mn, .ref mW, .ref mQ, .ref mC, .int my, .ref mU, .ref mV, .int mm, .int mf, .int mg])), (mT, .inl (G.2.1 2, 120, .inl fT)), (mW, .inl (G.2.1 1, 73, .inl (wdF 73)))]) (rfl) (rfl) (Nat.le_of_ble_eq_true rfl) rfl dX7_word_71 (fun H locs w => ?_)
                                                                              refine lv_iload_n S.1 S.2.1 dX7_word_74 rfl (lv_at hl 2 rfl) ?_
                                                                              refine lv_iload_n S.1 S.2.1 dX7_word_75 rfl (lv_at hl 4 rfl) ?_
                                                                              refine lv_isub S.1 S.2.1 dX7_word_76 ?_
                                                                              exact W.iret (v := (5 - lo)) S.1 S.2.1 hr (fun t ht _ => ⟨⟨(5 - lo), (u1 + 3), rfl, (h57_10).2 c60_10, by rw [ht]; exact w.1, w.2.1⟩, w.2.2.F ht⟩) w.2.2.2.2 dX7_word_77
                                                                      · exact absurd c34_23 (by decide)
                                                            · refine lv_iload_n S.1 S.2.1 dX7_word_43 rfl (lv_at hl 2 rfl) ?_
                                                              refine lv_iload_n S.1 S.2.1 dX7_word_44 rfl (lv_at hl 4 rfl) ?_
                                                              refine lv_iload_n S.1 S.2.1 dX7_word_45 rfl (lv_at hl 5 rfl) ?_
                                                              refine cs_i (va_runS (As := [.int 4, .int lo, .int hi]) (rest := []) S (c_X7_in l G _ 4 lo hi) (va_cwS 3 S.2.2.2.2 gX7_word_X7_in rfl rfl rfl (by decide +kernel) ⟨Nat.le_of_ble_eq_true rfl, Nat.le_of_ble_eq_true rfl⟩) ⟨wPre_blind, wPre_at C w [] rfl rfl⟩ rfl rfl hl.1 rfl (lv_room (Nat.le_of_ble_eq_true rfl)) dX7_word_46 ⟨Nat.le_of_ble_eq_true rfl, Nat.le_of_ble_eq_true rfl⟩) (fun r46_11 h46_11 => ?_)
                                                              refine w_topi (y := (inF 4 lo hi)) h46_11 ?_
                                                              refine lv_if_eq (tgt := 78) S.1 S.2.1 dX7_word_49 (by decide) (fun c49_11 => ?_) (fun c49_11 => ?_)
                                                              · exact J78 (trivial)
                                                              · refine lv_aload_n S.1 S.2.1 dX7_word_52 rfl (lv_at hl 3 rfl) ?_
                                                                refine lv_iload S.1 S.2.1 dX7_word_53 (lv_at hl 1 rfl) ?_
                                                                refine lv_iload S.1 S.2.1 dX7_word_55 (lv_at hl 0 rfl) ?_
                                                                refine cs_i (va_runV (As := [.int 15, .int 4]) (rest := []) S (c_X7_isWord l G mO mT mW _ mS mD mR mQ mC mU mV mn my mm mf mg tN u1 15 4 fT (htN) (h1) (by decide)) (cwV 2 S.2.2.2.2 gX7_word_X7_isWord rfl rfl rfl (by decide +kernel) ⟨Nat.le_of_ble_eq_true rfl, Nat.le_of_ble_eq_true rfl⟩) ⟨wPre_blind, va_recv C.1 w.1 (ci := 7) (q0 := 0) rfl rfl, wPre_at C w [0, 1, 2] rfl rfl⟩ rfl rfl hl.1 rfl (lv_room (Nat.le_of_ble_eq_true rfl)) dX7_word_57 ⟨Nat.le_of_ble_eq_true rfl, Nat.le_of_ble_eq_true rfl⟩) (fun r57_11 h57_11 => ?_)
                                                                refine lv_if_eq (tgt := 78) S.1 S.2.1 dX7_word_60 (by decide) (fun c60_11 => ?_) (fun c60_11 => ?_)
                                                                · exact J78 (trivial)
                                                                · refine lv_aload_n S.1 S.2.1 dX7_word_63 rfl (lv_at hl 3 rfl) ?_
                                                                  refine lv_dup S.1 S.2.1 dX7_word_64 rfl ?_
                                                                  refine w_get S C w (CC := RX7) (T := TX7) (N := 16) (ref := "GateSumsModel") im_X7_word_X7 0 rfl rfl 5 (by decide) (List.mem_of_getElem? (i := 2) rfl) (fun _ h => h) rfl dX7_word_65 ?_
                                                                  refine lv_iload S.1 S.2.1 dX7_word_68 (lv_at hl 0 rfl) ?_
                                                                  refine lv_iadd S.1 S.2.1 dX7_word_70 ?_
                                                                  refine w_topi (y := (nI (u1 + 4))) (nI_add _ _) ?_
                                                                  refine w_put S C w (CC := RX7) (T := TX7) (N := 16) (ref := "GateSumsModel") im_X7_word_X7 tyX7 tyX7_ok nmX7 0 rfl rfl 5 (by decide) (List.mem_of_getElem? (i := 2) rfl) (fun _ h => h) rfl (ws2 := [(mO, .inr (7, [.ref mS, .ref mD, .ref mR, .ref mT, .int (nI tN), .int (nI (u1 + 4)), .int mn, .ref mW, .ref mQ, .ref mC, .int my, .ref mU, .ref mV, .int mm, .int mf, .int mg])), (mT, .inl (G.2.1 2, 120, .inl fT)), (mW, .inl (G.2.1 1, 73, .inl (wdF 73)))]) (rfl) (rfl) (Nat.le_of_ble_eq_true rfl) rfl dX7_word_71 (fun H locs w => ?_)
                                                                  refine lv_iload_n S.1 S.2.1 dX7_word_74 rfl (lv_at hl 2 rfl) ?_
                                                                  refine lv_iload_n S.1 S.2.1 dX7_word_75 rfl (lv_at hl 4 rfl) ?_
                                                                  refine lv_isub S.1 S.2.1 dX7_word_76 ?_
                                                                  exact W.iret (v := (4 - lo)) S.1 S.2.1 hr (fun t ht _ => ⟨⟨(4 - lo), (u1 + 4), rfl, (h57_11).2 c60_11, by rw [ht]; exact w.1, w.2.1⟩, w.2.2.F ht⟩) w.2.2.2.2 dX7_word_77
                                                          · exact absurd c34_19 (by decide)
                                              · refine lv_iload_n S.1 S.2.1 dX7_word_43 rfl (lv_at hl 2 rfl) ?_
                                                refine lv_iload_n S.1 S.2.1 dX7_word_44 rfl (lv_at hl 4 rfl) ?_
                                                refine lv_iload_n S.1 S.2.1 dX7_word_45 rfl (lv_at hl 5 rfl) ?_
                                                refine cs_i (va_runS (As := [.int 3, .int lo, .int hi]) (rest := []) S (c_X7_in l G _ 3 lo hi) (va_cwS 3 S.2.2.2.2 gX7_word_X7_in rfl rfl rfl (by decide +kernel) ⟨Nat.le_of_ble_eq_true rfl, Nat.le_of_ble_eq_true rfl⟩) ⟨wPre_blind, wPre_at C w [] rfl rfl⟩ rfl rfl hl.1 rfl (lv_room (Nat.le_of_ble_eq_true rfl)) dX7_word_46 ⟨Nat.le_of_ble_eq_true rfl, Nat.le_of_ble_eq_true rfl⟩) (fun r46_12 h46_12 => ?_)
                                                refine w_topi (y := (inF 3 lo hi)) h46_12 ?_
                                                refine lv_if_eq (tgt := 78) S.1 S.2.1 dX7_word_49 (by decide) (fun c49_12 => ?_) (fun c49_12 => ?_)
                                                · exact J78 (trivial)
                                                · refine lv_aload_n S.1 S.2.1 dX7_word_52 rfl (lv_at hl 3 rfl) ?_
                                                  refine lv_iload S.1 S.2.1 dX7_word_53 (lv_at hl 1 rfl) ?_
                                                  refine lv_iload S.1 S.2.1 dX7_word_55 (lv_at hl 0 rfl) ?_
                                                  refine cs_i (va_runV (As := [.int 11, .int 3]) (rest := []) S (c_X7_isWord l G mO mT mW _ mS mD mR mQ mC mU mV mn my mm mf mg tN u1 11 3 fT (htN) (h1) (by decide)) (cwV 2 S.2.2.2.2 gX7_word_X7_isWord rfl rfl rfl (by decide +kernel) ⟨Nat.le_of_ble_eq_true rfl, Nat.le_of_ble_eq_true rfl⟩) ⟨wPre_blind, va_recv C.1 w.1 (ci := 7) (q0 := 0) rfl rfl, wPre_at C w [0, 1, 2] rfl rfl⟩ rfl rfl hl.1 rfl (lv_room (Nat.le_of_ble_eq_true rfl)) dX7_word_57 ⟨Nat.le_of_ble_eq_true rfl, Nat.le_of_ble_eq_true rfl⟩) (fun r57_12 h57_12 => ?_)
                                                  refine lv_if_eq (tgt := 78) S.1 S.2.1 dX7_word_60 (by decide) (fun c60_12 => ?_) (fun c60_12 => ?_)
                                                  · exact J78 (trivial)
                                                  · refine lv_aload_n S.1 S.2.1 dX7_word_63 rfl (lv_at hl 3 rfl) ?_
                                                    refine lv_dup S.1 S.2.1 dX7_word_64 rfl ?_
                                                    refine w_get S C w (CC := RX7) (T := TX7) (N := 16) (ref := "GateSumsModel") im_X7_word_X7 0 rfl rfl 5 (by decide) (List.mem_of_getElem? (i := 2) rfl) (fun _ h => h) rfl dX7_word_65 ?_
                                                    refine lv_iload S.1 S.2.1 dX7_word_68 (lv_at hl 0 rfl) ?_
                                                    refine lv_iadd S.1 S.2.1 dX7_word_70 ?_
                                                    refine w_topi (y := (nI (u1 + 3))) (nI_add _ _) ?_
                                                    refine w_put S C w (CC := RX7) (T := TX7) (N := 16) (ref := "GateSumsModel") im_X7_word_X7 tyX7 tyX7_ok nmX7 0 rfl rfl 5 (by decide) (List.mem_of_getElem? (i := 2) rfl) (fun _ h => h) rfl (ws2 := [(mO, .inr (7, [.ref mS, .ref mD, .ref mR, .ref mT, .int (nI tN), .int (nI (u1 + 3)), .int mn, .ref mW, .ref mQ, .ref mC, .int my, .ref mU, .ref mV, .int mm, .int mf, .int mg])), (mT, .inl (G.2.1 2, 120, .inl fT)), (mW, .inl (G.2.1 1, 73, .inl (wdF 73)))]) (rfl) (rfl) (Nat.le_of_ble_eq_true rfl) rfl dX7_word_71 (fun H locs w => ?_)
                                                    refine lv_iload_n S.1 S.2.1 dX7_word_74 rfl (lv_at hl 2 rfl) ?_
                                                    refine lv_iload_n S.1 S.2.1 dX7_word_75 rfl (lv_at hl 4 rfl) ?_
                                                    refine lv_isub S.1 S.2.1 dX7_word_76 ?_
                                                    exact W.iret (v := (3 - lo)) S.1 S.2.1 hr (fun t ht _ => ⟨⟨(3 - lo), (u1 + 3), rfl, (h57_12).2 c60_12, by rw [ht]; exact w.1, w.2.1⟩, w.2.2.F ht⟩) w.2.2.2.2 dX7_word_77
                                            · exact absurd c34_14 (by decide)
                                  · refine lv_iload_n S.1 S.2.1 dX7_word_43 rfl (lv_at hl 2 rfl) ?_
                                    refine lv_iload_n S.1 S.2.1 dX7_word_44 rfl (lv_at hl 4 rfl) ?_
                                    refine lv_iload_n S.1 S.2.1 dX7_word_45 rfl (lv_at hl 5 rfl) ?_
                                    refine cs_i (va_runS (As := [.int 2, .int lo, .int hi]) (rest := []) S (c_X7_in l G _ 2 lo hi) (va_cwS 3 S.2.2.2.2 gX7_word_X7_in rfl rfl rfl (by decide +kernel) ⟨Nat.le_of_ble_eq_true rfl, Nat.le_of_ble_eq_true rfl⟩) ⟨wPre_blind, wPre_at C w [] rfl rfl⟩ rfl rfl hl.1 rfl (lv_room (Nat.le_of_ble_eq_true rfl)) dX7_word_46 ⟨Nat.le_of_ble_eq_true rfl, Nat.le_of_ble_eq_true rfl⟩) (fun r46_13 h46_13 => ?_)
                                    refine w_topi (y := (inF 2 lo hi)) h46_13 ?_
                                    refine lv_if_eq (tgt := 78) S.1 S.2.1 dX7_word_49 (by decide) (fun c49_13 => ?_) (fun c49_13 => ?_)
                                    · exact J78 (trivial)
                                    · refine lv_aload_n S.1 S.2.1 dX7_word_52 rfl (lv_at hl 3 rfl) ?_
                                      refine lv_iload S.1 S.2.1 dX7_word_53 (lv_at hl 1 rfl) ?_
                                      refine lv_iload S.1 S.2.1 dX7_word_55 (lv_at hl 0 rfl) ?_
                                      refine cs_i (va_runV (As := [.int 8, .int 2]) (rest := []) S (c_X7_isWord l G mO mT mW _ mS mD mR mQ mC mU mV mn my mm mf mg tN u1 8 2 fT (htN) (h1) (by decide)) (cwV 2 S.2.2.2.2 gX7_word_X7_isWord rfl rfl rfl (by decide +kernel) ⟨Nat.le_of_ble_eq_true rfl, Nat.le_of_ble_eq_true rfl⟩) ⟨wPre_blind, va_recv C.1 w.1 (ci := 7) (q0 := 0) rfl rfl, wPre_at C w [0, 1, 2] rfl rfl⟩ rfl rfl hl.1 rfl (lv_room (Nat.le_of_ble_eq_true rfl)) dX7_word_57 ⟨Nat.le_of_ble_eq_true rfl, Nat.le_of_ble_eq_true rfl⟩) (fun r57_13 h57_13 => ?_)
                                      refine lv_if_eq (tgt := 78) S.1 S.2.1 dX7_word_60 (by decide) (fun c60_13 => ?_) (fun c60_13 => ?_)
                                      · exact J78 (trivial)
                                      · refine lv_aload_n S.1 S.2.1 dX7_word_63 rfl (lv_at hl 3 rfl) ?_
                                        refine lv_dup S.1 S.2.1 dX7_word_64 rfl ?_
                                        refine w_get S C w (CC := RX7) (T := TX7) (N := 16) (ref := "GateSumsModel") im_X7_word_X7 0 rfl rfl 5 (by decide) (List.mem_of_getElem? (i := 2) rfl) (fun _ h => h) rfl dX7_word_65 ?_
                                        refine lv_iload S.1 S.2.1 dX7_word_68 (lv_at hl 0 rfl) ?_
                                        refine lv_iadd S.1 S.2.1 dX7_word_70 ?_
                                        refine w_topi (y := (nI (u1 + 2))) (nI_add _ _) ?_
                                        refine w_put S C w (CC := RX7) (T := TX7) (N := 16) (ref := "GateSumsModel") im_X7_word_X7 tyX7 tyX7_ok nmX7 0 rfl rfl 5 (by decide) (List.mem_of_getElem? (i := 2) rfl) (fun _ h => h) rfl (ws2 := [(mO, .inr (7, [.ref mS, .ref mD, .ref mR, .ref mT, .int (nI tN), .int (nI (u1 + 2)), .int mn, .ref mW, .ref mQ, .ref mC, .int my, .ref mU, .ref mV, .int mm, .int mf, .int mg])), (mT, .inl (G.2.1 2, 120, .inl fT)), (mW, .inl (G.2.1 1, 73, .inl (wdF 73)))]) (rfl) (rfl) (Nat.le_of_ble_eq_true rfl) rfl dX7_word_71 (fun H locs w => ?_)
                                        refine lv_iload_n S.1 S.2.1 dX7_word_74 rfl (lv_at hl 2 rfl) ?_
                                        refine lv_iload_n S.1 S.2.1 dX7_word_75 rfl (lv_at hl 4 rfl) ?_
                                        refine lv_isub S.1 S.2.1 dX7_word_76 ?_
                                        exact W.iret (v := (2 - lo)) S.1 S.2.1 hr (fun t ht _ => ⟨⟨(2 - lo), (u1 + 2), rfl, (h57_13).2 c60_13, by rw [ht]; exact w.1, w.2.1⟩, w.2.2.F ht⟩) w.2.2.2.2 dX7_word_77
                                · exact absurd c34_10 (by decide)
                        · refine lv_iload_n S.1 S.2.1 dX7_word_43 rfl (lv_at hl 2 rfl) ?_
                          refine lv_iload_n S.1 S.2.1 dX7_word_44 rfl (lv_at hl 4 rfl) ?_
                          refine lv_iload_n S.1 S.2.1 dX7_word_45 rfl (lv_at hl 5 rfl) ?_
                          refine cs_i (va_runS (As := [.int 1, .int lo, .int hi]) (rest := []) S (c_X7_in l G _ 1 lo hi) (va_cwS 3 S.2.2.2.2 gX7_word_X7_in rfl rfl rfl (by decide +kernel) ⟨Nat.le_of_ble_eq_true rfl, Nat.le_of_ble_eq_true rfl⟩) ⟨wPre_blind, wPre_at C w [] rfl rfl⟩ rfl rfl hl.1 rfl (lv_room (Nat.le_of_ble_eq_true rfl)) dX7_word_46 ⟨Nat.le_of_ble_eq_true rfl, Nat.le_of_ble_eq_true rfl⟩) (fun r46_14 h46_14 => ?_)
                          refine w_topi (y := (inF 1 lo hi)) h46_14 ?_
                          refine lv_if_eq (tgt := 78) S.1 S.2.1 dX7_word_49 (by decide) (fun c49_14 => ?_) (fun c49_14 => ?_)
                          · exact J78 (trivial)
                          · refine lv_aload_n S.1 S.2.1 dX7_word_52 rfl (lv_at hl 3 rfl) ?_
                            refine lv_iload S.1 S.2.1 dX7_word_53 (lv_at hl 1 rfl) ?_
                            refine lv_iload S.1 S.2.1 dX7_word_55 (lv_at hl 0 rfl) ?_
                            refine cs_i (va_runV (As := [.int 4, .int 3]) (rest := []) S (c_X7_isWord l G mO mT mW _ mS mD mR mQ mC mU mV mn my mm mf mg tN u1 4 3 fT (htN) (h1) (by decide)) (cwV 2 S.2.2.2.2 gX7_word_X7_isWord rfl rfl rfl (by decide +kernel) ⟨Nat.le_of_ble_eq_true rfl, Nat.le_of_ble_eq_true rfl⟩) ⟨wPre_blind, va_recv C.1 w.1 (ci := 7) (q0 := 0) rfl rfl, wPre_at C w [0, 1, 2] rfl rfl⟩ rfl rfl hl.1 rfl (lv_room (Nat.le_of_ble_eq_true rfl)) dX7_word_57 ⟨Nat.le_of_ble_eq_true rfl, Nat.le_of_ble_eq_true rfl⟩) (fun r57_14 h57_14 => ?_)
                            refine lv_if_eq (tgt := 78) S.1 S.2.1 dX7_word_60 (by decide) (fun c60_14 => ?_) (fun c60_14 => ?_)
                            · exact J78 (trivial)
                            · refine lv_aload_n S.1 S.2.1 dX7_word_63 rfl (lv_at hl 3 rfl) ?_
                              refine lv_dup S.1 S.2.1 dX7_word_64 rfl ?_
                              refine w_get S C w (CC := RX7) (T := TX7) (N := 16) (ref := "GateSumsModel") im_X7_word_X7 0 rfl rfl 5 (by decide) (List.mem_of_getElem? (i := 2) rfl) (fun _ h => h) rfl dX7_word_65 ?_
                              refine lv_iload S.1 S.2.1 dX7_word_68 (lv_at hl 0 rfl) ?_
                              refine lv_iadd S.1 S.2.1 dX7_word_70 ?_
                              refine w_topi (y := (nI (u1 + 3))) (nI_add _ _) ?_
                              refine w_put S C w (CC := RX7) (T := TX7) (N := 16) (ref := "GateSumsModel") im_X7_word_X7 tyX7 tyX7_ok nmX7 0 rfl rfl 5 (by decide) (List.mem_of_getElem? (i := 2) rfl) (fun _ h => h) rfl (ws2 := [(mO, .inr (7, [.ref mS, .ref mD, .ref mR, .ref mT, .int (nI tN), .int (nI (u1 + 3)), .int mn, .ref mW, .ref mQ, .ref mC, .int my, .ref mU, .ref mV, .int mm, .int mf, .int mg])), (mT, .inl (G.2.1 2, 120, .inl fT)), (mW, .inl (G.2.1 1, 73, .inl (wdF 73)))]) (rfl) (rfl) (Nat.le_of_ble_eq_true rfl) rfl dX7_word_71 (fun H locs w => ?_)
                              refine lv_iload_n S.1 S.2.1 dX7_word_74 rfl (lv_at hl 2 rfl) ?_
                              refine lv_iload_n S.1 S.2.1 dX7_word_75 rfl (lv_at hl 4 rfl) ?_
                              refine lv_isub S.1 S.2.1 dX7_word_76 ?_
                              exact W.iret (v := (1 - lo)) S.1 S.2.1 hr (fun t ht _ => ⟨⟨(1 - lo), (u1 + 3), rfl, (h57_14).2 c60_14, by rw [ht]; exact w.1, w.2.1⟩, w.2.2.F ht⟩) w.2.2.2.2 dX7_word_77
                      · exact absurd c34_7 (by decide)
            · refine lv_iload_n S.1 S.2.1 dX7_word_43 rfl (lv_at hl 2 rfl) ?_
              refine lv_iload_n S.1 S.2.1 dX7_word_44 rfl (lv_at hl 4 rfl) ?_
              refine lv_iload_n S.1 S.2.1 dX7_word_45 rfl (lv_at hl 5 rfl) ?_
              refine cs_i (va_runS (As := [.int 0, .int lo, .int hi]) (rest := []) S (c_X7_in l G _ 0 lo hi) (va_cwS 3 S.2.2.2.2 gX7_word_X7_in rfl rfl rfl (by decide +kernel) ⟨Nat.le_of_ble_eq_true rfl, Nat.le_of_ble_eq_true rfl⟩) ⟨wPre_blind, wPre_at C w [] rfl rfl⟩ rfl rfl hl.1 rfl (lv_room (Nat.le_of_ble_eq_true rfl)) dX7_word_46 ⟨Nat.le_of_ble_eq_true rfl, Nat.le_of_ble_eq_true rfl⟩) (fun r46_15 h46_15 => ?_)
              refine w_topi (y := (inF 0 lo hi)) h46_15 ?_
              refine lv_if_eq (tgt := 78) S.1 S.2.1 dX7_word_49 (by decide) (fun c49_15 => ?_) (fun c49_15 => ?_)
              · exact J78 (trivial)
              · refine lv_aload_n S.1 S.2.1 dX7_word_52 rfl (lv_at hl 3 rfl) ?_
                refine lv_iload S.1 S.2.1 dX7_word_53 (lv_at hl 1 rfl) ?_
                refine lv_iload S.1 S.2.1 dX7_word_55 (lv_at hl 0 rfl) ?_
                refine cs_i (va_runV (As := [.int 0, .int 3]) (rest := []) S (c_X7_isWord l G mO mT mW _ mS mD mR mQ mC mU mV mn my mm mf mg tN u1 0 3 fT (htN) (h1) (by decide)) (cwV 2 S.2.2.2.2 gX7_word_X7_isWord rfl rfl rfl (by decide +kernel) ⟨Nat.le_of_ble_eq_true rfl, Nat.le_of_ble_eq_true rfl⟩) ⟨wPre_blind, va_recv C.1 w.1 (ci := 7) (q0 := 0) rfl rfl, wPre_at C w [0, 1, 2] rfl rfl⟩ rfl rfl hl.1 rfl (lv_room (Nat.le_of_ble_eq_true rfl)) dX7_word_57 ⟨Nat.le_of_ble_eq_true rfl, Nat.le_of_ble_eq_true rfl⟩) (fun r57_15 h57_15 => ?_)
                refine lv_if_eq (tgt := 78) S.1 S.2.1 dX7_word_60 (by decide) (fun c60_15 => ?_) (fun c60_15 => ?_)
                · exact J78 (trivial)
                · refine lv_aload_n S.1 S.2.1 dX7_word_63 rfl (lv_at hl 3 rfl) ?_
                  refine lv_dup S.1 S.2.1 dX7_word_64 rfl ?_
                  refine w_get S C w (CC := RX7) (T := TX7) (N := 16) (ref := "GateSumsModel") im_X7_word_X7 0 rfl rfl 5 (by decide) (List.mem_of_getElem? (i := 2) rfl) (fun _ h => h) rfl dX7_word_65 ?_
                  refine lv_iload S.1 S.2.1 dX7_word_68 (lv_at hl 0 rfl) ?_
                  refine lv_iadd S.1 S.2.1 dX7_word_70 ?_
                  refine w_topi (y := (nI (u1 + 3))) (nI_add _ _) ?_
                  refine w_put S C w (CC := RX7) (T := TX7) (N := 16) (ref := "GateSumsModel") im_X7_word_X7 tyX7 tyX7_ok nmX7 0 rfl rfl 5 (by decide) (List.mem_of_getElem? (i := 2) rfl) (fun _ h => h) rfl (ws2 := [(mO, .inr (7, [.ref mS, .ref mD, .ref mR, .ref mT, .int (nI tN), .int (nI (u1 + 3)), .int mn, .ref mW, .ref mQ, .ref mC, .int my, .ref mU, .ref mV, .int mm, .int mf, .int mg])), (mT, .inl (G.2.1 2, 120, .inl fT)), (mW, .inl (G.2.1 1, 73, .inl (wdF 73)))]) (rfl) (rfl) (Nat.le_of_ble_eq_true rfl) rfl dX7_word_71 (fun H locs w => ?_)
                  refine lv_iload_n S.1 S.2.1 dX7_word_74 rfl (lv_at hl 2 rfl) ?_
                  refine lv_iload_n S.1 S.2.1 dX7_word_75 rfl (lv_at hl 4 rfl) ?_
                  refine lv_isub S.1 S.2.1 dX7_word_76 ?_
                  exact W.iret (v := (0 - lo)) S.1 S.2.1 hr (fun t ht _ => ⟨⟨(0 - lo), (u1 + 3), rfl, (h57_15).2 c60_15, by rw [ht]; exact w.1, w.2.1⟩, w.2.2.F ht⟩) w.2.2.2.2 dX7_word_77
          · exact absurd c34_3 (by decide)
theorem im_X7_ends_X7 : ∀ w ∈ u_ws RX7 TX7 16, w ∈ wsX7_ends := by decide +kernel
set_option maxHeartbeats 4000000 in
set_option maxRecDepth 100000 in
theorem c_X7_ends (l : Launch) (G : GT) (mO mT : Nat) (sz : Nat) (mS mD mR mW mQ mC mU mV : Nat) (mn my mm mf mg : Int32) (tN aN : Nat) (fT : Nat → Int32) (htN : tN ≤ 120) (haN : aN ≤ 120) : Met l yX7_ends wsX7_ends ({ frames := 2, cells := 0, slots := 0, locals := 41 }) (va_Pc [.ref mO] (wPre G [(mO, .inr (7, [.ref mS, .ref mD, .ref mR, .ref mT, .int (nI tN), .int (nI aN), .int mn, .ref mW, .ref mQ, .ref mC, .int my, .ref mU, .ref mV, .int mm, .int mf, .int mg])), (mT, .inl (G.2.1 2, 120, .inl fT))] sz)) (va_Qi (fun (r : Int32) (u : Nat) => (r = 0 ∨ r = 1) ∧ u ≤ 120) (bW G (va_A [(mO, .inr (7, [.ref mS, .ref mD, .ref mR, .ref mT, .int (nI tN), .int (nI aN), .int mn, .ref mW, .ref mQ, .ref mC, .int my, .ref mU, .ref mV, .int mm, .int mf, .int mg])), (mT, .inl (G.2.1 2, 120, .inl fT))] sz) (fun u : Nat => [(mO, .inr (7, [.ref mS, .ref mD, .ref mR, .ref mT, .int (nI tN), .int (nI u), .int mn, .ref mW, .ref mQ, .ref mC, .int my, .ref mU, .ref mV, .int mm, .int mf, .int mg])), (mT, .inl (G.2.1 2, 120, .inl fT))])) (va_A [(mO, .inr (7, [.ref mS, .ref mD, .ref mR, .ref mT, .int (nI tN), .int (nI aN), .int mn, .ref mW, .ref mQ, .ref mC, .int my, .ref mU, .ref mV, .int mm, .int mf, .int mg])), (mT, .inl (G.2.1 2, 120, .inl fT))] sz)) 0 0 (va_A [(mO, .inr (7, [.ref mS, .ref mD, .ref mR, .ref mT, .int (nI tN), .int (nI aN), .int mn, .ref mW, .ref mQ, .ref mC, .int my, .ref mU, .ref mV, .int mm, .int mf, .int mg])), (mT, .inl (G.2.1 2, 120, .inl fT))] sz) := by
  refine met_go (cc := cX7_ends) (maxL := 2) (ret := (some .boolean)) (own := RX7) (by decide) rfl rfl (Nat.le_of_ble_eq_true rfl) ?_
  intro p e s m below meth c ls S hr hlocks hname hsz C w hl
  have hl : lv_has ls 2 [(0, .ref mO)] := hl
  refine lv_aload_n S.1 S.2.1 dX7_ends_0 rfl (lv_at hl 0 rfl) ?_
  refine cq_v C w [0, 1] [] [0, 1] (wr := []) (w' := fun u : Nat => [(mO, .inr (7, [.ref mS, .ref mD, .ref mR, .ref mT, .int (nI tN), .int (nI u), .int mn, .ref mW, .ref mQ, .ref mC, .int my, .ref mU, .ref mV, .int mm, .int mf, .int mg])), (mT, .inl (G.2.1 2, 120, .inl fT))]) (ws2 := fun u : Nat => [(mO, .inr (7, [.ref mS, .ref mD, .ref mR, .ref mT, .int (nI tN), .int (nI u), .int mn, .ref mW, .ref mQ, .ref mC, .int my, .ref mU, .ref mV, .int mm, .int mf, .int mg])), (mT, .inl (G.2.1 2, 120, .inl fT))]) rfl rfl rfl (by decide) rfl (fun _ => rfl) (va_runV (As := []) (rest := []) S (c_X7_skips l G mO mT _ mS mD mR mW mQ mC mU mV mn my mm mf mg tN aN fT (htN) (haN)) (cwV 0 S.2.2.2.2 gX7_ends_X7_skips rfl rfl rfl (by decide +kernel) ⟨Nat.le_of_ble_eq_true rfl, Nat.le_of_ble_eq_true rfl⟩) ⟨wPre_blind, va_recv C.1 w.1 (ci := 7) (q0 := 0) rfl rfl, wPre_at C w [0, 1] rfl rfl⟩ rfl rfl hl.1 rfl (lv_room (Nat.le_of_ble_eq_true rfl)) dX7_ends_1 ⟨Nat.le_of_ble_eq_true rfl, Nat.le_of_ble_eq_true rfl⟩) (fun u1 H locs h1 w => ?_)
  have w : Wd G _ s [(mO, .inr (7, [.ref mS, .ref mD, .ref mR, .ref mT, .int (nI tN), .int (nI u1), .int mn, .ref mW, .ref mQ, .ref mC, .int my, .ref mU, .ref mV, .int mm, .int mf, .int mg])), (mT, .inl (G.2.1 2, 120, .inl fT))] H locs := w
  refine lv_aload_n S.1 S.2.1 dX7_ends_4 rfl (lv_at hl 0 rfl) ?_
  refine lv_aload_n S.1 S.2.1 dX7_ends_5 rfl (lv_at hl 0 rfl) ?_
  refine w_get S C w (CC := RX7) (T := TX7) (N := 16) (ref := "GateSumsModel") im_X7_ends_X7 0 rfl rfl 5 (by decide) (List.mem_of_getElem? (i := 1) rfl) (fun _ h => h) rfl dX7_ends_6 ?_
  refine cs_i (va_runV (As := [.int (nI u1)]) (rest := []) S (c_X7_byteAt l G mO mT _ mS mD mR mW mQ mC mU mV (nI tN) (nI u1) mn my mm mf mg fT (nI u1) (fun h => bt_ok htN (by omega) h)) (cwV 1 S.2.2.2.2 gX7_ends_X7_byteAt rfl rfl rfl (by decide +kernel) ⟨Nat.le_of_ble_eq_true rfl, Nat.le_of_ble_eq_true rfl⟩) ⟨wPre_blind, va_recv C.1 w.1 (ci := 7) (q0 := 0) rfl rfl, wPre_at C w [0, 1] rfl rfl⟩ rfl rfl hl.1 rfl (lv_room (Nat.le_of_ble_eq_true rfl)) dX7_ends_9 ⟨Nat.le_of_ble_eq_true rfl, Nat.le_of_ble_eq_true rfl⟩) (fun r9 h9 => ?_)
  refine w_topi (y := (byteAtM (nI tN) fT (nI u1))) h9 ?_
  refine lv_bipush (v := 59) S.1 S.2.1 dX7_ends_12 (by decide) ?_
  refine lv_icmp_ne (tgt := 21) S.1 S.2.1 dX7_ends_14 (by decide) (fun c14 => ?_) (fun c14 => ?_)
  · refine lv_iconst (v := 0) S.1 S.2.1 dX7_ends_21 (by decide) ?_
    refine lv_istore_n (lv' := [(1, .int 0), (0, .ref mO)]) S.1 S.2.1 dX7_ends_22 rfl hl (by decide) rfl (fun ls hl => ?_)
    refine lv_aload_n S.1 S.2.1 dX7_ends_23 rfl (lv_at hl 1 rfl) ?_
    refine lv_dup S.1 S.2.1 dX7_ends_24 rfl ?_
    refine w_get S C w (CC := RX7) (T := TX7) (N := 16) (ref := "GateSumsModel") im_X7_ends_X7 0 rfl rfl 5 (by decide) (List.mem_of_getElem? (i := 1) rfl) (fun _ h => h) rfl dX7_ends_25 ?_
    refine lv_iload_n S.1 S.2.1 dX7_ends_28 rfl (lv_at hl 0 rfl) ?_
    refine lv_if_eq (tgt := 36) S.1 S.2.1 dX7_ends_29 (by decide) (fun c29 => ?_) (fun c29 => ?_)
    · refine lv_iconst (v := 0) S.1 S.2.1 dX7_ends_36 (by decide) ?_
      refine lv_iadd S.1 S.2.1 dX7_ends_37 ?_
      refine w_topi (y := (nI (u1 + 0))) (nI_add _ 0) ?_
      refine w_put S C w (CC := RX7) (T := TX7) (N := 16) (ref := "GateSumsModel") im_X7_ends_X7 tyX7 tyX7_ok nmX7 0 rfl rfl 5 (by decide) (List.mem_of_getElem? (i := 1) rfl) (fun _ h => h) rfl (ws2 := [(mO, .inr (7, [.ref mS, .ref mD, .ref mR, .ref mT, .int (nI tN), .int (nI (u1 + 0)), .int mn, .ref mW, .ref mQ, .ref mC, .int my, .ref mU, .ref mV, .int mm, .int mf, .int mg])), (mT, .inl (G.2.1 2, 120, .inl fT))]) (rfl) (rfl) (Nat.le_of_ble_eq_true rfl) rfl dX7_ends_38 (fun H locs w => ?_)
      refine lv_iload_n S.1 S.2.1 dX7_ends_41 rfl (lv_at hl 0 rfl) ?_
      exact W.zret (v := 0) S.1 S.2.1 hr (rfl) (fun t ht _ => ⟨⟨0, (u1 + 0), rfl, by first | exact ⟨Or.inr rfl, by have := bt_lt htN (by omega) c14 (by decide); omega⟩ | exact ⟨Or.inl rfl, h1⟩, by rw [ht]; exact w.1, w.2.1⟩, w.2.2.F ht⟩) w.2.2.2.2 dX7_ends_42
    · exact absurd c29 (by decide)
  · refine lv_iconst (v := 1) S.1 S.2.1 dX7_ends_17 (by decide) ?_
    refine lv_goto (tgt := 22) S.1 S.2.1 dX7_ends_18 (by decide) ?_
    refine lv_istore_n (lv' := [(1, .int 1), (0, .ref mO)]) S.1 S.2.1 dX7_ends_22 rfl hl (by decide) rfl (fun ls hl => ?_)
    refine lv_aload_n S.1 S.2.1 dX7_ends_23 rfl (lv_at hl 1 rfl) ?_
    refine lv_dup S.1 S.2.1 dX7_ends_24 rfl ?_
    refine w_get S C w (CC := RX7) (T := TX7) (N := 16) (ref := "GateSumsModel") im_X7_ends_X7 0 rfl rfl 5 (by decide) (List.mem_of_getElem? (i := 1) rfl) (fun _ h => h) rfl dX7_ends_25 ?_
    refine lv_iload_n S.1 S.2.1 dX7_ends_28 rfl (lv_at hl 0 rfl) ?_
    refine lv_if_eq (tgt := 36) S.1 S.2.1 dX7_ends_29 (by decide) (fun c29_1 => ?_) (fun c29_1 => ?_)
    · exact absurd c29_1 (by decide)
    · refine lv_iconst (v := 1) S.1 S.2.1 dX7_ends_32 (by decide) ?_
      refine lv_goto (tgt := 37) S.1 S.2.1 dX7_ends_33 (by decide) ?_
      refine lv_iadd S.1 S.2.1 dX7_ends_37 ?_
      refine w_topi (y := (nI (u1 + 1))) (nI_1 _) ?_
      refine w_put S C w (CC := RX7) (T := TX7) (N := 16) (ref := "GateSumsModel") im_X7_ends_X7 tyX7 tyX7_ok nmX7 0 rfl rfl 5 (by decide) (List.mem_of_getElem? (i := 1) rfl) (fun _ h => h) rfl (ws2 := [(mO, .inr (7, [.ref mS, .ref mD, .ref mR, .ref mT, .int (nI tN), .int (nI (u1 + 1)), .int mn, .ref mW, .ref mQ, .ref mC, .int my, .ref mU, .ref mV, .int mm, .int mf, .int mg])), (mT, .inl (G.2.1 2, 120, .inl fT))]) (rfl) (rfl) (Nat.le_of_ble_eq_true rfl) rfl dX7_ends_38 (fun H locs w => ?_)
      refine lv_iload_n S.1 S.2.1 dX7_ends_41 rfl (lv_at hl 0 rfl) ?_
      exact W.zret (v := 1) S.1 S.2.1 hr (rfl) (fun t ht _ => ⟨⟨1, (u1 + 1), rfl, by first | exact ⟨Or.inr rfl, by have := bt_lt htN (by omega) c14 (by decide); omega⟩ | exact ⟨Or.inl rfl, h1⟩, by rw [ht]; exact w.1, w.2.1⟩, w.2.2.F ht⟩) w.2.2.2.2 dX7_ends_42
theorem im_X7_readsGate_X7 : ∀ w ∈ u_ws RX7 TX7 16, w ∈ wsX7_readsGate := by decide +kernel
set_option maxHeartbeats 4000000 in
set_option maxRecDepth 100000 in
theorem c_X7_readsGate (l : Launch) (G : GT) (mO mD mT mW : Nat) (sz : Nat) (mS mR mQ mC mU mV : Nat) (mn my mm mf mg : Int32) (tN aN : Nat) (fD fT : Nat → Int32) (gN : Nat) (htN : tN ≤ 120) (haN : aN ≤ 120) (hg : fD 1 = nI gN) (hgN : gN < 12) : Met l yX7_readsGate wsX7_readsGate ({ frames := 3, cells := 0, slots := 0, locals := 71 }) (va_Pc [.ref mO] (wPre G [(mO, .inr (7, [.ref mS, .ref mD, .ref mR, .ref mT, .int (nI tN), .int (nI aN), .int mn, .ref mW, .ref mQ, .ref mC, .int my, .ref mU, .ref mV, .int mm, .int mf, .int mg])), (mD, .inl (G.2.1 2, 49, .inl fD)), (mT, .inl (G.2.1 2, 120, .inl fT)), (mW, .inl (G.2.1 1, 73, .inl (wdF 73)))] sz)) (va_Qi (fun (r : Int32) (u : Nat × Int32 × (Nat → Int32)) => (r = 0 ∨ r = 1) ∧ u.1 ≤ 120 ∧ (¬ r = 0 → gateD fD u.2.2 gN)) (bW G (va_A [(mO, .inr (7, [.ref mS, .ref mD, .ref mR, .ref mT, .int (nI tN), .int (nI aN), .int mn, .ref mW, .ref mQ, .ref mC, .int my, .ref mU, .ref mV, .int mm, .int mf, .int mg])), (mD, .inl (G.2.1 2, 49, .inl fD)), (mT, .inl (G.2.1 2, 120, .inl fT)), (mW, .inl (G.2.1 1, 73, .inl (wdF 73)))] sz) (fun u : Nat × Int32 × (Nat → Int32) => [(mO, .inr (7, [.ref mS, .ref mD, .ref mR, .ref mT, .int (nI tN), .int (nI u.1), .int u.2.1, .ref mW, .ref mQ, .ref mC, .int my, .ref mU, .ref mV, .int mm, .int mf, .int mg])), (mD, .inl (G.2.1 2, 49, .inl u.2.2)), (mT, .inl (G.2.1 2, 120, .inl fT)), (mW, .inl (G.2.1 1, 73, .inl (wdF 73)))])) (va_A [(mO, .inr (7, [.ref mS, .ref mD, .ref mR, .ref mT, .int (nI tN), .int (nI aN), .int mn, .ref mW, .ref mQ, .ref mC, .int my, .ref mU, .ref mV, .int mm, .int mf, .int mg])), (mD, .inl (G.2.1 2, 49, .inl fD)), (mT, .inl (G.2.1 2, 120, .inl fT)), (mW, .inl (G.2.1 1, 73, .inl (wdF 73)))] sz)) 0 0 (va_A [(mO, .inr (7, [.ref mS, .ref mD, .ref mR, .ref mT, .int (nI tN), .int (nI aN), .int mn, .ref mW, .ref mQ, .ref mC, .int my, .ref mU, .ref mV, .int mm, .int mf, .int mg])), (mD, .inl (G.2.1 2, 49, .inl fD)), (mT, .inl (G.2.1 2, 120, .inl fT)), (mW, .inl (G.2.1 1, 73, .inl (wdF 73)))] sz) := by
  refine met_go (cc := cX7_readsGate) (maxL := 4) (ret := (some .boolean)) (own := RX7) (by decide) rfl rfl (Nat.le_of_ble_eq_true rfl) ?_
  intro p e s m below meth c ls S hr hlocks hname hsz C w hl
  have hl : lv_has ls 4 [(0, .ref mO)] := hl
  refine lv_aload_n S.1 S.2.1 dX7_readsGate_0 rfl (lv_at hl 0 rfl) ?_
  refine w_get S C w (CC := RX7) (T := TX7) (N := 16) (ref := "GateSumsModel") im_X7_readsGate_X7 0 rfl rfl 1 (by decide) (List.mem_of_getElem? (i := 1) rfl) (fun _ h => h) rfl dX7_readsGate_1 ?_
  refine lv_iconst (v := 1) S.1 S.2.1 dX7_readsGate_4 (by decide) ?_
  refine w_iald S C w 1 rfl (by unfold vp_in; decide) dX7_readsGate_5 ?_
  refine w_topi (y := (nI gN)) (hg) ?_
  refine lv_istore_n (lv' := [(1, .int (nI gN)), (0, .ref mO)]) S.1 S.2.1 dX7_readsGate_6 rfl hl (by decide) rfl (fun ls hl => ?_)
  refine lv_aload_n S.1 S.2.1 dX7_readsGate_7 rfl (lv_at hl 1 rfl) ?_
  refine w_get S C w (CC := RX7) (T := TX7) (N := 16) (ref := "GateSumsModel") im_X7_readsGate_X7 0 rfl rfl 1 (by decide) (List.mem_of_getElem? (i := 1) rfl) (fun _ h => h) rfl dX7_readsGate_8 ?_
  refine lv_iconst (v := 0) S.1 S.2.1 dX7_readsGate_11 (by decide) ?_
  refine w_iald S C w 1 rfl (by unfold vp_in; decide) dX7_readsGate_12 ?_
  refine lv_iload_n S.1 S.2.1 dX7_readsGate_13 rfl (lv_at hl 0 rfl) ?_
  refine lv_iadd S.1 S.2.1 dX7_readsGate_14 ?_
  refine lv_iconst (v := 1) S.1 S.2.1 dX7_readsGate_15 (by decide) ?_
  refine lv_isub S.1 S.2.1 dX7_readsGate_16 ?_
  refine lv_istore_n (lv' := [(2, .int (((fD (0 : Int32).toNatClampNeg) + (nI gN)) - 1)), (1, .int (nI gN)), (0, .ref mO)]) S.1 S.2.1 dX7_readsGate_17 rfl hl (by decide) rfl (fun ls hl => ?_)
  refine lv_aload_n S.1 S.2.1 dX7_readsGate_18 rfl (lv_at hl 2 rfl) ?_
  refine lv_iconst (v := 0) S.1 S.2.1 dX7_readsGate_19 (by decide) ?_
  refine lv_bipush (v := 7) S.1 S.2.1 dX7_readsGate_20 (by decide) ?_
  refine cq_i C w [0, 2, 3] [1] [1, 0, 2, 3] (wr := [(mD, .inl (G.2.1 2, 49, .inl fD))]) (w' := fun u : Nat => [(mO, .inr (7, [.ref mS, .ref mD, .ref mR, .ref mT, .int (nI tN), .int (nI u), .int mn, .ref mW, .ref mQ, .ref mC, .int my, .ref mU, .ref mV, .int mm, .int mf, .int mg])), (mT, .inl (G.2.1 2, 120, .inl fT)), (mW, .inl (G.2.1 1, 73, .inl (wdF 73)))]) (ws2 := fun u : Nat => [(mO, .inr (7, [.ref mS, .ref mD, .ref mR, .ref mT, .int (nI tN), .int (nI u), .int mn, .ref mW, .ref mQ, .ref mC, .int my, .ref mU, .ref mV, .int mm, .int mf, .int mg])), (mD, .inl (G.2.1 2, 49, .inl fD)), (mT, .inl (G.2.1 2, 120, .inl fT)), (mW, .inl (G.2.1 1, 73, .inl (wdF 73)))]) rfl rfl rfl (by decide) rfl (fun _ => rfl) (va_runV (As := [.int 0, .int 7]) (rest := []) S (c_X7_word l G mO mT mW _ mS mD mR mQ mC mU mV mn my mm mf mg tN aN fT 0 7 (htN) (haN)) (cwV 2 S.2.2.2.2 gX7_readsGate_X7_word rfl rfl rfl (by decide +kernel) ⟨Nat.le_of_ble_eq_true rfl, Nat.le_of_ble_eq_true rfl⟩) ⟨wPre_blind, va_recv C.1 w.1 (ci := 7) (q0 := 0) rfl rfl, wPre_at C w [0, 2, 3] rfl rfl⟩ rfl rfl hl.1 rfl (lv_room (Nat.le_of_ble_eq_true rfl)) dX7_readsGate_22 ⟨Nat.le_of_ble_eq_true rfl, Nat.le_of_ble_eq_true rfl⟩) (fun r22 u22 H locs h22 w => ?_)
  have w : Wd G _ s [(mO, .inr (7, [.ref mS, .ref mD, .ref mR, .ref mT, .int (nI tN), .int (nI u22), .int mn, .ref mW, .ref mQ, .ref mC, .int my, .ref mU, .ref mV, .int mm, .int mf, .int mg])), (mD, .inl (G.2.1 2, 49, .inl fD)), (mT, .inl (G.2.1 2, 120, .inl fT)), (mW, .inl (G.2.1 1, 73, .inl (wdF 73)))] H locs := w
  refine lv_istore_n (lv' := [(3, .int r22), (2, .int (((fD (0 : Int32).toNatClampNeg) + (nI gN)) - 1)), (1, .int (nI gN)), (0, .ref mO)]) S.1 S.2.1 dX7_readsGate_25 rfl hl (by decide) rfl (fun ls hl => ?_)
  refine lv_iload_n S.1 S.2.1 dX7_readsGate_26 rfl (lv_at hl 0 rfl) ?_
  refine lv_if_ge (tgt := 32) S.1 S.2.1 dX7_readsGate_27 (by decide) (fun c27 => ?_) (fun c27 => ?_)
  · refine lv_aload_n S.1 S.2.1 dX7_readsGate_32 rfl (lv_at hl 3 rfl) ?_
    refine w_get S C w (CC := RX7) (T := TX7) (N := 16) (ref := "GateSumsModel") im_X7_readsGate_X7 0 rfl rfl 1 (by decide) (List.mem_of_getElem? (i := 1) rfl) (fun _ h => h) rfl dX7_readsGate_33 ?_
    refine lv_bipush (v := 6) S.1 S.2.1 dX7_readsGate_36 (by decide) ?_
    refine lv_iload_n S.1 S.2.1 dX7_readsGate_38 rfl (lv_at hl 2 rfl) ?_
    refine lv_iadd S.1 S.2.1 dX7_readsGate_39 ?_
    refine w_topi (y := (nI (6 + gN))) (nI_add 6 gN) ?_
    refine lv_iload_n S.1 S.2.1 dX7_readsGate_40 rfl (lv_at hl 0 rfl) ?_
    refine w_iast S C w 1 rfl (nIin (by omega) (by decide)) (ws2 := [(mO, .inr (7, [.ref mS, .ref mD, .ref mR, .ref mT, .int (nI tN), .int (nI u22), .int mn, .ref mW, .ref mQ, .ref mC, .int my, .ref mU, .ref mV, .int mm, .int mf, .int mg])), (mD, .inl (G.2.1 2, 49, .inl (upd fD (nI (6 + gN)).toNatClampNeg r22))), (mT, .inl (G.2.1 2, 120, .inl fT)), (mW, .inl (G.2.1 1, 73, .inl (wdF 73)))]) rfl dX7_readsGate_41 (fun H locs w => ?_)
    have w : Wd G (va_A [(mO, .inr (7, [.ref mS, .ref mD, .ref mR, .ref mT, .int (nI tN), .int (nI aN), .int mn, .ref mW, .ref mQ, .ref mC, .int my, .ref mU, .ref mV, .int mm, .int mf, .int mg])), (mD, .inl (G.2.1 2, 49, .inl fD)), (mT, .inl (G.2.1 2, 120, .inl fT)), (mW, .inl (G.2.1 1, 73, .inl (wdF 73)))] sz) s [(mO, .inr (7, [.ref mS, .ref mD, .ref mR, .ref mT, .int (nI tN), .int (nI u22), .int mn, .ref mW, .ref mQ, .ref mC, .int my, .ref mU, .ref mV, .int mm, .int mf, .int mg])), (mD, .inl (G.2.1 2, 49, .inl (upd fD (6 + gN) r22))), (mT, .inl (G.2.1 2, 120, .inl fT)), (mW, .inl (G.2.1 1, 73, .inl (wdF 73)))] H locs := by have h := nIc (j := 6 + gN) (by omega); rw [h] at w; exact w
    refine lv_aload_n S.1 S.2.1 dX7_readsGate_42 rfl (lv_at hl 3 rfl) ?_
    refine lv_iconst (v := 0) S.1 S.2.1 dX7_readsGate_43 (by decide) ?_
    refine lv_iload_n S.1 S.2.1 dX7_readsGate_44 rfl (lv_at hl 1 rfl) ?_
    refine cq_i C w [0, 2] [1, 3] [2, 0, 3, 1] (wr := [(mD, .inl (G.2.1 2, 49, .inl (upd fD (6 + gN) r22))), (mW, .inl (G.2.1 1, 73, .inl (wdF 73)))]) (w' := fun u : Nat × Int32 => [(mO, .inr (7, [.ref mS, .ref mD, .ref mR, .ref mT, .int (nI tN), .int (nI u.1), .int u.2, .ref mW, .ref mQ, .ref mC, .int my, .ref mU, .ref mV, .int mm, .int mf, .int mg])), (mT, .inl (G.2.1 2, 120, .inl fT))]) (ws2 := fun u : Nat × Int32 => [(mO, .inr (7, [.ref mS, .ref mD, .ref mR, .ref mT, .int (nI tN), .int (nI u.1), .int u.2, .ref mW, .ref mQ, .ref mC, .int my, .ref mU, .ref mV, .int mm, .int mf, .int mg])), (mD, .inl (G.2.1 2, 49, .inl (upd fD (6 + gN) r22))), (mT, .inl (G.2.1 2, 120, .inl fT)), (mW, .inl (G.2.1 1, 73, .inl (wdF 73)))]) rfl rfl rfl (by decide) rfl (fun _ => rfl) (va_runV (As := [.int 0, .int (((fD (0 : Int32).toNatClampNeg) + (nI gN)) - 1)]) (rest := []) S (c_X7_isNumber l G mO mT _ mS mD mR mW mQ mC mU mV mn my mm mf mg tN u22 fT 0 (((fD (0 : Int32).toNatClampNeg) + (nI gN)) - 1) (htN) (h22)) (cwV 2 S.2.2.2.2 gX7_readsGate_X7_isNumber rfl rfl rfl (by decide +kernel) ⟨Nat.le_of_ble_eq_true rfl, Nat.le_of_ble_eq_true rfl⟩) ⟨wPre_blind, va_recv C.1 w.1 (ci := 7) (q0 := 0) rfl rfl, wPre_at C w [0, 2] rfl rfl⟩ rfl rfl hl.1 rfl (lv_room (Nat.le_of_ble_eq_true rfl)) dX7_readsGate_45 ⟨Nat.le_of_ble_eq_true rfl, Nat.le_of_ble_eq_true rfl⟩) (fun r45 u45 H locs h45 w => ?_)
    have w : Wd G _ s [(mO, .inr (7, [.ref mS, .ref mD, .ref mR, .ref mT, .int (nI tN), .int (nI u45.1), .int u45.2, .ref mW, .ref mQ, .ref mC, .int my, .ref mU, .ref mV, .int mm, .int mf, .int mg])), (mD, .inl (G.2.1 2, 49, .inl (upd fD (6 + gN) r22))), (mT, .inl (G.2.1 2, 120, .inl fT)), (mW, .inl (G.2.1 1, 73, .inl (wdF 73)))] H locs := w
    refine lv_if_ne (tgt := 53) S.1 S.2.1 dX7_readsGate_48 (by decide) (fun c48 => ?_) (fun c48 => ?_)
    · refine lv_aload_n S.1 S.2.1 dX7_readsGate_53 rfl (lv_at hl 3 rfl) ?_
      refine w_get S C w (CC := RX7) (T := TX7) (N := 16) (ref := "GateSumsModel") im_X7_readsGate_X7 0 rfl rfl 1 (by decide) (List.mem_of_getElem? (i := 1) rfl) (fun _ h => h) rfl dX7_readsGate_54 ?_
      refine lv_bipush (v := 18) S.1 S.2.1 dX7_readsGate_57 (by decide) ?_
      refine lv_iload_n S.1 S.2.1 dX7_readsGate_59 rfl (lv_at hl 2 rfl) ?_
      refine lv_iadd S.1 S.2.1 dX7_readsGate_60 ?_
      refine w_topi (y := (nI (18 + gN))) (nI_add 18 gN) ?_
      refine lv_aload_n S.1 S.2.1 dX7_readsGate_61 rfl (lv_at hl 3 rfl) ?_
      refine w_get S C w (CC := RX7) (T := TX7) (N := 16) (ref := "GateSumsModel") im_X7_readsGate_X7 0 rfl rfl 6 (by decide) (List.mem_of_getElem? (i := 2) rfl) (fun _ h => h) rfl dX7_readsGate_62 ?_
      refine w_iast S C w 1 rfl (nIin (by omega) (by decide)) (ws2 := [(mO, .inr (7, [.ref mS, .ref mD, .ref mR, .ref mT, .int (nI tN), .int (nI u45.1), .int u45.2, .ref mW, .ref mQ, .ref mC, .int my, .ref mU, .ref mV, .int mm, .int mf, .int mg])), (mD, .inl (G.2.1 2, 49, .inl (upd (upd fD (6 + gN) r22) (nI (18 + gN)).toNatClampNeg u45.2))), (mT, .inl (G.2.1 2, 120, .inl fT)), (mW, .inl (G.2.1 1, 73, .inl (wdF 73)))]) rfl dX7_readsGate_65 (fun H locs w => ?_)
      have w : Wd G (va_A [(mO, .inr (7, [.ref mS, .ref mD, .ref mR, .ref mT, .int (nI tN), .int (nI aN), .int mn, .ref mW, .ref mQ, .ref mC, .int my, .ref mU, .ref mV, .int mm, .int mf, .int mg])), (mD, .inl (G.2.1 2, 49, .inl fD)), (mT, .inl (G.2.1 2, 120, .inl fT)), (mW, .inl (G.2.1 1, 73, .inl (wdF 73)))] sz) s [(mO, .inr (7, [.ref mS, .ref mD, .ref mR, .ref mT, .int (nI tN), .int (nI u45.1), .int u45.2, .ref mW, .ref mQ, .ref mC, .int my, .ref mU, .ref mV, .int mm, .int mf, .int mg])), (mD, .inl (G.2.1 2, 49, .inl (upd (upd fD (6 + gN) r22) (18 + gN) u45.2))), (mT, .inl (G.2.1 2, 120, .inl fT)), (mW, .inl (G.2.1 1, 73, .inl (wdF 73)))] H locs := by have h := nIc (j := 18 + gN) (by omega); rw [h] at w; exact w
      refine lv_aload_n S.1 S.2.1 dX7_readsGate_66 rfl (lv_at hl 3 rfl) ?_
      refine w_get S C w (CC := RX7) (T := TX7) (N := 16) (ref := "GateSumsModel") im_X7_readsGate_X7 0 rfl rfl 1 (by decide) (List.mem_of_getElem? (i := 1) rfl) (fun _ h => h) rfl dX7_readsGate_67 ?_
      refine lv_bipush (v := 30) S.1 S.2.1 dX7_readsGate_70 (by decide) ?_
      refine lv_iload_n S.1 S.2.1 dX7_readsGate_72 rfl (lv_at hl 2 rfl) ?_
      refine lv_iadd S.1 S.2.1 dX7_readsGate_73 ?_
      refine w_topi (y := (nI (30 + gN))) (nI_add 30 gN) ?_
      refine lv_iconst (v := (-1)) S.1 S.2.1 dX7_readsGate_74 (by decide) ?_
      refine w_iast S C w 1 rfl (nIin (by omega) (by decide)) (ws2 := [(mO, .inr (7, [.ref mS, .ref mD, .ref mR, .ref mT, .int (nI tN), .int (nI u45.1), .int u45.2, .ref mW, .ref mQ, .ref mC, .int my, .ref mU, .ref mV, .int mm, .int mf, .int mg])), (mD, .inl (G.2.1 2, 49, .inl (upd (upd (upd fD (6 + gN) r22) (18 + gN) u45.2) (nI (30 + gN)).toNatClampNeg (-1)))), (mT, .inl (G.2.1 2, 120, .inl fT)), (mW, .inl (G.2.1 1, 73, .inl (wdF 73)))]) rfl dX7_readsGate_75 (fun H locs w => ?_)
      have w : Wd G (va_A [(mO, .inr (7, [.ref mS, .ref mD, .ref mR, .ref mT, .int (nI tN), .int (nI aN), .int mn, .ref mW, .ref mQ, .ref mC, .int my, .ref mU, .ref mV, .int mm, .int mf, .int mg])), (mD, .inl (G.2.1 2, 49, .inl fD)), (mT, .inl (G.2.1 2, 120, .inl fT)), (mW, .inl (G.2.1 1, 73, .inl (wdF 73)))] sz) s [(mO, .inr (7, [.ref mS, .ref mD, .ref mR, .ref mT, .int (nI tN), .int (nI u45.1), .int u45.2, .ref mW, .ref mQ, .ref mC, .int my, .ref mU, .ref mV, .int mm, .int mf, .int mg])), (mD, .inl (G.2.1 2, 49, .inl (upd (upd (upd fD (6 + gN) r22) (18 + gN) u45.2) (30 + gN) (-1)))), (mT, .inl (G.2.1 2, 120, .inl fT)), (mW, .inl (G.2.1 1, 73, .inl (wdF 73)))] H locs := by have h := nIc (j := 30 + gN) (by omega); rw [h] at w; exact w
      refine lv_iload_n S.1 S.2.1 dX7_readsGate_76 rfl (lv_at hl 0 rfl) ?_
      refine lv_if_eq (tgt := 104) S.1 S.2.1 dX7_readsGate_77 (by decide) (fun c77 => ?_) (fun c77 => ?_)
      · refine lv_aload_n S.1 S.2.1 dX7_readsGate_104 rfl (lv_at hl 3 rfl) ?_
        refine w_get S C w (CC := RX7) (T := TX7) (N := 16) (ref := "GateSumsModel") im_X7_readsGate_X7 0 rfl rfl 1 (by decide) (List.mem_of_getElem? (i := 1) rfl) (fun _ h => h) rfl dX7_readsGate_105 ?_
        refine lv_iconst (v := 1) S.1 S.2.1 dX7_readsGate_108 (by decide) ?_
        refine lv_dup2_11 S.1 S.2.1 dX7_readsGate_109 rfl rfl ?_
        refine w_iald S C w 1 rfl (by unfold vp_in; decide) dX7_readsGate_110 ?_
        refine w_topi (y := (nI gN)) (by show upd _ _ _ 1 = nI gN; first | (rw [pk_un (by omega), pk_un (by omega), pk_un (by omega), pk_un (by omega)]; exact hg) | (rw [pk_un (by omega), pk_un (by omega), pk_un (by omega)]; exact hg)) ?_
        refine lv_iconst (v := 1) S.1 S.2.1 dX7_readsGate_111 (by decide) ?_
        refine lv_iadd S.1 S.2.1 dX7_readsGate_112 ?_
        refine w_topi (y := (nI (gN + 1))) (nI_1 _) ?_
        refine w_iast S C w 1 rfl (by unfold vp_in; decide) (ws2 := [(mO, .inr (7, [.ref mS, .ref mD, .ref mR, .ref mT, .int (nI tN), .int (nI u45.1), .int u45.2, .ref mW, .ref mQ, .ref mC, .int my, .ref mU, .ref mV, .int mm, .int mf, .int mg])), (mD, .inl (G.2.1 2, 49, .inl (upd (upd (upd (upd fD (6 + gN) r22) (18 + gN) u45.2) (30 + gN) (-1)) (1 : Int32).toNatClampNeg (nI (gN + 1))))), (mT, .inl (G.2.1 2, 120, .inl fT)), (mW, .inl (G.2.1 1, 73, .inl (wdF 73)))]) rfl dX7_readsGate_113 (fun H locs w => ?_)
        have w : Wd G (va_A [(mO, .inr (7, [.ref mS, .ref mD, .ref mR, .ref mT, .int (nI tN), .int (nI aN), .int mn, .ref mW, .ref mQ, .ref mC, .int my, .ref mU, .ref mV, .int mm, .int mf, .int mg])), (mD, .inl (G.2.1 2, 49, .inl fD)), (mT, .inl (G.2.1 2, 120, .inl fT)), (mW, .inl (G.2.1 1, 73, .inl (wdF 73)))] sz) s [(mO, .inr (7, [.ref mS, .ref mD, .ref mR, .ref mT, .int (nI tN), .int (nI u45.1), .int u45.2, .ref mW, .ref mQ, .ref mC, .int my, .ref mU, .ref mV, .int mm, .int mf, .int mg])), (mD, .inl (G.2.1 2, 49, .inl (upd (upd (upd (upd fD (6 + gN) r22) (18 + gN) u45.2) (30 + gN) (-1)) 1 (nI (gN + 1))))), (mT, .inl (G.2.1 2, 120, .inl fT)), (mW, .inl (G.2.1 1, 73, .inl (wdF 73)))] H locs := by have h := (show (1 : Int32).toNatClampNeg = 1 from rfl); rw [h] at w; exact w
        refine lv_aload_n S.1 S.2.1 dX7_readsGate_114 rfl (lv_at hl 3 rfl) ?_
        refine cq_i C w [0, 2] [1, 3] [2, 0, 3, 1] (wr := [(mD, .inl (G.2.1 2, 49, .inl (upd (upd (upd (upd fD (6 + gN) r22) (18 + gN) u45.2) (30 + gN) (-1)) 1 (nI (gN + 1))))), (mW, .inl (G.2.1 1, 73, .inl (wdF 73)))]) (w' := fun u : Nat => [(mO, .inr (7, [.ref mS, .ref mD, .ref mR, .ref mT, .int (nI tN), .int (nI u), .int u45.2, .ref mW, .ref mQ, .ref mC, .int my, .ref mU, .ref mV, .int mm, .int mf, .int mg])), (mT, .inl (G.2.1 2, 120, .inl fT))]) (ws2 := fun u : Nat => [(mO, .inr (7, [.ref mS, .ref mD, .ref mR, .ref mT, .int (nI tN), .int (nI u), .int u45.2, .ref mW, .ref mQ, .ref mC, .int my, .ref mU, .ref mV, .int mm, .int mf, .int mg])), (mD, .inl (G.2.1 2, 49, .inl (upd (upd (upd (upd fD (6 + gN) r22) (18 + gN) u45.2) (30 + gN) (-1)) 1 (nI (gN + 1))))), (mT, .inl (G.2.1 2, 120, .inl fT)), (mW, .inl (G.2.1 1, 73, .inl (wdF 73)))]) rfl rfl rfl (by decide) rfl (fun _ => rfl) (va_runV (As := []) (rest := []) S (c_X7_ends l G mO mT _ mS mD mR mW mQ mC mU mV u45.2 my mm mf mg tN u45.1 fT (htN) (h45.2.1)) (cwV 0 S.2.2.2.2 gX7_readsGate_X7_ends rfl rfl rfl (by decide +kernel) ⟨Nat.le_of_ble_eq_true rfl, Nat.le_of_ble_eq_true rfl⟩) ⟨wPre_blind, va_recv C.1 w.1 (ci := 7) (q0 := 0) rfl rfl, wPre_at C w [0, 2] rfl rfl⟩ rfl rfl hl.1 rfl (lv_room (Nat.le_of_ble_eq_true rfl)) dX7_readsGate_115 ⟨Nat.le_of_ble_eq_true rfl, Nat.le_of_ble_eq_true rfl⟩) (fun r115 u115 H locs h115 w => ?_)
        have w : Wd G _ s [(mO, .inr (7, [.ref mS, .ref mD, .ref mR, .ref mT, .int (nI tN), .int (nI u115), .int u45.2, .ref mW, .ref mQ, .ref mC, .int my, .ref mU, .ref mV, .int mm, .int mf, .int mg])), (mD, .inl (G.2.1 2, 49, .inl (upd (upd (upd (upd fD (6 + gN) r22) (18 + gN) u45.2) (30 + gN) (-1)) 1 (nI (gN + 1))))), (mT, .inl (G.2.1 2, 120, .inl fT)), (mW, .inl (G.2.1 1, 73, .inl (wdF 73)))] H locs := w
        exact W.zret (v := r115) S.1 S.2.1 hr (z01_nar (h115).1) (fun t ht _ => ⟨⟨r115, (u115, u45.2, (upd (upd (upd (upd fD (6 + gN) r22) (18 + gN) u45.2) (30 + gN) (-1)) 1 (nI (gN + 1)))), rfl, ⟨(h115).1, h115.2, fun _ => (by first | exact gateD3 | exact gateD4)⟩, by rw [ht]; exact w.1, w.2.1⟩, w.2.2.F ht⟩) w.2.2.2.2 dX7_readsGate_118
      · refine lv_aload_n S.1 S.2.1 dX7_readsGate_80 rfl (lv_at hl 3 rfl) ?_
        refine lv_iconst (v := 0) S.1 S.2.1 dX7_readsGate_81 (by decide) ?_
        refine lv_iload_n S.1 S.2.1 dX7_readsGate_82 rfl (lv_at hl 1 rfl) ?_
        refine cq_i C w [0, 2] [1, 3] [2, 0, 3, 1] (wr := [(mD, .inl (G.2.1 2, 49, .inl (upd (upd (upd fD (6 + gN) r22) (18 + gN) u45.2) (30 + gN) (-1)))), (mW, .inl (G.2.1 1, 73, .inl (wdF 73)))]) (w' := fun u : Nat × Int32 => [(mO, .inr (7, [.ref mS, .ref mD, .ref mR, .ref mT, .int (nI tN), .int (nI u.1), .int u.2, .ref mW, .ref mQ, .ref mC, .int my, .ref mU, .ref mV, .int mm, .int mf, .int mg])), (mT, .inl (G.2.1 2, 120, .inl fT))]) (ws2 := fun u : Nat × Int32 => [(mO, .inr (7, [.ref mS, .ref mD, .ref mR, .ref mT, .int (nI tN), .int (nI u.1), .int u.2, .ref mW, .ref mQ, .ref mC, .int my, .ref mU, .ref mV, .int mm, .int mf, .int mg])), (mD, .inl (G.2.1 2, 49, .inl (upd (upd (upd fD (6 + gN) r22) (18 + gN) u45.2) (30 + gN) (-1)))), (mT, .inl (G.2.1 2, 120, .inl fT)), (mW, .inl (G.2.1 1, 73, .inl (wdF 73)))]) rfl rfl rfl (by decide) rfl (fun _ => rfl) (va_runV (As := [.int 0, .int (((fD (0 : Int32).toNatClampNeg) + (nI gN)) - 1)]) (rest := []) S (c_X7_isNumber l G mO mT _ mS mD mR mW mQ mC mU mV u45.2 my mm mf mg tN u45.1 fT 0 (((fD (0 : Int32).toNatClampNeg) + (nI gN)) - 1) (htN) (h45.2.1)) (cwV 2 S.2.2.2.2 gX7_readsGate_X7_isNumber rfl rfl rfl (by decide +kernel) ⟨Nat.le_of_ble_eq_true rfl, Nat.le_of_ble_eq_true rfl⟩) ⟨wPre_blind, va_recv C.1 w.1 (ci := 7) (q0 := 0) rfl rfl, wPre_at C w [0, 2] rfl rfl⟩ rfl rfl hl.1 rfl (lv_room (Nat.le_of_ble_eq_true rfl)) dX7_readsGate_83 ⟨Nat.le_of_ble_eq_true rfl, Nat.le_of_ble_eq_true rfl⟩) (fun r83 u83 H locs h83 w => ?_)
        have w : Wd G _ s [(mO, .inr (7, [.ref mS, .ref mD, .ref mR, .ref mT, .int (nI tN), .int (nI u83.1), .int u83.2, .ref mW, .ref mQ, .ref mC, .int my, .ref mU, .ref mV, .int mm, .int mf, .int mg])), (mD, .inl (G.2.1 2, 49, .inl (upd (upd (upd fD (6 + gN) r22) (18 + gN) u45.2) (30 + gN) (-1)))), (mT, .inl (G.2.1 2, 120, .inl fT)), (mW, .inl (G.2.1 1, 73, .inl (wdF 73)))] H locs := w
        refine lv_if_ne (tgt := 91) S.1 S.2.1 dX7_readsGate_86 (by decide) (fun c86 => ?_) (fun c86 => ?_)
        · refine lv_aload_n S.1 S.2.1 dX7_readsGate_91 rfl (lv_at hl 3 rfl) ?_
          refine w_get S C w (CC := RX7) (T := TX7) (N := 16) (ref := "GateSumsModel") im_X7_readsGate_X7 0 rfl rfl 1 (by decide) (List.mem_of_getElem? (i := 1) rfl) (fun _ h => h) rfl dX7_readsGate_92 ?_
          refine lv_bipush (v := 30) S.1 S.2.1 dX7_readsGate_95 (by decide) ?_
          refine lv_iload_n S.1 S.2.1 dX7_readsGate_97 rfl (lv_at hl 2 rfl) ?_
          refine lv_iadd S.1 S.2.1 dX7_readsGate_98 ?_
          refine w_topi (y := (nI (30 + gN))) (nI_add 30 gN) ?_
          refine lv_aload_n S.1 S.2.1 dX7_readsGate_99 rfl (lv_at hl 3 rfl) ?_
          refine w_get S C w (CC := RX7) (T := TX7) (N := 16) (ref := "GateSumsModel") im_X7_readsGate_X7 0 rfl rfl 6 (by decide) (List.mem_of_getElem? (i := 2) rfl) (fun _ h => h) rfl dX7_readsGate_100 ?_
          refine w_iast S C w 1 rfl (nIin (by omega) (by decide)) (ws2 := [(mO, .inr (7, [.ref mS, .ref mD, .ref mR, .ref mT, .int (nI tN), .int (nI u83.1), .int u83.2, .ref mW, .ref mQ, .ref mC, .int my, .ref mU, .ref mV, .int mm, .int mf, .int mg])), (mD, .inl (G.2.1 2, 49, .inl (upd (upd (upd (upd fD (6 + gN) r22) (18 + gN) u45.2) (30 + gN) (-1)) (nI (30 + gN)).toNatClampNeg u83.2))), (mT, .inl (G.2.1 2, 120, .inl fT)), (mW, .inl (G.2.1 1, 73, .inl (wdF 73)))]) rfl dX7_readsGate_103 (fun H locs w => ?_)
          have w : Wd G (va_A [(mO, .inr (7, [.ref mS, .ref mD, .ref mR, .ref mT, .int (nI tN), .int (nI aN), .int mn, .ref mW, .ref mQ, .ref mC, .int my, .ref mU, .ref mV, .int mm, .int mf, .int mg])), (mD, .inl (G.2.1 2, 49, .inl fD)), (mT, .inl (G.2.1 2, 120, .inl fT)), (mW, .inl (G.2.1 1, 73, .inl (wdF 73)))] sz) s [(mO, .inr (7, [.ref mS, .ref mD, .ref mR, .ref mT, .int (nI tN), .int (nI u83.1), .int u83.2, .ref mW, .ref mQ, .ref mC, .int my, .ref mU, .ref mV, .int mm, .int mf, .int mg])), (mD, .inl (G.2.1 2, 49, .inl (upd (upd (upd (upd fD (6 + gN) r22) (18 + gN) u45.2) (30 + gN) (-1)) (30 + gN) u83.2))), (mT, .inl (G.2.1 2, 120, .inl fT)), (mW, .inl (G.2.1 1, 73, .inl (wdF 73)))] H locs := by have h := nIc (j := 30 + gN) (by omega); rw [h] at w; exact w
          refine lv_aload_n S.1 S.2.1 dX7_readsGate_104 rfl (lv_at hl 3 rfl) ?_
          refine w_get S C w (CC := RX7) (T := TX7) (N := 16) (ref := "GateSumsModel") im_X7_readsGate_X7 0 rfl rfl 1 (by decide) (List.mem_of_getElem? (i := 1) rfl) (fun _ h => h) rfl dX7_readsGate_105 ?_
          refine lv_iconst (v := 1) S.1 S.2.1 dX7_readsGate_108 (by decide) ?_
          refine lv_dup2_11 S.1 S.2.1 dX7_readsGate_109 rfl rfl ?_
          refine w_iald S C w 1 rfl (by unfold vp_in; decide) dX7_readsGate_110 ?_
          refine w_topi (y := (nI gN)) (by show upd _ _ _ 1 = nI gN; first | (rw [pk_un (by omega), pk_un (by omega), pk_un (by omega), pk_un (by omega)]; exact hg) | (rw [pk_un (by omega), pk_un (by omega), pk_un (by omega)]; exact hg)) ?_
          refine lv_iconst (v := 1) S.1 S.2.1 dX7_readsGate_111 (by decide) ?_
          refine lv_iadd S.1 S.2.1 dX7_readsGate_112 ?_
          refine w_topi (y := (nI (gN + 1))) (nI_1 _) ?_
          refine w_iast S C w 1 rfl (by unfold vp_in; decide) (ws2 := [(mO, .inr (7, [.ref mS, .ref mD, .ref mR, .ref mT, .int (nI tN), .int (nI u83.1), .int u83.2, .ref mW, .ref mQ, .ref mC, .int my, .ref mU, .ref mV, .int mm, .int mf, .int mg])), (mD, .inl (G.2.1 2, 49, .inl (upd (upd (upd (upd (upd fD (6 + gN) r22) (18 + gN) u45.2) (30 + gN) (-1)) (30 + gN) u83.2) (1 : Int32).toNatClampNeg (nI (gN + 1))))), (mT, .inl (G.2.1 2, 120, .inl fT)), (mW, .inl (G.2.1 1, 73, .inl (wdF 73)))]) rfl dX7_readsGate_113 (fun H locs w => ?_)
          have w : Wd G (va_A [(mO, .inr (7, [.ref mS, .ref mD, .ref mR, .ref mT, .int (nI tN), .int (nI aN), .int mn, .ref mW, .ref mQ, .ref mC, .int my, .ref mU, .ref mV, .int mm, .int mf, .int mg])), (mD, .inl (G.2.1 2, 49, .inl fD)), (mT, .inl (G.2.1 2, 120, .inl fT)), (mW, .inl (G.2.1 1, 73, .inl (wdF 73)))] sz) s [(mO, .inr (7, [.ref mS, .ref mD, .ref mR, .ref mT, .int (nI tN), .int (nI u83.1), .int u83.2, .ref mW, .ref mQ, .ref mC, .int my, .ref mU, .ref mV, .int mm, .int mf, .int mg])), (mD, .inl (G.2.1 2, 49, .inl (upd (upd (upd (upd (upd fD (6 + gN) r22) (18 + gN) u45.2) (30 + gN) (-1)) (30 + gN) u83.2) 1 (nI (gN + 1))))), (mT, .inl (G.2.1 2, 120, .inl fT)), (mW, .inl (G.2.1 1, 73, .inl (wdF 73)))] H locs := by have h := (show (1 : Int32).toNatClampNeg = 1 from rfl); rw [h] at w; exact w
          refine lv_aload_n S.1 S.2.1 dX7_readsGate_114 rfl (lv_at hl 3 rfl) ?_
          refine cq_i C w [0, 2] [1, 3] [2, 0, 3, 1] (wr := [(mD, .inl (G.2.1 2, 49, .inl (upd (upd (upd (upd (upd fD (6 + gN) r22) (18 + gN) u45.2) (30 + gN) (-1)) (30 + gN) u83.2) 1 (nI (gN + 1))))), (mW, .inl (G.2.1 1, 73, .inl (wdF 73)))]) (w' := fun u : Nat => [(mO, .inr (7, [.ref mS, .ref mD, .ref mR, .ref mT, .int (nI tN), .int (nI u), .int u83.2, .ref mW, .ref mQ, .ref mC, .int my, .ref mU, .ref mV, .int mm, .int mf, .int mg])), (mT, .inl (G.2.1 2, 120, .inl fT))]) (ws2 := fun u : Nat => [(mO, .inr (7, [.ref mS, .ref mD, .ref mR, .ref mT, .int (nI tN), .int (nI u), .int u83.2, .ref mW, .ref mQ, .ref mC, .int my, .ref mU, .ref mV, .int mm, .int mf, .int mg])), (mD, .inl (G.2.1 2, 49, .inl (upd (upd (upd (upd (upd fD (6 + gN) r22) (18 + gN) u45.2) (30 + gN) (-1)) (30 + gN) u83.2) 1 (nI (gN + 1))))), (mT, .inl (G.2.1 2, 120, .inl fT)), (mW, .inl (G.2.1 1, 73, .inl (wdF 73)))]) rfl rfl rfl (by decide) rfl (fun _ => rfl) (va_runV (As := []) (rest := []) S (c_X7_ends l G mO mT _ mS mD mR mW mQ mC mU mV u83.2 my mm mf mg tN u83.1 fT (htN) (h83.2.1)) (cwV 0 S.2.2.2.2 gX7_readsGate_X7_ends rfl rfl rfl (by decide +kernel) ⟨Nat.le_of_ble_eq_true rfl, Nat.le_of_ble_eq_true rfl⟩) ⟨wPre_blind, va_recv C.1 w.1 (ci := 7) (q0 := 0) rfl rfl, wPre_at C w [0, 2] rfl rfl⟩ rfl rfl hl.1 rfl (lv_room (Nat.le_of_ble_eq_true rfl)) dX7_readsGate_115 ⟨Nat.le_of_ble_eq_true rfl, Nat.le_of_ble_eq_true rfl⟩) (fun r115_1 u115_1 H locs h115_1 w => ?_)
          have w : Wd G _ s [(mO, .inr (7, [.ref mS, .ref mD, .ref mR, .ref mT, .int (nI tN), .int (nI u115_1), .int u83.2, .ref mW, .ref mQ, .ref mC, .int my, .ref mU, .ref mV, .int mm, .int mf, .int mg])), (mD, .inl (G.2.1 2, 49, .inl (upd (upd (upd (upd (upd fD (6 + gN) r22) (18 + gN) u45.2) (30 + gN) (-1)) (30 + gN) u83.2) 1 (nI (gN + 1))))), (mT, .inl (G.2.1 2, 120, .inl fT)), (mW, .inl (G.2.1 1, 73, .inl (wdF 73)))] H locs := w
          exact W.zret (v := r115_1) S.1 S.2.1 hr (z01_nar (h115_1).1) (fun t ht _ => ⟨⟨r115_1, (u115_1, u83.2, (upd (upd (upd (upd (upd fD (6 + gN) r22) (18 + gN) u45.2) (30 + gN) (-1)) (30 + gN) u83.2) 1 (nI (gN + 1)))), rfl, ⟨(h115_1).1, h115_1.2, fun _ => (by first | exact gateD3 | exact gateD4)⟩, by rw [ht]; exact w.1, w.2.1⟩, w.2.2.F ht⟩) w.2.2.2.2 dX7_readsGate_118
        · refine lv_iconst (v := 0) S.1 S.2.1 dX7_readsGate_89 (by decide) ?_
          exact W.zret (v := 0) S.1 S.2.1 hr (rfl) (fun t ht _ => ⟨⟨0, (u83.1, u83.2, (upd (upd (upd fD (6 + gN) r22) (18 + gN) u45.2) (30 + gN) (-1))), rfl, ⟨Or.inl rfl, h83.2.1, fun h => absurd rfl h⟩, by rw [ht]; exact w.1, w.2.1⟩, w.2.2.F ht⟩) w.2.2.2.2 dX7_readsGate_90
    · refine lv_iconst (v := 0) S.1 S.2.1 dX7_readsGate_51 (by decide) ?_
      exact W.zret (v := 0) S.1 S.2.1 hr (rfl) (fun t ht _ => ⟨⟨0, (u45.1, u45.2, (upd fD (6 + gN) r22)), rfl, ⟨Or.inl rfl, h45.2.1, fun h => absurd rfl h⟩, by rw [ht]; exact w.1, w.2.1⟩, w.2.2.F ht⟩) w.2.2.2.2 dX7_readsGate_52
  · refine lv_iconst (v := 0) S.1 S.2.1 dX7_readsGate_30 (by decide) ?_
    exact W.zret (v := 0) S.1 S.2.1 hr (rfl) (fun t ht _ => ⟨⟨0, (u22, mn, fD), rfl, ⟨Or.inl rfl, h22, fun h => absurd rfl h⟩, by rw [ht]; exact w.1, w.2.1⟩, w.2.2.F ht⟩) w.2.2.2.2 dX7_readsGate_31
theorem im_X7_readsOuts_X7 : ∀ w ∈ u_ws RX7 TX7 16, w ∈ wsX7_readsOuts := by decide +kernel
set_option maxHeartbeats 4000000 in
set_option maxRecDepth 100000 in
theorem c_X7_readsOuts (l : Launch) (G : GT) (mO mD mT mW : Nat) (sz : Nat) (mS mR mQ mC mU mV : Nat) (mn my mm mf mg : Int32) (tN aN : Nat) (fD fT : Nat → Int32) (oN : Nat) (htN : tN ≤ 120) (haN : aN ≤ 120) (ho : fD 2 = nI oN) (hoN : oN ≤ 7) : Met l yX7_readsOuts wsX7_readsOuts ({ frames := 3, cells := 0, slots := 0, locals := 67 }) (va_Pc [.ref mO] (wPre G [(mO, .inr (7, [.ref mS, .ref mD, .ref mR, .ref mT, .int (nI tN), .int (nI aN), .int mn, .ref mW, .ref mQ, .ref mC, .int my, .ref mU, .ref mV, .int mm, .int mf, .int mg])), (mD, .inl (G.2.1 2, 49, .inl fD)), (mT, .inl (G.2.1 2, 120, .inl fT)), (mW, .inl (G.2.1 1, 73, .inl (wdF 73)))] sz)) (va_Qi (fun (r : Int32) (u : Nat × Int32 × (Nat → Int32)) => (r = 0 ∨ r = 1) ∧ u.1 ≤ 120 ∧ (¬ r = 0 → outD fD u.2.2)) (bW G (va_A [(mO, .inr (7, [.ref mS, .ref mD, .ref mR, .ref mT, .int (nI tN), .int (nI aN), .int mn, .ref mW, .ref mQ, .ref mC, .int my, .ref mU, .ref mV, .int mm, .int mf, .int mg])), (mD, .inl (G.2.1 2, 49, .inl fD)), (mT, .inl (G.2.1 2, 120, .inl fT)), (mW, .inl (G.2.1 1, 73, .inl (wdF 73)))] sz) (fun u : Nat × Int32 × (Nat → Int32) => [(mO, .inr (7, [.ref mS, .ref mD, .ref mR, .ref mT, .int (nI tN), .int (nI u.1), .int u.2.1, .ref mW, .ref mQ, .ref mC, .int my, .ref mU, .ref mV, .int mm, .int mf, .int mg])), (mD, .inl (G.2.1 2, 49, .inl u.2.2)), (mT, .inl (G.2.1 2, 120, .inl fT)), (mW, .inl (G.2.1 1, 73, .inl (wdF 73)))])) (va_A [(mO, .inr (7, [.ref mS, .ref mD, .ref mR, .ref mT, .int (nI tN), .int (nI aN), .int mn, .ref mW, .ref mQ, .ref mC, .int my, .ref mU, .ref mV, .int mm, .int mf, .int mg])), (mD, .inl (G.2.1 2, 49, .inl fD)), (mT, .inl (G.2.1 2, 120, .inl fT)), (mW, .inl (G.2.1 1, 73, .inl (wdF 73)))] sz)) 0 0 (va_A [(mO, .inr (7, [.ref mS, .ref mD, .ref mR, .ref mT, .int (nI tN), .int (nI aN), .int mn, .ref mW, .ref mQ, .ref mC, .int my, .ref mU, .ref mV, .int mm, .int mf, .int mg])), (mD, .inl (G.2.1 2, 49, .inl fD)), (mT, .inl (G.2.1 2, 120, .inl fT)), (mW, .inl (G.2.1 1, 73, .inl (wdF 73)))] sz) := by
  refine met_go (cc := cX7_readsOuts) (maxL := 2) (ret := (some .boolean)) (own := RX7) (by decide) rfl rfl (Nat.le_of_ble_eq_true rfl) ?_
  intro p e s m below meth c ls S hr hlocks hname hsz C w hl
  have hl : lv_has ls 2 [(0, .ref mO)] := hl
  refine lv_aload_n S.1 S.2.1 dX7_readsOuts_0 rfl (lv_at hl 0 rfl) ?_
  refine w_get S C w (CC := RX7) (T := TX7) (N := 16) (ref := "GateSumsModel") im_X7_readsOuts_X7 0 rfl rfl 1 (by decide) (List.mem_of_getElem? (i := 1) rfl) (fun _ h => h) rfl dX7_readsOuts_1 ?_
  refine lv_iconst (v := 0) S.1 S.2.1 dX7_readsOuts_4 (by decide) ?_
  refine w_iald S C w 1 rfl (by unfold vp_in; decide) dX7_readsOuts_5 ?_
  refine lv_aload_n S.1 S.2.1 dX7_readsOuts_6 rfl (lv_at hl 0 rfl) ?_
  refine w_get S C w (CC := RX7) (T := TX7) (N := 16) (ref := "GateSumsModel") im_X7_readsOuts_X7 0 rfl rfl 1 (by decide) (List.mem_of_getElem? (i := 1) rfl) (fun _ h => h) rfl dX7_readsOuts_7 ?_
  refine lv_iconst (v := 1) S.1 S.2.1 dX7_readsOuts_10 (by decide) ?_
  refine w_iald S C w 1 rfl (by unfold vp_in; decide) dX7_readsOuts_11 ?_
  refine lv_iadd S.1 S.2.1 dX7_readsOuts_12 ?_
  refine lv_iconst (v := 1) S.1 S.2.1 dX7_readsOuts_13 (by decide) ?_
  refine lv_isub S.1 S.2.1 dX7_readsOuts_14 ?_
  refine lv_istore_n (lv' := [(1, .int (((fD (0 : Int32).toNatClampNeg) + (fD (1 : Int32).toNatClampNeg)) - 1)), (0, .ref mO)]) S.1 S.2.1 dX7_readsOuts_15 rfl hl (by decide) rfl (fun ls hl => ?_)
  refine w_loop (G := G) (σ := Nat × Nat × Int32 × (Nat → Int32)) (nL := 2) 16 (fun x16 => 7 - x16.1) (fun x16 => x16.1 ≤ 7 ∧ x16.2.1 ≤ 120 ∧ x16.2.2.2 2 = nI x16.1 ∧ x16.2.2.2 1 = fD 1 ∧ x16.2.2.2 0 = fD 0) (fun x16 => [(mO, .inr (7, [.ref mS, .ref mD, .ref mR, .ref mT, .int (nI tN), .int (nI x16.2.1), .int x16.2.2.1, .ref mW, .ref mQ, .ref mC, .int my, .ref mU, .ref mV, .int mm, .int mf, .int mg])), (mD, .inl (G.2.1 2, 49, .inl x16.2.2.2)), (mT, .inl (G.2.1 2, 120, .inl fT)), (mW, .inl (G.2.1 1, 73, .inl (wdF 73)))]) (fun x16 => [(1, .int (((fD (0 : Int32).toNatClampNeg) + (fD (1 : Int32).toNatClampNeg)) - 1)), (0, .ref mO)]) (fun _ => []) ?_ (oN, aN, mn, fD) ls _ _ (⟨hoN, haN, ho, rfl, rfl⟩) w (lv_sub hl [0, 1] rfl)
  intro x16 ls H locs hI16 w hl ih16
  have w : Wd G _ s [(mO, .inr (7, [.ref mS, .ref mD, .ref mR, .ref mT, .int (nI tN), .int (nI x16.2.1), .int x16.2.2.1, .ref mW, .ref mQ, .ref mC, .int my, .ref mU, .ref mV, .int mm, .int mf, .int mg])), (mD, .inl (G.2.1 2, 49, .inl x16.2.2.2)), (mT, .inl (G.2.1 2, 120, .inl fT)), (mW, .inl (G.2.1 1, 73, .inl (wdF 73)))] H locs := w
  have hl : lv_has ls 2 [(1, .int (((fD (0 : Int32).toNatClampNeg) + (fD (1 : Int32).toNatClampNeg)) - 1)), (0, .ref mO)] := hl
  refine lv_aload_n S.1 S.2.1 dX7_readsOuts_16 rfl (lv_at hl 1 rfl) ?_
  refine cq_v C w [0, 2] [1, 3] [2, 0, 3, 1] (wr := [(mD, .inl (G.2.1 2, 49, .inl x16.2.2.2)), (mW, .inl (G.2.1 1, 73, .inl (wdF 73)))]) (w' := fun u : Nat => [(mO, .inr (7, [.ref mS, .ref mD, .ref mR, .ref mT, .int (nI tN), .int (nI u), .int x16.2.2.1, .ref mW, .ref mQ, .ref mC, .int my, .ref mU, .ref mV, .int mm, .int mf, .int mg])), (mT, .inl (G.2.1 2, 120, .inl fT))]) (ws2 := fun u : Nat => [(mO, .inr (7, [.ref mS, .ref mD, .ref mR, .ref mT, .int (nI tN), .int (nI u), .int x16.2.2.1, .ref mW, .ref mQ, .ref mC, .int my, .ref mU, .ref mV, .int mm, .int mf, .int mg])), (mD, .inl (G.2.1 2, 49, .inl x16.2.2.2)), (mT, .inl (G.2.1 2, 120, .inl fT)), (mW, .inl (G.2.1 1, 73, .inl (wdF 73)))]) rfl rfl rfl (by decide) rfl (fun _ => rfl) (va_runV (As := []) (rest := []) S (c_X7_skips l G mO mT _ mS mD mR mW mQ mC mU mV x16.2.2.1 my mm mf mg tN x16.2.1 fT (htN) (hI16.2.1)) (cwV 0 S.2.2.2.2 gX7_readsOuts_X7_skips rfl rfl rfl (by decide +kernel) ⟨Nat.le_of_ble_eq_true rfl, Nat.le_of_ble_eq_true rfl⟩) ⟨wPre_blind, va_recv C.1 w.1 (ci := 7) (q0 := 0) rfl rfl, wPre_at C w [0, 2] rfl rfl⟩ rfl rfl hl.1 rfl (lv_room (Nat.le_of_ble_eq_true rfl)) dX7_readsOuts_17 ⟨Nat.le_of_ble_eq_true rfl, Nat.le_of_ble_eq_true rfl⟩) (fun u17 H locs h17 w => ?_)
  have w : Wd G _ s [(mO, .inr (7, [.ref mS, .ref mD, .ref mR, .ref mT, .int (nI tN), .int (nI u17), .int x16.2.2.1, .ref mW, .ref mQ, .ref mC, .int my, .ref mU, .ref mV, .int mm, .int mf, .int mg])), (mD, .inl (G.2.1 2, 49, .inl x16.2.2.2)), (mT, .inl (G.2.1 2, 120, .inl fT)), (mW, .inl (G.2.1 1, 73, .inl (wdF 73)))] H locs := w
  refine lv_aload_n S.1 S.2.1 dX7_readsOuts_20 rfl (lv_at hl 1 rfl) ?_
  refine w_get S C w (CC := RX7) (T := TX7) (N := 16) (ref := "GateSumsModel") im_X7_readsOuts_X7 0 rfl rfl 1 (by decide) (List.mem_of_getElem? (i := 1) rfl) (fun _ h => h) rfl dX7_readsOuts_21 ?_
  refine lv_iconst (v := 2) S.1 S.2.1 dX7_readsOuts_24 (by decide) ?_
  refine w_iald S C w 1 rfl (by unfold vp_in; decide) dX7_readsOuts_25 ?_
  refine w_topi (y := (nI x16.1)) (hI16.2.2.1) ?_
  refine lv_if_le (tgt := 47) S.1 S.2.1 dX7_readsOuts_26 (by decide) (fun c26 => ?_) (fun c26 => ?_)
  · refine lv_aload_n S.1 S.2.1 dX7_readsOuts_47 rfl (lv_at hl 1 rfl) ?_
    refine w_get S C w (CC := RX7) (T := TX7) (N := 16) (ref := "GateSumsModel") im_X7_readsOuts_X7 0 rfl rfl 1 (by decide) (List.mem_of_getElem? (i := 1) rfl) (fun _ h => h) rfl dX7_readsOuts_48 ?_
    refine lv_iconst (v := 2) S.1 S.2.1 dX7_readsOuts_51 (by decide) ?_
    refine w_iald S C w 1 rfl (by unfold vp_in; decide) dX7_readsOuts_52 ?_
    refine w_topi (y := (nI x16.1)) (hI16.2.2.1) ?_
    refine lv_bipush (v := 7) S.1 S.2.1 dX7_readsOuts_53 (by decide) ?_
    refine lv_icmp_eq (tgt := 67) S.1 S.2.1 dX7_readsOuts_55 (by decide) (fun c55 => ?_) (fun c55 => ?_)
    · refine lv_iconst (v := 0) S.1 S.2.1 dX7_readsOuts_67 (by decide) ?_
      exact W.zret (v := 0) S.1 S.2.1 hr (rfl) (fun t ht _ => ⟨⟨0, (u17, x16.2.2.1, x16.2.2.2), rfl, ⟨Or.inl rfl, h17, fun h => absurd rfl h⟩, by rw [ht]; exact w.1, w.2.1⟩, w.2.2.F ht⟩) w.2.2.2.2 dX7_readsOuts_68
    · refine lv_aload_n S.1 S.2.1 dX7_readsOuts_58 rfl (lv_at hl 1 rfl) ?_
      refine lv_iconst (v := 0) S.1 S.2.1 dX7_readsOuts_59 (by decide) ?_
      refine lv_iload_n S.1 S.2.1 dX7_readsOuts_60 rfl (lv_at hl 0 rfl) ?_
      refine cq_i C w [0, 2] [1, 3] [2, 0, 3, 1] (wr := [(mD, .inl (G.2.1 2, 49, .inl x16.2.2.2)), (mW, .inl (G.2.1 1, 73, .inl (wdF 73)))]) (w' := fun u : Nat × Int32 => [(mO, .inr (7, [.ref mS, .ref mD, .ref mR, .ref mT, .int (nI tN), .int (nI u.1), .int u.2, .ref mW, .ref mQ, .ref mC, .int my, .ref mU, .ref mV, .int mm, .int mf, .int mg])), (mT, .inl (G.2.1 2, 120, .inl fT))]) (ws2 := fun u : Nat × Int32 => [(mO, .inr (7, [.ref mS, .ref mD, .ref mR, .ref mT, .int (nI tN), .int (nI u.1), .int u.2, .ref mW, .ref mQ, .ref mC, .int my, .ref mU, .ref mV, .int mm, .int mf, .int mg])), (mD, .inl (G.2.1 2, 49, .inl x16.2.2.2)), (mT, .inl (G.2.1 2, 120, .inl fT)), (mW, .inl (G.2.1 1, 73, .inl (wdF 73)))]) rfl rfl rfl (by decide) rfl (fun _ => rfl) (va_runV (As := [.int 0, .int (((fD (0 : Int32).toNatClampNeg) + (fD (1 : Int32).toNatClampNeg)) - 1)]) (rest := []) S (c_X7_isNumber l G mO mT _ mS mD mR mW mQ mC mU mV x16.2.2.1 my mm mf mg tN u17 fT 0 (((fD (0 : Int32).toNatClampNeg) + (fD (1 : Int32).toNatClampNeg)) - 1) (htN) (h17)) (cwV 2 S.2.2.2.2 gX7_readsOuts_X7_isNumber rfl rfl rfl (by decide +kernel) ⟨Nat.le_of_ble_eq_true rfl, Nat.le_of_ble_eq_true rfl⟩) ⟨wPre_blind, va_recv C.1 w.1 (ci := 7) (q0 := 0) rfl rfl, wPre_at C w [0, 2] rfl rfl⟩ rfl rfl hl.1 rfl (lv_room (Nat.le_of_ble_eq_true rfl)) dX7_readsOuts_61 ⟨Nat.le_of_ble_eq_true rfl, Nat.le_of_ble_eq_true rfl⟩) (fun r61 u61 H locs h61 w => ?_)
      have w : Wd G _ s [(mO, .inr (7, [.ref mS, .ref mD, .ref mR, .ref mT, .int (nI tN), .int (nI u61.1), .int u61.2, .ref mW, .ref mQ, .ref mC, .int my, .ref mU, .ref mV, .int mm, .int mf, .int mg])), (mD, .inl (G.2.1 2, 49, .inl x16.2.2.2)), (mT, .inl (G.2.1 2, 120, .inl fT)), (mW, .inl (G.2.1 1, 73, .inl (wdF 73)))] H locs := w
      refine lv_if_ne (tgt := 69) S.1 S.2.1 dX7_readsOuts_64 (by decide) (fun c64 => ?_) (fun c64 => ?_)
      · refine lv_aload_n S.1 S.2.1 dX7_readsOuts_69 rfl (lv_at hl 1 rfl) ?_
        refine w_get S C w (CC := RX7) (T := TX7) (N := 16) (ref := "GateSumsModel") im_X7_readsOuts_X7 0 rfl rfl 1 (by decide) (List.mem_of_getElem? (i := 1) rfl) (fun _ h => h) rfl dX7_readsOuts_70 ?_
        refine lv_bipush (v := 42) S.1 S.2.1 dX7_readsOuts_73 (by decide) ?_
        refine lv_aload_n S.1 S.2.1 dX7_readsOuts_75 rfl (lv_at hl 1 rfl) ?_
        refine w_get S C w (CC := RX7) (T := TX7) (N := 16) (ref := "GateSumsModel") im_X7_readsOuts_X7 0 rfl rfl 1 (by decide) (List.mem_of_getElem? (i := 1) rfl) (fun _ h => h) rfl dX7_readsOuts_76 ?_
        refine lv_iconst (v := 2) S.1 S.2.1 dX7_readsOuts_79 (by decide) ?_
        refine w_iald S C w 1 rfl (by unfold vp_in; decide) dX7_readsOuts_80 ?_
        refine w_topi (y := (nI x16.1)) (hI16.2.2.1) ?_
        refine lv_iadd S.1 S.2.1 dX7_readsOuts_81 ?_
        refine w_topi (y := (nI (42 + x16.1))) (nI_add 42 _) ?_
        refine lv_aload_n S.1 S.2.1 dX7_readsOuts_82 rfl (lv_at hl 1 rfl) ?_
        refine w_get S C w (CC := RX7) (T := TX7) (N := 16) (ref := "GateSumsModel") im_X7_readsOuts_X7 0 rfl rfl 6 (by decide) (List.mem_of_getElem? (i := 3) rfl) (fun _ h => h) rfl dX7_readsOuts_83 ?_
        have hlt7 := ne7 hI16.1 c55
        refine w_iast S C w 1 rfl (nIin (by omega) (by decide)) (ws2 := [(mO, .inr (7, [.ref mS, .ref mD, .ref mR, .ref mT, .int (nI tN), .int (nI u61.1), .int u61.2, .ref mW, .ref mQ, .ref mC, .int my, .ref mU, .ref mV, .int mm, .int mf, .int mg])), (mD, .inl (G.2.1 2, 49, .inl (upd x16.2.2.2 (nI (42 + x16.1)).toNatClampNeg u61.2))), (mT, .inl (G.2.1 2, 120, .inl fT)), (mW, .inl (G.2.1 1, 73, .inl (wdF 73)))]) rfl dX7_readsOuts_86 (fun H locs w => ?_)
        have w : Wd G (va_A [(mO, .inr (7, [.ref mS, .ref mD, .ref mR, .ref mT, .int (nI tN), .int (nI aN), .int mn, .ref mW, .ref mQ, .ref mC, .int my, .ref mU, .ref mV, .int mm, .int mf, .int mg])), (mD, .inl (G.2.1 2, 49, .inl fD)), (mT, .inl (G.2.1 2, 120, .inl fT)), (mW, .inl (G.2.1 1, 73, .inl (wdF 73)))] sz) s [(mO, .inr (7, [.ref mS, .ref mD, .ref mR, .ref mT, .int (nI tN), .int (nI u61.1), .int u61.2, .ref mW, .ref mQ, .ref mC, .int my, .ref mU, .ref mV, .int mm, .int mf, .int mg])), (mD, .inl (G.2.1 2, 49, .inl (upd x16.2.2.2 (42 + x16.1) u61.2))), (mT, .inl (G.2.1 2, 120, .inl fT)), (mW, .inl (G.2.1 1, 73, .inl (wdF 73)))] H locs := by have h := nIc (j := 42 + x16.1) (by omega); rw [h] at w; exact w
        refine lv_aload_n S.1 S.2.1 dX7_readsOuts_87 rfl (lv_at hl 1 rfl) ?_
        refine w_get S C w (CC := RX7) (T := TX7) (N := 16) (ref := "GateSumsModel") im_X7_readsOuts_X7 0 rfl rfl 1 (by decide) (List.mem_of_getElem? (i := 1) rfl) (fun _ h => h) rfl dX7_readsOuts_88 ?_
        refine lv_iconst (v := 2) S.1 S.2.1 dX7_readsOuts_91 (by decide) ?_
        refine lv_dup2_11 S.1 S.2.1 dX7_readsOuts_92 rfl rfl ?_
        refine w_iald S C w 1 rfl (by unfold vp_in; decide) dX7_readsOuts_93 ?_
        refine w_topi (y := (nI x16.1)) (by show upd _ _ _ 2 = nI _; rw [pk_un (by omega)]; exact hI16.2.2.1) ?_
        refine lv_iconst (v := 1) S.1 S.2.1 dX7_readsOuts_94 (by decide) ?_
        refine lv_iadd S.1 S.2.1 dX7_readsOuts_95 ?_
        refine w_topi (y := (nI (x16.1 + 1))) (nI_1 _) ?_
        refine w_iast S C w 1 rfl (by unfold vp_in; decide) (ws2 := [(mO, .inr (7, [.ref mS, .ref mD, .ref mR, .ref mT, .int (nI tN), .int (nI u61.1), .int u61.2, .ref mW, .ref mQ, .ref mC, .int my, .ref mU, .ref mV, .int mm, .int mf, .int mg])), (mD, .inl (G.2.1 2, 49, .inl (upd (upd x16.2.2.2 (42 + x16.1) u61.2) (2 : Int32).toNatClampNeg (nI (x16.1 + 1))))), (mT, .inl (G.2.1 2, 120, .inl fT)), (mW, .inl (G.2.1 1, 73, .inl (wdF 73)))]) rfl dX7_readsOuts_96 (fun H locs w => ?_)
        have w : Wd G (va_A [(mO, .inr (7, [.ref mS, .ref mD, .ref mR, .ref mT, .int (nI tN), .int (nI aN), .int mn, .ref mW, .ref mQ, .ref mC, .int my, .ref mU, .ref mV, .int mm, .int mf, .int mg])), (mD, .inl (G.2.1 2, 49, .inl fD)), (mT, .inl (G.2.1 2, 120, .inl fT)), (mW, .inl (G.2.1 1, 73, .inl (wdF 73)))] sz) s [(mO, .inr (7, [.ref mS, .ref mD, .ref mR, .ref mT, .int (nI tN), .int (nI u61.1), .int u61.2, .ref mW, .ref mQ, .ref mC, .int my, .ref mU, .ref mV, .int mm, .int mf, .int mg])), (mD, .inl (G.2.1 2, 49, .inl (upd (upd x16.2.2.2 (42 + x16.1) u61.2) 2 (nI (x16.1 + 1))))), (mT, .inl (G.2.1 2, 120, .inl fT)), (mW, .inl (G.2.1 1, 73, .inl (wdF 73)))] H locs := by have h := (show (2 : Int32).toNatClampNeg = 2 from rfl); rw [h] at w; exact w
        refine lv_goto (tgt := 16) S.1 S.2.1 dX7_readsOuts_97 (by decide) ?_
        have hlt := ne7 hI16.1 c55
        exact ih16 (x16.1 + 1, u61.1, u61.2, (upd (upd x16.2.2.2 (42 + x16.1) u61.2) 2 (nI (x16.1 + 1)))) ls _ _ (⟨hlt, (h61).2.1, (by dsimp only; exact pk_us), (by dsimp only; rw [pk_un (by omega), pk_un (by omega)]; exact hI16.2.2.2.1), (by dsimp only; rw [pk_un (by omega), pk_un (by omega)]; exact hI16.2.2.2.2)⟩) (by dsimp only; omega) w (lv_sub hl [0, 1] rfl)
      · refine lv_iconst (v := 0) S.1 S.2.1 dX7_readsOuts_67 (by decide) ?_
        exact W.zret (v := 0) S.1 S.2.1 hr (rfl) (fun t ht _ => ⟨⟨0, (u61.1, u61.2, x16.2.2.2), rfl, ⟨Or.inl rfl, h61.2.1, fun h => absurd rfl h⟩, by rw [ht]; exact w.1, w.2.1⟩, w.2.2.F ht⟩) w.2.2.2.2 dX7_readsOuts_68
  · refine lv_aload_n S.1 S.2.1 dX7_readsOuts_29 rfl (lv_at hl 1 rfl) ?_
    refine lv_aload_n S.1 S.2.1 dX7_readsOuts_30 rfl (lv_at hl 1 rfl) ?_
    refine w_get S C w (CC := RX7) (T := TX7) (N := 16) (ref := "GateSumsModel") im_X7_readsOuts_X7 0 rfl rfl 5 (by decide) (List.mem_of_getElem? (i := 2) rfl) (fun _ h => h) rfl dX7_readsOuts_31 ?_
    refine cs_i (va_runV (As := [.int (nI u17)]) (rest := []) S (c_X7_byteAt l G mO mT _ mS mD mR mW mQ mC mU mV (nI tN) (nI u17) x16.2.2.1 my mm mf mg fT (nI u17) (fun h => bt_ok htN (by omega) h)) (cwV 1 S.2.2.2.2 gX7_readsOuts_X7_byteAt rfl rfl rfl (by decide +kernel) ⟨Nat.le_of_ble_eq_true rfl, Nat.le_of_ble_eq_true rfl⟩) ⟨wPre_blind, va_recv C.1 w.1 (ci := 7) (q0 := 0) rfl rfl, wPre_at C w [0, 2] rfl rfl⟩ rfl rfl hl.1 rfl (lv_room (Nat.le_of_ble_eq_true rfl)) dX7_readsOuts_34 ⟨Nat.le_of_ble_eq_true rfl, Nat.le_of_ble_eq_true rfl⟩) (fun r34 h34 => ?_)
    refine w_topi (y := (byteAtM (nI tN) fT (nI u17))) h34 ?_
    refine lv_bipush (v := 59) S.1 S.2.1 dX7_readsOuts_37 (by decide) ?_
    refine lv_icmp_ne (tgt := 47) S.1 S.2.1 dX7_readsOuts_39 (by decide) (fun c39 => ?_) (fun c39 => ?_)
    · refine lv_aload_n S.1 S.2.1 dX7_readsOuts_47 rfl (lv_at hl 1 rfl) ?_
      refine w_get S C w (CC := RX7) (T := TX7) (N := 16) (ref := "GateSumsModel") im_X7_readsOuts_X7 0 rfl rfl 1 (by decide) (List.mem_of_getElem? (i := 1) rfl) (fun _ h => h) rfl dX7_readsOuts_48 ?_
      refine lv_iconst (v := 2) S.1 S.2.1 dX7_readsOuts_51 (by decide) ?_
      refine w_iald S C w 1 rfl (by unfold vp_in; decide) dX7_readsOuts_52 ?_
      refine w_topi (y := (nI x16.1)) (hI16.2.2.1) ?_
      refine lv_bipush (v := 7) S.1 S.2.1 dX7_readsOuts_53 (by decide) ?_
      refine lv_icmp_eq (tgt := 67) S.1 S.2.1 dX7_readsOuts_55 (by decide) (fun c55_1 => ?_) (fun c55_1 => ?_)
      · refine lv_iconst (v := 0) S.1 S.2.1 dX7_readsOuts_67 (by decide) ?_
        exact W.zret (v := 0) S.1 S.2.1 hr (rfl) (fun t ht _ => ⟨⟨0, (u17, x16.2.2.1, x16.2.2.2), rfl, ⟨Or.inl rfl, h17, fun h => absurd rfl h⟩, by rw [ht]; exact w.1, w.2.1⟩, w.2.2.F ht⟩) w.2.2.2.2 dX7_readsOuts_68
      · refine lv_aload_n S.1 S.2.1 dX7_readsOuts_58 rfl (lv_at hl 1 rfl) ?_
        refine lv_iconst (v := 0) S.1 S.2.1 dX7_readsOuts_59 (by decide) ?_
        refine lv_iload_n S.1 S.2.1 dX7_readsOuts_60 rfl (lv_at hl 0 rfl) ?_
        refine cq_i C w [0, 2] [1, 3] [2, 0, 3, 1] (wr := [(mD, .inl (G.2.1 2, 49, .inl x16.2.2.2)), (mW, .inl (G.2.1 1, 73, .inl (wdF 73)))]) (w' := fun u : Nat × Int32 => [(mO, .inr (7, [.ref mS, .ref mD, .ref mR, .ref mT, .int (nI tN), .int (nI u.1), .int u.2, .ref mW, .ref mQ, .ref mC, .int my, .ref mU, .ref mV, .int mm, .int mf, .int mg])), (mT, .inl (G.2.1 2, 120, .inl fT))]) (ws2 := fun u : Nat × Int32 => [(mO, .inr (7, [.ref mS, .ref mD, .ref mR, .ref mT, .int (nI tN), .int (nI u.1), .int u.2, .ref mW, .ref mQ, .ref mC, .int my, .ref mU, .ref mV, .int mm, .int mf, .int mg])), (mD, .inl (G.2.1 2, 49, .inl x16.2.2.2)), (mT, .inl (G.2.1 2, 120, .inl fT)), (mW, .inl (G.2.1 1, 73, .inl (wdF 73)))]) rfl rfl rfl (by decide) rfl (fun _ => rfl) (va_runV (As := [.int 0, .int (((fD (0 : Int32).toNatClampNeg) + (fD (1 : Int32).toNatClampNeg)) - 1)]) (rest := []) S (c_X7_isNumber l G mO mT _ mS mD mR mW mQ mC mU mV x16.2.2.1 my mm mf mg tN u17 fT 0 (((fD (0 : Int32).toNatClampNeg) + (fD (1 : Int32).toNatClampNeg)) - 1) (htN) (h17)) (cwV 2 S.2.2.2.2 gX7_readsOuts_X7_isNumber rfl rfl rfl (by decide +kernel) ⟨Nat.le_of_ble_eq_true rfl, Nat.le_of_ble_eq_true rfl⟩) ⟨wPre_blind, va_recv C.1 w.1 (ci := 7) (q0 := 0) rfl rfl, wPre_at C w [0, 2] rfl rfl⟩ rfl rfl hl.1 rfl (lv_room (Nat.le_of_ble_eq_true rfl)) dX7_readsOuts_61 ⟨Nat.le_of_ble_eq_true rfl, Nat.le_of_ble_eq_true rfl⟩) (fun r61_1 u61_1 H locs h61_1 w => ?_)
        have w : Wd G _ s [(mO, .inr (7, [.ref mS, .ref mD, .ref mR, .ref mT, .int (nI tN), .int (nI u61_1.1), .int u61_1.2, .ref mW, .ref mQ, .ref mC, .int my, .ref mU, .ref mV, .int mm, .int mf, .int mg])), (mD, .inl (G.2.1 2, 49, .inl x16.2.2.2)), (mT, .inl (G.2.1 2, 120, .inl fT)), (mW, .inl (G.2.1 1, 73, .inl (wdF 73)))] H locs := w
        refine lv_if_ne (tgt := 69) S.1 S.2.1 dX7_readsOuts_64 (by decide) (fun c64_1 => ?_) (fun c64_1 => ?_)
        · refine lv_aload_n S.1 S.2.1 dX7_readsOuts_69 rfl (lv_at hl 1 rfl) ?_
          refine w_get S C w (CC := RX7) (T := TX7) (N := 16) (ref := "GateSumsModel") im_X7_readsOuts_X7 0 rfl rfl 1 (by decide) (List.mem_of_getElem? (i := 1) rfl) (fun _ h => h) rfl dX7_readsOuts_70 ?_
          refine lv_bipush (v := 42) S.1 S.2.1 dX7_readsOuts_73 (by decide) ?_
          refine lv_aload_n S.1 S.2.1 dX7_readsOuts_75 rfl (lv_at hl 1 rfl) ?_
          refine w_get S C w (CC := RX7) (T := TX7) (N := 16) (ref := "GateSumsModel") im_X7_readsOuts_X7 0 rfl rfl 1 (by decide) (List.mem_of_getElem? (i := 1) rfl) (fun _ h => h) rfl dX7_readsOuts_76 ?_
          refine lv_iconst (v := 2) S.1 S.2.1 dX7_readsOuts_79 (by decide) ?_
          refine w_iald S C w 1 rfl (by unfold vp_in; decide) dX7_readsOuts_80 ?_
          refine w_topi (y := (nI x16.1)) (hI16.2.2.1) ?_
          refine lv_iadd S.1 S.2.1 dX7_readsOuts_81 ?_
          refine w_topi (y := (nI (42 + x16.1))) (nI_add 42 _) ?_
          refine lv_aload_n S.1 S.2.1 dX7_readsOuts_82 rfl (lv_at hl 1 rfl) ?_
          refine w_get S C w (CC := RX7) (T := TX7) (N := 16) (ref := "GateSumsModel") im_X7_readsOuts_X7 0 rfl rfl 6 (by decide) (List.mem_of_getElem? (i := 3) rfl) (fun _ h => h) rfl dX7_readsOuts_83 ?_
          have hlt7 := ne7 hI16.1 c55_1
          refine w_iast S C w 1 rfl (nIin (by omega) (by decide)) (ws2 := [(mO, .inr (7, [.ref mS, .ref mD, .ref mR, .ref mT, .int (nI tN), .int (nI u61_1.1), .int u61_1.2, .ref mW, .ref mQ, .ref mC, .int my, .ref mU, .ref mV, .int mm, .int mf, .int mg])), (mD, .inl (G.2.1 2, 49, .inl (upd x16.2.2.2 (nI (42 + x16.1)).toNatClampNeg u61_1.2))), (mT, .inl (G.2.1 2, 120, .inl fT)), (mW, .inl (G.2.1 1, 73, .inl (wdF 73)))]) rfl dX7_readsOuts_86 (fun H locs w => ?_)
          have w : Wd G (va_A [(mO, .inr (7, [.ref mS, .ref mD, .ref mR, .ref mT, .int (nI tN), .int (nI aN), .int mn, .ref mW, .ref mQ, .ref mC, .int my, .ref mU, .ref mV, .int mm, .int mf, .int mg])), (mD, .inl (G.2.1 2, 49, .inl fD)), (mT, .inl (G.2.1 2, 120, .inl fT)), (mW, .inl (G.2.1 1, 73, .inl (wdF 73)))] sz) s [(mO, .inr (7, [.ref mS, .ref mD, .ref mR, .ref mT, .int (nI tN), .int (nI u61_1.1), .int u61_1.2, .ref mW, .ref mQ, .ref mC, .int my, .ref mU, .ref mV, .int mm, .int mf, .int mg])), (mD, .inl (G.2.1 2, 49, .inl (upd x16.2.2.2 (42 + x16.1) u61_1.2))), (mT, .inl (G.2.1 2, 120, .inl fT)), (mW, .inl (G.2.1 1, 73, .inl (wdF 73)))] H locs := by have h := nIc (j := 42 + x16.1) (by omega); rw [h] at w; exact w
          refine lv_aload_n S.1 S.2.1 dX7_readsOuts_87 rfl (lv_at hl 1 rfl) ?_
          refine w_get S C w (CC := RX7) (T := TX7) (N := 16) (ref := "GateSumsModel") im_X7_readsOuts_X7 0 rfl rfl 1 (by decide) (List.mem_of_getElem? (i := 1) rfl) (fun _ h => h) rfl dX7_readsOuts_88 ?_
          refine lv_iconst (v := 2) S.1 S.2.1 dX7_readsOuts_91 (by decide) ?_
          refine lv_dup2_11 S.1 S.2.1 dX7_readsOuts_92 rfl rfl ?_
          refine w_iald S C w 1 rfl (by unfold vp_in; decide) dX7_readsOuts_93 ?_
          refine w_topi (y := (nI x16.1)) (by show upd _ _ _ 2 = nI _; rw [pk_un (by omega)]; exact hI16.2.2.1) ?_
          refine lv_iconst (v := 1) S.1 S.2.1 dX7_readsOuts_94 (by decide) ?_
          refine lv_iadd S.1 S.2.1 dX7_readsOuts_95 ?_
          refine w_topi (y := (nI (x16.1 + 1))) (nI_1 _) ?_
          refine w_iast S C w 1 rfl (by unfold vp_in; decide) (ws2 := [(mO, .inr (7, [.ref mS, .ref mD, .ref mR, .ref mT, .int (nI tN), .int (nI u61_1.1), .int u61_1.2, .ref mW, .ref mQ, .ref mC, .int my, .ref mU, .ref mV, .int mm, .int mf, .int mg])), (mD, .inl (G.2.1 2, 49, .inl (upd (upd x16.2.2.2 (42 + x16.1) u61_1.2) (2 : Int32).toNatClampNeg (nI (x16.1 + 1))))), (mT, .inl (G.2.1 2, 120, .inl fT)), (mW, .inl (G.2.1 1, 73, .inl (wdF 73)))]) rfl dX7_readsOuts_96 (fun H locs w => ?_)
          have w : Wd G (va_A [(mO, .inr (7, [.ref mS, .ref mD, .ref mR, .ref mT, .int (nI tN), .int (nI aN), .int mn, .ref mW, .ref mQ, .ref mC, .int my, .ref mU, .ref mV, .int mm, .int mf, .int mg])), (mD, .inl (G.2.1 2, 49, .inl fD)), (mT, .inl (G.2.1 2, 120, .inl fT)), (mW, .inl (G.2.1 1, 73, .inl (wdF 73)))] sz) s [(mO, .inr (7, [.ref mS, .ref mD, .ref mR, .ref mT, .int (nI tN), .int (nI u61_1.1), .int u61_1.2, .ref mW, .ref mQ, .ref mC, .int my, .ref mU, .ref mV, .int mm, .int mf, .int mg])), (mD, .inl (G.2.1 2, 49, .inl (upd (upd x16.2.2.2 (42 + x16.1) u61_1.2) 2 (nI (x16.1 + 1))))), (mT, .inl (G.2.1 2, 120, .inl fT)), (mW, .inl (G.2.1 1, 73, .inl (wdF 73)))] H locs := by have h := (show (2 : Int32).toNatClampNeg = 2 from rfl); rw [h] at w; exact w
          refine lv_goto (tgt := 16) S.1 S.2.1 dX7_readsOuts_97 (by decide) ?_
          have hlt := ne7 hI16.1 c55_1
          exact ih16 (x16.1 + 1, u61_1.1, u61_1.2, (upd (upd x16.2.2.2 (42 + x16.1) u61_1.2) 2 (nI (x16.1 + 1)))) ls _ _ (⟨hlt, (h61_1).2.1, (by dsimp only; exact pk_us), (by dsimp only; rw [pk_un (by omega), pk_un (by omega)]; exact hI16.2.2.2.1), (by dsimp only; rw [pk_un (by omega), pk_un (by omega)]; exact hI16.2.2.2.2)⟩) (by dsimp only; omega) w (lv_sub hl [0, 1] rfl)
        · refine lv_iconst (v := 0) S.1 S.2.1 dX7_readsOuts_67 (by decide) ?_
          exact W.zret (v := 0) S.1 S.2.1 hr (rfl) (fun t ht _ => ⟨⟨0, (u61_1.1, u61_1.2, x16.2.2.2), rfl, ⟨Or.inl rfl, h61_1.2.1, fun h => absurd rfl h⟩, by rw [ht]; exact w.1, w.2.1⟩, w.2.2.F ht⟩) w.2.2.2.2 dX7_readsOuts_68
    · refine lv_aload_n S.1 S.2.1 dX7_readsOuts_42 rfl (lv_at hl 1 rfl) ?_
      refine cq_i C w [0, 2] [1, 3] [2, 0, 3, 1] (wr := [(mD, .inl (G.2.1 2, 49, .inl x16.2.2.2)), (mW, .inl (G.2.1 1, 73, .inl (wdF 73)))]) (w' := fun u : Nat => [(mO, .inr (7, [.ref mS, .ref mD, .ref mR, .ref mT, .int (nI tN), .int (nI u), .int x16.2.2.1, .ref mW, .ref mQ, .ref mC, .int my, .ref mU, .ref mV, .int mm, .int mf, .int mg])), (mT, .inl (G.2.1 2, 120, .inl fT))]) (ws2 := fun u : Nat => [(mO, .inr (7, [.ref mS, .ref mD, .ref mR, .ref mT, .int (nI tN), .int (nI u), .int x16.2.2.1, .ref mW, .ref mQ, .ref mC, .int my, .ref mU, .ref mV, .int mm, .int mf, .int mg])), (mD, .inl (G.2.1 2, 49, .inl x16.2.2.2)), (mT, .inl (G.2.1 2, 120, .inl fT)), (mW, .inl (G.2.1 1, 73, .inl (wdF 73)))]) rfl rfl rfl (by decide) rfl (fun _ => rfl) (va_runV (As := []) (rest := []) S (c_X7_ends l G mO mT _ mS mD mR mW mQ mC mU mV x16.2.2.1 my mm mf mg tN u17 fT (htN) (h17)) (cwV 0 S.2.2.2.2 gX7_readsOuts_X7_ends rfl rfl rfl (by decide +kernel) ⟨Nat.le_of_ble_eq_true rfl, Nat.le_of_ble_eq_true rfl⟩) ⟨wPre_blind, va_recv C.1 w.1 (ci := 7) (q0 := 0) rfl rfl, wPre_at C w [0, 2] rfl rfl⟩ rfl rfl hl.1 rfl (lv_room (Nat.le_of_ble_eq_true rfl)) dX7_readsOuts_43 ⟨Nat.le_of_ble_eq_true rfl, Nat.le_of_ble_eq_true rfl⟩) (fun r43 u43 H locs h43 w => ?_)
      have w : Wd G _ s [(mO, .inr (7, [.ref mS, .ref mD, .ref mR, .ref mT, .int (nI tN), .int (nI u43), .int x16.2.2.1, .ref mW, .ref mQ, .ref mC, .int my, .ref mU, .ref mV, .int mm, .int mf, .int mg])), (mD, .inl (G.2.1 2, 49, .inl x16.2.2.2)), (mT, .inl (G.2.1 2, 120, .inl fT)), (mW, .inl (G.2.1 1, 73, .inl (wdF 73)))] H locs := w
      exact W.zret (v := r43) S.1 S.2.1 hr (z01_nar (h43).1) (fun t ht _ => ⟨⟨r43, (u43, x16.2.2.1, x16.2.2.2), rfl, ⟨(h43).1, h43.2, fun _ => ⟨⟨_, hI16.2.2.1, hI16.1⟩, hI16.2.2.2⟩⟩, by rw [ht]; exact w.1, w.2.1⟩, w.2.2.F ht⟩) w.2.2.2.2 dX7_readsOuts_46
theorem im_X7_readsTask_X7 : ∀ w ∈ u_ws RX7 TX7 16, w ∈ wsX7_readsTask := by decide +kernel
set_option maxHeartbeats 4000000 in
set_option maxRecDepth 100000 in
theorem c_X7_readsTask (l : Launch) (G : GT) (mO mD mT mW : Nat) (sz : Nat) (mS mR mQ mC mU mV : Nat) (mn my mm mf mg : Int32) (tN aN : Nat) (fD fT : Nat → Int32) (htN : tN ≤ 120) (haN : aN ≤ 120) (hn6 : ¬ inF (fD 0) 1 6 = 0) : Met l yX7_readsTask wsX7_readsTask ({ frames := 3, cells := 0, slots := 0, locals := 71 }) (va_Pc [.ref mO] (wPre G [(mO, .inr (7, [.ref mS, .ref mD, .ref mR, .ref mT, .int (nI tN), .int (nI aN), .int mn, .ref mW, .ref mQ, .ref mC, .int my, .ref mU, .ref mV, .int mm, .int mf, .int mg])), (mD, .inl (G.2.1 2, 49, .inl fD)), (mT, .inl (G.2.1 2, 120, .inl fT)), (mW, .inl (G.2.1 1, 73, .inl (wdF 73)))] sz)) (va_Qi (fun (r : Int32) (u : Nat × Int32 × (Nat → Int32)) => (r = 0 ∨ r = 1) ∧ u.1 ≤ 120 ∧ (¬ r = 0 → taskD fD u.2.2)) (bW G (va_A [(mO, .inr (7, [.ref mS, .ref mD, .ref mR, .ref mT, .int (nI tN), .int (nI aN), .int mn, .ref mW, .ref mQ, .ref mC, .int my, .ref mU, .ref mV, .int mm, .int mf, .int mg])), (mD, .inl (G.2.1 2, 49, .inl fD)), (mT, .inl (G.2.1 2, 120, .inl fT)), (mW, .inl (G.2.1 1, 73, .inl (wdF 73)))] sz) (fun u : Nat × Int32 × (Nat → Int32) => [(mO, .inr (7, [.ref mS, .ref mD, .ref mR, .ref mT, .int (nI tN), .int (nI u.1), .int u.2.1, .ref mW, .ref mQ, .ref mC, .int my, .ref mU, .ref mV, .int mm, .int mf, .int mg])), (mD, .inl (G.2.1 2, 49, .inl u.2.2)), (mT, .inl (G.2.1 2, 120, .inl fT)), (mW, .inl (G.2.1 1, 73, .inl (wdF 73)))])) (va_A [(mO, .inr (7, [.ref mS, .ref mD, .ref mR, .ref mT, .int (nI tN), .int (nI aN), .int mn, .ref mW, .ref mQ, .ref mC, .int my, .ref mU, .ref mV, .int mm, .int mf, .int mg])), (mD, .inl (G.2.1 2, 49, .inl fD)), (mT, .inl (G.2.1 2, 120, .inl fT)), (mW, .inl (G.2.1 1, 73, .inl (wdF 73)))] sz)) 0 0 (va_A [(mO, .inr (7, [.ref mS, .ref mD, .ref mR, .ref mT, .int (nI tN), .int (nI aN), .int mn, .ref mW, .ref mQ, .ref mC, .int my, .ref mU, .ref mV, .int mm, .int mf, .int mg])), (mD, .inl (G.2.1 2, 49, .inl fD)), (mT, .inl (G.2.1 2, 120, .inl fT)), (mW, .inl (G.2.1 1, 73, .inl (wdF 73)))] sz) := by
  refine met_go (cc := cX7_readsTask) (maxL := 2) (ret := (some .boolean)) (own := RX7) (by decide) rfl rfl (Nat.le_of_ble_eq_true rfl) ?_
  intro p e s m below meth c ls S hr hlocks hname hsz C w hl
  have hl : lv_has ls 2 [(0, .ref mO)] := hl
  refine lv_aload_n S.1 S.2.1 dX7_readsTask_0 rfl (lv_at hl 0 rfl) ?_
  refine lv_bipush (v := 8) S.1 S.2.1 dX7_readsTask_1 (by decide) ?_
  refine lv_bipush (v := 11) S.1 S.2.1 dX7_readsTask_3 (by decide) ?_
  refine cq_i C w [0, 2, 3] [1] [1, 0, 2, 3] (wr := [(mD, .inl (G.2.1 2, 49, .inl fD))]) (w' := fun u : Nat => [(mO, .inr (7, [.ref mS, .ref mD, .ref mR, .ref mT, .int (nI tN), .int (nI u), .int mn, .ref mW, .ref mQ, .ref mC, .int my, .ref mU, .ref mV, .int mm, .int mf, .int mg])), (mT, .inl (G.2.1 2, 120, .inl fT)), (mW, .inl (G.2.1 1, 73, .inl (wdF 73)))]) (ws2 := fun u : Nat => [(mO, .inr (7, [.ref mS, .ref mD, .ref mR, .ref mT, .int (nI tN), .int (nI u), .int mn, .ref mW, .ref mQ, .ref mC, .int my, .ref mU, .ref mV, .int mm, .int mf, .int mg])), (mD, .inl (G.2.1 2, 49, .inl fD)), (mT, .inl (G.2.1 2, 120, .inl fT)), (mW, .inl (G.2.1 1, 73, .inl (wdF 73)))]) rfl rfl rfl (by decide) rfl (fun _ => rfl) (va_runV (As := [.int 8, .int 11]) (rest := []) S (c_X7_word l G mO mT mW _ mS mD mR mQ mC mU mV mn my mm mf mg tN aN fT 8 11 (htN) (haN)) (cwV 2 S.2.2.2.2 gX7_readsTask_X7_word rfl rfl rfl (by decide +kernel) ⟨Nat.le_of_ble_eq_true rfl, Nat.le_of_ble_eq_true rfl⟩) ⟨wPre_blind, va_recv C.1 w.1 (ci := 7) (q0 := 0) rfl rfl, wPre_at C w [0, 2, 3] rfl rfl⟩ rfl rfl hl.1 rfl (lv_room (Nat.le_of_ble_eq_true rfl)) dX7_readsTask_5 ⟨Nat.le_of_ble_eq_true rfl, Nat.le_of_ble_eq_true rfl⟩) (fun r5 u5 H locs h5 w => ?_)
  have w : Wd G _ s [(mO, .inr (7, [.ref mS, .ref mD, .ref mR, .ref mT, .int (nI tN), .int (nI u5), .int mn, .ref mW, .ref mQ, .ref mC, .int my, .ref mU, .ref mV, .int mm, .int mf, .int mg])), (mD, .inl (G.2.1 2, 49, .inl fD)), (mT, .inl (G.2.1 2, 120, .inl fT)), (mW, .inl (G.2.1 1, 73, .inl (wdF 73)))] H locs := w
  refine lv_istore_n (lv' := [(1, .int r5), (0, .ref mO)]) S.1 S.2.1 dX7_readsTask_8 rfl hl (by decide) rfl (fun ls hl => ?_)
  refine lv_iload_n S.1 S.2.1 dX7_readsTask_9 rfl (lv_at hl 0 rfl) ?_
  refine lv_if_ge (tgt := 15) S.1 S.2.1 dX7_readsTask_10 (by decide) (fun c10 => ?_) (fun c10 => ?_)
  · refine lv_aload_n S.1 S.2.1 dX7_readsTask_15 rfl (lv_at hl 1 rfl) ?_
    refine w_get S C w (CC := RX7) (T := TX7) (N := 16) (ref := "GateSumsModel") im_X7_readsTask_X7 0 rfl rfl 1 (by decide) (List.mem_of_getElem? (i := 1) rfl) (fun _ h => h) rfl dX7_readsTask_16 ?_
    refine lv_iconst (v := 3) S.1 S.2.1 dX7_readsTask_19 (by decide) ?_
    refine lv_iload_n S.1 S.2.1 dX7_readsTask_20 rfl (lv_at hl 0 rfl) ?_
    refine w_iast S C w 1 rfl (by unfold vp_in; decide) (ws2 := [(mO, .inr (7, [.ref mS, .ref mD, .ref mR, .ref mT, .int (nI tN), .int (nI u5), .int mn, .ref mW, .ref mQ, .ref mC, .int my, .ref mU, .ref mV, .int mm, .int mf, .int mg])), (mD, .inl (G.2.1 2, 49, .inl (upd fD (3 : Int32).toNatClampNeg r5))), (mT, .inl (G.2.1 2, 120, .inl fT)), (mW, .inl (G.2.1 1, 73, .inl (wdF 73)))]) rfl dX7_readsTask_21 (fun H locs w => ?_)
    refine lv_aload_n S.1 S.2.1 dX7_readsTask_22 rfl (lv_at hl 1 rfl) ?_
    refine lv_iconst (v := 1) S.1 S.2.1 dX7_readsTask_23 (by decide) ?_
    refine lv_aload_n S.1 S.2.1 dX7_readsTask_24 rfl (lv_at hl 1 rfl) ?_
    refine w_get S C w (CC := RX7) (T := TX7) (N := 16) (ref := "GateSumsModel") im_X7_readsTask_X7 0 rfl rfl 1 (by decide) (List.mem_of_getElem? (i := 1) rfl) (fun _ h => h) rfl dX7_readsTask_25 ?_
    refine lv_iconst (v := 0) S.1 S.2.1 dX7_readsTask_28 (by decide) ?_
    refine w_iald S C w 1 rfl (by unfold vp_in; decide) dX7_readsTask_29 ?_
    refine cq_i C w [0, 2] [1, 3] [2, 0, 3, 1] (wr := [(mD, .inl (G.2.1 2, 49, .inl (upd fD (3 : Int32).toNatClampNeg r5))), (mW, .inl (G.2.1 1, 73, .inl (wdF 73)))]) (w' := fun u : Nat × Int32 => [(mO, .inr (7, [.ref mS, .ref mD, .ref mR, .ref mT, .int (nI tN), .int (nI u.1), .int u.2, .ref mW, .ref mQ, .ref mC, .int my, .ref mU, .ref mV, .int mm, .int mf, .int mg])), (mT, .inl (G.2.1 2, 120, .inl fT))]) (ws2 := fun u : Nat × Int32 => [(mO, .inr (7, [.ref mS, .ref mD, .ref mR, .ref mT, .int (nI tN), .int (nI u.1), .int u.2, .ref mW, .ref mQ, .ref mC, .int my, .ref mU, .ref mV, .int mm, .int mf, .int mg])), (mD, .inl (G.2.1 2, 49, .inl (upd fD (3 : Int32).toNatClampNeg r5))), (mT, .inl (G.2.1 2, 120, .inl fT)), (mW, .inl (G.2.1 1, 73, .inl (wdF 73)))]) rfl rfl rfl (by decide) rfl (fun _ => rfl) (va_runV (As := [.int 1, .int ((upd fD (3 : Int32).toNatClampNeg r5) (0 : Int32).toNatClampNeg)]) (rest := []) S (c_X7_isNumber l G mO mT _ mS mD mR mW mQ mC mU mV mn my mm mf mg tN u5 fT 1 ((upd fD (3 : Int32).toNatClampNeg r5) (0 : Int32).toNatClampNeg) (htN) (h5)) (cwV 2 S.2.2.2.2 gX7_readsTask_X7_isNumber rfl rfl rfl (by decide +kernel) ⟨Nat.le_of_ble_eq_true rfl, Nat.le_of_ble_eq_true rfl⟩) ⟨wPre_blind, va_recv C.1 w.1 (ci := 7) (q0 := 0) rfl rfl, wPre_at C w [0, 2] rfl rfl⟩ rfl rfl hl.1 rfl (lv_room (Nat.le_of_ble_eq_true rfl)) dX7_readsTask_30 ⟨Nat.le_of_ble_eq_true rfl, Nat.le_of_ble_eq_true rfl⟩) (fun r30 u30 H locs h30 w => ?_)
    have w : Wd G _ s [(mO, .inr (7, [.ref mS, .ref mD, .ref mR, .ref mT, .int (nI tN), .int (nI u30.1), .int u30.2, .ref mW, .ref mQ, .ref mC, .int my, .ref mU, .ref mV, .int mm, .int mf, .int mg])), (mD, .inl (G.2.1 2, 49, .inl (upd fD (3 : Int32).toNatClampNeg r5))), (mT, .inl (G.2.1 2, 120, .inl fT)), (mW, .inl (G.2.1 1, 73, .inl (wdF 73)))] H locs := w
    refine lv_if_ne (tgt := 38) S.1 S.2.1 dX7_readsTask_33 (by decide) (fun c33 => ?_) (fun c33 => ?_)
    · refine lv_aload_n S.1 S.2.1 dX7_readsTask_38 rfl (lv_at hl 1 rfl) ?_
      refine w_get S C w (CC := RX7) (T := TX7) (N := 16) (ref := "GateSumsModel") im_X7_readsTask_X7 0 rfl rfl 1 (by decide) (List.mem_of_getElem? (i := 1) rfl) (fun _ h => h) rfl dX7_readsTask_39 ?_
      refine lv_iconst (v := 4) S.1 S.2.1 dX7_readsTask_42 (by decide) ?_
      refine lv_aload_n S.1 S.2.1 dX7_readsTask_43 rfl (lv_at hl 1 rfl) ?_
      refine w_get S C w (CC := RX7) (T := TX7) (N := 16) (ref := "GateSumsModel") im_X7_readsTask_X7 0 rfl rfl 6 (by decide) (List.mem_of_getElem? (i := 2) rfl) (fun _ h => h) rfl dX7_readsTask_44 ?_
      refine w_iast S C w 1 rfl (by unfold vp_in; decide) (ws2 := [(mO, .inr (7, [.ref mS, .ref mD, .ref mR, .ref mT, .int (nI tN), .int (nI u30.1), .int u30.2, .ref mW, .ref mQ, .ref mC, .int my, .ref mU, .ref mV, .int mm, .int mf, .int mg])), (mD, .inl (G.2.1 2, 49, .inl (upd (upd fD (3 : Int32).toNatClampNeg r5) (4 : Int32).toNatClampNeg u30.2))), (mT, .inl (G.2.1 2, 120, .inl fT)), (mW, .inl (G.2.1 1, 73, .inl (wdF 73)))]) rfl dX7_readsTask_47 (fun H locs w => ?_)
      refine lv_aload_n S.1 S.2.1 dX7_readsTask_48 rfl (lv_at hl 1 rfl) ?_
      refine lv_iconst (v := 0) S.1 S.2.1 dX7_readsTask_49 (by decide) ?_
      refine lv_aload_n S.1 S.2.1 dX7_readsTask_50 rfl (lv_at hl 1 rfl) ?_
      refine w_get S C w (CC := RX7) (T := TX7) (N := 16) (ref := "GateSumsModel") im_X7_readsTask_X7 0 rfl rfl 1 (by decide) (List.mem_of_getElem? (i := 1) rfl) (fun _ h => h) rfl dX7_readsTask_51 ?_
      refine lv_iconst (v := 0) S.1 S.2.1 dX7_readsTask_54 (by decide) ?_
      refine w_iald S C w 1 rfl (by unfold vp_in; decide) dX7_readsTask_55 ?_
      refine lv_aload_n S.1 S.2.1 dX7_readsTask_56 rfl (lv_at hl 1 rfl) ?_
      refine w_get S C w (CC := RX7) (T := TX7) (N := 16) (ref := "GateSumsModel") im_X7_readsTask_X7 0 rfl rfl 1 (by decide) (List.mem_of_getElem? (i := 1) rfl) (fun _ h => h) rfl dX7_readsTask_57 ?_
      refine lv_iconst (v := 4) S.1 S.2.1 dX7_readsTask_60 (by decide) ?_
      refine w_iald S C w 1 rfl (by unfold vp_in; decide) dX7_readsTask_61 ?_
      refine lv_isub S.1 S.2.1 dX7_readsTask_62 ?_
      refine cq_i C w [0, 2] [1, 3] [2, 0, 3, 1] (wr := [(mD, .inl (G.2.1 2, 49, .inl (upd (upd fD (3 : Int32).toNatClampNeg r5) (4 : Int32).toNatClampNeg u30.2))), (mW, .inl (G.2.1 1, 73, .inl (wdF 73)))]) (w' := fun u : Nat × Int32 => [(mO, .inr (7, [.ref mS, .ref mD, .ref mR, .ref mT, .int (nI tN), .int (nI u.1), .int u.2, .ref mW, .ref mQ, .ref mC, .int my, .ref mU, .ref mV, .int mm, .int mf, .int mg])), (mT, .inl (G.2.1 2, 120, .inl fT))]) (ws2 := fun u : Nat × Int32 => [(mO, .inr (7, [.ref mS, .ref mD, .ref mR, .ref mT, .int (nI tN), .int (nI u.1), .int u.2, .ref mW, .ref mQ, .ref mC, .int my, .ref mU, .ref mV, .int mm, .int mf, .int mg])), (mD, .inl (G.2.1 2, 49, .inl (upd (upd fD (3 : Int32).toNatClampNeg r5) (4 : Int32).toNatClampNeg u30.2))), (mT, .inl (G.2.1 2, 120, .inl fT)), (mW, .inl (G.2.1 1, 73, .inl (wdF 73)))]) rfl rfl rfl (by decide) rfl (fun _ => rfl) (va_runV (As := [.int 0, .int (((upd (upd fD (3 : Int32).toNatClampNeg r5) (4 : Int32).toNatClampNeg u30.2) (0 : Int32).toNatClampNeg) - ((upd (upd fD (3 : Int32).toNatClampNeg r5) (4 : Int32).toNatClampNeg u30.2) (4 : Int32).toNatClampNeg))]) (rest := []) S (c_X7_isNumber l G mO mT _ mS mD mR mW mQ mC mU mV u30.2 my mm mf mg tN u30.1 fT 0 (((upd (upd fD (3 : Int32).toNatClampNeg r5) (4 : Int32).toNatClampNeg u30.2) (0 : Int32).toNatClampNeg) - ((upd (upd fD (3 : Int32).toNatClampNeg r5) (4 : Int32).toNatClampNeg u30.2) (4 : Int32).toNatClampNeg)) (htN) (h30.2.1)) (cwV 2 S.2.2.2.2 gX7_readsTask_X7_isNumber rfl rfl rfl (by decide +kernel) ⟨Nat.le_of_ble_eq_true rfl, Nat.le_of_ble_eq_true rfl⟩) ⟨wPre_blind, va_recv C.1 w.1 (ci := 7) (q0 := 0) rfl rfl, wPre_at C w [0, 2] rfl rfl⟩ rfl rfl hl.1 rfl (lv_room (Nat.le_of_ble_eq_true rfl)) dX7_readsTask_63 ⟨Nat.le_of_ble_eq_true rfl, Nat.le_of_ble_eq_true rfl⟩) (fun r63 u63 H locs h63 w => ?_)
      have w : Wd G _ s [(mO, .inr (7, [.ref mS, .ref mD, .ref mR, .ref mT, .int (nI tN), .int (nI u63.1), .int u63.2, .ref mW, .ref mQ, .ref mC, .int my, .ref mU, .ref mV, .int mm, .int mf, .int mg])), (mD, .inl (G.2.1 2, 49, .inl (upd (upd fD (3 : Int32).toNatClampNeg r5) (4 : Int32).toNatClampNeg u30.2))), (mT, .inl (G.2.1 2, 120, .inl fT)), (mW, .inl (G.2.1 1, 73, .inl (wdF 73)))] H locs := w
      refine lv_if_ne (tgt := 71) S.1 S.2.1 dX7_readsTask_66 (by decide) (fun c66 => ?_) (fun c66 => ?_)
      · refine lv_aload_n S.1 S.2.1 dX7_readsTask_71 rfl (lv_at hl 1 rfl) ?_
        refine w_get S C w (CC := RX7) (T := TX7) (N := 16) (ref := "GateSumsModel") im_X7_readsTask_X7 0 rfl rfl 1 (by decide) (List.mem_of_getElem? (i := 1) rfl) (fun _ h => h) rfl dX7_readsTask_72 ?_
        refine lv_iconst (v := 5) S.1 S.2.1 dX7_readsTask_75 (by decide) ?_
        refine lv_aload_n S.1 S.2.1 dX7_readsTask_76 rfl (lv_at hl 1 rfl) ?_
        refine w_get S C w (CC := RX7) (T := TX7) (N := 16) (ref := "GateSumsModel") im_X7_readsTask_X7 0 rfl rfl 6 (by decide) (List.mem_of_getElem? (i := 2) rfl) (fun _ h => h) rfl dX7_readsTask_77 ?_
        refine w_iast S C w 1 rfl (by unfold vp_in; decide) (ws2 := [(mO, .inr (7, [.ref mS, .ref mD, .ref mR, .ref mT, .int (nI tN), .int (nI u63.1), .int u63.2, .ref mW, .ref mQ, .ref mC, .int my, .ref mU, .ref mV, .int mm, .int mf, .int mg])), (mD, .inl (G.2.1 2, 49, .inl (upd (upd (upd fD (3 : Int32).toNatClampNeg r5) (4 : Int32).toNatClampNeg u30.2) (5 : Int32).toNatClampNeg u63.2))), (mT, .inl (G.2.1 2, 120, .inl fT)), (mW, .inl (G.2.1 1, 73, .inl (wdF 73)))]) rfl dX7_readsTask_80 (fun H locs w => ?_)
        refine lv_aload_n S.1 S.2.1 dX7_readsTask_81 rfl (lv_at hl 1 rfl) ?_
        refine cq_i C w [0, 2] [1, 3] [2, 0, 3, 1] (wr := [(mD, .inl (G.2.1 2, 49, .inl (upd (upd (upd fD (3 : Int32).toNatClampNeg r5) (4 : Int32).toNatClampNeg u30.2) (5 : Int32).toNatClampNeg u63.2))), (mW, .inl (G.2.1 1, 73, .inl (wdF 73)))]) (w' := fun u : Nat => [(mO, .inr (7, [.ref mS, .ref mD, .ref mR, .ref mT, .int (nI tN), .int (nI u), .int u63.2, .ref mW, .ref mQ, .ref mC, .int my, .ref mU, .ref mV, .int mm, .int mf, .int mg])), (mT, .inl (G.2.1 2, 120, .inl fT))]) (ws2 := fun u : Nat => [(mO, .inr (7, [.ref mS, .ref mD, .ref mR, .ref mT, .int (nI tN), .int (nI u), .int u63.2, .ref mW, .ref mQ, .ref mC, .int my, .ref mU, .ref mV, .int mm, .int mf, .int mg])), (mD, .inl (G.2.1 2, 49, .inl (upd (upd (upd fD (3 : Int32).toNatClampNeg r5) (4 : Int32).toNatClampNeg u30.2) (5 : Int32).toNatClampNeg u63.2))), (mT, .inl (G.2.1 2, 120, .inl fT)), (mW, .inl (G.2.1 1, 73, .inl (wdF 73)))]) rfl rfl rfl (by decide) rfl (fun _ => rfl) (va_runV (As := []) (rest := []) S (c_X7_ends l G mO mT _ mS mD mR mW mQ mC mU mV u63.2 my mm mf mg tN u63.1 fT (htN) (h63.2.1)) (cwV 0 S.2.2.2.2 gX7_readsTask_X7_ends rfl rfl rfl (by decide +kernel) ⟨Nat.le_of_ble_eq_true rfl, Nat.le_of_ble_eq_true rfl⟩) ⟨wPre_blind, va_recv C.1 w.1 (ci := 7) (q0 := 0) rfl rfl, wPre_at C w [0, 2] rfl rfl⟩ rfl rfl hl.1 rfl (lv_room (Nat.le_of_ble_eq_true rfl)) dX7_readsTask_82 ⟨Nat.le_of_ble_eq_true rfl, Nat.le_of_ble_eq_true rfl⟩) (fun r82 u82 H locs h82 w => ?_)
        have w : Wd G _ s [(mO, .inr (7, [.ref mS, .ref mD, .ref mR, .ref mT, .int (nI tN), .int (nI u82), .int u63.2, .ref mW, .ref mQ, .ref mC, .int my, .ref mU, .ref mV, .int mm, .int mf, .int mg])), (mD, .inl (G.2.1 2, 49, .inl (upd (upd (upd fD (3 : Int32).toNatClampNeg r5) (4 : Int32).toNatClampNeg u30.2) (5 : Int32).toNatClampNeg u63.2))), (mT, .inl (G.2.1 2, 120, .inl fT)), (mW, .inl (G.2.1 1, 73, .inl (wdF 73)))] H locs := w
        exact W.zret (v := r82) S.1 S.2.1 hr (z01_nar (h82).1) (fun t ht _ => ⟨⟨r82, (u82, u63.2, (upd (upd (upd fD (3 : Int32).toNatClampNeg r5) (4 : Int32).toNatClampNeg u30.2) (5 : Int32).toNatClampNeg u63.2)), rfl, ⟨(h82).1, h82.2, fun _ => ⟨in_p hn6 ((h30).2.2 c33), in_q hn6 ((h30).2.2 c33) ((h63).2.2 c66), rfl, rfl, rfl⟩⟩, by rw [ht]; exact w.1, w.2.1⟩, w.2.2.F ht⟩) w.2.2.2.2 dX7_readsTask_85
      · refine lv_iconst (v := 0) S.1 S.2.1 dX7_readsTask_69 (by decide) ?_
        exact W.zret (v := 0) S.1 S.2.1 hr (rfl) (fun t ht _ => ⟨⟨0, (u63.1, u63.2, (upd (upd fD (3 : Int32).toNatClampNeg r5) (4 : Int32).toNatClampNeg u30.2)), rfl, ⟨Or.inl rfl, h63.2.1, fun h => absurd rfl h⟩, by rw [ht]; exact w.1, w.2.1⟩, w.2.2.F ht⟩) w.2.2.2.2 dX7_readsTask_70
    · refine lv_iconst (v := 0) S.1 S.2.1 dX7_readsTask_36 (by decide) ?_
      exact W.zret (v := 0) S.1 S.2.1 hr (rfl) (fun t ht _ => ⟨⟨0, (u30.1, u30.2, (upd fD (3 : Int32).toNatClampNeg r5)), rfl, ⟨Or.inl rfl, h30.2.1, fun h => absurd rfl h⟩, by rw [ht]; exact w.1, w.2.1⟩, w.2.2.F ht⟩) w.2.2.2.2 dX7_readsTask_37
  · refine lv_iconst (v := 0) S.1 S.2.1 dX7_readsTask_13 (by decide) ?_
    exact W.zret (v := 0) S.1 S.2.1 hr (rfl) (fun t ht _ => ⟨⟨0, (u5, mn, fD), rfl, ⟨Or.inl rfl, h5, fun h => absurd rfl h⟩, by rw [ht]; exact w.1, w.2.1⟩, w.2.2.F ht⟩) w.2.2.2.2 dX7_readsTask_14
theorem im_X7_readsAll_X7 : ∀ w ∈ u_ws RX7 TX7 16, w ∈ wsX7_readsAll := by decide +kernel
set_option maxHeartbeats 4000000 in
set_option maxRecDepth 100000 in
theorem c_X7_readsAll (l : Launch) (G : GT) (mO mD mT mW : Nat) (sz : Nat) (mS mR mQ mC mU mV : Nat) (ma mn my mm mf mg : Int32) (tN : Nat) (fD fT : Nat → Int32) (htN : tN ≤ 120) : Met l yX7_readsAll wsX7_readsAll ({ frames := 4, cells := 0, slots := 0, locals := 94 }) (va_Pc [.ref mO] (wPre G [(mO, .inr (7, [.ref mS, .ref mD, .ref mR, .ref mT, .int (nI tN), .int ma, .int mn, .ref mW, .ref mQ, .ref mC, .int my, .ref mU, .ref mV, .int mm, .int mf, .int mg])), (mD, .inl (G.2.1 2, 49, .inl fD)), (mT, .inl (G.2.1 2, 120, .inl fT)), (mW, .inl (G.2.1 1, 73, .inl (wdF 73)))] sz)) (va_Qi (fun (r : Int32) (u : Nat × Int32 × (Nat → Int32)) => (r = 0 ∨ r = 1) ∧ u.1 ≤ 120 ∧ (¬ r = 0 → okM u.2.2)) (bW G (va_A [(mO, .inr (7, [.ref mS, .ref mD, .ref mR, .ref mT, .int (nI tN), .int ma, .int mn, .ref mW, .ref mQ, .ref mC, .int my, .ref mU, .ref mV, .int mm, .int mf, .int mg])), (mD, .inl (G.2.1 2, 49, .inl fD)), (mT, .inl (G.2.1 2, 120, .inl fT)), (mW, .inl (G.2.1 1, 73, .inl (wdF 73)))] sz) (fun u : Nat × Int32 × (Nat → Int32) => [(mO, .inr (7, [.ref mS, .ref mD, .ref mR, .ref mT, .int (nI tN), .int (nI u.1), .int u.2.1, .ref mW, .ref mQ, .ref mC, .int my, .ref mU, .ref mV, .int mm, .int mf, .int mg])), (mD, .inl (G.2.1 2, 49, .inl u.2.2)), (mT, .inl (G.2.1 2, 120, .inl fT)), (mW, .inl (G.2.1 1, 73, .inl (wdF 73)))])) (va_A [(mO, .inr (7, [.ref mS, .ref mD, .ref mR, .ref mT, .int (nI tN), .int ma, .int mn, .ref mW, .ref mQ, .ref mC, .int my, .ref mU, .ref mV, .int mm, .int mf, .int mg])), (mD, .inl (G.2.1 2, 49, .inl fD)), (mT, .inl (G.2.1 2, 120, .inl fT)), (mW, .inl (G.2.1 1, 73, .inl (wdF 73)))] sz)) 0 0 (va_A [(mO, .inr (7, [.ref mS, .ref mD, .ref mR, .ref mT, .int (nI tN), .int ma, .int mn, .ref mW, .ref mQ, .ref mC, .int my, .ref mU, .ref mV, .int mm, .int mf, .int mg])), (mD, .inl (G.2.1 2, 49, .inl fD)), (mT, .inl (G.2.1 2, 120, .inl fT)), (mW, .inl (G.2.1 1, 73, .inl (wdF 73)))] sz) := by
  refine met_go (cc := cX7_readsAll) (maxL := 3) (ret := (some .boolean)) (own := RX7) (by decide) rfl rfl (Nat.le_of_ble_eq_true rfl) ?_
  intro p e s m below meth c ls S hr hlocks hname hsz C w hl
  have hl : lv_has ls 3 [(0, .ref mO)] := hl
  refine lv_iconst (v := 0) S.1 S.2.1 dX7_readsAll_0 (by decide) ?_
  refine lv_istore_n (lv' := [(1, .int 0), (0, .ref mO)]) S.1 S.2.1 dX7_readsAll_1 rfl hl (by decide) rfl (fun ls hl => ?_)
  refine w_loop (G := G) (σ := Nat) (nL := 3) 2 (fun x2 => 49 - x2) (fun x2 => x2 ≤ 49) (fun x2 => [(mO, .inr (7, [.ref mS, .ref mD, .ref mR, .ref mT, .int (nI tN), .int ma, .int mn, .ref mW, .ref mQ, .ref mC, .int my, .ref mU, .ref mV, .int mm, .int mf, .int mg])), (mD, .inl (G.2.1 2, 49, .inl (zeroF x2 fD))), (mT, .inl (G.2.1 2, 120, .inl fT)), (mW, .inl (G.2.1 1, 73, .inl (wdF 73)))]) (fun x2 => [(1, .int (nI x2)), (0, .ref mO)]) (fun _ => []) ?_ 0 ls _ _ (Nat.zero_le _) w (lv_sub hl [0, 1] rfl)
  intro x2 ls H locs hI2 w hl ih2
  have w : Wd G _ s [(mO, .inr (7, [.ref mS, .ref mD, .ref mR, .ref mT, .int (nI tN), .int ma, .int mn, .ref mW, .ref mQ, .ref mC, .int my, .ref mU, .ref mV, .int mm, .int mf, .int mg])), (mD, .inl (G.2.1 2, 49, .inl (zeroF x2 fD))), (mT, .inl (G.2.1 2, 120, .inl fT)), (mW, .inl (G.2.1 1, 73, .inl (wdF 73)))] H locs := w
  have hl : lv_has ls 3 [(1, .int (nI x2)), (0, .ref mO)] := hl
  refine lv_iload_n S.1 S.2.1 dX7_readsAll_2 rfl (lv_at hl 0 rfl) ?_
  refine lv_bipush (v := 49) S.1 S.2.1 dX7_readsAll_3 (by decide) ?_
  refine lv_icmp_ge (tgt := 21) S.1 S.2.1 dX7_readsAll_5 (by decide) (fun c5 => ?_) (fun c5 => ?_)
  · refine lv_aload_n S.1 S.2.1 dX7_readsAll_21 rfl (lv_at hl 1 rfl) ?_
    refine lv_iconst (v := 0) S.1 S.2.1 dX7_readsAll_22 (by decide) ?_
    refine w_put S C w (CC := RX7) (T := TX7) (N := 16) (ref := "GateSumsModel") im_X7_readsAll_X7 tyX7 tyX7_ok nmX7 0 rfl rfl 5 (by decide) (List.mem_of_getElem? (i := 2) rfl) (fun _ h => h) rfl (ws2 := [(mO, .inr (7, [.ref mS, .ref mD, .ref mR, .ref mT, .int (nI tN), .int 0, .int mn, .ref mW, .ref mQ, .ref mC, .int my, .ref mU, .ref mV, .int mm, .int mf, .int mg])), (mD, .inl (G.2.1 2, 49, .inl (zeroF x2 fD))), (mT, .inl (G.2.1 2, 120, .inl fT)), (mW, .inl (G.2.1 1, 73, .inl (wdF 73)))]) (rfl) (rfl) (Nat.le_of_ble_eq_true rfl) rfl dX7_readsAll_23 (fun H locs w => ?_)
    refine lv_aload_n S.1 S.2.1 dX7_readsAll_26 rfl (lv_at hl 1 rfl) ?_
    refine lv_bipush (v := 12) S.1 S.2.1 dX7_readsAll_27 (by decide) ?_
    refine lv_bipush (v := 12) S.1 S.2.1 dX7_readsAll_29 (by decide) ?_
    refine cq_i C w [0, 2, 3] [1] [1, 0, 2, 3] (wr := [(mD, .inl (G.2.1 2, 49, .inl (zeroF x2 fD)))]) (w' := fun u : Nat => [(mO, .inr (7, [.ref mS, .ref mD, .ref mR, .ref mT, .int (nI tN), .int (nI u), .int mn, .ref mW, .ref mQ, .ref mC, .int my, .ref mU, .ref mV, .int mm, .int mf, .int mg])), (mT, .inl (G.2.1 2, 120, .inl fT)), (mW, .inl (G.2.1 1, 73, .inl (wdF 73)))]) (ws2 := fun u : Nat => [(mO, .inr (7, [.ref mS, .ref mD, .ref mR, .ref mT, .int (nI tN), .int (nI u), .int mn, .ref mW, .ref mQ, .ref mC, .int my, .ref mU, .ref mV, .int mm, .int mf, .int mg])), (mD, .inl (G.2.1 2, 49, .inl (zeroF x2 fD))), (mT, .inl (G.2.1 2, 120, .inl fT)), (mW, .inl (G.2.1 1, 73, .inl (wdF 73)))]) rfl rfl rfl (by decide) rfl (fun _ => rfl) (va_runV (As := [.int 12, .int 12]) (rest := []) S (c_X7_word l G mO mT mW _ mS mD mR mQ mC mU mV mn my mm mf mg tN 0 fT 12 12 (htN) (by decide)) (cwV 2 S.2.2.2.2 gX7_readsAll_X7_word rfl rfl rfl (by decide +kernel) ⟨Nat.le_of_ble_eq_true rfl, Nat.le_of_ble_eq_true rfl⟩) ⟨wPre_blind, va_recv C.1 w.1 (ci := 7) (q0 := 0) rfl rfl, wPre_at C w [0, 2, 3] rfl rfl⟩ rfl rfl hl.1 rfl (lv_room (Nat.le_of_ble_eq_true rfl)) dX7_readsAll_31 ⟨Nat.le_of_ble_eq_true rfl, Nat.le_of_ble_eq_true rfl⟩) (fun r31 u31 H locs h31 w => ?_)
    have w : Wd G _ s [(mO, .inr (7, [.ref mS, .ref mD, .ref mR, .ref mT, .int (nI tN), .int (nI u31), .int mn, .ref mW, .ref mQ, .ref mC, .int my, .ref mU, .ref mV, .int mm, .int mf, .int mg])), (mD, .inl (G.2.1 2, 49, .inl (zeroF x2 fD))), (mT, .inl (G.2.1 2, 120, .inl fT)), (mW, .inl (G.2.1 1, 73, .inl (wdF 73)))] H locs := w
    refine lv_if_lt (tgt := 47) S.1 S.2.1 dX7_readsAll_34 (by decide) (fun c34 => ?_) (fun c34 => ?_)
    · refine lv_iconst (v := 0) S.1 S.2.1 dX7_readsAll_47 (by decide) ?_
      exact W.zret (v := 0) S.1 S.2.1 hr (rfl) (fun t ht _ => ⟨⟨0, (u31, mn, (zeroF x2 fD)), rfl, ⟨Or.inl rfl, h31, fun h => absurd rfl h⟩, by rw [ht]; exact w.1, w.2.1⟩, w.2.2.F ht⟩) w.2.2.2.2 dX7_readsAll_48
    · refine lv_aload_n S.1 S.2.1 dX7_readsAll_37 rfl (lv_at hl 1 rfl) ?_
      refine lv_iconst (v := 1) S.1 S.2.1 dX7_readsAll_38 (by decide) ?_
      refine lv_bipush (v := 6) S.1 S.2.1 dX7_readsAll_39 (by decide) ?_
      refine cq_i C w [0, 2] [1, 3] [2, 0, 3, 1] (wr := [(mD, .inl (G.2.1 2, 49, .inl (zeroF x2 fD))), (mW, .inl (G.2.1 1, 73, .inl (wdF 73)))]) (w' := fun u : Nat × Int32 => [(mO, .inr (7, [.ref mS, .ref mD, .ref mR, .ref mT, .int (nI tN), .int (nI u.1), .int u.2, .ref mW, .ref mQ, .ref mC, .int my, .ref mU, .ref mV, .int mm, .int mf, .int mg])), (mT, .inl (G.2.1 2, 120, .inl fT))]) (ws2 := fun u : Nat × Int32 => [(mO, .inr (7, [.ref mS, .ref mD, .ref mR, .ref mT, .int (nI tN), .int (nI u.1), .int u.2, .ref mW, .ref mQ, .ref mC, .int my, .ref mU, .ref mV, .int mm, .int mf, .int mg])), (mD, .inl (G.2.1 2, 49, .inl (zeroF x2 fD))), (mT, .inl (G.2.1 2, 120, .inl fT)), (mW, .inl (G.2.1 1, 73, .inl (wdF 73)))]) rfl rfl rfl (by decide) rfl (fun _ => rfl) (va_runV (As := [.int 1, .int 6]) (rest := []) S (c_X7_isNumber l G mO mT _ mS mD mR mW mQ mC mU mV mn my mm mf mg tN u31 fT 1 6 (htN) (h31)) (cwV 2 S.2.2.2.2 gX7_readsAll_X7_isNumber rfl rfl rfl (by decide +kernel) ⟨Nat.le_of_ble_eq_true rfl, Nat.le_of_ble_eq_true rfl⟩) ⟨wPre_blind, va_recv C.1 w.1 (ci := 7) (q0 := 0) rfl rfl, wPre_at C w [0, 2] rfl rfl⟩ rfl rfl hl.1 rfl (lv_room (Nat.le_of_ble_eq_true rfl)) dX7_readsAll_41 ⟨Nat.le_of_ble_eq_true rfl, Nat.le_of_ble_eq_true rfl⟩) (fun r41 u41 H locs h41 w => ?_)
      have w : Wd G _ s [(mO, .inr (7, [.ref mS, .ref mD, .ref mR, .ref mT, .int (nI tN), .int (nI u41.1), .int u41.2, .ref mW, .ref mQ, .ref mC, .int my, .ref mU, .ref mV, .int mm, .int mf, .int mg])), (mD, .inl (G.2.1 2, 49, .inl (zeroF x2 fD))), (mT, .inl (G.2.1 2, 120, .inl fT)), (mW, .inl (G.2.1 1, 73, .inl (wdF 73)))] H locs := w
      refine lv_if_ne (tgt := 49) S.1 S.2.1 dX7_readsAll_44 (by decide) (fun c44 => ?_) (fun c44 => ?_)
      · refine lv_aload_n S.1 S.2.1 dX7_readsAll_49 rfl (lv_at hl 1 rfl) ?_
        refine w_get S C w (CC := RX7) (T := TX7) (N := 16) (ref := "GateSumsModel") im_X7_readsAll_X7 0 rfl rfl 1 (by decide) (List.mem_of_getElem? (i := 1) rfl) (fun _ h => h) rfl dX7_readsAll_50 ?_
        refine lv_iconst (v := 0) S.1 S.2.1 dX7_readsAll_53 (by decide) ?_
        refine lv_aload_n S.1 S.2.1 dX7_readsAll_54 rfl (lv_at hl 1 rfl) ?_
        refine w_get S C w (CC := RX7) (T := TX7) (N := 16) (ref := "GateSumsModel") im_X7_readsAll_X7 0 rfl rfl 6 (by decide) (List.mem_of_getElem? (i := 3) rfl) (fun _ h => h) rfl dX7_readsAll_55 ?_
        refine w_iast S C w 1 rfl (by unfold vp_in; decide) (ws2 := [(mO, .inr (7, [.ref mS, .ref mD, .ref mR, .ref mT, .int (nI tN), .int (nI u41.1), .int u41.2, .ref mW, .ref mQ, .ref mC, .int my, .ref mU, .ref mV, .int mm, .int mf, .int mg])), (mD, .inl (G.2.1 2, 49, .inl (upd (zeroF x2 fD) (0 : Int32).toNatClampNeg u41.2))), (mT, .inl (G.2.1 2, 120, .inl fT)), (mW, .inl (G.2.1 1, 73, .inl (wdF 73)))]) rfl dX7_readsAll_58 (fun H locs w => ?_)
        have w : Wd G (va_A [(mO, .inr (7, [.ref mS, .ref mD, .ref mR, .ref mT, .int (nI tN), .int ma, .int mn, .ref mW, .ref mQ, .ref mC, .int my, .ref mU, .ref mV, .int mm, .int mf, .int mg])), (mD, .inl (G.2.1 2, 49, .inl fD)), (mT, .inl (G.2.1 2, 120, .inl fT)), (mW, .inl (G.2.1 1, 73, .inl (wdF 73)))] sz) s [(mO, .inr (7, [.ref mS, .ref mD, .ref mR, .ref mT, .int (nI tN), .int (nI u41.1), .int u41.2, .ref mW, .ref mQ, .ref mC, .int my, .ref mU, .ref mV, .int mm, .int mf, .int mg])), (mD, .inl (G.2.1 2, 49, .inl (upd (zeroF x2 fD) 0 u41.2))), (mT, .inl (G.2.1 2, 120, .inl fT)), (mW, .inl (G.2.1 1, 73, .inl (wdF 73)))] H locs := by have h := (show (0 : Int32).toNatClampNeg = 0 from rfl); rw [h] at w; exact w
        refine lv_aload_n S.1 S.2.1 dX7_readsAll_59 rfl (lv_at hl 1 rfl) ?_
        refine cq_i C w [0, 2] [1, 3] [2, 0, 3, 1] (wr := [(mD, .inl (G.2.1 2, 49, .inl (upd (zeroF x2 fD) 0 u41.2))), (mW, .inl (G.2.1 1, 73, .inl (wdF 73)))]) (w' := fun u : Nat => [(mO, .inr (7, [.ref mS, .ref mD, .ref mR, .ref mT, .int (nI tN), .int (nI u), .int u41.2, .ref mW, .ref mQ, .ref mC, .int my, .ref mU, .ref mV, .int mm, .int mf, .int mg])), (mT, .inl (G.2.1 2, 120, .inl fT))]) (ws2 := fun u : Nat => [(mO, .inr (7, [.ref mS, .ref mD, .ref mR, .ref mT, .int (nI tN), .int (nI u), .int u41.2, .ref mW, .ref mQ, .ref mC, .int my, .ref mU, .ref mV, .int mm, .int mf, .int mg])), (mD, .inl (G.2.1 2, 49, .inl (upd (zeroF x2 fD) 0 u41.2))), (mT, .inl (G.2.1 2, 120, .inl fT)), (mW, .inl (G.2.1 1, 73, .inl (wdF 73)))]) rfl rfl rfl (by decide) rfl (fun _ => rfl) (va_runV (As := []) (rest := []) S (c_X7_ends l G mO mT _ mS mD mR mW mQ mC mU mV u41.2 my mm mf mg tN u41.1 fT (htN) (h41.2.1)) (cwV 0 S.2.2.2.2 gX7_readsAll_X7_ends rfl rfl rfl (by decide +kernel) ⟨Nat.le_of_ble_eq_true rfl, Nat.le_of_ble_eq_true rfl⟩) ⟨wPre_blind, va_recv C.1 w.1 (ci := 7) (q0 := 0) rfl rfl, wPre_at C w [0, 2] rfl rfl⟩ rfl rfl hl.1 rfl (lv_room (Nat.le_of_ble_eq_true rfl)) dX7_readsAll_60 ⟨Nat.le_of_ble_eq_true rfl, Nat.le_of_ble_eq_true rfl⟩) (fun r60 u60 H locs h60 w => ?_)
        have w : Wd G _ s [(mO, .inr (7, [.ref mS, .ref mD, .ref mR, .ref mT, .int (nI tN), .int (nI u60), .int u41.2, .ref mW, .ref mQ, .ref mC, .int my, .ref mU, .ref mV, .int mm, .int mf, .int mg])), (mD, .inl (G.2.1 2, 49, .inl (upd (zeroF x2 fD) 0 u41.2))), (mT, .inl (G.2.1 2, 120, .inl fT)), (mW, .inl (G.2.1 1, 73, .inl (wdF 73)))] H locs := w
        refine lv_if_ne (tgt := 68) S.1 S.2.1 dX7_readsAll_63 (by decide) (fun c63 => ?_) (fun c63 => ?_)
        · refine w_loop (G := G) (σ := Nat × Nat × Int32 × (Nat → Int32)) (nL := 3) 68 (fun x68 => 12 - x68.1) (fun x68 => x68.1 ≤ 12 ∧ x68.2.1 ≤ 120 ∧ x68.2.2.2 1 = nI x68.1 ∧ x68.2.2.2 2 = nI 0 ∧ ¬ inF (x68.2.2.2 0) 1 6 = 0) (fun x68 => [(mO, .inr (7, [.ref mS, .ref mD, .ref mR, .ref mT, .int (nI tN), .int (nI x68.2.1), .int x68.2.2.1, .ref mW, .ref mQ, .ref mC, .int my, .ref mU, .ref mV, .int mm, .int mf, .int mg])), (mD, .inl (G.2.1 2, 49, .inl x68.2.2.2)), (mT, .inl (G.2.1 2, 120, .inl fT)), (mW, .inl (G.2.1 1, 73, .inl (wdF 73)))]) (fun x68 => [(0, .ref mO)]) (fun _ => []) ?_ (0, u60, u41.2, (upd (zeroF x2 fD) 0 u41.2)) ls _ _ (⟨Nat.zero_le _, (h60).2, (by dsimp only; rw [pk_un (by omega)]; exact zeroF_in (by have h := c5; rw [show (49 : Int32) = nI 49 from rfl, nI_leI (by decide) (by omega)] at h; omega)), (by dsimp only; rw [pk_un (by omega)]; exact zeroF_in (by have h := c5; rw [show (49 : Int32) = nI 49 from rfl, nI_leI (by decide) (by omega)] at h; omega)), (by dsimp only; rw [pk_us]; exact (h41).2.2 c44)⟩) w (lv_sub hl [1] rfl)
          intro x68 ls H locs hI68 w hl ih68
          have w : Wd G _ s [(mO, .inr (7, [.ref mS, .ref mD, .ref mR, .ref mT, .int (nI tN), .int (nI x68.2.1), .int x68.2.2.1, .ref mW, .ref mQ, .ref mC, .int my, .ref mU, .ref mV, .int mm, .int mf, .int mg])), (mD, .inl (G.2.1 2, 49, .inl x68.2.2.2)), (mT, .inl (G.2.1 2, 120, .inl fT)), (mW, .inl (G.2.1 1, 73, .inl (wdF 73)))] H locs := w
          have hl : lv_has ls 3 [(0, .ref mO)] := hl
          refine lv_aload_n S.1 S.2.1 dX7_readsAll_68 rfl (lv_at hl 0 rfl) ?_
          refine w_joini 87 [.ref mO] (fun z87 => True) (fun z87 hz87 => ?_) (fun J87 => ?_)
          · refine lv_bipush (v := 14) S.1 S.2.1 dX7_readsAll_87 (by decide) ?_
            refine cq_i C w [0, 2, 3] [1] [1, 0, 2, 3] (wr := [(mD, .inl (G.2.1 2, 49, .inl x68.2.2.2))]) (w' := fun u : Nat => [(mO, .inr (7, [.ref mS, .ref mD, .ref mR, .ref mT, .int (nI tN), .int (nI u), .int x68.2.2.1, .ref mW, .ref mQ, .ref mC, .int my, .ref mU, .ref mV, .int mm, .int mf, .int mg])), (mT, .inl (G.2.1 2, 120, .inl fT)), (mW, .inl (G.2.1 1, 73, .inl (wdF 73)))]) (ws2 := fun u : Nat => [(mO, .inr (7, [.ref mS, .ref mD, .ref mR, .ref mT, .int (nI tN), .int (nI u), .int x68.2.2.1, .ref mW, .ref mQ, .ref mC, .int my, .ref mU, .ref mV, .int mm, .int mf, .int mg])), (mD, .inl (G.2.1 2, 49, .inl x68.2.2.2)), (mT, .inl (G.2.1 2, 120, .inl fT)), (mW, .inl (G.2.1 1, 73, .inl (wdF 73)))]) rfl rfl rfl (by decide) rfl (fun _ => rfl) (va_runV (As := [.int z87, .int 14]) (rest := []) S (c_X7_word l G mO mT mW _ mS mD mR mQ mC mU mV x68.2.2.1 my mm mf mg tN x68.2.1 fT z87 14 (htN) (hI68.2.1)) (cwV 2 S.2.2.2.2 gX7_readsAll_X7_word rfl rfl rfl (by decide +kernel) ⟨Nat.le_of_ble_eq_true rfl, Nat.le_of_ble_eq_true rfl⟩) ⟨wPre_blind, va_recv C.1 w.1 (ci := 7) (q0 := 0) rfl rfl, wPre_at C w [0, 2, 3] rfl rfl⟩ rfl rfl hl.1 rfl (lv_room (Nat.le_of_ble_eq_true rfl)) dX7_readsAll_89 ⟨Nat.le_of_ble_eq_true rfl, Nat.le_of_ble_eq_true rfl⟩) (fun r89 u89 H locs h89 w => ?_)
            have w : Wd G _ s [(mO, .inr (7, [.ref mS, .ref mD, .ref mR, .ref mT, .int (nI tN), .int (nI u89), .int x68.2.2.1, .ref mW, .ref mQ, .ref mC, .int my, .ref mU, .ref mV, .int mm, .int mf, .int mg])), (mD, .inl (G.2.1 2, 49, .inl x68.2.2.2)), (mT, .inl (G.2.1 2, 120, .inl fT)), (mW, .inl (G.2.1 1, 73, .inl (wdF 73)))] H locs := w
            refine lv_istore_n (lv' := [(1, .int r89), (0, .ref mO)]) S.1 S.2.1 dX7_readsAll_92 rfl hl (by decide) rfl (fun ls hl => ?_)
            refine lv_iload_n S.1 S.2.1 dX7_readsAll_93 rfl (lv_at hl 0 rfl) ?_
            refine lv_if_ge (tgt := 99) S.1 S.2.1 dX7_readsAll_94 (by decide) (fun c94 => ?_) (fun c94 => ?_)
            · refine lv_aload_n S.1 S.2.1 dX7_readsAll_99 rfl (lv_at hl 1 rfl) ?_
              refine w_get S C w (CC := RX7) (T := TX7) (N := 16) (ref := "GateSumsModel") im_X7_readsAll_X7 0 rfl rfl 1 (by decide) (List.mem_of_getElem? (i := 1) rfl) (fun _ h => h) rfl dX7_readsAll_100 ?_
              refine lv_iconst (v := 1) S.1 S.2.1 dX7_readsAll_103 (by decide) ?_
              refine w_iald S C w 1 rfl (by unfold vp_in; decide) dX7_readsAll_104 ?_
              refine w_topi (y := (nI x68.1)) (hI68.2.2.1) ?_
              refine lv_bipush (v := 12) S.1 S.2.1 dX7_readsAll_105 (by decide) ?_
              refine lv_icmp_ge (tgt := 118) S.1 S.2.1 dX7_readsAll_107 (by decide) (fun c107 => ?_) (fun c107 => ?_)
              · refine lv_iconst (v := 0) S.1 S.2.1 dX7_readsAll_118 (by decide) ?_
                refine lv_istore_n (lv' := [(2, .int 0), (1, .int r89), (0, .ref mO)]) S.1 S.2.1 dX7_readsAll_119 rfl hl (by decide) rfl (fun ls hl => ?_)
                refine lv_iload_n S.1 S.2.1 dX7_readsAll_120 rfl (lv_at hl 0 rfl) ?_
                refine lv_if_eq (tgt := 133) S.1 S.2.1 dX7_readsAll_121 (by decide) (fun c121 => ?_) (fun c121 => ?_)
                · refine lv_iload_n S.1 S.2.1 dX7_readsAll_133 rfl (lv_at hl 0 rfl) ?_
                  refine lv_if_ne (tgt := 140) S.1 S.2.1 dX7_readsAll_134 (by decide) (fun c134 => ?_) (fun c134 => ?_)
                  · exact absurd c134 (by decide)
                  · refine lv_goto (tgt := 143) S.1 S.2.1 dX7_readsAll_137 (by decide) ?_
                    refine lv_aload_n S.1 S.2.1 dX7_readsAll_143 rfl (lv_at hl 2 rfl) ?_
                    refine cq_i C w [0, 1, 2, 3] [] [0, 1, 2, 3] (wr := []) (w' := fun u : Nat × Int32 × (Nat → Int32) => [(mO, .inr (7, [.ref mS, .ref mD, .ref mR, .ref mT, .int (nI tN), .int (nI u.1), .int u.2.1, .ref mW, .ref mQ, .ref mC, .int my, .ref mU, .ref mV, .int mm, .int mf, .int mg])), (mD, .inl (G.2.1 2, 49, .inl u.2.2)), (mT, .inl (G.2.1 2, 120, .inl fT)), (mW, .inl (G.2.1 1, 73, .inl (wdF 73)))]) (ws2 := fun u : Nat × Int32 × (Nat → Int32) => [(mO, .inr (7, [.ref mS, .ref mD, .ref mR, .ref mT, .int (nI tN), .int (nI u.1), .int u.2.1, .ref mW, .ref mQ, .ref mC, .int my, .ref mU, .ref mV, .int mm, .int mf, .int mg])), (mD, .inl (G.2.1 2, 49, .inl u.2.2)), (mT, .inl (G.2.1 2, 120, .inl fT)), (mW, .inl (G.2.1 1, 73, .inl (wdF 73)))]) rfl rfl rfl (by decide) rfl (fun _ => rfl) (va_runV (As := []) (rest := []) S (c_X7_readsOuts l G mO mD mT mW _ mS mR mQ mC mU mV x68.2.2.1 my mm mf mg tN u89 x68.2.2.2 fT 0 (htN) (h89) (hI68.2.2.2.1) (Nat.zero_le _)) (cwV 0 S.2.2.2.2 gX7_readsAll_X7_readsOuts rfl rfl rfl (by decide +kernel) ⟨Nat.le_of_ble_eq_true rfl, Nat.le_of_ble_eq_true rfl⟩) ⟨wPre_blind, va_recv C.1 w.1 (ci := 7) (q0 := 0) rfl rfl, wPre_at C w [0, 1, 2, 3] rfl rfl⟩ rfl rfl hl.1 rfl (lv_room (Nat.le_of_ble_eq_true rfl)) dX7_readsAll_144 ⟨Nat.le_of_ble_eq_true rfl, Nat.le_of_ble_eq_true rfl⟩) (fun r144 u144 H locs h144 w => ?_)
                    have w : Wd G _ s [(mO, .inr (7, [.ref mS, .ref mD, .ref mR, .ref mT, .int (nI tN), .int (nI u144.1), .int u144.2.1, .ref mW, .ref mQ, .ref mC, .int my, .ref mU, .ref mV, .int mm, .int mf, .int mg])), (mD, .inl (G.2.1 2, 49, .inl u144.2.2)), (mT, .inl (G.2.1 2, 120, .inl fT)), (mW, .inl (G.2.1 1, 73, .inl (wdF 73)))] H locs := w
                    refine lv_if_eq (tgt := 168) S.1 S.2.1 dX7_readsAll_147 (by decide) (fun c147 => ?_) (fun c147 => ?_)
                    · refine lv_iconst (v := 0) S.1 S.2.1 dX7_readsAll_168 (by decide) ?_
                      exact W.zret (v := 0) S.1 S.2.1 hr (rfl) (fun t ht _ => ⟨⟨0, (u144.1, u144.2.1, u144.2.2), rfl, ⟨Or.inl rfl, h144.2.1, fun h => absurd rfl h⟩, by rw [ht]; exact w.1, w.2.1⟩, w.2.2.F ht⟩) w.2.2.2.2 dX7_readsAll_169
                    · refine lv_aload_n S.1 S.2.1 dX7_readsAll_150 rfl (lv_at hl 2 rfl) ?_
                      refine lv_bipush (v := 15) S.1 S.2.1 dX7_readsAll_151 (by decide) ?_
                      refine lv_bipush (v := 15) S.1 S.2.1 dX7_readsAll_153 (by decide) ?_
                      refine cq_i C w [0, 2, 3] [1] [1, 0, 2, 3] (wr := [(mD, .inl (G.2.1 2, 49, .inl u144.2.2))]) (w' := fun u : Nat => [(mO, .inr (7, [.ref mS, .ref mD, .ref mR, .ref mT, .int (nI tN), .int (nI u), .int u144.2.1, .ref mW, .ref mQ, .ref mC, .int my, .ref mU, .ref mV, .int mm, .int mf, .int mg])), (mT, .inl (G.2.1 2, 120, .inl fT)), (mW, .inl (G.2.1 1, 73, .inl (wdF 73)))]) (ws2 := fun u : Nat => [(mO, .inr (7, [.ref mS, .ref mD, .ref mR, .ref mT, .int (nI tN), .int (nI u), .int u144.2.1, .ref mW, .ref mQ, .ref mC, .int my, .ref mU, .ref mV, .int mm, .int mf, .int mg])), (mD, .inl (G.2.1 2, 49, .inl u144.2.2)), (mT, .inl (G.2.1 2, 120, .inl fT)), (mW, .inl (G.2.1 1, 73, .inl (wdF 73)))]) rfl rfl rfl (by decide) rfl (fun _ => rfl) (va_runV (As := [.int 15, .int 15]) (rest := []) S (c_X7_word l G mO mT mW _ mS mD mR mQ mC mU mV u144.2.1 my mm mf mg tN u144.1 fT 15 15 (htN) (h144.2.1)) (cwV 2 S.2.2.2.2 gX7_readsAll_X7_word rfl rfl rfl (by decide +kernel) ⟨Nat.le_of_ble_eq_true rfl, Nat.le_of_ble_eq_true rfl⟩) ⟨wPre_blind, va_recv C.1 w.1 (ci := 7) (q0 := 0) rfl rfl, wPre_at C w [0, 2, 3] rfl rfl⟩ rfl rfl hl.1 rfl (lv_room (Nat.le_of_ble_eq_true rfl)) dX7_readsAll_155 ⟨Nat.le_of_ble_eq_true rfl, Nat.le_of_ble_eq_true rfl⟩) (fun r155 u155 H locs h155 w => ?_)
                      have w : Wd G _ s [(mO, .inr (7, [.ref mS, .ref mD, .ref mR, .ref mT, .int (nI tN), .int (nI u155), .int u144.2.1, .ref mW, .ref mQ, .ref mC, .int my, .ref mU, .ref mV, .int mm, .int mf, .int mg])), (mD, .inl (G.2.1 2, 49, .inl u144.2.2)), (mT, .inl (G.2.1 2, 120, .inl fT)), (mW, .inl (G.2.1 1, 73, .inl (wdF 73)))] H locs := w
                      refine lv_if_lt (tgt := 168) S.1 S.2.1 dX7_readsAll_158 (by decide) (fun c158 => ?_) (fun c158 => ?_)
                      · refine lv_iconst (v := 0) S.1 S.2.1 dX7_readsAll_168 (by decide) ?_
                        exact W.zret (v := 0) S.1 S.2.1 hr (rfl) (fun t ht _ => ⟨⟨0, (u155, u144.2.1, u144.2.2), rfl, ⟨Or.inl rfl, h155, fun h => absurd rfl h⟩, by rw [ht]; exact w.1, w.2.1⟩, w.2.2.F ht⟩) w.2.2.2.2 dX7_readsAll_169
                      · refine lv_aload_n S.1 S.2.1 dX7_readsAll_161 rfl (lv_at hl 2 rfl) ?_
                        refine cq_i C w [0, 1, 2, 3] [] [0, 1, 2, 3] (wr := []) (w' := fun u : Nat × Int32 × (Nat → Int32) => [(mO, .inr (7, [.ref mS, .ref mD, .ref mR, .ref mT, .int (nI tN), .int (nI u.1), .int u.2.1, .ref mW, .ref mQ, .ref mC, .int my, .ref mU, .ref mV, .int mm, .int mf, .int mg])), (mD, .inl (G.2.1 2, 49, .inl u.2.2)), (mT, .inl (G.2.1 2, 120, .inl fT)), (mW, .inl (G.2.1 1, 73, .inl (wdF 73)))]) (ws2 := fun u : Nat × Int32 × (Nat → Int32) => [(mO, .inr (7, [.ref mS, .ref mD, .ref mR, .ref mT, .int (nI tN), .int (nI u.1), .int u.2.1, .ref mW, .ref mQ, .ref mC, .int my, .ref mU, .ref mV, .int mm, .int mf, .int mg])), (mD, .inl (G.2.1 2, 49, .inl u.2.2)), (mT, .inl (G.2.1 2, 120, .inl fT)), (mW, .inl (G.2.1 1, 73, .inl (wdF 73)))]) rfl rfl rfl (by decide) rfl (fun _ => rfl) (va_runV (As := []) (rest := []) S (c_X7_readsTask l G mO mD mT mW _ mS mR mQ mC mU mV u144.2.1 my mm mf mg tN u155 u144.2.2 fT (htN) (h155) (by rw [((h144).2.2 c147).2.2]; exact hI68.2.2.2.2)) (cwV 0 S.2.2.2.2 gX7_readsAll_X7_readsTask rfl rfl rfl (by decide +kernel) ⟨Nat.le_of_ble_eq_true rfl, Nat.le_of_ble_eq_true rfl⟩) ⟨wPre_blind, va_recv C.1 w.1 (ci := 7) (q0 := 0) rfl rfl, wPre_at C w [0, 1, 2, 3] rfl rfl⟩ rfl rfl hl.1 rfl (lv_room (Nat.le_of_ble_eq_true rfl)) dX7_readsAll_162 ⟨Nat.le_of_ble_eq_true rfl, Nat.le_of_ble_eq_true rfl⟩) (fun r162 u162 H locs h162 w => ?_)
                        have w : Wd G _ s [(mO, .inr (7, [.ref mS, .ref mD, .ref mR, .ref mT, .int (nI tN), .int (nI u162.1), .int u162.2.1, .ref mW, .ref mQ, .ref mC, .int my, .ref mU, .ref mV, .int mm, .int mf, .int mg])), (mD, .inl (G.2.1 2, 49, .inl u162.2.2)), (mT, .inl (G.2.1 2, 120, .inl fT)), (mW, .inl (G.2.1 1, 73, .inl (wdF 73)))] H locs := w
                        refine lv_if_ne (tgt := 170) S.1 S.2.1 dX7_readsAll_165 (by decide) (fun c165 => ?_) (fun c165 => ?_)
                        · refine lv_aload_n S.1 S.2.1 dX7_readsAll_170 rfl (lv_at hl 2 rfl) ?_
                          refine cq_v C w [0, 2] [1, 3] [2, 0, 3, 1] (wr := [(mD, .inl (G.2.1 2, 49, .inl u162.2.2)), (mW, .inl (G.2.1 1, 73, .inl (wdF 73)))]) (w' := fun u : Nat => [(mO, .inr (7, [.ref mS, .ref mD, .ref mR, .ref mT, .int (nI tN), .int (nI u), .int u162.2.1, .ref mW, .ref mQ, .ref mC, .int my, .ref mU, .ref mV, .int mm, .int mf, .int mg])), (mT, .inl (G.2.1 2, 120, .inl fT))]) (ws2 := fun u : Nat => [(mO, .inr (7, [.ref mS, .ref mD, .ref mR, .ref mT, .int (nI tN), .int (nI u), .int u162.2.1, .ref mW, .ref mQ, .ref mC, .int my, .ref mU, .ref mV, .int mm, .int mf, .int mg])), (mD, .inl (G.2.1 2, 49, .inl u162.2.2)), (mT, .inl (G.2.1 2, 120, .inl fT)), (mW, .inl (G.2.1 1, 73, .inl (wdF 73)))]) rfl rfl rfl (by decide) rfl (fun _ => rfl) (va_runV (As := []) (rest := []) S (c_X7_skips l G mO mT _ mS mD mR mW mQ mC mU mV u162.2.1 my mm mf mg tN u162.1 fT (htN) (h162.2.1)) (cwV 0 S.2.2.2.2 gX7_readsAll_X7_skips rfl rfl rfl (by decide +kernel) ⟨Nat.le_of_ble_eq_true rfl, Nat.le_of_ble_eq_true rfl⟩) ⟨wPre_blind, va_recv C.1 w.1 (ci := 7) (q0 := 0) rfl rfl, wPre_at C w [0, 2] rfl rfl⟩ rfl rfl hl.1 rfl (lv_room (Nat.le_of_ble_eq_true rfl)) dX7_readsAll_171 ⟨Nat.le_of_ble_eq_true rfl, Nat.le_of_ble_eq_true rfl⟩) (fun u171 H locs h171 w => ?_)
                          have w : Wd G _ s [(mO, .inr (7, [.ref mS, .ref mD, .ref mR, .ref mT, .int (nI tN), .int (nI u171), .int u162.2.1, .ref mW, .ref mQ, .ref mC, .int my, .ref mU, .ref mV, .int mm, .int mf, .int mg])), (mD, .inl (G.2.1 2, 49, .inl u162.2.2)), (mT, .inl (G.2.1 2, 120, .inl fT)), (mW, .inl (G.2.1 1, 73, .inl (wdF 73)))] H locs := w
                          refine lv_aload_n S.1 S.2.1 dX7_readsAll_174 rfl (lv_at hl 2 rfl) ?_
                          refine w_get S C w (CC := RX7) (T := TX7) (N := 16) (ref := "GateSumsModel") im_X7_readsAll_X7 0 rfl rfl 5 (by decide) (List.mem_of_getElem? (i := 2) rfl) (fun _ h => h) rfl dX7_readsAll_175 ?_
                          refine lv_aload_n S.1 S.2.1 dX7_readsAll_178 rfl (lv_at hl 2 rfl) ?_
                          refine w_get S C w (CC := RX7) (T := TX7) (N := 16) (ref := "GateSumsModel") im_X7_readsAll_X7 0 rfl rfl 4 (by decide) (List.mem_of_getElem? (i := 4) rfl) (fun _ h => h) rfl dX7_readsAll_179 ?_
                          refine lv_icmp_ne (tgt := 189) S.1 S.2.1 dX7_readsAll_182 (by decide) (fun c182 => ?_) (fun c182 => ?_)
                          · refine lv_iconst (v := 0) S.1 S.2.1 dX7_readsAll_189 (by decide) ?_
                            exact W.zret (v := 0) S.1 S.2.1 hr (rfl) (fun t ht _ => ⟨⟨0, (u171, u162.2.1, u162.2.2), rfl, by first | exact ⟨Or.inr rfl, h171, fun _ => okM_all hI68 (h144).2.2 (h162).2.2 c147 c165⟩ | exact ⟨Or.inl rfl, h171, fun h => absurd rfl h⟩, by rw [ht]; exact w.1, w.2.1⟩, w.2.2.F ht⟩) w.2.2.2.2 dX7_readsAll_190
                          · refine lv_iconst (v := 1) S.1 S.2.1 dX7_readsAll_185 (by decide) ?_
                            refine lv_goto (tgt := 190) S.1 S.2.1 dX7_readsAll_186 (by decide) ?_
                            exact W.zret (v := 1) S.1 S.2.1 hr (rfl) (fun t ht _ => ⟨⟨1, (u171, u162.2.1, u162.2.2), rfl, by first | exact ⟨Or.inr rfl, h171, fun _ => okM_all hI68 (h144).2.2 (h162).2.2 c147 c165⟩ | exact ⟨Or.inl rfl, h171, fun h => absurd rfl h⟩, by rw [ht]; exact w.1, w.2.1⟩, w.2.2.F ht⟩) w.2.2.2.2 dX7_readsAll_190
                        · refine lv_iconst (v := 0) S.1 S.2.1 dX7_readsAll_168 (by decide) ?_
                          exact W.zret (v := 0) S.1 S.2.1 hr (rfl) (fun t ht _ => ⟨⟨0, (u162.1, u162.2.1, u162.2.2), rfl, ⟨Or.inl rfl, h162.2.1, fun h => absurd rfl h⟩, by rw [ht]; exact w.1, w.2.1⟩, w.2.2.F ht⟩) w.2.2.2.2 dX7_readsAll_169
                · exact absurd c121 (by decide)
              · refine lv_iload_n S.1 S.2.1 dX7_readsAll_110 rfl (lv_at hl 0 rfl) ?_
                refine lv_if_ne (tgt := 118) S.1 S.2.1 dX7_readsAll_111 (by decide) (fun c111 => ?_) (fun c111 => ?_)
                · refine lv_iconst (v := 0) S.1 S.2.1 dX7_readsAll_118 (by decide) ?_
                  refine lv_istore_n (lv' := [(2, .int 0), (1, .int r89), (0, .ref mO)]) S.1 S.2.1 dX7_readsAll_119 rfl hl (by decide) rfl (fun ls hl => ?_)
                  refine lv_iload_n S.1 S.2.1 dX7_readsAll_120 rfl (lv_at hl 0 rfl) ?_
                  refine lv_if_eq (tgt := 133) S.1 S.2.1 dX7_readsAll_121 (by decide) (fun c121_1 => ?_) (fun c121_1 => ?_)
                  · refine lv_iload_n S.1 S.2.1 dX7_readsAll_133 rfl (lv_at hl 0 rfl) ?_
                    refine lv_if_ne (tgt := 140) S.1 S.2.1 dX7_readsAll_134 (by decide) (fun c134_1 => ?_) (fun c134_1 => ?_)
                    · exact absurd c134_1 (by decide)
                    · refine lv_goto (tgt := 143) S.1 S.2.1 dX7_readsAll_137 (by decide) ?_
                      refine lv_aload_n S.1 S.2.1 dX7_readsAll_143 rfl (lv_at hl 2 rfl) ?_
                      refine cq_i C w [0, 1, 2, 3] [] [0, 1, 2, 3] (wr := []) (w' := fun u : Nat × Int32 × (Nat → Int32) => [(mO, .inr (7, [.ref mS, .ref mD, .ref mR, .ref mT, .int (nI tN), .int (nI u.1), .int u.2.1, .ref mW, .ref mQ, .ref mC, .int my, .ref mU, .ref mV, .int mm, .int mf, .int mg])), (mD, .inl (G.2.1 2, 49, .inl u.2.2)), (mT, .inl (G.2.1 2, 120, .inl fT)), (mW, .inl (G.2.1 1, 73, .inl (wdF 73)))]) (ws2 := fun u : Nat × Int32 × (Nat → Int32) => [(mO, .inr (7, [.ref mS, .ref mD, .ref mR, .ref mT, .int (nI tN), .int (nI u.1), .int u.2.1, .ref mW, .ref mQ, .ref mC, .int my, .ref mU, .ref mV, .int mm, .int mf, .int mg])), (mD, .inl (G.2.1 2, 49, .inl u.2.2)), (mT, .inl (G.2.1 2, 120, .inl fT)), (mW, .inl (G.2.1 1, 73, .inl (wdF 73)))]) rfl rfl rfl (by decide) rfl (fun _ => rfl) (va_runV (As := []) (rest := []) S (c_X7_readsOuts l G mO mD mT mW _ mS mR mQ mC mU mV x68.2.2.1 my mm mf mg tN u89 x68.2.2.2 fT 0 (htN) (h89) (hI68.2.2.2.1) (Nat.zero_le _)) (cwV 0 S.2.2.2.2 gX7_readsAll_X7_readsOuts rfl rfl rfl (by decide +kernel) ⟨Nat.le_of_ble_eq_true rfl, Nat.le_of_ble_eq_true rfl⟩) ⟨wPre_blind, va_recv C.1 w.1 (ci := 7) (q0 := 0) rfl rfl, wPre_at C w [0, 1, 2, 3] rfl rfl⟩ rfl rfl hl.1 rfl (lv_room (Nat.le_of_ble_eq_true rfl)) dX7_readsAll_144 ⟨Nat.le_of_ble_eq_true rfl, Nat.le_of_ble_eq_true rfl⟩) (fun r144_1 u144_1 H locs h144_1 w => ?_)
                      have w : Wd G _ s [(mO, .inr (7, [.ref mS, .ref mD, .ref mR, .ref mT, .int (nI tN), .int (nI u144_1.1), .int u144_1.2.1, .ref mW, .ref mQ, .ref mC, .int my, .ref mU, .ref mV, .int mm, .int mf, .int mg])), (mD, .inl (G.2.1 2, 49, .inl u144_1.2.2)), (mT, .inl (G.2.1 2, 120, .inl fT)), (mW, .inl (G.2.1 1, 73, .inl (wdF 73)))] H locs := w
                      refine lv_if_eq (tgt := 168) S.1 S.2.1 dX7_readsAll_147 (by decide) (fun c147_1 => ?_) (fun c147_1 => ?_)
                      · refine lv_iconst (v := 0) S.1 S.2.1 dX7_readsAll_168 (by decide) ?_
                        exact W.zret (v := 0) S.1 S.2.1 hr (rfl) (fun t ht _ => ⟨⟨0, (u144_1.1, u144_1.2.1, u144_1.2.2), rfl, ⟨Or.inl rfl, h144_1.2.1, fun h => absurd rfl h⟩, by rw [ht]; exact w.1, w.2.1⟩, w.2.2.F ht⟩) w.2.2.2.2 dX7_readsAll_169
                      · refine lv_aload_n S.1 S.2.1 dX7_readsAll_150 rfl (lv_at hl 2 rfl) ?_
                        refine lv_bipush (v := 15) S.1 S.2.1 dX7_readsAll_151 (by decide) ?_
                        refine lv_bipush (v := 15) S.1 S.2.1 dX7_readsAll_153 (by decide) ?_
                        refine cq_i C w [0, 2, 3] [1] [1, 0, 2, 3] (wr := [(mD, .inl (G.2.1 2, 49, .inl u144_1.2.2))]) (w' := fun u : Nat => [(mO, .inr (7, [.ref mS, .ref mD, .ref mR, .ref mT, .int (nI tN), .int (nI u), .int u144_1.2.1, .ref mW, .ref mQ, .ref mC, .int my, .ref mU, .ref mV, .int mm, .int mf, .int mg])), (mT, .inl (G.2.1 2, 120, .inl fT)), (mW, .inl (G.2.1 1, 73, .inl (wdF 73)))]) (ws2 := fun u : Nat => [(mO, .inr (7, [.ref mS, .ref mD, .ref mR, .ref mT, .int (nI tN), .int (nI u), .int u144_1.2.1, .ref mW, .ref mQ, .ref mC, .int my, .ref mU, .ref mV, .int mm, .int mf, .int mg])), (mD, .inl (G.2.1 2, 49, .inl u144_1.2.2)), (mT, .inl (G.2.1 2, 120, .inl fT)), (mW, .inl (G.2.1 1, 73, .inl (wdF 73)))]) rfl rfl rfl (by decide) rfl (fun _ => rfl) (va_runV (As := [.int 15, .int 15]) (rest := []) S (c_X7_word l G mO mT mW _ mS mD mR mQ mC mU mV u144_1.2.1 my mm mf mg tN u144_1.1 fT 15 15 (htN) (h144_1.2.1)) (cwV 2 S.2.2.2.2 gX7_readsAll_X7_word rfl rfl rfl (by decide +kernel) ⟨Nat.le_of_ble_eq_true rfl, Nat.le_of_ble_eq_true rfl⟩) ⟨wPre_blind, va_recv C.1 w.1 (ci := 7) (q0 := 0) rfl rfl, wPre_at C w [0, 2, 3] rfl rfl⟩ rfl rfl hl.1 rfl (lv_room (Nat.le_of_ble_eq_true rfl)) dX7_readsAll_155 ⟨Nat.le_of_ble_eq_true rfl, Nat.le_of_ble_eq_true rfl⟩) (fun r155_1 u155_1 H locs h155_1 w => ?_)
                        have w : Wd G _ s [(mO, .inr (7, [.ref mS, .ref mD, .ref mR, .ref mT, .int (nI tN), .int (nI u155_1), .int u144_1.2.1, .ref mW, .ref mQ, .ref mC, .int my, .ref mU, .ref mV, .int mm, .int mf, .int mg])), (mD, .inl (G.2.1 2, 49, .inl u144_1.2.2)), (mT, .inl (G.2.1 2, 120, .inl fT)), (mW, .inl (G.2.1 1, 73, .inl (wdF 73)))] H locs := w
                        refine lv_if_lt (tgt := 168) S.1 S.2.1 dX7_readsAll_158 (by decide) (fun c158_1 => ?_) (fun c158_1 => ?_)
                        · refine lv_iconst (v := 0) S.1 S.2.1 dX7_readsAll_168 (by decide) ?_
                          exact W.zret (v := 0) S.1 S.2.1 hr (rfl) (fun t ht _ => ⟨⟨0, (u155_1, u144_1.2.1, u144_1.2.2), rfl, ⟨Or.inl rfl, h155_1, fun h => absurd rfl h⟩, by rw [ht]; exact w.1, w.2.1⟩, w.2.2.F ht⟩) w.2.2.2.2 dX7_readsAll_169
                        · refine lv_aload_n S.1 S.2.1 dX7_readsAll_161 rfl (lv_at hl 2 rfl) ?_
                          refine cq_i C w [0, 1, 2, 3] [] [0, 1, 2, 3] (wr := []) (w' := fun u : Nat × Int32 × (Nat → Int32) => [(mO, .inr (7, [.ref mS, .ref mD, .ref mR, .ref mT, .int (nI tN), .int (nI u.1), .int u.2.1, .ref mW, .ref mQ, .ref mC, .int my, .ref mU, .ref mV, .int mm, .int mf, .int mg])), (mD, .inl (G.2.1 2, 49, .inl u.2.2)), (mT, .inl (G.2.1 2, 120, .inl fT)), (mW, .inl (G.2.1 1, 73, .inl (wdF 73)))]) (ws2 := fun u : Nat × Int32 × (Nat → Int32) => [(mO, .inr (7, [.ref mS, .ref mD, .ref mR, .ref mT, .int (nI tN), .int (nI u.1), .int u.2.1, .ref mW, .ref mQ, .ref mC, .int my, .ref mU, .ref mV, .int mm, .int mf, .int mg])), (mD, .inl (G.2.1 2, 49, .inl u.2.2)), (mT, .inl (G.2.1 2, 120, .inl fT)), (mW, .inl (G.2.1 1, 73, .inl (wdF 73)))]) rfl rfl rfl (by decide) rfl (fun _ => rfl) (va_runV (As := []) (rest := []) S (c_X7_readsTask l G mO mD mT mW _ mS mR mQ mC mU mV u144_1.2.1 my mm mf mg tN u155_1 u144_1.2.2 fT (htN) (h155_1) (by rw [((h144_1).2.2 c147_1).2.2]; exact hI68.2.2.2.2)) (cwV 0 S.2.2.2.2 gX7_readsAll_X7_readsTask rfl rfl rfl (by decide +kernel) ⟨Nat.le_of_ble_eq_true rfl, Nat.le_of_ble_eq_true rfl⟩) ⟨wPre_blind, va_recv C.1 w.1 (ci := 7) (q0 := 0) rfl rfl, wPre_at C w [0, 1, 2, 3] rfl rfl⟩ rfl rfl hl.1 rfl (lv_room (Nat.le_of_ble_eq_true rfl)) dX7_readsAll_162 ⟨Nat.le_of_ble_eq_true rfl, Nat.le_of_ble_eq_true rfl⟩) (fun r162_1 u162_1 H locs h162_1 w => ?_)
                          have w : Wd G _ s [(mO, .inr (7, [.ref mS, .ref mD, .ref mR, .ref mT, .int (nI tN), .int (nI u162_1.1), .int u162_1.2.1, .ref mW, .ref mQ, .ref mC, .int my, .ref mU, .ref mV, .int mm, .int mf, .int mg])), (mD, .inl (G.2.1 2, 49, .inl u162_1.2.2)), (mT, .inl (G.2.1 2, 120, .inl fT)), (mW, .inl (G.2.1 1, 73, .inl (wdF 73)))] H locs := w
                          refine lv_if_ne (tgt := 170) S.1 S.2.1 dX7_readsAll_165 (by decide) (fun c165_1 => ?_) (fun c165_1 => ?_)
                          · refine lv_aload_n S.1 S.2.1 dX7_readsAll_170 rfl (lv_at hl 2 rfl) ?_
                            refine cq_v C w [0, 2] [1, 3] [2, 0, 3, 1] (wr := [(mD, .inl (G.2.1 2, 49, .inl u162_1.2.2)), (mW, .inl (G.2.1 1, 73, .inl (wdF 73)))]) (w' := fun u : Nat => [(mO, .inr (7, [.ref mS, .ref mD, .ref mR, .ref mT, .int (nI tN), .int (nI u), .int u162_1.2.1, .ref mW, .ref mQ, .ref mC, .int my, .ref mU, .ref mV, .int mm, .int mf, .int mg])), (mT, .inl (G.2.1 2, 120, .inl fT))]) (ws2 := fun u : Nat => [(mO, .inr (7, [.ref mS, .ref mD, .ref mR, .ref mT, .int (nI tN), .int (nI u), .int u162_1.2.1, .ref mW, .ref mQ, .ref mC, .int my, .ref mU, .ref mV, .int mm, .int mf, .int mg])), (mD, .inl (G.2.1 2, 49, .inl u162_1.2.2)), (mT, .inl (G.2.1 2, 120, .inl fT)), (mW, .inl (G.2.1 1, 73, .inl (wdF 73)))]) rfl rfl rfl (by decide) rfl (fun _ => rfl) (va_runV (As := []) (rest := []) S (c_X7_skips l G mO mT _ mS mD mR mW mQ mC mU mV u162_1.2.1 my mm mf mg tN u162_1.1 fT (htN) (h162_1.2.1)) (cwV 0 S.2.2.2.2 gX7_readsAll_X7_skips rfl rfl rfl (by decide +kernel) ⟨Nat.le_of_ble_eq_true rfl, Nat.le_of_ble_eq_true rfl⟩) ⟨wPre_blind, va_recv C.1 w.1 (ci := 7) (q0 := 0) rfl rfl, wPre_at C w [0, 2] rfl rfl⟩ rfl rfl hl.1 rfl (lv_room (Nat.le_of_ble_eq_true rfl)) dX7_readsAll_171 ⟨Nat.le_of_ble_eq_true rfl, Nat.le_of_ble_eq_true rfl⟩) (fun u171_1 H locs h171_1 w => ?_)
                            have w : Wd G _ s [(mO, .inr (7, [.ref mS, .ref mD, .ref mR, .ref mT, .int (nI tN), .int (nI u171_1), .int u162_1.2.1, .ref mW, .ref mQ, .ref mC, .int my, .ref mU, .ref mV, .int mm, .int mf, .int mg])), (mD, .inl (G.2.1 2, 49, .inl u162_1.2.2)), (mT, .inl (G.2.1 2, 120, .inl fT)), (mW, .inl (G.2.1 1, 73, .inl (wdF 73)))] H locs := w
                            refine lv_aload_n S.1 S.2.1 dX7_readsAll_174 rfl (lv_at hl 2 rfl) ?_
                            refine w_get S C w (CC := RX7) (T := TX7) (N := 16) (ref := "GateSumsModel") im_X7_readsAll_X7 0 rfl rfl 5 (by decide) (List.mem_of_getElem? (i := 2) rfl) (fun _ h => h) rfl dX7_readsAll_175 ?_
                            refine lv_aload_n S.1 S.2.1 dX7_readsAll_178 rfl (lv_at hl 2 rfl) ?_
                            refine w_get S C w (CC := RX7) (T := TX7) (N := 16) (ref := "GateSumsModel") im_X7_readsAll_X7 0 rfl rfl 4 (by decide) (List.mem_of_getElem? (i := 4) rfl) (fun _ h => h) rfl dX7_readsAll_179 ?_
                            refine lv_icmp_ne (tgt := 189) S.1 S.2.1 dX7_readsAll_182 (by decide) (fun c182_1 => ?_) (fun c182_1 => ?_)
                            · refine lv_iconst (v := 0) S.1 S.2.1 dX7_readsAll_189 (by decide) ?_
                              exact W.zret (v := 0) S.1 S.2.1 hr (rfl) (fun t ht _ => ⟨⟨0, (u171_1, u162_1.2.1, u162_1.2.2), rfl, by first | exact ⟨Or.inr rfl, h171_1, fun _ => okM_all hI68 (h144_1).2.2 (h162_1).2.2 c147_1 c165_1⟩ | exact ⟨Or.inl rfl, h171_1, fun h => absurd rfl h⟩, by rw [ht]; exact w.1, w.2.1⟩, w.2.2.F ht⟩) w.2.2.2.2 dX7_readsAll_190
                            · refine lv_iconst (v := 1) S.1 S.2.1 dX7_readsAll_185 (by decide) ?_
                              refine lv_goto (tgt := 190) S.1 S.2.1 dX7_readsAll_186 (by decide) ?_
                              exact W.zret (v := 1) S.1 S.2.1 hr (rfl) (fun t ht _ => ⟨⟨1, (u171_1, u162_1.2.1, u162_1.2.2), rfl, by first | exact ⟨Or.inr rfl, h171_1, fun _ => okM_all hI68 (h144_1).2.2 (h162_1).2.2 c147_1 c165_1⟩ | exact ⟨Or.inl rfl, h171_1, fun h => absurd rfl h⟩, by rw [ht]; exact w.1, w.2.1⟩, w.2.2.F ht⟩) w.2.2.2.2 dX7_readsAll_190
                          · refine lv_iconst (v := 0) S.1 S.2.1 dX7_readsAll_168 (by decide) ?_
                            exact W.zret (v := 0) S.1 S.2.1 hr (rfl) (fun t ht _ => ⟨⟨0, (u162_1.1, u162_1.2.1, u162_1.2.2), rfl, ⟨Or.inl rfl, h162_1.2.1, fun h => absurd rfl h⟩, by rw [ht]; exact w.1, w.2.1⟩, w.2.2.F ht⟩) w.2.2.2.2 dX7_readsAll_169
                  · exact absurd c121_1 (by decide)
                · refine lv_iconst (v := 1) S.1 S.2.1 dX7_readsAll_114 (by decide) ?_
                  refine lv_goto (tgt := 119) S.1 S.2.1 dX7_readsAll_115 (by decide) ?_
                  refine lv_istore_n (lv' := [(2, .int 1), (1, .int r89), (0, .ref mO)]) S.1 S.2.1 dX7_readsAll_119 rfl hl (by decide) rfl (fun ls hl => ?_)
                  refine lv_iload_n S.1 S.2.1 dX7_readsAll_120 rfl (lv_at hl 0 rfl) ?_
                  refine lv_if_eq (tgt := 133) S.1 S.2.1 dX7_readsAll_121 (by decide) (fun c121_2 => ?_) (fun c121_2 => ?_)
                  · exact absurd c121_2 (by decide)
                  · refine lv_aload_n S.1 S.2.1 dX7_readsAll_124 rfl (lv_at hl 2 rfl) ?_
                    refine cq_i C w [0, 1, 2, 3] [] [0, 1, 2, 3] (wr := []) (w' := fun u : Nat × Int32 × (Nat → Int32) => [(mO, .inr (7, [.ref mS, .ref mD, .ref mR, .ref mT, .int (nI tN), .int (nI u.1), .int u.2.1, .ref mW, .ref mQ, .ref mC, .int my, .ref mU, .ref mV, .int mm, .int mf, .int mg])), (mD, .inl (G.2.1 2, 49, .inl u.2.2)), (mT, .inl (G.2.1 2, 120, .inl fT)), (mW, .inl (G.2.1 1, 73, .inl (wdF 73)))]) (ws2 := fun u : Nat × Int32 × (Nat → Int32) => [(mO, .inr (7, [.ref mS, .ref mD, .ref mR, .ref mT, .int (nI tN), .int (nI u.1), .int u.2.1, .ref mW, .ref mQ, .ref mC, .int my, .ref mU, .ref mV, .int mm, .int mf, .int mg])), (mD, .inl (G.2.1 2, 49, .inl u.2.2)), (mT, .inl (G.2.1 2, 120, .inl fT)), (mW, .inl (G.2.1 1, 73, .inl (wdF 73)))]) rfl rfl rfl (by decide) rfl (fun _ => rfl) (va_runV (As := []) (rest := []) S (c_X7_readsGate l G mO mD mT mW _ mS mR mQ mC mU mV x68.2.2.1 my mm mf mg tN u89 x68.2.2.2 fT x68.1 (htN) (h89) (hI68.2.2.1) (nlt12 (by have := hI68.1; omega) c107)) (cwV 0 S.2.2.2.2 gX7_readsAll_X7_readsGate rfl rfl rfl (by decide +kernel) ⟨Nat.le_of_ble_eq_true rfl, Nat.le_of_ble_eq_true rfl⟩) ⟨wPre_blind, va_recv C.1 w.1 (ci := 7) (q0 := 0) rfl rfl, wPre_at C w [0, 1, 2, 3] rfl rfl⟩ rfl rfl hl.1 rfl (lv_room (Nat.le_of_ble_eq_true rfl)) dX7_readsAll_125 ⟨Nat.le_of_ble_eq_true rfl, Nat.le_of_ble_eq_true rfl⟩) (fun r125 u125 H locs h125 w => ?_)
                    have w : Wd G _ s [(mO, .inr (7, [.ref mS, .ref mD, .ref mR, .ref mT, .int (nI tN), .int (nI u125.1), .int u125.2.1, .ref mW, .ref mQ, .ref mC, .int my, .ref mU, .ref mV, .int mm, .int mf, .int mg])), (mD, .inl (G.2.1 2, 49, .inl u125.2.2)), (mT, .inl (G.2.1 2, 120, .inl fT)), (mW, .inl (G.2.1 1, 73, .inl (wdF 73)))] H locs := w
                    refine lv_if_ne (tgt := 133) S.1 S.2.1 dX7_readsAll_128 (by decide) (fun c128 => ?_) (fun c128 => ?_)
                    · refine lv_iload_n S.1 S.2.1 dX7_readsAll_133 rfl (lv_at hl 0 rfl) ?_
                      refine lv_if_ne (tgt := 140) S.1 S.2.1 dX7_readsAll_134 (by decide) (fun c134_2 => ?_) (fun c134_2 => ?_)
                      · refine lv_goto (tgt := 68) S.1 S.2.1 dX7_readsAll_140 (by decide) ?_
                        have hlt := nlt12 (by have := hI68.1; omega) c107
                        have hgd := (h125).2.2 c128
                        exact ih68 (x68.1 + 1, u125.1, u125.2.1, u125.2.2) ls _ _ (⟨hlt, (h125).2.1, hgd.1, hgd.2.2.trans hI68.2.2.2.1, (by dsimp only; rw [hgd.2.1]; exact hI68.2.2.2.2)⟩) (by dsimp only; omega) w (lv_sub hl [2] rfl)
                      · exact absurd c134_2 (by decide)
                    · refine lv_iconst (v := 0) S.1 S.2.1 dX7_readsAll_131 (by decide) ?_
                      exact W.zret (v := 0) S.1 S.2.1 hr (rfl) (fun t ht _ => ⟨⟨0, (u125.1, u125.2.1, u125.2.2), rfl, ⟨Or.inl rfl, h125.2.1, fun h => absurd rfl h⟩, by rw [ht]; exact w.1, w.2.1⟩, w.2.2.F ht⟩) w.2.2.2.2 dX7_readsAll_132
            · refine lv_iconst (v := 0) S.1 S.2.1 dX7_readsAll_97 (by decide) ?_
              exact W.zret (v := 0) S.1 S.2.1 hr (rfl) (fun t ht _ => ⟨⟨0, (u89, x68.2.2.1, x68.2.2.2), rfl, ⟨Or.inl rfl, h89, fun h => absurd rfl h⟩, by rw [ht]; exact w.1, w.2.1⟩, w.2.2.F ht⟩) w.2.2.2.2 dX7_readsAll_98
          · refine lv_aload_n S.1 S.2.1 dX7_readsAll_69 rfl (lv_at hl 0 rfl) ?_
            refine w_get S C w (CC := RX7) (T := TX7) (N := 16) (ref := "GateSumsModel") im_X7_readsAll_X7 0 rfl rfl 1 (by decide) (List.mem_of_getElem? (i := 1) rfl) (fun _ h => h) rfl dX7_readsAll_70 ?_
            refine lv_iconst (v := 1) S.1 S.2.1 dX7_readsAll_73 (by decide) ?_
            refine w_iald S C w 1 rfl (by unfold vp_in; decide) dX7_readsAll_74 ?_
            refine w_topi (y := (nI x68.1)) (hI68.2.2.1) ?_
            refine lv_bipush (v := 12) S.1 S.2.1 dX7_readsAll_75 (by decide) ?_
            refine lv_icmp_ge (tgt := 85) S.1 S.2.1 dX7_readsAll_77 (by decide) (fun c77 => ?_) (fun c77 => ?_)
            · refine lv_bipush (v := 14) S.1 S.2.1 dX7_readsAll_85 (by decide) ?_
              exact J87 14 (trivial)
            · refine lv_bipush (v := 13) S.1 S.2.1 dX7_readsAll_80 (by decide) ?_
              refine lv_goto (tgt := 87) S.1 S.2.1 dX7_readsAll_82 (by decide) ?_
              exact J87 13 (trivial)
        · refine lv_iconst (v := 0) S.1 S.2.1 dX7_readsAll_66 (by decide) ?_
          exact W.zret (v := 0) S.1 S.2.1 hr (rfl) (fun t ht _ => ⟨⟨0, (u60, u41.2, (upd (zeroF x2 fD) 0 u41.2)), rfl, ⟨Or.inl rfl, h60.2, fun h => absurd rfl h⟩, by rw [ht]; exact w.1, w.2.1⟩, w.2.2.F ht⟩) w.2.2.2.2 dX7_readsAll_67
      · refine lv_iconst (v := 0) S.1 S.2.1 dX7_readsAll_47 (by decide) ?_
        exact W.zret (v := 0) S.1 S.2.1 hr (rfl) (fun t ht _ => ⟨⟨0, (u41.1, u41.2, (zeroF x2 fD)), rfl, ⟨Or.inl rfl, h41.2.1, fun h => absurd rfl h⟩, by rw [ht]; exact w.1, w.2.1⟩, w.2.2.F ht⟩) w.2.2.2.2 dX7_readsAll_48
  · refine lv_aload_n S.1 S.2.1 dX7_readsAll_8 rfl (lv_at hl 1 rfl) ?_
    refine w_get S C w (CC := RX7) (T := TX7) (N := 16) (ref := "GateSumsModel") im_X7_readsAll_X7 0 rfl rfl 1 (by decide) (List.mem_of_getElem? (i := 1) rfl) (fun _ h => h) rfl dX7_readsAll_9 ?_
    refine lv_iload_n S.1 S.2.1 dX7_readsAll_12 rfl (lv_at hl 0 rfl) ?_
    refine lv_iconst (v := 0) S.1 S.2.1 dX7_readsAll_13 (by decide) ?_
    refine w_iast S C w 1 rfl (nIin (by have h := c5; rw [show (49 : Int32) = nI 49 from rfl, nI_leI (by decide) (by omega)] at h; omega) (by decide)) (ws2 := [(mO, .inr (7, [.ref mS, .ref mD, .ref mR, .ref mT, .int (nI tN), .int ma, .int mn, .ref mW, .ref mQ, .ref mC, .int my, .ref mU, .ref mV, .int mm, .int mf, .int mg])), (mD, .inl (G.2.1 2, 49, .inl (upd (zeroF x2 fD) (nI x2).toNatClampNeg 0))), (mT, .inl (G.2.1 2, 120, .inl fT)), (mW, .inl (G.2.1 1, 73, .inl (wdF 73)))]) rfl dX7_readsAll_14 (fun H locs w => ?_)
    have w : Wd G (va_A [(mO, .inr (7, [.ref mS, .ref mD, .ref mR, .ref mT, .int (nI tN), .int ma, .int mn, .ref mW, .ref mQ, .ref mC, .int my, .ref mU, .ref mV, .int mm, .int mf, .int mg])), (mD, .inl (G.2.1 2, 49, .inl fD)), (mT, .inl (G.2.1 2, 120, .inl fT)), (mW, .inl (G.2.1 1, 73, .inl (wdF 73)))] sz) s [(mO, .inr (7, [.ref mS, .ref mD, .ref mR, .ref mT, .int (nI tN), .int ma, .int mn, .ref mW, .ref mQ, .ref mC, .int my, .ref mU, .ref mV, .int mm, .int mf, .int mg])), (mD, .inl (G.2.1 2, 49, .inl (upd (zeroF x2 fD) x2 0))), (mT, .inl (G.2.1 2, 120, .inl fT)), (mW, .inl (G.2.1 1, 73, .inl (wdF 73)))] H locs := by have h := nIc (j := x2) (by omega); rw [h] at w; exact w
    refine lv_iinc (v := (nI (x2 + 1))) (lv' := [(1, .int (nI (x2 + 1))), (0, .ref mO)]) S.1 S.2.1 dX7_readsAll_15 hl (k := 0) rfl (nI_1 _) (by decide) rfl (fun ls hl => ?_)
    refine lv_goto (tgt := 2) S.1 S.2.1 dX7_readsAll_18 (by decide) ?_
    have w : Wd G (va_A [(mO, .inr (7, [.ref mS, .ref mD, .ref mR, .ref mT, .int (nI tN), .int ma, .int mn, .ref mW, .ref mQ, .ref mC, .int my, .ref mU, .ref mV, .int mm, .int mf, .int mg])), (mD, .inl (G.2.1 2, 49, .inl fD)), (mT, .inl (G.2.1 2, 120, .inl fT)), (mW, .inl (G.2.1 1, 73, .inl (wdF 73)))] sz) s [(mO, .inr (7, [.ref mS, .ref mD, .ref mR, .ref mT, .int (nI tN), .int ma, .int mn, .ref mW, .ref mQ, .ref mC, .int my, .ref mU, .ref mV, .int mm, .int mf, .int mg])), (mD, .inl (G.2.1 2, 49, .inl (zeroF (x2 + 1) fD))), (mT, .inl (G.2.1 2, 120, .inl fT)), (mW, .inl (G.2.1 1, 73, .inl (wdF 73)))] H locs := by rw [show (zeroF (x2 + 1) fD) = (upd (zeroF x2 fD) x2 0) from rfl]; exact w
    exact ih2 (x2 + 1) ls _ _ (by have h := c5; rw [show (49 : Int32) = nI 49 from rfl, nI_leI (by decide) (by omega)] at h; omega) (by have h := c5; rw [show (49 : Int32) = nI 49 from rfl, nI_leI (by decide) (by omega)] at h; omega) w (lv_sub hl [0, 1] rfl)
theorem im_X7_reads_X7 : ∀ w ∈ u_ws RX7 TX7 16, w ∈ wsX7_reads := by decide +kernel
set_option maxHeartbeats 4000000 in
set_option maxRecDepth 100000 in
theorem c_X7_reads (l : Launch) (G : GT) (mO mS mD mT mW : Nat) (sz : Nat) (mR mQ mC mU mV : Nat) (ma mn my mm mf mg : Int32) (tN : Nat) (fS fD fT : Nat → Int32) (htN : tN ≤ 120) (hok : okM fS) : Met l yX7_reads wsX7_reads ({ frames := 5, cells := 0, slots := 0, locals := 116 }) (va_Pc [.ref mO] (wPre G [(mO, .inr (7, [.ref mS, .ref mD, .ref mR, .ref mT, .int (nI tN), .int ma, .int mn, .ref mW, .ref mQ, .ref mC, .int my, .ref mU, .ref mV, .int mm, .int mf, .int mg])), (mS, .inl (G.2.1 2, 49, .inl fS)), (mD, .inl (G.2.1 2, 49, .inl fD)), (mT, .inl (G.2.1 2, 120, .inl fT)), (mW, .inl (G.2.1 1, 73, .inl (wdF 73)))] sz)) (va_Qi (fun (r : Int32) (u : Int32 × Int32 × (Nat → Int32) × (Nat → Int32)) => okM u.2.2.2) (bW G (va_A [(mO, .inr (7, [.ref mS, .ref mD, .ref mR, .ref mT, .int (nI tN), .int ma, .int mn, .ref mW, .ref mQ, .ref mC, .int my, .ref mU, .ref mV, .int mm, .int mf, .int mg])), (mS, .inl (G.2.1 2, 49, .inl fS)), (mD, .inl (G.2.1 2, 49, .inl fD)), (mT, .inl (G.2.1 2, 120, .inl fT)), (mW, .inl (G.2.1 1, 73, .inl (wdF 73)))] sz) (fun u : Int32 × Int32 × (Nat → Int32) × (Nat → Int32) => [(mO, .inr (7, [.ref mS, .ref mD, .ref mR, .ref mT, .int (nI tN), .int u.1, .int u.2.1, .ref mW, .ref mQ, .ref mC, .int my, .ref mU, .ref mV, .int mm, .int mf, .int mg])), (mS, .inl (G.2.1 2, 49, .inl u.2.2.2)), (mD, .inl (G.2.1 2, 49, .inl u.2.2.1)), (mT, .inl (G.2.1 2, 120, .inl fT)), (mW, .inl (G.2.1 1, 73, .inl (wdF 73)))])) (va_A [(mO, .inr (7, [.ref mS, .ref mD, .ref mR, .ref mT, .int (nI tN), .int ma, .int mn, .ref mW, .ref mQ, .ref mC, .int my, .ref mU, .ref mV, .int mm, .int mf, .int mg])), (mS, .inl (G.2.1 2, 49, .inl fS)), (mD, .inl (G.2.1 2, 49, .inl fD)), (mT, .inl (G.2.1 2, 120, .inl fT)), (mW, .inl (G.2.1 1, 73, .inl (wdF 73)))] sz)) 0 0 (va_A [(mO, .inr (7, [.ref mS, .ref mD, .ref mR, .ref mT, .int (nI tN), .int ma, .int mn, .ref mW, .ref mQ, .ref mC, .int my, .ref mU, .ref mV, .int mm, .int mf, .int mg])), (mS, .inl (G.2.1 2, 49, .inl fS)), (mD, .inl (G.2.1 2, 49, .inl fD)), (mT, .inl (G.2.1 2, 120, .inl fT)), (mW, .inl (G.2.1 1, 73, .inl (wdF 73)))] sz) := by
  refine met_go (cc := cX7_reads) (maxL := 2) (ret := (some .int)) (own := RX7) (by decide) rfl rfl (Nat.le_of_ble_eq_true rfl) ?_
  intro p e s m below meth c ls S hr hlocks hname hsz C w hl
  have hl : lv_has ls 2 [(0, .ref mO)] := hl
  refine lv_aload_n S.1 S.2.1 dX7_reads_0 rfl (lv_at hl 0 rfl) ?_
  refine cq_i C w [0, 2, 3, 4] [1] [1, 0, 2, 3, 4] (wr := [(mS, .inl (G.2.1 2, 49, .inl fS))]) (w' := fun u : Nat × Int32 × (Nat → Int32) => [(mO, .inr (7, [.ref mS, .ref mD, .ref mR, .ref mT, .int (nI tN), .int (nI u.1), .int u.2.1, .ref mW, .ref mQ, .ref mC, .int my, .ref mU, .ref mV, .int mm, .int mf, .int mg])), (mD, .inl (G.2.1 2, 49, .inl u.2.2)), (mT, .inl (G.2.1 2, 120, .inl fT)), (mW, .inl (G.2.1 1, 73, .inl (wdF 73)))]) (ws2 := fun u : Nat × Int32 × (Nat → Int32) => [(mO, .inr (7, [.ref mS, .ref mD, .ref mR, .ref mT, .int (nI tN), .int (nI u.1), .int u.2.1, .ref mW, .ref mQ, .ref mC, .int my, .ref mU, .ref mV, .int mm, .int mf, .int mg])), (mS, .inl (G.2.1 2, 49, .inl fS)), (mD, .inl (G.2.1 2, 49, .inl u.2.2)), (mT, .inl (G.2.1 2, 120, .inl fT)), (mW, .inl (G.2.1 1, 73, .inl (wdF 73)))]) rfl rfl rfl (by decide) rfl (fun _ => rfl) (va_runV (As := []) (rest := []) S (c_X7_readsAll l G mO mD mT mW _ mS mR mQ mC mU mV ma mn my mm mf mg tN fD fT (htN)) (cwV 0 S.2.2.2.2 gX7_reads_X7_readsAll rfl rfl rfl (by decide +kernel) ⟨Nat.le_of_ble_eq_true rfl, Nat.le_of_ble_eq_true rfl⟩) ⟨wPre_blind, va_recv C.1 w.1 (ci := 7) (q0 := 0) rfl rfl, wPre_at C w [0, 2, 3, 4] rfl rfl⟩ rfl rfl hl.1 rfl (lv_room (Nat.le_of_ble_eq_true rfl)) dX7_reads_1 ⟨Nat.le_of_ble_eq_true rfl, Nat.le_of_ble_eq_true rfl⟩) (fun r1 u1 H locs h1 w => ?_)
  have w : Wd G _ s [(mO, .inr (7, [.ref mS, .ref mD, .ref mR, .ref mT, .int (nI tN), .int (nI u1.1), .int u1.2.1, .ref mW, .ref mQ, .ref mC, .int my, .ref mU, .ref mV, .int mm, .int mf, .int mg])), (mS, .inl (G.2.1 2, 49, .inl fS)), (mD, .inl (G.2.1 2, 49, .inl u1.2.2)), (mT, .inl (G.2.1 2, 120, .inl fT)), (mW, .inl (G.2.1 1, 73, .inl (wdF 73)))] H locs := w
  refine lv_if_ne (tgt := 15) S.1 S.2.1 dX7_reads_4 (by decide) (fun c4 => ?_) (fun c4 => ?_)
  · refine lv_iconst (v := 0) S.1 S.2.1 dX7_reads_15 (by decide) ?_
    refine lv_istore_n (lv' := [(1, .int 0), (0, .ref mO)]) S.1 S.2.1 dX7_reads_16 rfl hl (by decide) rfl (fun ls hl => ?_)
    refine w_loop (G := G) (σ := Nat × (Nat → Int32)) (nL := 2) 17 (fun x17 => 49 - x17.1) (fun x17 => x17.1 ≤ 49 ∧ ∀ i, i < x17.1 → x17.2 i = u1.2.2 i) (fun x17 => [(mO, .inr (7, [.ref mS, .ref mD, .ref mR, .ref mT, .int (nI tN), .int (nI u1.1), .int u1.2.1, .ref mW, .ref mQ, .ref mC, .int my, .ref mU, .ref mV, .int mm, .int mf, .int mg])), (mS, .inl (G.2.1 2, 49, .inl x17.2)), (mD, .inl (G.2.1 2, 49, .inl u1.2.2)), (mT, .inl (G.2.1 2, 120, .inl fT)), (mW, .inl (G.2.1 1, 73, .inl (wdF 73)))]) (fun x17 => [(1, .int (nI x17.1)), (0, .ref mO)]) (fun _ => []) ?_ (0, fS) ls _ _ (⟨Nat.zero_le _, fun i h => absurd h (Nat.not_lt_zero i)⟩) w (lv_sub hl [0, 1] rfl)
    intro x17 ls H locs hI17 w hl ih17
    have w : Wd G _ s [(mO, .inr (7, [.ref mS, .ref mD, .ref mR, .ref mT, .int (nI tN), .int (nI u1.1), .int u1.2.1, .ref mW, .ref mQ, .ref mC, .int my, .ref mU, .ref mV, .int mm, .int mf, .int mg])), (mS, .inl (G.2.1 2, 49, .inl x17.2)), (mD, .inl (G.2.1 2, 49, .inl u1.2.2)), (mT, .inl (G.2.1 2, 120, .inl fT)), (mW, .inl (G.2.1 1, 73, .inl (wdF 73)))] H locs := w
    have hl : lv_has ls 2 [(1, .int (nI x17.1)), (0, .ref mO)] := hl
    refine lv_iload_n S.1 S.2.1 dX7_reads_17 rfl (lv_at hl 0 rfl) ?_
    refine lv_bipush (v := 49) S.1 S.2.1 dX7_reads_18 (by decide) ?_
    refine lv_icmp_ge (tgt := 41) S.1 S.2.1 dX7_reads_20 (by decide) (fun c20 => ?_) (fun c20 => ?_)
    · refine lv_aload_n S.1 S.2.1 dX7_reads_41 rfl (lv_at hl 1 rfl) ?_
      refine w_get S C w (CC := RX7) (T := TX7) (N := 16) (ref := "GateSumsModel") im_X7_reads_X7 0 rfl rfl 0 (by decide) (List.mem_of_getElem? (i := 2) rfl) (fun _ h => h) rfl dX7_reads_42 ?_
      refine lv_iconst (v := 1) S.1 S.2.1 dX7_reads_45 (by decide) ?_
      refine w_iald S C w 1 rfl (by unfold vp_in; decide) dX7_reads_46 ?_
      exact W.iret (v := (x17.2 (1 : Int32).toNatClampNeg)) S.1 S.2.1 hr (fun t ht _ => ⟨⟨(x17.2 (1 : Int32).toNatClampNeg), ((nI u1.1), u1.2.1, u1.2.2, x17.2), rfl, ((h1).2.2 c4).of (fun i hi => hI17.2 i (by have := hI17.1; have h := c20; rw [show (49 : Int32) = nI 49 from rfl, nI_leI (by decide) (by omega)] at h; omega)), by rw [ht]; exact w.1, w.2.1⟩, w.2.2.F ht⟩) w.2.2.2.2 dX7_reads_47
    · refine lv_aload_n S.1 S.2.1 dX7_reads_23 rfl (lv_at hl 1 rfl) ?_
      refine w_get S C w (CC := RX7) (T := TX7) (N := 16) (ref := "GateSumsModel") im_X7_reads_X7 0 rfl rfl 0 (by decide) (List.mem_of_getElem? (i := 2) rfl) (fun _ h => h) rfl dX7_reads_24 ?_
      refine lv_iload_n S.1 S.2.1 dX7_reads_27 rfl (lv_at hl 0 rfl) ?_
      refine lv_aload_n S.1 S.2.1 dX7_reads_28 rfl (lv_at hl 1 rfl) ?_
      refine w_get S C w (CC := RX7) (T := TX7) (N := 16) (ref := "GateSumsModel") im_X7_reads_X7 0 rfl rfl 1 (by decide) (List.mem_of_getElem? (i := 3) rfl) (fun _ h => h) rfl dX7_reads_29 ?_
      refine lv_iload_n S.1 S.2.1 dX7_reads_32 rfl (lv_at hl 0 rfl) ?_
      refine w_iald S C w 2 rfl (nIin (by have := hI17.1; have h := c20; rw [show (49 : Int32) = nI 49 from rfl, nI_leI (by decide) (by omega)] at h; omega) (by decide)) dX7_reads_33 ?_
      refine w_topi (y := (u1.2.2 x17.1)) (congrArg u1.2.2 (nIc (j := x17.1) (by have := hI17.1; omega))) ?_
      refine w_iast S C w 1 rfl (nIin (by have := hI17.1; have h := c20; rw [show (49 : Int32) = nI 49 from rfl, nI_leI (by decide) (by omega)] at h; omega) (by decide)) (ws2 := [(mO, .inr (7, [.ref mS, .ref mD, .ref mR, .ref mT, .int (nI tN), .int (nI u1.1), .int u1.2.1, .ref mW, .ref mQ, .ref mC, .int my, .ref mU, .ref mV, .int mm, .int mf, .int mg])), (mS, .inl (G.2.1 2, 49, .inl (upd x17.2 (nI x17.1).toNatClampNeg (u1.2.2 x17.1)))), (mD, .inl (G.2.1 2, 49, .inl u1.2.2)), (mT, .inl (G.2.1 2, 120, .inl fT)), (mW, .inl (G.2.1 1, 73, .inl (wdF 73)))]) rfl dX7_reads_34 (fun H locs w => ?_)
      have w : Wd G (va_A [(mO, .inr (7, [.ref mS, .ref mD, .ref mR, .ref mT, .int (nI tN), .int ma, .int mn, .ref mW, .ref mQ, .ref mC, .int my, .ref mU, .ref mV, .int mm, .int mf, .int mg])), (mS, .inl (G.2.1 2, 49, .inl fS)), (mD, .inl (G.2.1 2, 49, .inl fD)), (mT, .inl (G.2.1 2, 120, .inl fT)), (mW, .inl (G.2.1 1, 73, .inl (wdF 73)))] sz) s [(mO, .inr (7, [.ref mS, .ref mD, .ref mR, .ref mT, .int (nI tN), .int (nI u1.1), .int u1.2.1, .ref mW, .ref mQ, .ref mC, .int my, .ref mU, .ref mV, .int mm, .int mf, .int mg])), (mS, .inl (G.2.1 2, 49, .inl (upd x17.2 x17.1 (u1.2.2 x17.1)))), (mD, .inl (G.2.1 2, 49, .inl u1.2.2)), (mT, .inl (G.2.1 2, 120, .inl fT)), (mW, .inl (G.2.1 1, 73, .inl (wdF 73)))] H locs := by have h := nIc (j := x17.1) (by have := hI17.1; omega); rw [h] at w; exact w
      refine lv_iinc (v := (nI (x17.1 + 1))) (lv' := [(1, .int (nI (x17.1 + 1))), (0, .ref mO)]) S.1 S.2.1 dX7_reads_35 hl (k := 0) rfl (nI_1 _) (by decide) rfl (fun ls hl => ?_)
      refine lv_goto (tgt := 17) S.1 S.2.1 dX7_reads_38 (by decide) ?_
      have hlt : x17.1 < 49 := by have h := c20; rw [show (49 : Int32) = nI 49 from rfl, nI_leI (by decide) (by omega)] at h; omega
      exact ih17 (x17.1 + 1, (upd x17.2 x17.1 (u1.2.2 x17.1))) ls _ _ (⟨hlt, fun i hi => up_le hI17.2 hi⟩) (by dsimp only; omega) w (lv_sub hl [0, 1] rfl)
  · refine lv_bipush (v := (-10)) S.1 S.2.1 dX7_reads_7 (by decide) ?_
    refine lv_aload_n S.1 S.2.1 dX7_reads_9 rfl (lv_at hl 0 rfl) ?_
    refine w_get S C w (CC := RX7) (T := TX7) (N := 16) (ref := "GateSumsModel") im_X7_reads_X7 0 rfl rfl 5 (by decide) (List.mem_of_getElem? (i := 1) rfl) (fun _ h => h) rfl dX7_reads_10 ?_
    refine lv_isub S.1 S.2.1 dX7_reads_13 ?_
    exact W.iret (v := ((-10) - (nI u1.1))) S.1 S.2.1 hr (fun t ht _ => ⟨⟨((-10) - (nI u1.1)), ((nI u1.1), u1.2.1, u1.2.2, fS), rfl, hok, by rw [ht]; exact w.1, w.2.1⟩, w.2.2.F ht⟩) w.2.2.2.2 dX7_reads_14
