theorem im_X7_begin_X7 : ∀ w ∈ u_ws RX7 TX7 16, w ∈ wsX7_begin := by decide +kernel
set_option maxHeartbeats 4000000 in
set_option maxRecDepth 100000 in
theorem c_X7_begin (l : Launch) (G : GT) (mO mS mQ mC mU mV : Nat) (sz : Nat) (mD mR mT mW : Nat) (mt ma mn my mm mf mg : Int32) (fS fQ fU : Nat → Int32) (lC lV : Nat → Int64) (oN pN qN : Nat) (ho : fS 2 = nI oN) (hoN : oN ≤ 7) (hp : fS 4 = nI pN) (hpN : pN ≤ 6) (hq : fS 5 = nI qN) (hqN : qN ≤ 6) : Met l yX7_begin wsX7_begin ({ frames := 1, cells := 0, slots := 0, locals := 24 }) (va_Pc [.ref mO] (wPre G [(mO, .inr (7, [.ref mS, .ref mD, .ref mR, .ref mT, .int mt, .int ma, .int mn, .ref mW, .ref mQ, .ref mC, .int my, .ref mU, .ref mV, .int mm, .int mf, .int mg])), (mS, .inl (G.2.1 2, 49, .inl fS)), (mQ, .inl (G.2.1 2, 200, .inl fQ)), (mC, .inl (G.2.1 3, 200, .inr (.inl lC))), (mU, .inl (G.2.1 2, 200, .inl fU)), (mV, .inl (G.2.1 3, 200, .inr (.inl lV)))] sz)) (va_Qi (fun (r : Int32) (u : Nat × (Nat → Int32) × (Nat → Int64) × (Nat → Int32) × (Nat → Int64)) => (r = 0 ∨ r = 1) ∧ u.1 ≤ 200 ∧ (¬ r = 0 → u.1 ≤ 40)) (bW G (va_A [(mO, .inr (7, [.ref mS, .ref mD, .ref mR, .ref mT, .int mt, .int ma, .int mn, .ref mW, .ref mQ, .ref mC, .int my, .ref mU, .ref mV, .int mm, .int mf, .int mg])), (mS, .inl (G.2.1 2, 49, .inl fS)), (mQ, .inl (G.2.1 2, 200, .inl fQ)), (mC, .inl (G.2.1 3, 200, .inr (.inl lC))), (mU, .inl (G.2.1 2, 200, .inl fU)), (mV, .inl (G.2.1 3, 200, .inr (.inl lV)))] sz) (fun u : Nat × (Nat → Int32) × (Nat → Int64) × (Nat → Int32) × (Nat → Int64) => [(mO, .inr (7, [.ref mS, .ref mD, .ref mR, .ref mT, .int mt, .int ma, .int mn, .ref mW, .ref mQ, .ref mC, .int (nI u.1), .ref mU, .ref mV, .int 0, .int mf, .int mg])), (mS, .inl (G.2.1 2, 49, .inl fS)), (mQ, .inl (G.2.1 2, 200, .inl u.2.1)), (mC, .inl (G.2.1 3, 200, .inr (.inl u.2.2.1))), (mU, .inl (G.2.1 2, 200, .inl u.2.2.2.1)), (mV, .inl (G.2.1 3, 200, .inr (.inl u.2.2.2.2)))])) (va_A [(mO, .inr (7, [.ref mS, .ref mD, .ref mR, .ref mT, .int mt, .int ma, .int mn, .ref mW, .ref mQ, .ref mC, .int my, .ref mU, .ref mV, .int mm, .int mf, .int mg])), (mS, .inl (G.2.1 2, 49, .inl fS)), (mQ, .inl (G.2.1 2, 200, .inl fQ)), (mC, .inl (G.2.1 3, 200, .inr (.inl lC))), (mU, .inl (G.2.1 2, 200, .inl fU)), (mV, .inl (G.2.1 3, 200, .inr (.inl lV)))] sz)) 0 0 (va_A [(mO, .inr (7, [.ref mS, .ref mD, .ref mR, .ref mT, .int mt, .int ma, .int mn, .ref mW, .ref mQ, .ref mC, .int my, .ref mU, .ref mV, .int mm, .int mf, .int mg])), (mS, .inl (G.2.1 2, 49, .inl fS)), (mQ, .inl (G.2.1 2, 200, .inl fQ)), (mC, .inl (G.2.1 3, 200, .inr (.inl lC))), (mU, .inl (G.2.1 2, 200, .inl fU)), (mV, .inl (G.2.1 3, 200, .inr (.inl lV)))] sz) := by
  refine met_go (cc := cX7_begin) (maxL := 7) (ret := (some .boolean)) (own := RX7) (by decide) rfl rfl (Nat.le_of_ble_eq_true rfl) ?_
  intro p e s m below meth c ls S hr hlocks hname hsz C w hl
  have hl : lv_has ls 7 [(0, .ref mO)] := hl
  refine lv_aload_n S.1 S.2.1 dX7_begin_0 rfl (lv_at hl 0 rfl) ?_
  refine lv_iconst (v := 0) S.1 S.2.1 dX7_begin_1 (by decide) ?_
  refine w_put S C w (CC := RX7) (T := TX7) (N := 16) (ref := "GateSumsModel") im_X7_begin_X7 tyX7 tyX7_ok nmX7 0 rfl rfl 13 (by decide) (List.mem_of_getElem? (i := 1) rfl) (fun _ h => h) rfl (ws2 := [(mO, .inr (7, [.ref mS, .ref mD, .ref mR, .ref mT, .int mt, .int ma, .int mn, .ref mW, .ref mQ, .ref mC, .int my, .ref mU, .ref mV, .int 0, .int mf, .int mg])), (mS, .inl (G.2.1 2, 49, .inl fS)), (mQ, .inl (G.2.1 2, 200, .inl fQ)), (mC, .inl (G.2.1 3, 200, .inr (.inl lC))), (mU, .inl (G.2.1 2, 200, .inl fU)), (mV, .inl (G.2.1 3, 200, .inr (.inl lV)))]) (rfl) (rfl) (Nat.le_of_ble_eq_true rfl) rfl dX7_begin_2 (fun H locs w => ?_)
  refine lv_iconst (v := 0) S.1 S.2.1 dX7_begin_5 (by decide) ?_
  refine lv_istore_n (lv' := [(1, .int 0), (0, .ref mO)]) S.1 S.2.1 dX7_begin_6 rfl hl (by decide) rfl (fun ls hl => ?_)
  refine w_loop (G := G) (σ := Nat × Nat × (Nat → Int32) × (Nat → Int64)) (nL := 7) 7 (fun x7 => oN - x7.1) (fun x7 => x7.1 ≤ oN ∧ x7.2.1 ≤ x7.1) (fun x7 => [(mO, .inr (7, [.ref mS, .ref mD, .ref mR, .ref mT, .int mt, .int ma, .int mn, .ref mW, .ref mQ, .ref mC, .int my, .ref mU, .ref mV, .int (nI x7.2.1), .int mf, .int mg])), (mS, .inl (G.2.1 2, 49, .inl fS)), (mQ, .inl (G.2.1 2, 200, .inl fQ)), (mC, .inl (G.2.1 3, 200, .inr (.inl lC))), (mU, .inl (G.2.1 2, 200, .inl x7.2.2.1)), (mV, .inl (G.2.1 3, 200, .inr (.inl x7.2.2.2)))]) (fun x7 => [(1, .int (nI x7.1)), (0, .ref mO)]) (fun _ => []) ?_ (0, 0, fU, lV) ls _ _ (⟨Nat.zero_le _, Nat.zero_le _⟩) w (lv_sub hl [0, 1] rfl)
  intro x7 ls H locs hI7 w hl ih7
  have w : Wd G _ s [(mO, .inr (7, [.ref mS, .ref mD, .ref mR, .ref mT, .int mt, .int ma, .int mn, .ref mW, .ref mQ, .ref mC, .int my, .ref mU, .ref mV, .int (nI x7.2.1), .int mf, .int mg])), (mS, .inl (G.2.1 2, 49, .inl fS)), (mQ, .inl (G.2.1 2, 200, .inl fQ)), (mC, .inl (G.2.1 3, 200, .inr (.inl lC))), (mU, .inl (G.2.1 2, 200, .inl x7.2.2.1)), (mV, .inl (G.2.1 3, 200, .inr (.inl x7.2.2.2)))] H locs := w
  have hl : lv_has ls 7 [(1, .int (nI x7.1)), (0, .ref mO)] := hl
  refine lv_iload_n S.1 S.2.1 dX7_begin_7 rfl (lv_at hl 0 rfl) ?_
  refine lv_aload_n S.1 S.2.1 dX7_begin_8 rfl (lv_at hl 1 rfl) ?_
  refine w_get S C w (CC := RX7) (T := TX7) (N := 16) (ref := "GateSumsModel") im_X7_begin_X7 0 rfl rfl 0 (by decide) (List.mem_of_getElem? (i := 2) rfl) (fun _ h => h) rfl dX7_begin_9 ?_
  refine lv_iconst (v := 2) S.1 S.2.1 dX7_begin_12 (by decide) ?_
  refine w_iald S C w 1 rfl (by unfold vp_in; decide) dX7_begin_13 ?_
  refine w_topi (y := (nI oN)) (ho) ?_
  refine lv_icmp_ge (tgt := 41) S.1 S.2.1 dX7_begin_14 (by decide) (fun c14 => ?_) (fun c14 => ?_)
  · refine lv_aload_n S.1 S.2.1 dX7_begin_41 rfl (lv_at hl 1 rfl) ?_
    refine w_get S C w (CC := RX7) (T := TX7) (N := 16) (ref := "GateSumsModel") im_X7_begin_X7 0 rfl rfl 0 (by decide) (List.mem_of_getElem? (i := 2) rfl) (fun _ h => h) rfl dX7_begin_42 ?_
    refine lv_iconst (v := 4) S.1 S.2.1 dX7_begin_45 (by decide) ?_
    refine w_iald S C w 1 rfl (by unfold vp_in; decide) dX7_begin_46 ?_
    refine w_topi (y := (nI pN)) (hp) ?_
    refine lv_istore_n (lv' := [(1, .int (nI pN)), (0, .ref mO)]) S.1 S.2.1 dX7_begin_47 rfl hl (by decide) rfl (fun ls hl => ?_)
    refine lv_aload_n S.1 S.2.1 dX7_begin_48 rfl (lv_at hl 1 rfl) ?_
    refine w_get S C w (CC := RX7) (T := TX7) (N := 16) (ref := "GateSumsModel") im_X7_begin_X7 0 rfl rfl 0 (by decide) (List.mem_of_getElem? (i := 2) rfl) (fun _ h => h) rfl dX7_begin_49 ?_
    refine lv_iconst (v := 5) S.1 S.2.1 dX7_begin_52 (by decide) ?_
    refine w_iald S C w 1 rfl (by unfold vp_in; decide) dX7_begin_53 ?_
    refine w_topi (y := (nI qN)) (hq) ?_
    refine lv_istore_n (lv' := [(2, .int (nI qN)), (1, .int (nI pN)), (0, .ref mO)]) S.1 S.2.1 dX7_begin_54 rfl hl (by decide) rfl (fun ls hl => ?_)
    refine lv_aload_n S.1 S.2.1 dX7_begin_55 rfl (lv_at hl 2 rfl) ?_
    refine w_get S C w (CC := RX7) (T := TX7) (N := 16) (ref := "GateSumsModel") im_X7_begin_X7 0 rfl rfl 0 (by decide) (List.mem_of_getElem? (i := 2) rfl) (fun _ h => h) rfl dX7_begin_56 ?_
    refine lv_iconst (v := 3) S.1 S.2.1 dX7_begin_59 (by decide) ?_
    refine w_iald S C w 1 rfl (by unfold vp_in; decide) dX7_begin_60 ?_
    refine lv_istore_n (lv' := [(3, .int (fS (3 : Int32).toNatClampNeg)), (2, .int (nI qN)), (1, .int (nI pN)), (0, .ref mO)]) S.1 S.2.1 dX7_begin_61 rfl hl (by decide) rfl (fun ls hl => ?_)
    obtain ⟨bN, hbN, hb1, hb2, hb3⟩ := bn_ex (fS (3 : Int32).toNatClampNeg) hpN hqN
    refine lv_iconst (v := 0) S.1 S.2.1 dX7_begin_62 (by decide) ?_
    refine lv_istore (lv' := [(4, .int 0), (3, .int (fS (3 : Int32).toNatClampNeg)), (2, .int (nI qN)), (1, .int (nI pN)), (0, .ref mO)]) S.1 S.2.1 dX7_begin_63 hl (by decide) rfl (fun ls hl => ?_)
    refine w_loop (G := G) (σ := Nat × Nat × (Nat → Int32) × (Nat → Int64)) (nL := 7) 65 (fun x65 => pN - x65.1) (fun x65 => x65.1 ≤ pN ∧ x65.2.1 ≤ 7 + 6 * x65.1) (fun x65 => [(mO, .inr (7, [.ref mS, .ref mD, .ref mR, .ref mT, .int mt, .int ma, .int mn, .ref mW, .ref mQ, .ref mC, .int my, .ref mU, .ref mV, .int (nI x65.2.1), .int mf, .int mg])), (mS, .inl (G.2.1 2, 49, .inl fS)), (mQ, .inl (G.2.1 2, 200, .inl fQ)), (mC, .inl (G.2.1 3, 200, .inr (.inl lC))), (mU, .inl (G.2.1 2, 200, .inl x65.2.2.1)), (mV, .inl (G.2.1 3, 200, .inr (.inl x65.2.2.2)))]) (fun x65 => [(4, .int (nI x65.1)), (3, .int (fS (3 : Int32).toNatClampNeg)), (2, .int (nI qN)), (1, .int (nI pN)), (0, .ref mO)]) (fun _ => []) ?_ (0, x7.2.1, x7.2.2.1, x7.2.2.2) ls _ _ (⟨Nat.zero_le _, by have := hI7; dsimp only; omega⟩) w (lv_sub hl [0, 1, 2, 3, 4] rfl)
    intro x65 ls H locs hI65 w hl ih65
    have w : Wd G _ s [(mO, .inr (7, [.ref mS, .ref mD, .ref mR, .ref mT, .int mt, .int ma, .int mn, .ref mW, .ref mQ, .ref mC, .int my, .ref mU, .ref mV, .int (nI x65.2.1), .int mf, .int mg])), (mS, .inl (G.2.1 2, 49, .inl fS)), (mQ, .inl (G.2.1 2, 200, .inl fQ)), (mC, .inl (G.2.1 3, 200, .inr (.inl lC))), (mU, .inl (G.2.1 2, 200, .inl x65.2.2.1)), (mV, .inl (G.2.1 3, 200, .inr (.inl x65.2.2.2)))] H locs := w
    have hl : lv_has ls 7 [(4, .int (nI x65.1)), (3, .int (fS (3 : Int32).toNatClampNeg)), (2, .int (nI qN)), (1, .int (nI pN)), (0, .ref mO)] := hl
    refine lv_iload S.1 S.2.1 dX7_begin_65 (lv_at hl 0 rfl) ?_
    refine lv_iload_n S.1 S.2.1 dX7_begin_67 rfl (lv_at hl 3 rfl) ?_
    refine lv_icmp_ge (tgt := 186) S.1 S.2.1 dX7_begin_68 (by decide) (fun c68 => ?_) (fun c68 => ?_)
    · refine lv_iconst (v := 0) S.1 S.2.1 dX7_begin_186 (by decide) ?_
      refine lv_istore (lv' := [(4, .int 0), (3, .int (fS (3 : Int32).toNatClampNeg)), (2, .int (nI qN)), (1, .int (nI pN)), (0, .ref mO)]) S.1 S.2.1 dX7_begin_187 hl (by decide) rfl (fun ls hl => ?_)
      refine w_loop (G := G) (σ := Nat × Nat × (Nat → Int32) × (Nat → Int64)) (nL := 7) 189 (fun x189 => qN - x189.1) (fun x189 => x189.1 ≤ qN ∧ x189.2.1 ≤ 43 + x189.1) (fun x189 => [(mO, .inr (7, [.ref mS, .ref mD, .ref mR, .ref mT, .int mt, .int ma, .int mn, .ref mW, .ref mQ, .ref mC, .int my, .ref mU, .ref mV, .int (nI x189.2.1), .int mf, .int mg])), (mS, .inl (G.2.1 2, 49, .inl fS)), (mQ, .inl (G.2.1 2, 200, .inl fQ)), (mC, .inl (G.2.1 3, 200, .inr (.inl lC))), (mU, .inl (G.2.1 2, 200, .inl x189.2.2.1)), (mV, .inl (G.2.1 3, 200, .inr (.inl x189.2.2.2)))]) (fun x189 => [(4, .int (nI x189.1)), (3, .int (fS (3 : Int32).toNatClampNeg)), (2, .int (nI qN)), (1, .int (nI pN)), (0, .ref mO)]) (fun _ => []) ?_ (0, x65.2.1, x65.2.2.1, x65.2.2.2) ls _ _ (⟨Nat.zero_le _, by have := hI65; dsimp only; omega⟩) w (lv_sub hl [0, 1, 2, 3, 4] rfl)
      intro x189 ls H locs hI189 w hl ih189
      have w : Wd G _ s [(mO, .inr (7, [.ref mS, .ref mD, .ref mR, .ref mT, .int mt, .int ma, .int mn, .ref mW, .ref mQ, .ref mC, .int my, .ref mU, .ref mV, .int (nI x189.2.1), .int mf, .int mg])), (mS, .inl (G.2.1 2, 49, .inl fS)), (mQ, .inl (G.2.1 2, 200, .inl fQ)), (mC, .inl (G.2.1 3, 200, .inr (.inl lC))), (mU, .inl (G.2.1 2, 200, .inl x189.2.2.1)), (mV, .inl (G.2.1 3, 200, .inr (.inl x189.2.2.2)))] H locs := w
      have hl : lv_has ls 7 [(4, .int (nI x189.1)), (3, .int (fS (3 : Int32).toNatClampNeg)), (2, .int (nI qN)), (1, .int (nI pN)), (0, .ref mO)] := hl
      refine lv_iload S.1 S.2.1 dX7_begin_189 (lv_at hl 0 rfl) ?_
      refine lv_iload_n S.1 S.2.1 dX7_begin_191 rfl (lv_at hl 2 rfl) ?_
      refine lv_icmp_ge (tgt := 233) S.1 S.2.1 dX7_begin_192 (by decide) (fun c192 => ?_) (fun c192 => ?_)
      · refine lv_aload_n S.1 S.2.1 dX7_begin_233 rfl (lv_at hl 4 rfl) ?_
        refine cq_i C w [0, 2, 3, 4, 5] [1] [1, 0, 2, 3, 4, 5] (wr := [(mS, .inl (G.2.1 2, 49, .inl fS))]) (w' := fun u : Nat × (Nat → Int32) × (Nat → Int64) => [(mO, .inr (7, [.ref mS, .ref mD, .ref mR, .ref mT, .int mt, .int ma, .int mn, .ref mW, .ref mQ, .ref mC, .int (nI u.1), .ref mU, .ref mV, .int 0, .int mf, .int mg])), (mQ, .inl (G.2.1 2, 200, .inl u.2.1)), (mC, .inl (G.2.1 3, 200, .inr (.inl u.2.2))), (mU, .inl (G.2.1 2, 200, .inl x189.2.2.1)), (mV, .inl (G.2.1 3, 200, .inr (.inl x189.2.2.2)))]) (ws2 := fun u : Nat × (Nat → Int32) × (Nat → Int64) => [(mO, .inr (7, [.ref mS, .ref mD, .ref mR, .ref mT, .int mt, .int ma, .int mn, .ref mW, .ref mQ, .ref mC, .int (nI u.1), .ref mU, .ref mV, .int 0, .int mf, .int mg])), (mS, .inl (G.2.1 2, 49, .inl fS)), (mQ, .inl (G.2.1 2, 200, .inl u.2.1)), (mC, .inl (G.2.1 3, 200, .inr (.inl u.2.2))), (mU, .inl (G.2.1 2, 200, .inl x189.2.2.1)), (mV, .inl (G.2.1 3, 200, .inr (.inl x189.2.2.2)))]) rfl rfl rfl (by decide) rfl (fun _ => rfl) (va_runV (As := []) (rest := []) S (c_X7_becomes l G mO mQ mC mU mV _ mS mD mR mT mW mt ma mn my mf mg x189.2.1 fQ x189.2.2.1 lC x189.2.2.2 (by have := hI189; omega)) (cwV 0 S.2.2.2.2 gX7_begin_X7_becomes rfl rfl rfl (by decide +kernel) ⟨Nat.le_of_ble_eq_true rfl, Nat.le_of_ble_eq_true rfl⟩) ⟨wPre_blind, va_recv C.1 w.1 (ci := 7) (q0 := 0) rfl rfl, wPre_at C w [0, 2, 3, 4, 5] rfl rfl⟩ rfl rfl hl.1 rfl (lv_room (Nat.le_of_ble_eq_true rfl)) dX7_begin_234 ⟨Nat.le_of_ble_eq_true rfl, Nat.le_of_ble_eq_true rfl⟩) (fun r234 u234 H locs h234 w => ?_)
        have w : Wd G _ s [(mO, .inr (7, [.ref mS, .ref mD, .ref mR, .ref mT, .int mt, .int ma, .int mn, .ref mW, .ref mQ, .ref mC, .int (nI u234.1), .ref mU, .ref mV, .int 0, .int mf, .int mg])), (mS, .inl (G.2.1 2, 49, .inl fS)), (mQ, .inl (G.2.1 2, 200, .inl u234.2.1)), (mC, .inl (G.2.1 3, 200, .inr (.inl u234.2.2))), (mU, .inl (G.2.1 2, 200, .inl x189.2.2.1)), (mV, .inl (G.2.1 3, 200, .inr (.inl x189.2.2.2)))] H locs := w
        exact W.zret (v := r234) S.1 S.2.1 hr (z01_nar (h234).1) (fun t ht _ => ⟨⟨r234, (u234.1, u234.2.1, u234.2.2, x189.2.2.1, x189.2.2.2), rfl, ⟨(h234).1, by have := (h234).2.1; have := hI189; omega, (h234).2.2⟩, by rw [ht]; exact w.1, w.2.1⟩, w.2.2.F ht⟩) w.2.2.2.2 dX7_begin_237
      · refine lv_iload_n S.1 S.2.1 dX7_begin_195 rfl (lv_at hl 1 rfl) ?_
        refine lv_iconst (v := 1) S.1 S.2.1 dX7_begin_196 (by decide) ?_
        refine lv_icmp_eq (tgt := 233) S.1 S.2.1 dX7_begin_197 (by decide) (fun c197 => ?_) (fun c197 => ?_)
        · refine lv_aload_n S.1 S.2.1 dX7_begin_233 rfl (lv_at hl 4 rfl) ?_
          refine cq_i C w [0, 2, 3, 4, 5] [1] [1, 0, 2, 3, 4, 5] (wr := [(mS, .inl (G.2.1 2, 49, .inl fS))]) (w' := fun u : Nat × (Nat → Int32) × (Nat → Int64) => [(mO, .inr (7, [.ref mS, .ref mD, .ref mR, .ref mT, .int mt, .int ma, .int mn, .ref mW, .ref mQ, .ref mC, .int (nI u.1), .ref mU, .ref mV, .int 0, .int mf, .int mg])), (mQ, .inl (G.2.1 2, 200, .inl u.2.1)), (mC, .inl (G.2.1 3, 200, .inr (.inl u.2.2))), (mU, .inl (G.2.1 2, 200, .inl x189.2.2.1)), (mV, .inl (G.2.1 3, 200, .inr (.inl x189.2.2.2)))]) (ws2 := fun u : Nat × (Nat → Int32) × (Nat → Int64) => [(mO, .inr (7, [.ref mS, .ref mD, .ref mR, .ref mT, .int mt, .int ma, .int mn, .ref mW, .ref mQ, .ref mC, .int (nI u.1), .ref mU, .ref mV, .int 0, .int mf, .int mg])), (mS, .inl (G.2.1 2, 49, .inl fS)), (mQ, .inl (G.2.1 2, 200, .inl u.2.1)), (mC, .inl (G.2.1 3, 200, .inr (.inl u.2.2))), (mU, .inl (G.2.1 2, 200, .inl x189.2.2.1)), (mV, .inl (G.2.1 3, 200, .inr (.inl x189.2.2.2)))]) rfl rfl rfl (by decide) rfl (fun _ => rfl) (va_runV (As := []) (rest := []) S (c_X7_becomes l G mO mQ mC mU mV _ mS mD mR mT mW mt ma mn my mf mg x189.2.1 fQ x189.2.2.1 lC x189.2.2.2 (by have := hI189; omega)) (cwV 0 S.2.2.2.2 gX7_begin_X7_becomes rfl rfl rfl (by decide +kernel) ⟨Nat.le_of_ble_eq_true rfl, Nat.le_of_ble_eq_true rfl⟩) ⟨wPre_blind, va_recv C.1 w.1 (ci := 7) (q0 := 0) rfl rfl, wPre_at C w [0, 2, 3, 4, 5] rfl rfl⟩ rfl rfl hl.1 rfl (lv_room (Nat.le_of_ble_eq_true rfl)) dX7_begin_234 ⟨Nat.le_of_ble_eq_true rfl, Nat.le_of_ble_eq_true rfl⟩) (fun r234_1 u234_1 H locs h234_1 w => ?_)
          have w : Wd G _ s [(mO, .inr (7, [.ref mS, .ref mD, .ref mR, .ref mT, .int mt, .int ma, .int mn, .ref mW, .ref mQ, .ref mC, .int (nI u234_1.1), .ref mU, .ref mV, .int 0, .int mf, .int mg])), (mS, .inl (G.2.1 2, 49, .inl fS)), (mQ, .inl (G.2.1 2, 200, .inl u234_1.2.1)), (mC, .inl (G.2.1 3, 200, .inr (.inl u234_1.2.2))), (mU, .inl (G.2.1 2, 200, .inl x189.2.2.1)), (mV, .inl (G.2.1 3, 200, .inr (.inl x189.2.2.2)))] H locs := w
          exact W.zret (v := r234_1) S.1 S.2.1 hr (z01_nar (h234_1).1) (fun t ht _ => ⟨⟨r234_1, (u234_1.1, u234_1.2.1, u234_1.2.2, x189.2.2.1, x189.2.2.2), rfl, ⟨(h234_1).1, by have := (h234_1).2.1; have := hI189; omega, (h234_1).2.2⟩, by rw [ht]; exact w.1, w.2.1⟩, w.2.2.F ht⟩) w.2.2.2.2 dX7_begin_237
        · refine lv_aload_n S.1 S.2.1 dX7_begin_200 rfl (lv_at hl 4 rfl) ?_
          refine lv_iconst (v := 1) S.1 S.2.1 dX7_begin_201 (by decide) ?_
          refine lv_iload_n S.1 S.2.1 dX7_begin_202 rfl (lv_at hl 3 rfl) ?_
          refine lv_iload S.1 S.2.1 dX7_begin_203 (lv_at hl 0 rfl) ?_
          refine lv_iadd S.1 S.2.1 dX7_begin_205 ?_
          refine lv_ishl S.1 S.2.1 dX7_begin_206 ?_
          refine w_joinl 224 [.int ((1 : Int32) <<< (((nI pN) + (nI x189.1)) &&& 31)), .ref mO] (fun z224 => True) (fun z224 hz224 => ?_) (fun J224 => ?_)
          · refine cq_v C w [0, 4, 5] [1, 2, 3] [3, 0, 1, 2, 4, 5] (wr := [(mS, .inl (G.2.1 2, 49, .inl fS)), (mQ, .inl (G.2.1 2, 200, .inl fQ)), (mC, .inl (G.2.1 3, 200, .inr (.inl lC)))]) (w' := fun u : Nat × (Nat → Int32) × (Nat → Int64) => [(mO, .inr (7, [.ref mS, .ref mD, .ref mR, .ref mT, .int mt, .int ma, .int mn, .ref mW, .ref mQ, .ref mC, .int my, .ref mU, .ref mV, .int (nI u.1), .int mf, .int mg])), (mU, .inl (G.2.1 2, 200, .inl u.2.1)), (mV, .inl (G.2.1 3, 200, .inr (.inl u.2.2)))]) (ws2 := fun u : Nat × (Nat → Int32) × (Nat → Int64) => [(mO, .inr (7, [.ref mS, .ref mD, .ref mR, .ref mT, .int mt, .int ma, .int mn, .ref mW, .ref mQ, .ref mC, .int my, .ref mU, .ref mV, .int (nI u.1), .int mf, .int mg])), (mS, .inl (G.2.1 2, 49, .inl fS)), (mQ, .inl (G.2.1 2, 200, .inl fQ)), (mC, .inl (G.2.1 3, 200, .inr (.inl lC))), (mU, .inl (G.2.1 2, 200, .inl u.2.1)), (mV, .inl (G.2.1 3, 200, .inr (.inl u.2.2)))]) rfl rfl rfl (by decide) rfl (fun _ => rfl) (va_runV (As := [.int ((1 : Int32) <<< (((nI pN) + (nI x189.1)) &&& 31)), .long z224]) (rest := []) S (c_X7_adds l G mO mU mV _ mS mD mR mT mW mQ mC mt ma mn my mf mg x189.2.1 x189.2.2.1 x189.2.2.2 ((1 : Int32) <<< (((nI pN) + (nI x189.1)) &&& 31)) z224 (by have := hI189; have h := c192; rw [nI_leI (by omega) (by omega)] at h; omega)) (cwV 2 S.2.2.2.2 gX7_begin_X7_adds rfl rfl rfl (by decide +kernel) ⟨Nat.le_of_ble_eq_true rfl, Nat.le_of_ble_eq_true rfl⟩) ⟨wPre_blind, va_recv C.1 w.1 (ci := 7) (q0 := 0) rfl rfl, wPre_at C w [0, 4, 5] rfl rfl⟩ rfl rfl hl.1 rfl (lv_room (Nat.le_of_ble_eq_true rfl)) dX7_begin_224 ⟨Nat.le_of_ble_eq_true rfl, Nat.le_of_ble_eq_true rfl⟩) (fun u224 H locs h224 w => ?_)
            have w : Wd G _ s [(mO, .inr (7, [.ref mS, .ref mD, .ref mR, .ref mT, .int mt, .int ma, .int mn, .ref mW, .ref mQ, .ref mC, .int my, .ref mU, .ref mV, .int (nI u224.1), .int mf, .int mg])), (mS, .inl (G.2.1 2, 49, .inl fS)), (mQ, .inl (G.2.1 2, 200, .inl fQ)), (mC, .inl (G.2.1 3, 200, .inr (.inl lC))), (mU, .inl (G.2.1 2, 200, .inl u224.2.1)), (mV, .inl (G.2.1 3, 200, .inr (.inl u224.2.2)))] H locs := w
            refine lv_iinc (v := (nI (x189.1 + 1))) (lv' := [(4, .int (nI (x189.1 + 1))), (3, .int (fS (3 : Int32).toNatClampNeg)), (2, .int (nI qN)), (1, .int (nI pN)), (0, .ref mO)]) S.1 S.2.1 dX7_begin_227 hl (k := 0) rfl (nI_1 _) (by decide) rfl (fun ls hl => ?_)
            refine lv_goto (tgt := 189) S.1 S.2.1 dX7_begin_230 (by decide) ?_
            have hlt_mm9 : x189.1 < qN := by have h := c192; rw [nI_leI (by omega) (by omega)] at h; omega
            have hQ1 := h224
            have hI189b := hI189
            exact ih189 (x189.1 + 1, u224.1, u224.2.1, u224.2.2) ls _ _ (by dsimp only; omega) (by dsimp only; omega) w (lv_sub hl [0, 1, 2, 3, 4] rfl)
          · refine lv_iload_n S.1 S.2.1 dX7_begin_207 rfl (lv_at hl 1 rfl) ?_
            refine lv_iconst (v := 3) S.1 S.2.1 dX7_begin_208 (by decide) ?_
            refine lv_icmp_ne (tgt := 219) S.1 S.2.1 dX7_begin_209 (by decide) (fun c209 => ?_) (fun c209 => ?_)
            · refine lv_lconst (v := 1) S.1 S.2.1 dX7_begin_219 (by decide) ?_
              refine lv_iload S.1 S.2.1 dX7_begin_220 (lv_at hl 0 rfl) ?_
              refine lv_lshl (v := ((1 : Int64) <<< ((nI x189.1).toInt64 &&& 63))) S.1 S.2.1 dX7_begin_222 rfl ?_
              refine lv_lneg S.1 S.2.1 dX7_begin_223 ?_
              exact J224 (-((1 : Int64) <<< ((nI x189.1).toInt64 &&& 63))) (trivial)
            · refine lv_lconst (v := 1) S.1 S.2.1 dX7_begin_212 (by decide) ?_
              refine lv_iload S.1 S.2.1 dX7_begin_213 (lv_at hl 0 rfl) ?_
              refine lv_lshl (v := ((1 : Int64) <<< ((nI x189.1).toInt64 &&& 63))) S.1 S.2.1 dX7_begin_215 rfl ?_
              refine lv_goto (tgt := 224) S.1 S.2.1 dX7_begin_216 (by decide) ?_
              exact J224 ((1 : Int64) <<< ((nI x189.1).toInt64 &&& 63)) (trivial)
    · refine lv_iconst (v := 0) S.1 S.2.1 dX7_begin_71 (by decide) ?_
      refine lv_istore (lv' := [(5, .int 0), (4, .int (nI x65.1)), (3, .int (fS (3 : Int32).toNatClampNeg)), (2, .int (nI qN)), (1, .int (nI pN)), (0, .ref mO)]) S.1 S.2.1 dX7_begin_72 hl (by decide) rfl (fun ls hl => ?_)
      refine w_loop (G := G) (σ := Nat × Nat × (Nat → Int32) × (Nat → Int64)) (nL := 7) 74 (fun x74 => bN - x74.1) (fun x74 => x74.1 ≤ bN ∧ x74.2.1 ≤ 7 + 6 * x65.1 + x74.1) (fun x74 => [(mO, .inr (7, [.ref mS, .ref mD, .ref mR, .ref mT, .int mt, .int ma, .int mn, .ref mW, .ref mQ, .ref mC, .int my, .ref mU, .ref mV, .int (nI x74.2.1), .int mf, .int mg])), (mS, .inl (G.2.1 2, 49, .inl fS)), (mQ, .inl (G.2.1 2, 200, .inl fQ)), (mC, .inl (G.2.1 3, 200, .inr (.inl lC))), (mU, .inl (G.2.1 2, 200, .inl x74.2.2.1)), (mV, .inl (G.2.1 3, 200, .inr (.inl x74.2.2.2)))]) (fun x74 => [(5, .int (nI x74.1)), (4, .int (nI x65.1)), (3, .int (fS (3 : Int32).toNatClampNeg)), (2, .int (nI qN)), (1, .int (nI pN)), (0, .ref mO)]) (fun _ => []) ?_ (0, x65.2.1, x65.2.2.1, x65.2.2.2) ls _ _ (⟨Nat.zero_le _, by have := hI65; dsimp only; omega⟩) w (lv_sub hl [0, 1, 2, 3, 4, 5] rfl)
      intro x74 ls H locs hI74 w hl ih74
      have w : Wd G _ s [(mO, .inr (7, [.ref mS, .ref mD, .ref mR, .ref mT, .int mt, .int ma, .int mn, .ref mW, .ref mQ, .ref mC, .int my, .ref mU, .ref mV, .int (nI x74.2.1), .int mf, .int mg])), (mS, .inl (G.2.1 2, 49, .inl fS)), (mQ, .inl (G.2.1 2, 200, .inl fQ)), (mC, .inl (G.2.1 3, 200, .inr (.inl lC))), (mU, .inl (G.2.1 2, 200, .inl x74.2.2.1)), (mV, .inl (G.2.1 3, 200, .inr (.inl x74.2.2.2)))] H locs := w
      have hl : lv_has ls 7 [(5, .int (nI x74.1)), (4, .int (nI x65.1)), (3, .int (fS (3 : Int32).toNatClampNeg)), (2, .int (nI qN)), (1, .int (nI pN)), (0, .ref mO)] := hl
      refine lv_iload S.1 S.2.1 dX7_begin_74 (lv_at hl 0 rfl) ?_
      refine w_joini 95 [.int (nI x74.1)] (fun z95 => z95 = nI bN) (fun z95 hz95 => ?_) (fun J95 => ?_)
      · refine w_topi (y := (nI bN)) (hz95) ?_
        refine lv_icmp_ge (tgt := 180) S.1 S.2.1 dX7_begin_95 (by decide) (fun c95 => ?_) (fun c95 => ?_)
        · refine lv_iinc (v := (nI (x65.1 + 1))) (lv' := [(4, .int (nI (x65.1 + 1))), (5, .int (nI x74.1)), (3, .int (fS (3 : Int32).toNatClampNeg)), (2, .int (nI qN)), (1, .int (nI pN)), (0, .ref mO)]) S.1 S.2.1 dX7_begin_180 hl (k := 1) rfl (nI_1 _) (by decide) rfl (fun ls hl => ?_)
          refine lv_goto (tgt := 65) S.1 S.2.1 dX7_begin_183 (by decide) ?_
          have hlt_kk : x65.1 < pN := by have h := c68; rw [nI_leI (by omega) (by omega)] at h; omega
          have hI65b := hI65
          have hI74b := hI74
          have hle74 : bN ≤ x74.1 := by have h := c95; rw [nI_leI (by omega) (by omega)] at h; omega
          exact ih65 (x65.1 + 1, x74.2.1, x74.2.2.1, x74.2.2.2) ls _ _ (by dsimp only; omega) (by dsimp only; omega) w (lv_sub hl [0, 2, 3, 4, 5] rfl)
        · refine w_joini 125 [] (fun z125 => True) (fun z125 hz125 => ?_) (fun J125 => ?_)
          · refine lv_istore (lv' := [(6, .int z125), (5, .int (nI x74.1)), (4, .int (nI x65.1)), (3, .int (fS (3 : Int32).toNatClampNeg)), (2, .int (nI qN)), (1, .int (nI pN)), (0, .ref mO)]) S.1 S.2.1 dX7_begin_125 hl (by decide) rfl (fun ls hl => ?_)
            refine lv_aload_n S.1 S.2.1 dX7_begin_127 rfl (lv_at hl 6 rfl) ?_
            refine lv_iconst (v := 1) S.1 S.2.1 dX7_begin_128 (by decide) ?_
            refine lv_iload S.1 S.2.1 dX7_begin_129 (lv_at hl 2 rfl) ?_
            refine lv_ishl S.1 S.2.1 dX7_begin_131 ?_
            refine lv_iload S.1 S.2.1 dX7_begin_132 (lv_at hl 0 rfl) ?_
            refine lv_ior S.1 S.2.1 dX7_begin_134 ?_
            refine w_joinl 171 [.int (((1 : Int32) <<< ((nI x65.1) &&& 31)) ||| z125), .ref mO] (fun z171 => True) (fun z171 hz171 => ?_) (fun J171 => ?_)
            · refine cq_v C w [0, 4, 5] [1, 2, 3] [3, 0, 1, 2, 4, 5] (wr := [(mS, .inl (G.2.1 2, 49, .inl fS)), (mQ, .inl (G.2.1 2, 200, .inl fQ)), (mC, .inl (G.2.1 3, 200, .inr (.inl lC)))]) (w' := fun u : Nat × (Nat → Int32) × (Nat → Int64) => [(mO, .inr (7, [.ref mS, .ref mD, .ref mR, .ref mT, .int mt, .int ma, .int mn, .ref mW, .ref mQ, .ref mC, .int my, .ref mU, .ref mV, .int (nI u.1), .int mf, .int mg])), (mU, .inl (G.2.1 2, 200, .inl u.2.1)), (mV, .inl (G.2.1 3, 200, .inr (.inl u.2.2)))]) (ws2 := fun u : Nat × (Nat → Int32) × (Nat → Int64) => [(mO, .inr (7, [.ref mS, .ref mD, .ref mR, .ref mT, .int mt, .int ma, .int mn, .ref mW, .ref mQ, .ref mC, .int my, .ref mU, .ref mV, .int (nI u.1), .int mf, .int mg])), (mS, .inl (G.2.1 2, 49, .inl fS)), (mQ, .inl (G.2.1 2, 200, .inl fQ)), (mC, .inl (G.2.1 3, 200, .inr (.inl lC))), (mU, .inl (G.2.1 2, 200, .inl u.2.1)), (mV, .inl (G.2.1 3, 200, .inr (.inl u.2.2)))]) rfl rfl rfl (by decide) rfl (fun _ => rfl) (va_runV (As := [.int (((1 : Int32) <<< ((nI x65.1) &&& 31)) ||| z125), .long z171]) (rest := []) S (c_X7_adds l G mO mU mV _ mS mD mR mT mW mQ mC mt ma mn my mf mg x74.2.1 x74.2.2.1 x74.2.2.2 (((1 : Int32) <<< ((nI x65.1) &&& 31)) ||| z125) z171 (by have := hI74; have := hI65; have h := c95; rw [nI_leI (by omega) (by omega)] at h; have h2 := c68; rw [nI_leI (by omega) (by omega)] at h2; omega)) (cwV 2 S.2.2.2.2 gX7_begin_X7_adds rfl rfl rfl (by decide +kernel) ⟨Nat.le_of_ble_eq_true rfl, Nat.le_of_ble_eq_true rfl⟩) ⟨wPre_blind, va_recv C.1 w.1 (ci := 7) (q0 := 0) rfl rfl, wPre_at C w [0, 4, 5] rfl rfl⟩ rfl rfl hl.1 rfl (lv_room (Nat.le_of_ble_eq_true rfl)) dX7_begin_171 ⟨Nat.le_of_ble_eq_true rfl, Nat.le_of_ble_eq_true rfl⟩) (fun u171 H locs h171 w => ?_)
              have w : Wd G _ s [(mO, .inr (7, [.ref mS, .ref mD, .ref mR, .ref mT, .int mt, .int ma, .int mn, .ref mW, .ref mQ, .ref mC, .int my, .ref mU, .ref mV, .int (nI u171.1), .int mf, .int mg])), (mS, .inl (G.2.1 2, 49, .inl fS)), (mQ, .inl (G.2.1 2, 200, .inl fQ)), (mC, .inl (G.2.1 3, 200, .inr (.inl lC))), (mU, .inl (G.2.1 2, 200, .inl u171.2.1)), (mV, .inl (G.2.1 3, 200, .inr (.inl u171.2.2)))] H locs := w
              refine lv_iinc (v := (nI (x74.1 + 1))) (lv' := [(5, .int (nI (x74.1 + 1))), (6, .int z125), (4, .int (nI x65.1)), (3, .int (fS (3 : Int32).toNatClampNeg)), (2, .int (nI qN)), (1, .int (nI pN)), (0, .ref mO)]) S.1 S.2.1 dX7_begin_174 hl (k := 1) rfl (nI_1 _) (by decide) rfl (fun ls hl => ?_)
              refine lv_goto (tgt := 74) S.1 S.2.1 dX7_begin_177 (by decide) ?_
              have hlt_ll : x74.1 < bN := by have h := c95; rw [nI_leI (by omega) (by omega)] at h; omega
              have hQ1 := h171
              have hI74b := hI74
              exact ih74 (x74.1 + 1, u171.1, u171.2.1, u171.2.2) ls _ _ (by dsimp only; omega) (by dsimp only; omega) w (lv_sub hl [0, 2, 3, 4, 5, 6] rfl)
            · refine lv_iload_n S.1 S.2.1 dX7_begin_135 rfl (lv_at hl 3 rfl) ?_
              refine lv_if_ne (tgt := 147) S.1 S.2.1 dX7_begin_136 (by decide) (fun c136 => ?_) (fun c136 => ?_)
              · refine lv_iload_n S.1 S.2.1 dX7_begin_147 rfl (lv_at hl 3 rfl) ?_
                refine lv_iconst (v := 3) S.1 S.2.1 dX7_begin_148 (by decide) ?_
                refine lv_icmp_ge (tgt := 163) S.1 S.2.1 dX7_begin_149 (by decide) (fun c149 => ?_) (fun c149 => ?_)
                · refine lv_ldc2 (own := RX7) (v := (-3)) S.1 S.2.1 S.2.2.2.1 (S.2.2.2.2 _ (List.mem_of_getElem? (i := 3) rfl)) dX7_begin_163 ?_
                  refine lv_lconst (v := 1) S.1 S.2.1 dX7_begin_166 (by decide) ?_
                  refine lv_iload S.1 S.2.1 dX7_begin_167 (lv_at hl 2 rfl) ?_
                  refine lv_lshl (v := ((1 : Int64) <<< ((nI x65.1).toInt64 &&& 63))) S.1 S.2.1 dX7_begin_169 rfl ?_
                  refine lv_lmul S.1 S.2.1 dX7_begin_170 ?_
                  exact J171 ((-3) * ((1 : Int64) <<< ((nI x65.1).toInt64 &&& 63))) (trivial)
                · refine lv_lconst (v := 1) S.1 S.2.1 dX7_begin_152 (by decide) ?_
                  refine lv_iload S.1 S.2.1 dX7_begin_153 (lv_at hl 2 rfl) ?_
                  refine lv_iload S.1 S.2.1 dX7_begin_155 (lv_at hl 1 rfl) ?_
                  refine lv_iadd S.1 S.2.1 dX7_begin_157 ?_
                  refine lv_lshl (v := ((1 : Int64) <<< (((nI x65.1) + (nI x74.1)).toInt64 &&& 63))) S.1 S.2.1 dX7_begin_158 rfl ?_
                  refine lv_lneg S.1 S.2.1 dX7_begin_159 ?_
                  refine lv_goto (tgt := 171) S.1 S.2.1 dX7_begin_160 (by decide) ?_
                  exact J171 (-((1 : Int64) <<< (((nI x65.1) + (nI x74.1)).toInt64 &&& 63))) (trivial)
              · refine lv_lconst (v := 1) S.1 S.2.1 dX7_begin_139 (by decide) ?_
                refine lv_iload S.1 S.2.1 dX7_begin_140 (lv_at hl 2 rfl) ?_
                refine lv_lshl (v := ((1 : Int64) <<< ((nI x65.1).toInt64 &&& 63))) S.1 S.2.1 dX7_begin_142 rfl ?_
                refine lv_lneg S.1 S.2.1 dX7_begin_143 ?_
                refine lv_goto (tgt := 171) S.1 S.2.1 dX7_begin_144 (by decide) ?_
                exact J171 (-((1 : Int64) <<< ((nI x65.1).toInt64 &&& 63))) (trivial)
          · refine lv_iload_n S.1 S.2.1 dX7_begin_98 rfl (lv_at hl 2 rfl) ?_
            refine lv_iconst (v := 1) S.1 S.2.1 dX7_begin_99 (by decide) ?_
            refine lv_icmp_ne (tgt := 112) S.1 S.2.1 dX7_begin_100 (by decide) (fun c100 => ?_) (fun c100 => ?_)
            · refine lv_iload_n S.1 S.2.1 dX7_begin_112 rfl (lv_at hl 2 rfl) ?_
              refine lv_iconst (v := 2) S.1 S.2.1 dX7_begin_113 (by decide) ?_
              refine lv_icmp_ne (tgt := 124) S.1 S.2.1 dX7_begin_114 (by decide) (fun c114 => ?_) (fun c114 => ?_)
              · refine lv_iconst (v := 0) S.1 S.2.1 dX7_begin_124 (by decide) ?_
                exact J125 0 (trivial)
              · refine lv_iconst (v := 1) S.1 S.2.1 dX7_begin_117 (by decide) ?_
                refine lv_iload S.1 S.2.1 dX7_begin_118 (lv_at hl 0 rfl) ?_
                refine lv_ishl S.1 S.2.1 dX7_begin_120 ?_
                refine lv_goto (tgt := 125) S.1 S.2.1 dX7_begin_121 (by decide) ?_
                exact J125 ((1 : Int32) <<< ((nI x74.1) &&& 31)) (trivial)
            · refine lv_iconst (v := 1) S.1 S.2.1 dX7_begin_103 (by decide) ?_
              refine lv_iload_n S.1 S.2.1 dX7_begin_104 rfl (lv_at hl 4 rfl) ?_
              refine lv_iload S.1 S.2.1 dX7_begin_105 (lv_at hl 0 rfl) ?_
              refine lv_iadd S.1 S.2.1 dX7_begin_107 ?_
              refine lv_ishl S.1 S.2.1 dX7_begin_108 ?_
              refine lv_goto (tgt := 125) S.1 S.2.1 dX7_begin_109 (by decide) ?_
              exact J125 ((1 : Int32) <<< (((nI pN) + (nI x74.1)) &&& 31)) (trivial)
      · refine lv_iload_n S.1 S.2.1 dX7_begin_76 rfl (lv_at hl 2 rfl) ?_
        refine lv_iconst (v := 1) S.1 S.2.1 dX7_begin_77 (by decide) ?_
        refine lv_icmp_ne (tgt := 85) S.1 S.2.1 dX7_begin_78 (by decide) (fun c78 => ?_) (fun c78 => ?_)
        · refine lv_iload_n S.1 S.2.1 dX7_begin_85 rfl (lv_at hl 2 rfl) ?_
          refine lv_iconst (v := 2) S.1 S.2.1 dX7_begin_86 (by decide) ?_
          refine lv_icmp_ne (tgt := 94) S.1 S.2.1 dX7_begin_87 (by decide) (fun c87 => ?_) (fun c87 => ?_)
          · refine lv_iconst (v := 1) S.1 S.2.1 dX7_begin_94 (by decide) ?_
            exact J95 1 (by first | exact hb1 c78 | exact hb2 c78 c87 | exact hb3 c78 c87)
          · refine lv_iload_n S.1 S.2.1 dX7_begin_90 rfl (lv_at hl 4 rfl) ?_
            refine lv_goto (tgt := 95) S.1 S.2.1 dX7_begin_91 (by decide) ?_
            exact J95 (nI pN) (by first | exact hb1 c78 | exact hb2 c78 c87 | exact hb3 c78 c87)
        · refine lv_iload_n S.1 S.2.1 dX7_begin_81 rfl (lv_at hl 3 rfl) ?_
          refine lv_goto (tgt := 95) S.1 S.2.1 dX7_begin_82 (by decide) ?_
          exact J95 (nI qN) (by first | exact hb1 c78 | exact hb2 c78 c87 | exact hb3 c78 c87)
  · refine lv_aload_n S.1 S.2.1 dX7_begin_17 rfl (lv_at hl 1 rfl) ?_
    refine lv_iconst (v := 1) S.1 S.2.1 dX7_begin_18 (by decide) ?_
    refine lv_aload_n S.1 S.2.1 dX7_begin_19 rfl (lv_at hl 1 rfl) ?_
    refine w_get S C w (CC := RX7) (T := TX7) (N := 16) (ref := "GateSumsModel") im_X7_begin_X7 0 rfl rfl 0 (by decide) (List.mem_of_getElem? (i := 2) rfl) (fun _ h => h) rfl dX7_begin_20 ?_
    refine lv_bipush (v := 42) S.1 S.2.1 dX7_begin_23 (by decide) ?_
    refine lv_iload_n S.1 S.2.1 dX7_begin_25 rfl (lv_at hl 0 rfl) ?_
    refine lv_iadd S.1 S.2.1 dX7_begin_26 ?_
    refine w_iald S C w 1 rfl (ixA 42 _ (by have h := c14; rw [nI_leI (by omega) (by omega)] at h; omega)) dX7_begin_27 ?_
    refine lv_ishl S.1 S.2.1 dX7_begin_28 ?_
    refine lv_lconst (v := 1) S.1 S.2.1 dX7_begin_29 (by decide) ?_
    refine lv_iload_n S.1 S.2.1 dX7_begin_30 rfl (lv_at hl 0 rfl) ?_
    refine lv_lshl (v := ((1 : Int64) <<< ((nI x7.1).toInt64 &&& 63))) S.1 S.2.1 dX7_begin_31 rfl ?_
    refine cq_v C w [0, 4, 5] [1, 2, 3] [3, 0, 1, 2, 4, 5] (wr := [(mS, .inl (G.2.1 2, 49, .inl fS)), (mQ, .inl (G.2.1 2, 200, .inl fQ)), (mC, .inl (G.2.1 3, 200, .inr (.inl lC)))]) (w' := fun u : Nat × (Nat → Int32) × (Nat → Int64) => [(mO, .inr (7, [.ref mS, .ref mD, .ref mR, .ref mT, .int mt, .int ma, .int mn, .ref mW, .ref mQ, .ref mC, .int my, .ref mU, .ref mV, .int (nI u.1), .int mf, .int mg])), (mU, .inl (G.2.1 2, 200, .inl u.2.1)), (mV, .inl (G.2.1 3, 200, .inr (.inl u.2.2)))]) (ws2 := fun u : Nat × (Nat → Int32) × (Nat → Int64) => [(mO, .inr (7, [.ref mS, .ref mD, .ref mR, .ref mT, .int mt, .int ma, .int mn, .ref mW, .ref mQ, .ref mC, .int my, .ref mU, .ref mV, .int (nI u.1), .int mf, .int mg])), (mS, .inl (G.2.1 2, 49, .inl fS)), (mQ, .inl (G.2.1 2, 200, .inl fQ)), (mC, .inl (G.2.1 3, 200, .inr (.inl lC))), (mU, .inl (G.2.1 2, 200, .inl u.2.1)), (mV, .inl (G.2.1 3, 200, .inr (.inl u.2.2)))]) rfl rfl rfl (by decide) rfl (fun _ => rfl) (va_runV (As := [.int ((1 : Int32) <<< ((fS (42 + (nI x7.1)).toNatClampNeg) &&& 31)), .long ((1 : Int64) <<< ((nI x7.1).toInt64 &&& 63))]) (rest := []) S (c_X7_adds l G mO mU mV _ mS mD mR mT mW mQ mC mt ma mn my mf mg x7.2.1 x7.2.2.1 x7.2.2.2 ((1 : Int32) <<< ((fS (42 + (nI x7.1)).toNatClampNeg) &&& 31)) ((1 : Int64) <<< ((nI x7.1).toInt64 &&& 63)) (by have := hI7; have h := c14; rw [nI_leI (by omega) (by omega)] at h; omega)) (cwV 2 S.2.2.2.2 gX7_begin_X7_adds rfl rfl rfl (by decide +kernel) ⟨Nat.le_of_ble_eq_true rfl, Nat.le_of_ble_eq_true rfl⟩) ⟨wPre_blind, va_recv C.1 w.1 (ci := 7) (q0 := 0) rfl rfl, wPre_at C w [0, 4, 5] rfl rfl⟩ rfl rfl hl.1 rfl (lv_room (Nat.le_of_ble_eq_true rfl)) dX7_begin_32 ⟨Nat.le_of_ble_eq_true rfl, Nat.le_of_ble_eq_true rfl⟩) (fun u32 H locs h32 w => ?_)
    have w : Wd G _ s [(mO, .inr (7, [.ref mS, .ref mD, .ref mR, .ref mT, .int mt, .int ma, .int mn, .ref mW, .ref mQ, .ref mC, .int my, .ref mU, .ref mV, .int (nI u32.1), .int mf, .int mg])), (mS, .inl (G.2.1 2, 49, .inl fS)), (mQ, .inl (G.2.1 2, 200, .inl fQ)), (mC, .inl (G.2.1 3, 200, .inr (.inl lC))), (mU, .inl (G.2.1 2, 200, .inl u32.2.1)), (mV, .inl (G.2.1 3, 200, .inr (.inl u32.2.2)))] H locs := w
    refine lv_iinc (v := (nI (x7.1 + 1))) (lv' := [(1, .int (nI (x7.1 + 1))), (0, .ref mO)]) S.1 S.2.1 dX7_begin_35 hl (k := 0) rfl (nI_1 _) (by decide) rfl (fun ls hl => ?_)
    refine lv_goto (tgt := 7) S.1 S.2.1 dX7_begin_38 (by decide) ?_
    have hlt_jj : x7.1 < oN := by have h := c14; rw [nI_leI (by omega) (by omega)] at h; omega
    have hQ1 := h32
    have hI7b := hI7
    exact ih7 (x7.1 + 1, u32.1, u32.2.1, u32.2.2) ls _ _ (by dsimp only; omega) (by dsimp only; omega) w (lv_sub hl [0, 1] rfl)
theorem im_X7_puts_X7 : ∀ w ∈ u_ws RX7 TX7 16, w ∈ wsX7_puts := by decide +kernel
set_option maxHeartbeats 4000000 in
set_option maxRecDepth 100000 in
theorem c_X7_puts (l : Launch) (G : GT) (mO mS mU mV : Nat) (sz : Nat) (mD mR mT mW mQ mC : Nat) (mt ma mn my mf mg : Int32) (mM gg : Nat) (fS fU : Nat → Int32) (lV : Nat → Int64) (x0 : Int32) (b0 : Int64) (hgg : gg < 12) (hm : mM + 4 ≤ 200) : Met l yX7_puts wsX7_puts ({ frames := 1, cells := 0, slots := 0, locals := 24 }) (va_Pc [.ref mO, .int (nI gg), .int x0, .long b0] (wPre G [(mO, .inr (7, [.ref mS, .ref mD, .ref mR, .ref mT, .int mt, .int ma, .int mn, .ref mW, .ref mQ, .ref mC, .int my, .ref mU, .ref mV, .int (nI mM), .int mf, .int mg])), (mS, .inl (G.2.1 2, 49, .inl fS)), (mU, .inl (G.2.1 2, 200, .inl fU)), (mV, .inl (G.2.1 3, 200, .inr (.inl lV)))] sz)) (va_Qv (fun u : Nat × (Nat → Int32) × (Nat → Int64) => mM ≤ u.1 ∧ u.1 ≤ mM + 4) (bW G (va_A [(mO, .inr (7, [.ref mS, .ref mD, .ref mR, .ref mT, .int mt, .int ma, .int mn, .ref mW, .ref mQ, .ref mC, .int my, .ref mU, .ref mV, .int (nI mM), .int mf, .int mg])), (mS, .inl (G.2.1 2, 49, .inl fS)), (mU, .inl (G.2.1 2, 200, .inl fU)), (mV, .inl (G.2.1 3, 200, .inr (.inl lV)))] sz) (fun u : Nat × (Nat → Int32) × (Nat → Int64) => [(mO, .inr (7, [.ref mS, .ref mD, .ref mR, .ref mT, .int mt, .int ma, .int mn, .ref mW, .ref mQ, .ref mC, .int my, .ref mU, .ref mV, .int (nI u.1), .int mf, .int mg])), (mS, .inl (G.2.1 2, 49, .inl fS)), (mU, .inl (G.2.1 2, 200, .inl u.2.1)), (mV, .inl (G.2.1 3, 200, .inr (.inl u.2.2)))])) (va_A [(mO, .inr (7, [.ref mS, .ref mD, .ref mR, .ref mT, .int mt, .int ma, .int mn, .ref mW, .ref mQ, .ref mC, .int my, .ref mU, .ref mV, .int (nI mM), .int mf, .int mg])), (mS, .inl (G.2.1 2, 49, .inl fS)), (mU, .inl (G.2.1 2, 200, .inl fU)), (mV, .inl (G.2.1 3, 200, .inr (.inl lV)))] sz)) 0 0 (va_A [(mO, .inr (7, [.ref mS, .ref mD, .ref mR, .ref mT, .int mt, .int ma, .int mn, .ref mW, .ref mQ, .ref mC, .int my, .ref mU, .ref mV, .int (nI mM), .int mf, .int mg])), (mS, .inl (G.2.1 2, 49, .inl fS)), (mU, .inl (G.2.1 2, 200, .inl fU)), (mV, .inl (G.2.1 3, 200, .inr (.inl lV)))] sz) := by
  refine met_go (cc := cX7_puts) (maxL := 15) (ret := none) (own := RX7) (by decide) rfl rfl (Nat.le_of_ble_eq_true rfl) ?_
  intro p e s m below meth c ls S hr hlocks hname hsz C w hl
  have hl : lv_has ls 15 [(0, .ref mO), (1, .int (nI gg)), (2, .int x0), (3, .long b0)] := hl
  refine lv_iconst (v := 1) S.1 S.2.1 dX7_puts_0 (by decide) ?_
  refine lv_aload_n S.1 S.2.1 dX7_puts_1 rfl (lv_at hl 0 rfl) ?_
  refine w_get S C w (CC := RX7) (T := TX7) (N := 16) (ref := "GateSumsModel") im_X7_puts_X7 0 rfl rfl 0 (by decide) (List.mem_of_getElem? (i := 1) rfl) (fun _ h => h) rfl dX7_puts_2 ?_
  refine lv_bipush (v := 18) S.1 S.2.1 dX7_puts_5 (by decide) ?_
  refine lv_iload_n S.1 S.2.1 dX7_puts_7 rfl (lv_at hl 1 rfl) ?_
  refine lv_iadd S.1 S.2.1 dX7_puts_8 ?_
  refine w_iald S C w 1 rfl (ixA 18 _ (by omega)) dX7_puts_9 ?_
  refine lv_ishl S.1 S.2.1 dX7_puts_10 ?_
  refine lv_istore (lv' := [(5, .int ((1 : Int32) <<< ((fS (18 + (nI gg)).toNatClampNeg) &&& 31))), (0, .ref mO), (1, .int (nI gg)), (2, .int x0), (3, .long b0)]) S.1 S.2.1 dX7_puts_11 hl (by decide) rfl (fun ls hl => ?_)
  refine lv_aload_n S.1 S.2.1 dX7_puts_13 rfl (lv_at hl 1 rfl) ?_
  refine w_get S C w (CC := RX7) (T := TX7) (N := 16) (ref := "GateSumsModel") im_X7_puts_X7 0 rfl rfl 0 (by decide) (List.mem_of_getElem? (i := 1) rfl) (fun _ h => h) rfl dX7_puts_14 ?_
  refine lv_bipush (v := 6) S.1 S.2.1 dX7_puts_17 (by decide) ?_
  refine lv_iload_n S.1 S.2.1 dX7_puts_19 rfl (lv_at hl 2 rfl) ?_
  refine lv_iadd S.1 S.2.1 dX7_puts_20 ?_
  refine w_iald S C w 1 rfl (ixA 6 _ (by omega)) dX7_puts_21 ?_
  refine lv_istore (lv' := [(6, .int (fS (6 + (nI gg)).toNatClampNeg)), (5, .int ((1 : Int32) <<< ((fS (18 + (nI gg)).toNatClampNeg) &&& 31))), (0, .ref mO), (1, .int (nI gg)), (2, .int x0), (3, .long b0)]) S.1 S.2.1 dX7_puts_22 hl (by decide) rfl (fun ls hl => ?_)
  refine w_joini 44 [] (fun z44 => True) (fun z44 hz44 => ?_) (fun J44 => ?_)
  · refine lv_istore (lv' := [(7, .int z44), (6, .int (fS (6 + (nI gg)).toNatClampNeg)), (5, .int ((1 : Int32) <<< ((fS (18 + (nI gg)).toNatClampNeg) &&& 31))), (0, .ref mO), (1, .int (nI gg)), (2, .int x0), (3, .long b0)]) S.1 S.2.1 dX7_puts_44 hl (by decide) rfl (fun ls hl => ?_)
    refine w_joini 75 [] (fun z75 => True) (fun z75 hz75 => ?_) (fun J75 => ?_)
    · refine lv_istore (lv' := [(8, .int z75), (7, .int z44), (6, .int (fS (6 + (nI gg)).toNatClampNeg)), (5, .int ((1 : Int32) <<< ((fS (18 + (nI gg)).toNatClampNeg) &&& 31))), (0, .ref mO), (1, .int (nI gg)), (2, .int x0), (3, .long b0)]) S.1 S.2.1 dX7_puts_75 hl (by decide) rfl (fun ls hl => ?_)
      refine w_joini 94 [] (fun z94 => True) (fun z94 hz94 => ?_) (fun J94 => ?_)
      · refine lv_istore (lv' := [(9, .int z94), (8, .int z75), (7, .int z44), (6, .int (fS (6 + (nI gg)).toNatClampNeg)), (5, .int ((1 : Int32) <<< ((fS (18 + (nI gg)).toNatClampNeg) &&& 31))), (0, .ref mO), (1, .int (nI gg)), (2, .int x0), (3, .long b0)]) S.1 S.2.1 dX7_puts_94 hl (by decide) rfl (fun ls hl => ?_)
        refine w_joini 126 [] (fun z126 => True) (fun z126 hz126 => ?_) (fun J126 => ?_)
        · refine lv_istore (lv' := [(10, .int z126), (9, .int z94), (8, .int z75), (7, .int z44), (6, .int (fS (6 + (nI gg)).toNatClampNeg)), (5, .int ((1 : Int32) <<< ((fS (18 + (nI gg)).toNatClampNeg) &&& 31))), (0, .ref mO), (1, .int (nI gg)), (2, .int x0), (3, .long b0)]) S.1 S.2.1 dX7_puts_126 hl (by decide) rfl (fun ls hl => ?_)
          refine lv_iload S.1 S.2.1 dX7_puts_128 (lv_at hl 2 rfl) ?_
          refine lv_if_eq (tgt := 139) S.1 S.2.1 dX7_puts_130 (by decide) (fun c130 => ?_) (fun c130 => ?_)
          · refine w_joinl 150 [] (fun z150 => True) (fun z150 hz150 => ?_) (fun J150 => ?_)
            · refine lv_lstore (lv' := [(11, .long z150), (10, .int z126), (9, .int z94), (8, .int z75), (7, .int z44), (6, .int (fS (6 + (nI gg)).toNatClampNeg)), (5, .int ((1 : Int32) <<< ((fS (18 + (nI gg)).toNatClampNeg) &&& 31))), (0, .ref mO), (1, .int (nI gg)), (2, .int x0), (3, .long b0)]) S.1 S.2.1 dX7_puts_150 hl (by decide) rfl (fun ls hl => ?_)
              refine lv_iload S.1 S.2.1 dX7_puts_152 (lv_at hl 2 rfl) ?_
              refine lv_if_eq (tgt := 167) S.1 S.2.1 dX7_puts_154 (by decide) (fun c154 => ?_) (fun c154 => ?_)
              · refine lv_iload S.1 S.2.1 dX7_puts_167 (lv_at hl 1 rfl) ?_
                refine lv_if_eq (tgt := 182) S.1 S.2.1 dX7_puts_169 (by decide) (fun c169 => ?_) (fun c169 => ?_)
                · refine lv_iload S.1 S.2.1 dX7_puts_182 (lv_at hl 5 rfl) ?_
                  refine lv_if_eq (tgt := 248) S.1 S.2.1 dX7_puts_184 (by decide) (fun c184 => ?_) (fun c184 => ?_)
                  · exact W.vret S.1 S.2.1 hr (fun t ht _ => ⟨⟨(mM, fU, lV), rfl, by dsimp only; omega, by rw [ht]; exact w.1, w.2.1⟩, w.2.2.F ht⟩) w.2.2.2.2 dX7_puts_248
                  · refine w_joini 205 [] (fun z205 => True) (fun z205 hz205 => ?_) (fun J205 => ?_)
                    · refine lv_istore (lv' := [(13, .int z205), (11, .long z150), (10, .int z126), (9, .int z94), (8, .int z75), (7, .int z44), (6, .int (fS (6 + (nI gg)).toNatClampNeg)), (5, .int ((1 : Int32) <<< ((fS (18 + (nI gg)).toNatClampNeg) &&& 31))), (0, .ref mO), (1, .int (nI gg)), (2, .int x0), (3, .long b0)]) S.1 S.2.1 dX7_puts_205 hl (by decide) rfl (fun ls hl => ?_)
                      refine lv_iload S.1 S.2.1 dX7_puts_207 (lv_at hl 3 rfl) ?_
                      refine lv_istore (lv' := [(14, .int z94), (13, .int z205), (11, .long z150), (10, .int z126), (9, .int z94), (8, .int z75), (7, .int z44), (6, .int (fS (6 + (nI gg)).toNatClampNeg)), (5, .int ((1 : Int32) <<< ((fS (18 + (nI gg)).toNatClampNeg) &&& 31))), (0, .ref mO), (1, .int (nI gg)), (2, .int x0), (3, .long b0)]) S.1 S.2.1 dX7_puts_209 hl (by decide) rfl (fun ls hl => ?_)
                      refine lv_aload_n S.1 S.2.1 dX7_puts_211 rfl (lv_at hl 9 rfl) ?_
                      refine lv_iload_n S.1 S.2.1 dX7_puts_212 rfl (lv_at hl 11 rfl) ?_
                      refine lv_iload S.1 S.2.1 dX7_puts_213 (lv_at hl 8 rfl) ?_
                      refine lv_ior S.1 S.2.1 dX7_puts_215 ?_
                      refine lv_iload S.1 S.2.1 dX7_puts_216 (lv_at hl 6 rfl) ?_
                      refine lv_ior S.1 S.2.1 dX7_puts_218 ?_
                      refine w_joinl 232 [.int ((x0 ||| ((1 : Int32) <<< ((fS (18 + (nI gg)).toNatClampNeg) &&& 31))) ||| z44), .ref mO] (fun z232 => True) (fun z232 hz232 => ?_) (fun J232 => ?_)
                      · refine w_joinl 244 [.long z232, .int ((x0 ||| ((1 : Int32) <<< ((fS (18 + (nI gg)).toNatClampNeg) &&& 31))) ||| z44), .ref mO] (fun z244 => True) (fun z244 hz244 => ?_) (fun J244 => ?_)
                        · refine lv_lmul S.1 S.2.1 dX7_puts_244 ?_
                          refine cq_v C w [0, 2, 3] [1] [1, 0, 2, 3] (wr := [(mS, .inl (G.2.1 2, 49, .inl fS))]) (w' := fun u : Nat × (Nat → Int32) × (Nat → Int64) => [(mO, .inr (7, [.ref mS, .ref mD, .ref mR, .ref mT, .int mt, .int ma, .int mn, .ref mW, .ref mQ, .ref mC, .int my, .ref mU, .ref mV, .int (nI u.1), .int mf, .int mg])), (mU, .inl (G.2.1 2, 200, .inl u.2.1)), (mV, .inl (G.2.1 3, 200, .inr (.inl u.2.2)))]) (ws2 := fun u : Nat × (Nat → Int32) × (Nat → Int64) => [(mO, .inr (7, [.ref mS, .ref mD, .ref mR, .ref mT, .int mt, .int ma, .int mn, .ref mW, .ref mQ, .ref mC, .int my, .ref mU, .ref mV, .int (nI u.1), .int mf, .int mg])), (mS, .inl (G.2.1 2, 49, .inl fS)), (mU, .inl (G.2.1 2, 200, .inl u.2.1)), (mV, .inl (G.2.1 3, 200, .inr (.inl u.2.2)))]) rfl rfl rfl (by decide) rfl (fun _ => rfl) (va_runV (As := [.int ((x0 ||| ((1 : Int32) <<< ((fS (18 + (nI gg)).toNatClampNeg) &&& 31))) ||| z44), .long (z232 * z244)]) (rest := []) S (c_X7_adds l G mO mU mV _ mS mD mR mT mW mQ mC mt ma mn my mf mg mM fU lV ((x0 ||| ((1 : Int32) <<< ((fS (18 + (nI gg)).toNatClampNeg) &&& 31))) ||| z44) (z232 * z244) (by omega)) (cwV 2 S.2.2.2.2 gX7_puts_X7_adds rfl rfl rfl (by decide +kernel) ⟨Nat.le_of_ble_eq_true rfl, Nat.le_of_ble_eq_true rfl⟩) ⟨wPre_blind, va_recv C.1 w.1 (ci := 7) (q0 := 0) rfl rfl, wPre_at C w [0, 2, 3] rfl rfl⟩ rfl rfl hl.1 rfl (lv_room (Nat.le_of_ble_eq_true rfl)) dX7_puts_245 ⟨Nat.le_of_ble_eq_true rfl, Nat.le_of_ble_eq_true rfl⟩) (fun u245 H locs h245 w => ?_)
                          have w : Wd G _ s [(mO, .inr (7, [.ref mS, .ref mD, .ref mR, .ref mT, .int mt, .int ma, .int mn, .ref mW, .ref mQ, .ref mC, .int my, .ref mU, .ref mV, .int (nI u245.1), .int mf, .int mg])), (mS, .inl (G.2.1 2, 49, .inl fS)), (mU, .inl (G.2.1 2, 200, .inl u245.2.1)), (mV, .inl (G.2.1 3, 200, .inr (.inl u245.2.2)))] H locs := w
                          exact W.vret S.1 S.2.1 hr (fun t ht _ => ⟨⟨(u245.1, u245.2.1, u245.2.2), rfl, by dsimp only; omega, by rw [ht]; exact w.1, w.2.1⟩, w.2.2.F ht⟩) w.2.2.2.2 dX7_puts_248
                        · refine lv_iload S.1 S.2.1 dX7_puts_232 (lv_at hl 1 rfl) ?_
                          refine lv_if_eq (tgt := 243) S.1 S.2.1 dX7_puts_234 (by decide) (fun c234 => ?_) (fun c234 => ?_)
                          · refine lv_lconst (v := 1) S.1 S.2.1 dX7_puts_243 (by decide) ?_
                            exact J244 1 (trivial)
                          · refine lv_ldc2 (own := RX7) (v := 2) S.1 S.2.1 S.2.2.2.1 (S.2.2.2.2 _ (List.mem_of_getElem? (i := 2) rfl)) dX7_puts_237 ?_
                            refine lv_goto (tgt := 244) S.1 S.2.1 dX7_puts_240 (by decide) ?_
                            exact J244 2 (trivial)
                      · refine lv_iload S.1 S.2.1 dX7_puts_219 (lv_at hl 0 rfl) ?_
                        refine lv_if_eq (tgt := 230) S.1 S.2.1 dX7_puts_221 (by decide) (fun c221 => ?_) (fun c221 => ?_)
                        · refine lv_lload S.1 S.2.1 dX7_puts_230 (lv_at hl 2 rfl) ?_
                          exact J232 z150 (trivial)
                        · refine lv_lload S.1 S.2.1 dX7_puts_224 (lv_at hl 2 rfl) ?_
                          refine lv_lneg S.1 S.2.1 dX7_puts_226 ?_
                          refine lv_goto (tgt := 232) S.1 S.2.1 dX7_puts_227 (by decide) ?_
                          exact J232 (-z150) (trivial)
                    · refine lv_iload S.1 S.2.1 dX7_puts_187 (lv_at hl 5 rfl) ?_
                      refine lv_iconst (v := 3) S.1 S.2.1 dX7_puts_189 (by decide) ?_
                      refine lv_icmp_eq (tgt := 200) S.1 S.2.1 dX7_puts_190 (by decide) (fun c190 => ?_) (fun c190 => ?_)
                      · refine lv_iconst (v := 1) S.1 S.2.1 dX7_puts_200 (by decide) ?_
                        refine lv_goto (tgt := 205) S.1 S.2.1 dX7_puts_201 (by decide) ?_
                        exact J205 1 (trivial)
                      · refine lv_iload S.1 S.2.1 dX7_puts_193 (lv_at hl 5 rfl) ?_
                        refine lv_bipush (v := 6) S.1 S.2.1 dX7_puts_195 (by decide) ?_
                        refine lv_icmp_ne (tgt := 204) S.1 S.2.1 dX7_puts_197 (by decide) (fun c197 => ?_) (fun c197 => ?_)
                        · refine lv_iconst (v := 0) S.1 S.2.1 dX7_puts_204 (by decide) ?_
                          exact J205 0 (trivial)
                        · refine lv_iconst (v := 1) S.1 S.2.1 dX7_puts_200 (by decide) ?_
                          refine lv_goto (tgt := 205) S.1 S.2.1 dX7_puts_201 (by decide) ?_
                          exact J205 1 (trivial)
                · refine lv_aload_n S.1 S.2.1 dX7_puts_172 rfl (lv_at hl 7 rfl) ?_
                  refine lv_iload_n S.1 S.2.1 dX7_puts_173 rfl (lv_at hl 9 rfl) ?_
                  refine lv_iload S.1 S.2.1 dX7_puts_174 (lv_at hl 4 rfl) ?_
                  refine lv_ior S.1 S.2.1 dX7_puts_176 ?_
                  refine lv_lload S.1 S.2.1 dX7_puts_177 (lv_at hl 0 rfl) ?_
                  refine cq_v C w [0, 2, 3] [1] [1, 0, 2, 3] (wr := [(mS, .inl (G.2.1 2, 49, .inl fS))]) (w' := fun u : Nat × (Nat → Int32) × (Nat → Int64) => [(mO, .inr (7, [.ref mS, .ref mD, .ref mR, .ref mT, .int mt, .int ma, .int mn, .ref mW, .ref mQ, .ref mC, .int my, .ref mU, .ref mV, .int (nI u.1), .int mf, .int mg])), (mU, .inl (G.2.1 2, 200, .inl u.2.1)), (mV, .inl (G.2.1 3, 200, .inr (.inl u.2.2)))]) (ws2 := fun u : Nat × (Nat → Int32) × (Nat → Int64) => [(mO, .inr (7, [.ref mS, .ref mD, .ref mR, .ref mT, .int mt, .int ma, .int mn, .ref mW, .ref mQ, .ref mC, .int my, .ref mU, .ref mV, .int (nI u.1), .int mf, .int mg])), (mS, .inl (G.2.1 2, 49, .inl fS)), (mU, .inl (G.2.1 2, 200, .inl u.2.1)), (mV, .inl (G.2.1 3, 200, .inr (.inl u.2.2)))]) rfl rfl rfl (by decide) rfl (fun _ => rfl) (va_runV (As := [.int (x0 ||| z44), .long z150]) (rest := []) S (c_X7_adds l G mO mU mV _ mS mD mR mT mW mQ mC mt ma mn my mf mg mM fU lV (x0 ||| z44) z150 (by omega)) (cwV 2 S.2.2.2.2 gX7_puts_X7_adds rfl rfl rfl (by decide +kernel) ⟨Nat.le_of_ble_eq_true rfl, Nat.le_of_ble_eq_true rfl⟩) ⟨wPre_blind, va_recv C.1 w.1 (ci := 7) (q0 := 0) rfl rfl, wPre_at C w [0, 2, 3] rfl rfl⟩ rfl rfl hl.1 rfl (lv_room (Nat.le_of_ble_eq_true rfl)) dX7_puts_179 ⟨Nat.le_of_ble_eq_true rfl, Nat.le_of_ble_eq_true rfl⟩) (fun u179 H locs h179 w => ?_)
                  have w : Wd G _ s [(mO, .inr (7, [.ref mS, .ref mD, .ref mR, .ref mT, .int mt, .int ma, .int mn, .ref mW, .ref mQ, .ref mC, .int my, .ref mU, .ref mV, .int (nI u179.1), .int mf, .int mg])), (mS, .inl (G.2.1 2, 49, .inl fS)), (mU, .inl (G.2.1 2, 200, .inl u179.2.1)), (mV, .inl (G.2.1 3, 200, .inr (.inl u179.2.2)))] H locs := w
                  refine lv_iload S.1 S.2.1 dX7_puts_182 (lv_at hl 5 rfl) ?_
                  refine lv_if_eq (tgt := 248) S.1 S.2.1 dX7_puts_184 (by decide) (fun c184_1 => ?_) (fun c184_1 => ?_)
                  · exact W.vret S.1 S.2.1 hr (fun t ht _ => ⟨⟨(u179.1, u179.2.1, u179.2.2), rfl, by dsimp only; omega, by rw [ht]; exact w.1, w.2.1⟩, w.2.2.F ht⟩) w.2.2.2.2 dX7_puts_248
                  · refine w_joini 205 [] (fun z205 => True) (fun z205 hz205 => ?_) (fun J205 => ?_)
                    · refine lv_istore (lv' := [(13, .int z205), (11, .long z150), (10, .int z126), (9, .int z94), (8, .int z75), (7, .int z44), (6, .int (fS (6 + (nI gg)).toNatClampNeg)), (5, .int ((1 : Int32) <<< ((fS (18 + (nI gg)).toNatClampNeg) &&& 31))), (0, .ref mO), (1, .int (nI gg)), (2, .int x0), (3, .long b0)]) S.1 S.2.1 dX7_puts_205 hl (by decide) rfl (fun ls hl => ?_)
                      refine lv_iload S.1 S.2.1 dX7_puts_207 (lv_at hl 3 rfl) ?_
                      refine lv_istore (lv' := [(14, .int z94), (13, .int z205), (11, .long z150), (10, .int z126), (9, .int z94), (8, .int z75), (7, .int z44), (6, .int (fS (6 + (nI gg)).toNatClampNeg)), (5, .int ((1 : Int32) <<< ((fS (18 + (nI gg)).toNatClampNeg) &&& 31))), (0, .ref mO), (1, .int (nI gg)), (2, .int x0), (3, .long b0)]) S.1 S.2.1 dX7_puts_209 hl (by decide) rfl (fun ls hl => ?_)
                      refine lv_aload_n S.1 S.2.1 dX7_puts_211 rfl (lv_at hl 9 rfl) ?_
                      refine lv_iload_n S.1 S.2.1 dX7_puts_212 rfl (lv_at hl 11 rfl) ?_
                      refine lv_iload S.1 S.2.1 dX7_puts_213 (lv_at hl 8 rfl) ?_
                      refine lv_ior S.1 S.2.1 dX7_puts_215 ?_
                      refine lv_iload S.1 S.2.1 dX7_puts_216 (lv_at hl 6 rfl) ?_
                      refine lv_ior S.1 S.2.1 dX7_puts_218 ?_
                      refine w_joinl 232 [.int ((x0 ||| ((1 : Int32) <<< ((fS (18 + (nI gg)).toNatClampNeg) &&& 31))) ||| z44), .ref mO] (fun z232 => True) (fun z232 hz232 => ?_) (fun J232 => ?_)
                      · refine w_joinl 244 [.long z232, .int ((x0 ||| ((1 : Int32) <<< ((fS (18 + (nI gg)).toNatClampNeg) &&& 31))) ||| z44), .ref mO] (fun z244 => True) (fun z244 hz244 => ?_) (fun J244 => ?_)
                        · refine lv_lmul S.1 S.2.1 dX7_puts_244 ?_
                          refine cq_v C w [0, 2, 3] [1] [1, 0, 2, 3] (wr := [(mS, .inl (G.2.1 2, 49, .inl fS))]) (w' := fun u : Nat × (Nat → Int32) × (Nat → Int64) => [(mO, .inr (7, [.ref mS, .ref mD, .ref mR, .ref mT, .int mt, .int ma, .int mn, .ref mW, .ref mQ, .ref mC, .int my, .ref mU, .ref mV, .int (nI u.1), .int mf, .int mg])), (mU, .inl (G.2.1 2, 200, .inl u.2.1)), (mV, .inl (G.2.1 3, 200, .inr (.inl u.2.2)))]) (ws2 := fun u : Nat × (Nat → Int32) × (Nat → Int64) => [(mO, .inr (7, [.ref mS, .ref mD, .ref mR, .ref mT, .int mt, .int ma, .int mn, .ref mW, .ref mQ, .ref mC, .int my, .ref mU, .ref mV, .int (nI u.1), .int mf, .int mg])), (mS, .inl (G.2.1 2, 49, .inl fS)), (mU, .inl (G.2.1 2, 200, .inl u.2.1)), (mV, .inl (G.2.1 3, 200, .inr (.inl u.2.2)))]) rfl rfl rfl (by decide) rfl (fun _ => rfl) (va_runV (As := [.int ((x0 ||| ((1 : Int32) <<< ((fS (18 + (nI gg)).toNatClampNeg) &&& 31))) ||| z44), .long (z232 * z244)]) (rest := []) S (c_X7_adds l G mO mU mV _ mS mD mR mT mW mQ mC mt ma mn my mf mg u179.1 u179.2.1 u179.2.2 ((x0 ||| ((1 : Int32) <<< ((fS (18 + (nI gg)).toNatClampNeg) &&& 31))) ||| z44) (z232 * z244) (by omega)) (cwV 2 S.2.2.2.2 gX7_puts_X7_adds rfl rfl rfl (by decide +kernel) ⟨Nat.le_of_ble_eq_true rfl, Nat.le_of_ble_eq_true rfl⟩) ⟨wPre_blind, va_recv C.1 w.1 (ci := 7) (q0 := 0) rfl rfl, wPre_at C w [0, 2, 3] rfl rfl⟩ rfl rfl hl.1 rfl (lv_room (Nat.le_of_ble_eq_true rfl)) dX7_puts_245 ⟨Nat.le_of_ble_eq_true rfl, Nat.le_of_ble_eq_true rfl⟩) (fun u245_1 H locs h245_1 w => ?_)
                          have w : Wd G _ s [(mO, .inr (7, [.ref mS, .ref mD, .ref mR, .ref mT, .int mt, .int ma, .int mn, .ref mW, .ref mQ, .ref mC, .int my, .ref mU, .ref mV, .int (nI u245_1.1), .int mf, .int mg])), (mS, .inl (G.2.1 2, 49, .inl fS)), (mU, .inl (G.2.1 2, 200, .inl u245_1.2.1)), (mV, .inl (G.2.1 3, 200, .inr (.inl u245_1.2.2)))] H locs := w
                          exact W.vret S.1 S.2.1 hr (fun t ht _ => ⟨⟨(u245_1.1, u245_1.2.1, u245_1.2.2), rfl, by dsimp only; omega, by rw [ht]; exact w.1, w.2.1⟩, w.2.2.F ht⟩) w.2.2.2.2 dX7_puts_248
                        · refine lv_iload S.1 S.2.1 dX7_puts_232 (lv_at hl 1 rfl) ?_
                          refine lv_if_eq (tgt := 243) S.1 S.2.1 dX7_puts_234 (by decide) (fun c234_1 => ?_) (fun c234_1 => ?_)
                          · refine lv_lconst (v := 1) S.1 S.2.1 dX7_puts_243 (by decide) ?_
                            exact J244 1 (trivial)
                          · refine lv_ldc2 (own := RX7) (v := 2) S.1 S.2.1 S.2.2.2.1 (S.2.2.2.2 _ (List.mem_of_getElem? (i := 2) rfl)) dX7_puts_237 ?_
                            refine lv_goto (tgt := 244) S.1 S.2.1 dX7_puts_240 (by decide) ?_
                            exact J244 2 (trivial)
                      · refine lv_iload S.1 S.2.1 dX7_puts_219 (lv_at hl 0 rfl) ?_
                        refine lv_if_eq (tgt := 230) S.1 S.2.1 dX7_puts_221 (by decide) (fun c221_1 => ?_) (fun c221_1 => ?_)
                        · refine lv_lload S.1 S.2.1 dX7_puts_230 (lv_at hl 2 rfl) ?_
                          exact J232 z150 (trivial)
                        · refine lv_lload S.1 S.2.1 dX7_puts_224 (lv_at hl 2 rfl) ?_
                          refine lv_lneg S.1 S.2.1 dX7_puts_226 ?_
                          refine lv_goto (tgt := 232) S.1 S.2.1 dX7_puts_227 (by decide) ?_
                          exact J232 (-z150) (trivial)
                    · refine lv_iload S.1 S.2.1 dX7_puts_187 (lv_at hl 5 rfl) ?_
                      refine lv_iconst (v := 3) S.1 S.2.1 dX7_puts_189 (by decide) ?_
                      refine lv_icmp_eq (tgt := 200) S.1 S.2.1 dX7_puts_190 (by decide) (fun c190_1 => ?_) (fun c190_1 => ?_)
                      · refine lv_iconst (v := 1) S.1 S.2.1 dX7_puts_200 (by decide) ?_
                        refine lv_goto (tgt := 205) S.1 S.2.1 dX7_puts_201 (by decide) ?_
                        exact J205 1 (trivial)
                      · refine lv_iload S.1 S.2.1 dX7_puts_193 (lv_at hl 5 rfl) ?_
                        refine lv_bipush (v := 6) S.1 S.2.1 dX7_puts_195 (by decide) ?_
                        refine lv_icmp_ne (tgt := 204) S.1 S.2.1 dX7_puts_197 (by decide) (fun c197_1 => ?_) (fun c197_1 => ?_)
                        · refine lv_iconst (v := 0) S.1 S.2.1 dX7_puts_204 (by decide) ?_
                          exact J205 0 (trivial)
                        · refine lv_iconst (v := 1) S.1 S.2.1 dX7_puts_200 (by decide) ?_
                          refine lv_goto (tgt := 205) S.1 S.2.1 dX7_puts_201 (by decide) ?_
                          exact J205 1 (trivial)
              · refine lv_aload_n S.1 S.2.1 dX7_puts_157 rfl (lv_at hl 7 rfl) ?_
                refine lv_iload_n S.1 S.2.1 dX7_puts_158 rfl (lv_at hl 9 rfl) ?_
                refine lv_iload S.1 S.2.1 dX7_puts_159 (lv_at hl 6 rfl) ?_
                refine lv_ior S.1 S.2.1 dX7_puts_161 ?_
                refine lv_lload S.1 S.2.1 dX7_puts_162 (lv_at hl 0 rfl) ?_
                refine cq_v C w [0, 2, 3] [1] [1, 0, 2, 3] (wr := [(mS, .inl (G.2.1 2, 49, .inl fS))]) (w' := fun u : Nat × (Nat → Int32) × (Nat → Int64) => [(mO, .inr (7, [.ref mS, .ref mD, .ref mR, .ref mT, .int mt, .int ma, .int mn, .ref mW, .ref mQ, .ref mC, .int my, .ref mU, .ref mV, .int (nI u.1), .int mf, .int mg])), (mU, .inl (G.2.1 2, 200, .inl u.2.1)), (mV, .inl (G.2.1 3, 200, .inr (.inl u.2.2)))]) (ws2 := fun u : Nat × (Nat → Int32) × (Nat → Int64) => [(mO, .inr (7, [.ref mS, .ref mD, .ref mR, .ref mT, .int mt, .int ma, .int mn, .ref mW, .ref mQ, .ref mC, .int my, .ref mU, .ref mV, .int (nI u.1), .int mf, .int mg])), (mS, .inl (G.2.1 2, 49, .inl fS)), (mU, .inl (G.2.1 2, 200, .inl u.2.1)), (mV, .inl (G.2.1 3, 200, .inr (.inl u.2.2)))]) rfl rfl rfl (by decide) rfl (fun _ => rfl) (va_runV (As := [.int (x0 ||| ((1 : Int32) <<< ((fS (18 + (nI gg)).toNatClampNeg) &&& 31))), .long z150]) (rest := []) S (c_X7_adds l G mO mU mV _ mS mD mR mT mW mQ mC mt ma mn my mf mg mM fU lV (x0 ||| ((1 : Int32) <<< ((fS (18 + (nI gg)).toNatClampNeg) &&& 31))) z150 (by omega)) (cwV 2 S.2.2.2.2 gX7_puts_X7_adds rfl rfl rfl (by decide +kernel) ⟨Nat.le_of_ble_eq_true rfl, Nat.le_of_ble_eq_true rfl⟩) ⟨wPre_blind, va_recv C.1 w.1 (ci := 7) (q0 := 0) rfl rfl, wPre_at C w [0, 2, 3] rfl rfl⟩ rfl rfl hl.1 rfl (lv_room (Nat.le_of_ble_eq_true rfl)) dX7_puts_164 ⟨Nat.le_of_ble_eq_true rfl, Nat.le_of_ble_eq_true rfl⟩) (fun u164 H locs h164 w => ?_)
                have w : Wd G _ s [(mO, .inr (7, [.ref mS, .ref mD, .ref mR, .ref mT, .int mt, .int ma, .int mn, .ref mW, .ref mQ, .ref mC, .int my, .ref mU, .ref mV, .int (nI u164.1), .int mf, .int mg])), (mS, .inl (G.2.1 2, 49, .inl fS)), (mU, .inl (G.2.1 2, 200, .inl u164.2.1)), (mV, .inl (G.2.1 3, 200, .inr (.inl u164.2.2)))] H locs := w
                refine lv_iload S.1 S.2.1 dX7_puts_167 (lv_at hl 1 rfl) ?_
                refine lv_if_eq (tgt := 182) S.1 S.2.1 dX7_puts_169 (by decide) (fun c169_1 => ?_) (fun c169_1 => ?_)
                · refine lv_iload S.1 S.2.1 dX7_puts_182 (lv_at hl 5 rfl) ?_
                  refine lv_if_eq (tgt := 248) S.1 S.2.1 dX7_puts_184 (by decide) (fun c184_2 => ?_) (fun c184_2 => ?_)
                  · exact W.vret S.1 S.2.1 hr (fun t ht _ => ⟨⟨(u164.1, u164.2.1, u164.2.2), rfl, by dsimp only; omega, by rw [ht]; exact w.1, w.2.1⟩, w.2.2.F ht⟩) w.2.2.2.2 dX7_puts_248
                  · refine w_joini 205 [] (fun z205 => True) (fun z205 hz205 => ?_) (fun J205 => ?_)
                    · refine lv_istore (lv' := [(13, .int z205), (11, .long z150), (10, .int z126), (9, .int z94), (8, .int z75), (7, .int z44), (6, .int (fS (6 + (nI gg)).toNatClampNeg)), (5, .int ((1 : Int32) <<< ((fS (18 + (nI gg)).toNatClampNeg) &&& 31))), (0, .ref mO), (1, .int (nI gg)), (2, .int x0), (3, .long b0)]) S.1 S.2.1 dX7_puts_205 hl (by decide) rfl (fun ls hl => ?_)
                      refine lv_iload S.1 S.2.1 dX7_puts_207 (lv_at hl 3 rfl) ?_
                      refine lv_istore (lv' := [(14, .int z94), (13, .int z205), (11, .long z150), (10, .int z126), (9, .int z94), (8, .int z75), (7, .int z44), (6, .int (fS (6 + (nI gg)).toNatClampNeg)), (5, .int ((1 : Int32) <<< ((fS (18 + (nI gg)).toNatClampNeg) &&& 31))), (0, .ref mO), (1, .int (nI gg)), (2, .int x0), (3, .long b0)]) S.1 S.2.1 dX7_puts_209 hl (by decide) rfl (fun ls hl => ?_)
                      refine lv_aload_n S.1 S.2.1 dX7_puts_211 rfl (lv_at hl 9 rfl) ?_
                      refine lv_iload_n S.1 S.2.1 dX7_puts_212 rfl (lv_at hl 11 rfl) ?_
                      refine lv_iload S.1 S.2.1 dX7_puts_213 (lv_at hl 8 rfl) ?_
                      refine lv_ior S.1 S.2.1 dX7_puts_215 ?_
                      refine lv_iload S.1 S.2.1 dX7_puts_216 (lv_at hl 6 rfl) ?_
                      refine lv_ior S.1 S.2.1 dX7_puts_218 ?_
                      refine w_joinl 232 [.int ((x0 ||| ((1 : Int32) <<< ((fS (18 + (nI gg)).toNatClampNeg) &&& 31))) ||| z44), .ref mO] (fun z232 => True) (fun z232 hz232 => ?_) (fun J232 => ?_)
                      · refine w_joinl 244 [.long z232, .int ((x0 ||| ((1 : Int32) <<< ((fS (18 + (nI gg)).toNatClampNeg) &&& 31))) ||| z44), .ref mO] (fun z244 => True) (fun z244 hz244 => ?_) (fun J244 => ?_)
                        · refine lv_lmul S.1 S.2.1 dX7_puts_244 ?_
                          refine cq_v C w [0, 2, 3] [1] [1, 0, 2, 3] (wr := [(mS, .inl (G.2.1 2, 49, .inl fS))]) (w' := fun u : Nat × (Nat → Int32) × (Nat → Int64) => [(mO, .inr (7, [.ref mS, .ref mD, .ref mR, .ref mT, .int mt, .int ma, .int mn, .ref mW, .ref mQ, .ref mC, .int my, .ref mU, .ref mV, .int (nI u.1), .int mf, .int mg])), (mU, .inl (G.2.1 2, 200, .inl u.2.1)), (mV, .inl (G.2.1 3, 200, .inr (.inl u.2.2)))]) (ws2 := fun u : Nat × (Nat → Int32) × (Nat → Int64) => [(mO, .inr (7, [.ref mS, .ref mD, .ref mR, .ref mT, .int mt, .int ma, .int mn, .ref mW, .ref mQ, .ref mC, .int my, .ref mU, .ref mV, .int (nI u.1), .int mf, .int mg])), (mS, .inl (G.2.1 2, 49, .inl fS)), (mU, .inl (G.2.1 2, 200, .inl u.2.1)), (mV, .inl (G.2.1 3, 200, .inr (.inl u.2.2)))]) rfl rfl rfl (by decide) rfl (fun _ => rfl) (va_runV (As := [.int ((x0 ||| ((1 : Int32) <<< ((fS (18 + (nI gg)).toNatClampNeg) &&& 31))) ||| z44), .long (z232 * z244)]) (rest := []) S (c_X7_adds l G mO mU mV _ mS mD mR mT mW mQ mC mt ma mn my mf mg u164.1 u164.2.1 u164.2.2 ((x0 ||| ((1 : Int32) <<< ((fS (18 + (nI gg)).toNatClampNeg) &&& 31))) ||| z44) (z232 * z244) (by omega)) (cwV 2 S.2.2.2.2 gX7_puts_X7_adds rfl rfl rfl (by decide +kernel) ⟨Nat.le_of_ble_eq_true rfl, Nat.le_of_ble_eq_true rfl⟩) ⟨wPre_blind, va_recv C.1 w.1 (ci := 7) (q0 := 0) rfl rfl, wPre_at C w [0, 2, 3] rfl rfl⟩ rfl rfl hl.1 rfl (lv_room (Nat.le_of_ble_eq_true rfl)) dX7_puts_245 ⟨Nat.le_of_ble_eq_true rfl, Nat.le_of_ble_eq_true rfl⟩) (fun u245_2 H locs h245_2 w => ?_)
                          have w : Wd G _ s [(mO, .inr (7, [.ref mS, .ref mD, .ref mR, .ref mT, .int mt, .int ma, .int mn, .ref mW, .ref mQ, .ref mC, .int my, .ref mU, .ref mV, .int (nI u245_2.1), .int mf, .int mg])), (mS, .inl (G.2.1 2, 49, .inl fS)), (mU, .inl (G.2.1 2, 200, .inl u245_2.2.1)), (mV, .inl (G.2.1 3, 200, .inr (.inl u245_2.2.2)))] H locs := w
                          exact W.vret S.1 S.2.1 hr (fun t ht _ => ⟨⟨(u245_2.1, u245_2.2.1, u245_2.2.2), rfl, by dsimp only; omega, by rw [ht]; exact w.1, w.2.1⟩, w.2.2.F ht⟩) w.2.2.2.2 dX7_puts_248
                        · refine lv_iload S.1 S.2.1 dX7_puts_232 (lv_at hl 1 rfl) ?_
                          refine lv_if_eq (tgt := 243) S.1 S.2.1 dX7_puts_234 (by decide) (fun c234_2 => ?_) (fun c234_2 => ?_)
                          · refine lv_lconst (v := 1) S.1 S.2.1 dX7_puts_243 (by decide) ?_
                            exact J244 1 (trivial)
                          · refine lv_ldc2 (own := RX7) (v := 2) S.1 S.2.1 S.2.2.2.1 (S.2.2.2.2 _ (List.mem_of_getElem? (i := 2) rfl)) dX7_puts_237 ?_
                            refine lv_goto (tgt := 244) S.1 S.2.1 dX7_puts_240 (by decide) ?_
                            exact J244 2 (trivial)
                      · refine lv_iload S.1 S.2.1 dX7_puts_219 (lv_at hl 0 rfl) ?_
                        refine lv_if_eq (tgt := 230) S.1 S.2.1 dX7_puts_221 (by decide) (fun c221_2 => ?_) (fun c221_2 => ?_)
                        · refine lv_lload S.1 S.2.1 dX7_puts_230 (lv_at hl 2 rfl) ?_
                          exact J232 z150 (trivial)
                        · refine lv_lload S.1 S.2.1 dX7_puts_224 (lv_at hl 2 rfl) ?_
                          refine lv_lneg S.1 S.2.1 dX7_puts_226 ?_
                          refine lv_goto (tgt := 232) S.1 S.2.1 dX7_puts_227 (by decide) ?_
                          exact J232 (-z150) (trivial)
                    · refine lv_iload S.1 S.2.1 dX7_puts_187 (lv_at hl 5 rfl) ?_
                      refine lv_iconst (v := 3) S.1 S.2.1 dX7_puts_189 (by decide) ?_
                      refine lv_icmp_eq (tgt := 200) S.1 S.2.1 dX7_puts_190 (by decide) (fun c190_2 => ?_) (fun c190_2 => ?_)
                      · refine lv_iconst (v := 1) S.1 S.2.1 dX7_puts_200 (by decide) ?_
                        refine lv_goto (tgt := 205) S.1 S.2.1 dX7_puts_201 (by decide) ?_
                        exact J205 1 (trivial)
                      · refine lv_iload S.1 S.2.1 dX7_puts_193 (lv_at hl 5 rfl) ?_
                        refine lv_bipush (v := 6) S.1 S.2.1 dX7_puts_195 (by decide) ?_
                        refine lv_icmp_ne (tgt := 204) S.1 S.2.1 dX7_puts_197 (by decide) (fun c197_2 => ?_) (fun c197_2 => ?_)
                        · refine lv_iconst (v := 0) S.1 S.2.1 dX7_puts_204 (by decide) ?_
                          exact J205 0 (trivial)
                        · refine lv_iconst (v := 1) S.1 S.2.1 dX7_puts_200 (by decide) ?_
                          refine lv_goto (tgt := 205) S.1 S.2.1 dX7_puts_201 (by decide) ?_
                          exact J205 1 (trivial)
                · refine lv_aload_n S.1 S.2.1 dX7_puts_172 rfl (lv_at hl 7 rfl) ?_
                  refine lv_iload_n S.1 S.2.1 dX7_puts_173 rfl (lv_at hl 9 rfl) ?_
                  refine lv_iload S.1 S.2.1 dX7_puts_174 (lv_at hl 4 rfl) ?_
                  refine lv_ior S.1 S.2.1 dX7_puts_176 ?_
                  refine lv_lload S.1 S.2.1 dX7_puts_177 (lv_at hl 0 rfl) ?_
                  refine cq_v C w [0, 2, 3] [1] [1, 0, 2, 3] (wr := [(mS, .inl (G.2.1 2, 49, .inl fS))]) (w' := fun u : Nat × (Nat → Int32) × (Nat → Int64) => [(mO, .inr (7, [.ref mS, .ref mD, .ref mR, .ref mT, .int mt, .int ma, .int mn, .ref mW, .ref mQ, .ref mC, .int my, .ref mU, .ref mV, .int (nI u.1), .int mf, .int mg])), (mU, .inl (G.2.1 2, 200, .inl u.2.1)), (mV, .inl (G.2.1 3, 200, .inr (.inl u.2.2)))]) (ws2 := fun u : Nat × (Nat → Int32) × (Nat → Int64) => [(mO, .inr (7, [.ref mS, .ref mD, .ref mR, .ref mT, .int mt, .int ma, .int mn, .ref mW, .ref mQ, .ref mC, .int my, .ref mU, .ref mV, .int (nI u.1), .int mf, .int mg])), (mS, .inl (G.2.1 2, 49, .inl fS)), (mU, .inl (G.2.1 2, 200, .inl u.2.1)), (mV, .inl (G.2.1 3, 200, .inr (.inl u.2.2)))]) rfl rfl rfl (by decide) rfl (fun _ => rfl) (va_runV (As := [.int (x0 ||| z44), .long z150]) (rest := []) S (c_X7_adds l G mO mU mV _ mS mD mR mT mW mQ mC mt ma mn my mf mg u164.1 u164.2.1 u164.2.2 (x0 ||| z44) z150 (by omega)) (cwV 2 S.2.2.2.2 gX7_puts_X7_adds rfl rfl rfl (by decide +kernel) ⟨Nat.le_of_ble_eq_true rfl, Nat.le_of_ble_eq_true rfl⟩) ⟨wPre_blind, va_recv C.1 w.1 (ci := 7) (q0 := 0) rfl rfl, wPre_at C w [0, 2, 3] rfl rfl⟩ rfl rfl hl.1 rfl (lv_room (Nat.le_of_ble_eq_true rfl)) dX7_puts_179 ⟨Nat.le_of_ble_eq_true rfl, Nat.le_of_ble_eq_true rfl⟩) (fun u179_1 H locs h179_1 w => ?_)
                  have w : Wd G _ s [(mO, .inr (7, [.ref mS, .ref mD, .ref mR, .ref mT, .int mt, .int ma, .int mn, .ref mW, .ref mQ, .ref mC, .int my, .ref mU, .ref mV, .int (nI u179_1.1), .int mf, .int mg])), (mS, .inl (G.2.1 2, 49, .inl fS)), (mU, .inl (G.2.1 2, 200, .inl u179_1.2.1)), (mV, .inl (G.2.1 3, 200, .inr (.inl u179_1.2.2)))] H locs := w
                  refine lv_iload S.1 S.2.1 dX7_puts_182 (lv_at hl 5 rfl) ?_
                  refine lv_if_eq (tgt := 248) S.1 S.2.1 dX7_puts_184 (by decide) (fun c184_3 => ?_) (fun c184_3 => ?_)
                  · exact W.vret S.1 S.2.1 hr (fun t ht _ => ⟨⟨(u179_1.1, u179_1.2.1, u179_1.2.2), rfl, by dsimp only; omega, by rw [ht]; exact w.1, w.2.1⟩, w.2.2.F ht⟩) w.2.2.2.2 dX7_puts_248
                  · refine w_joini 205 [] (fun z205 => True) (fun z205 hz205 => ?_) (fun J205 => ?_)
                    · refine lv_istore (lv' := [(13, .int z205), (11, .long z150), (10, .int z126), (9, .int z94), (8, .int z75), (7, .int z44), (6, .int (fS (6 + (nI gg)).toNatClampNeg)), (5, .int ((1 : Int32) <<< ((fS (18 + (nI gg)).toNatClampNeg) &&& 31))), (0, .ref mO), (1, .int (nI gg)), (2, .int x0), (3, .long b0)]) S.1 S.2.1 dX7_puts_205 hl (by decide) rfl (fun ls hl => ?_)
                      refine lv_iload S.1 S.2.1 dX7_puts_207 (lv_at hl 3 rfl) ?_
                      refine lv_istore (lv' := [(14, .int z94), (13, .int z205), (11, .long z150), (10, .int z126), (9, .int z94), (8, .int z75), (7, .int z44), (6, .int (fS (6 + (nI gg)).toNatClampNeg)), (5, .int ((1 : Int32) <<< ((fS (18 + (nI gg)).toNatClampNeg) &&& 31))), (0, .ref mO), (1, .int (nI gg)), (2, .int x0), (3, .long b0)]) S.1 S.2.1 dX7_puts_209 hl (by decide) rfl (fun ls hl => ?_)
                      refine lv_aload_n S.1 S.2.1 dX7_puts_211 rfl (lv_at hl 9 rfl) ?_
                      refine lv_iload_n S.1 S.2.1 dX7_puts_212 rfl (lv_at hl 11 rfl) ?_
                      refine lv_iload S.1 S.2.1 dX7_puts_213 (lv_at hl 8 rfl) ?_
                      refine lv_ior S.1 S.2.1 dX7_puts_215 ?_
                      refine lv_iload S.1 S.2.1 dX7_puts_216 (lv_at hl 6 rfl) ?_
                      refine lv_ior S.1 S.2.1 dX7_puts_218 ?_
                      refine w_joinl 232 [.int ((x0 ||| ((1 : Int32) <<< ((fS (18 + (nI gg)).toNatClampNeg) &&& 31))) ||| z44), .ref mO] (fun z232 => True) (fun z232 hz232 => ?_) (fun J232 => ?_)
                      · refine w_joinl 244 [.long z232, .int ((x0 ||| ((1 : Int32) <<< ((fS (18 + (nI gg)).toNatClampNeg) &&& 31))) ||| z44), .ref mO] (fun z244 => True) (fun z244 hz244 => ?_) (fun J244 => ?_)
                        · refine lv_lmul S.1 S.2.1 dX7_puts_244 ?_
                          refine cq_v C w [0, 2, 3] [1] [1, 0, 2, 3] (wr := [(mS, .inl (G.2.1 2, 49, .inl fS))]) (w' := fun u : Nat × (Nat → Int32) × (Nat → Int64) => [(mO, .inr (7, [.ref mS, .ref mD, .ref mR, .ref mT, .int mt, .int ma, .int mn, .ref mW, .ref mQ, .ref mC, .int my, .ref mU, .ref mV, .int (nI u.1), .int mf, .int mg])), (mU, .inl (G.2.1 2, 200, .inl u.2.1)), (mV, .inl (G.2.1 3, 200, .inr (.inl u.2.2)))]) (ws2 := fun u : Nat × (Nat → Int32) × (Nat → Int64) => [(mO, .inr (7, [.ref mS, .ref mD, .ref mR, .ref mT, .int mt, .int ma, .int mn, .ref mW, .ref mQ, .ref mC, .int my, .ref mU, .ref mV, .int (nI u.1), .int mf, .int mg])), (mS, .inl (G.2.1 2, 49, .inl fS)), (mU, .inl (G.2.1 2, 200, .inl u.2.1)), (mV, .inl (G.2.1 3, 200, .inr (.inl u.2.2)))]) rfl rfl rfl (by decide) rfl (fun _ => rfl) (va_runV (As := [.int ((x0 ||| ((1 : Int32) <<< ((fS (18 + (nI gg)).toNatClampNeg) &&& 31))) ||| z44), .long (z232 * z244)]) (rest := []) S (c_X7_adds l G mO mU mV _ mS mD mR mT mW mQ mC mt ma mn my mf mg u179_1.1 u179_1.2.1 u179_1.2.2 ((x0 ||| ((1 : Int32) <<< ((fS (18 + (nI gg)).toNatClampNeg) &&& 31))) ||| z44) (z232 * z244) (by omega)) (cwV 2 S.2.2.2.2 gX7_puts_X7_adds rfl rfl rfl (by decide +kernel) ⟨Nat.le_of_ble_eq_true rfl, Nat.le_of_ble_eq_true rfl⟩) ⟨wPre_blind, va_recv C.1 w.1 (ci := 7) (q0 := 0) rfl rfl, wPre_at C w [0, 2, 3] rfl rfl⟩ rfl rfl hl.1 rfl (lv_room (Nat.le_of_ble_eq_true rfl)) dX7_puts_245 ⟨Nat.le_of_ble_eq_true rfl, Nat.le_of_ble_eq_true rfl⟩) (fun u245_3 H locs h245_3 w => ?_)
                          have w : Wd G _ s [(mO, .inr (7, [.ref mS, .ref mD, .ref mR, .ref mT, .int mt, .int ma, .int mn, .ref mW, .ref mQ, .ref mC, .int my, .ref mU, .ref mV, .int (nI u245_3.1), .int mf, .int mg])), (mS, .inl (G.2.1 2, 49, .inl fS)), (mU, .inl (G.2.1 2, 200, .inl u245_3.2.1)), (mV, .inl (G.2.1 3, 200, .inr (.inl u245_3.2.2)))] H locs := w
                          exact W.vret S.1 S.2.1 hr (fun t ht _ => ⟨⟨(u245_3.1, u245_3.2.1, u245_3.2.2), rfl, by dsimp only; omega, by rw [ht]; exact w.1, w.2.1⟩, w.2.2.F ht⟩) w.2.2.2.2 dX7_puts_248
                        · refine lv_iload S.1 S.2.1 dX7_puts_232 (lv_at hl 1 rfl) ?_
                          refine lv_if_eq (tgt := 243) S.1 S.2.1 dX7_puts_234 (by decide) (fun c234_3 => ?_) (fun c234_3 => ?_)
                          · refine lv_lconst (v := 1) S.1 S.2.1 dX7_puts_243 (by decide) ?_
                            exact J244 1 (trivial)
                          · refine lv_ldc2 (own := RX7) (v := 2) S.1 S.2.1 S.2.2.2.1 (S.2.2.2.2 _ (List.mem_of_getElem? (i := 2) rfl)) dX7_puts_237 ?_
                            refine lv_goto (tgt := 244) S.1 S.2.1 dX7_puts_240 (by decide) ?_
                            exact J244 2 (trivial)
                      · refine lv_iload S.1 S.2.1 dX7_puts_219 (lv_at hl 0 rfl) ?_
                        refine lv_if_eq (tgt := 230) S.1 S.2.1 dX7_puts_221 (by decide) (fun c221_3 => ?_) (fun c221_3 => ?_)
                        · refine lv_lload S.1 S.2.1 dX7_puts_230 (lv_at hl 2 rfl) ?_
                          exact J232 z150 (trivial)
                        · refine lv_lload S.1 S.2.1 dX7_puts_224 (lv_at hl 2 rfl) ?_
                          refine lv_lneg S.1 S.2.1 dX7_puts_226 ?_
                          refine lv_goto (tgt := 232) S.1 S.2.1 dX7_puts_227 (by decide) ?_
                          exact J232 (-z150) (trivial)
                    · refine lv_iload S.1 S.2.1 dX7_puts_187 (lv_at hl 5 rfl) ?_
                      refine lv_iconst (v := 3) S.1 S.2.1 dX7_puts_189 (by decide) ?_
                      refine lv_icmp_eq (tgt := 200) S.1 S.2.1 dX7_puts_190 (by decide) (fun c190_3 => ?_) (fun c190_3 => ?_)
                      · refine lv_iconst (v := 1) S.1 S.2.1 dX7_puts_200 (by decide) ?_
                        refine lv_goto (tgt := 205) S.1 S.2.1 dX7_puts_201 (by decide) ?_
                        exact J205 1 (trivial)
                      · refine lv_iload S.1 S.2.1 dX7_puts_193 (lv_at hl 5 rfl) ?_
                        refine lv_bipush (v := 6) S.1 S.2.1 dX7_puts_195 (by decide) ?_
                        refine lv_icmp_ne (tgt := 204) S.1 S.2.1 dX7_puts_197 (by decide) (fun c197_3 => ?_) (fun c197_3 => ?_)
                        · refine lv_iconst (v := 0) S.1 S.2.1 dX7_puts_204 (by decide) ?_
                          exact J205 0 (trivial)
                        · refine lv_iconst (v := 1) S.1 S.2.1 dX7_puts_200 (by decide) ?_
                          refine lv_goto (tgt := 205) S.1 S.2.1 dX7_puts_201 (by decide) ?_
                          exact J205 1 (trivial)
            · refine lv_iload S.1 S.2.1 dX7_puts_139 (lv_at hl 2 rfl) ?_
              refine lv_if_eq (tgt := 149) S.1 S.2.1 dX7_puts_141 (by decide) (fun c141 => ?_) (fun c141 => ?_)
              · refine lv_lload_n S.1 S.2.1 dX7_puts_149 rfl (lv_at hl 9 rfl) ?_
                exact J150 b0 (trivial)
              · refine lv_lload_n S.1 S.2.1 dX7_puts_144 rfl (lv_at hl 9 rfl) ?_
                refine lv_lneg S.1 S.2.1 dX7_puts_145 ?_
                refine lv_goto (tgt := 150) S.1 S.2.1 dX7_puts_146 (by decide) ?_
                exact J150 (-b0) (trivial)
          · refine lv_aload_n S.1 S.2.1 dX7_puts_133 rfl (lv_at hl 6 rfl) ?_
            refine lv_iload_n S.1 S.2.1 dX7_puts_134 rfl (lv_at hl 8 rfl) ?_
            refine lv_lload_n S.1 S.2.1 dX7_puts_135 rfl (lv_at hl 9 rfl) ?_
            refine cq_v C w [0, 2, 3] [1] [1, 0, 2, 3] (wr := [(mS, .inl (G.2.1 2, 49, .inl fS))]) (w' := fun u : Nat × (Nat → Int32) × (Nat → Int64) => [(mO, .inr (7, [.ref mS, .ref mD, .ref mR, .ref mT, .int mt, .int ma, .int mn, .ref mW, .ref mQ, .ref mC, .int my, .ref mU, .ref mV, .int (nI u.1), .int mf, .int mg])), (mU, .inl (G.2.1 2, 200, .inl u.2.1)), (mV, .inl (G.2.1 3, 200, .inr (.inl u.2.2)))]) (ws2 := fun u : Nat × (Nat → Int32) × (Nat → Int64) => [(mO, .inr (7, [.ref mS, .ref mD, .ref mR, .ref mT, .int mt, .int ma, .int mn, .ref mW, .ref mQ, .ref mC, .int my, .ref mU, .ref mV, .int (nI u.1), .int mf, .int mg])), (mS, .inl (G.2.1 2, 49, .inl fS)), (mU, .inl (G.2.1 2, 200, .inl u.2.1)), (mV, .inl (G.2.1 3, 200, .inr (.inl u.2.2)))]) rfl rfl rfl (by decide) rfl (fun _ => rfl) (va_runV (As := [.int x0, .long b0]) (rest := []) S (c_X7_adds l G mO mU mV _ mS mD mR mT mW mQ mC mt ma mn my mf mg mM fU lV x0 b0 (by omega)) (cwV 2 S.2.2.2.2 gX7_puts_X7_adds rfl rfl rfl (by decide +kernel) ⟨Nat.le_of_ble_eq_true rfl, Nat.le_of_ble_eq_true rfl⟩) ⟨wPre_blind, va_recv C.1 w.1 (ci := 7) (q0 := 0) rfl rfl, wPre_at C w [0, 2, 3] rfl rfl⟩ rfl rfl hl.1 rfl (lv_room (Nat.le_of_ble_eq_true rfl)) dX7_puts_136 ⟨Nat.le_of_ble_eq_true rfl, Nat.le_of_ble_eq_true rfl⟩) (fun u136 H locs h136 w => ?_)
            have w : Wd G _ s [(mO, .inr (7, [.ref mS, .ref mD, .ref mR, .ref mT, .int mt, .int ma, .int mn, .ref mW, .ref mQ, .ref mC, .int my, .ref mU, .ref mV, .int (nI u136.1), .int mf, .int mg])), (mS, .inl (G.2.1 2, 49, .inl fS)), (mU, .inl (G.2.1 2, 200, .inl u136.2.1)), (mV, .inl (G.2.1 3, 200, .inr (.inl u136.2.2)))] H locs := w
            refine w_joinl 150 [] (fun z150 => True) (fun z150 hz150 => ?_) (fun J150 => ?_)
            · refine lv_lstore (lv' := [(11, .long z150), (10, .int z126), (9, .int z94), (8, .int z75), (7, .int z44), (6, .int (fS (6 + (nI gg)).toNatClampNeg)), (5, .int ((1 : Int32) <<< ((fS (18 + (nI gg)).toNatClampNeg) &&& 31))), (0, .ref mO), (1, .int (nI gg)), (2, .int x0), (3, .long b0)]) S.1 S.2.1 dX7_puts_150 hl (by decide) rfl (fun ls hl => ?_)
              refine lv_iload S.1 S.2.1 dX7_puts_152 (lv_at hl 2 rfl) ?_
              refine lv_if_eq (tgt := 167) S.1 S.2.1 dX7_puts_154 (by decide) (fun c154_1 => ?_) (fun c154_1 => ?_)
              · refine lv_iload S.1 S.2.1 dX7_puts_167 (lv_at hl 1 rfl) ?_
                refine lv_if_eq (tgt := 182) S.1 S.2.1 dX7_puts_169 (by decide) (fun c169_2 => ?_) (fun c169_2 => ?_)
                · refine lv_iload S.1 S.2.1 dX7_puts_182 (lv_at hl 5 rfl) ?_
                  refine lv_if_eq (tgt := 248) S.1 S.2.1 dX7_puts_184 (by decide) (fun c184_4 => ?_) (fun c184_4 => ?_)
                  · exact W.vret S.1 S.2.1 hr (fun t ht _ => ⟨⟨(u136.1, u136.2.1, u136.2.2), rfl, by dsimp only; omega, by rw [ht]; exact w.1, w.2.1⟩, w.2.2.F ht⟩) w.2.2.2.2 dX7_puts_248
                  · refine w_joini 205 [] (fun z205 => True) (fun z205 hz205 => ?_) (fun J205 => ?_)
                    · refine lv_istore (lv' := [(13, .int z205), (11, .long z150), (10, .int z126), (9, .int z94), (8, .int z75), (7, .int z44), (6, .int (fS (6 + (nI gg)).toNatClampNeg)), (5, .int ((1 : Int32) <<< ((fS (18 + (nI gg)).toNatClampNeg) &&& 31))), (0, .ref mO), (1, .int (nI gg)), (2, .int x0), (3, .long b0)]) S.1 S.2.1 dX7_puts_205 hl (by decide) rfl (fun ls hl => ?_)
                      refine lv_iload S.1 S.2.1 dX7_puts_207 (lv_at hl 3 rfl) ?_
                      refine lv_istore (lv' := [(14, .int z94), (13, .int z205), (11, .long z150), (10, .int z126), (9, .int z94), (8, .int z75), (7, .int z44), (6, .int (fS (6 + (nI gg)).toNatClampNeg)), (5, .int ((1 : Int32) <<< ((fS (18 + (nI gg)).toNatClampNeg) &&& 31))), (0, .ref mO), (1, .int (nI gg)), (2, .int x0), (3, .long b0)]) S.1 S.2.1 dX7_puts_209 hl (by decide) rfl (fun ls hl => ?_)
                      refine lv_aload_n S.1 S.2.1 dX7_puts_211 rfl (lv_at hl 9 rfl) ?_
                      refine lv_iload_n S.1 S.2.1 dX7_puts_212 rfl (lv_at hl 11 rfl) ?_
                      refine lv_iload S.1 S.2.1 dX7_puts_213 (lv_at hl 8 rfl) ?_
                      refine lv_ior S.1 S.2.1 dX7_puts_215 ?_
                      refine lv_iload S.1 S.2.1 dX7_puts_216 (lv_at hl 6 rfl) ?_
                      refine lv_ior S.1 S.2.1 dX7_puts_218 ?_
                      refine w_joinl 232 [.int ((x0 ||| ((1 : Int32) <<< ((fS (18 + (nI gg)).toNatClampNeg) &&& 31))) ||| z44), .ref mO] (fun z232 => True) (fun z232 hz232 => ?_) (fun J232 => ?_)
                      · refine w_joinl 244 [.long z232, .int ((x0 ||| ((1 : Int32) <<< ((fS (18 + (nI gg)).toNatClampNeg) &&& 31))) ||| z44), .ref mO] (fun z244 => True) (fun z244 hz244 => ?_) (fun J244 => ?_)
                        · refine lv_lmul S.1 S.2.1 dX7_puts_244 ?_
                          refine cq_v C w [0, 2, 3] [1] [1, 0, 2, 3] (wr := [(mS, .inl (G.2.1 2, 49, .inl fS))]) (w' := fun u : Nat × (Nat → Int32) × (Nat → Int64) => [(mO, .inr (7, [.ref mS, .ref mD, .ref mR, .ref mT, .int mt, .int ma, .int mn, .ref mW, .ref mQ, .ref mC, .int my, .ref mU, .ref mV, .int (nI u.1), .int mf, .int mg])), (mU, .inl (G.2.1 2, 200, .inl u.2.1)), (mV, .inl (G.2.1 3, 200, .inr (.inl u.2.2)))]) (ws2 := fun u : Nat × (Nat → Int32) × (Nat → Int64) => [(mO, .inr (7, [.ref mS, .ref mD, .ref mR, .ref mT, .int mt, .int ma, .int mn, .ref mW, .ref mQ, .ref mC, .int my, .ref mU, .ref mV, .int (nI u.1), .int mf, .int mg])), (mS, .inl (G.2.1 2, 49, .inl fS)), (mU, .inl (G.2.1 2, 200, .inl u.2.1)), (mV, .inl (G.2.1 3, 200, .inr (.inl u.2.2)))]) rfl rfl rfl (by decide) rfl (fun _ => rfl) (va_runV (As := [.int ((x0 ||| ((1 : Int32) <<< ((fS (18 + (nI gg)).toNatClampNeg) &&& 31))) ||| z44), .long (z232 * z244)]) (rest := []) S (c_X7_adds l G mO mU mV _ mS mD mR mT mW mQ mC mt ma mn my mf mg u136.1 u136.2.1 u136.2.2 ((x0 ||| ((1 : Int32) <<< ((fS (18 + (nI gg)).toNatClampNeg) &&& 31))) ||| z44) (z232 * z244) (by omega)) (cwV 2 S.2.2.2.2 gX7_puts_X7_adds rfl rfl rfl (by decide +kernel) ⟨Nat.le_of_ble_eq_true rfl, Nat.le_of_ble_eq_true rfl⟩) ⟨wPre_blind, va_recv C.1 w.1 (ci := 7) (q0 := 0) rfl rfl, wPre_at C w [0, 2, 3] rfl rfl⟩ rfl rfl hl.1 rfl (lv_room (Nat.le_of_ble_eq_true rfl)) dX7_puts_245 ⟨Nat.le_of_ble_eq_true rfl, Nat.le_of_ble_eq_true rfl⟩) (fun u245_4 H locs h245_4 w => ?_)
                          have w : Wd G _ s [(mO, .inr (7, [.ref mS, .ref mD, .ref mR, .ref mT, .int mt, .int ma, .int mn, .ref mW, .ref mQ, .ref mC, .int my, .ref mU, .ref mV, .int (nI u245_4.1), .int mf, .int mg])), (mS, .inl (G.2.1 2, 49, .inl fS)), (mU, .inl (G.2.1 2, 200, .inl u245_4.2.1)), (mV, .inl (G.2.1 3, 200, .inr (.inl u245_4.2.2)))] H locs := w
                          exact W.vret S.1 S.2.1 hr (fun t ht _ => ⟨⟨(u245_4.1, u245_4.2.1, u245_4.2.2), rfl, by dsimp only; omega, by rw [ht]; exact w.1, w.2.1⟩, w.2.2.F ht⟩) w.2.2.2.2 dX7_puts_248
                        · refine lv_iload S.1 S.2.1 dX7_puts_232 (lv_at hl 1 rfl) ?_
                          refine lv_if_eq (tgt := 243) S.1 S.2.1 dX7_puts_234 (by decide) (fun c234_4 => ?_) (fun c234_4 => ?_)
                          · refine lv_lconst (v := 1) S.1 S.2.1 dX7_puts_243 (by decide) ?_
                            exact J244 1 (trivial)
                          · refine lv_ldc2 (own := RX7) (v := 2) S.1 S.2.1 S.2.2.2.1 (S.2.2.2.2 _ (List.mem_of_getElem? (i := 2) rfl)) dX7_puts_237 ?_
                            refine lv_goto (tgt := 244) S.1 S.2.1 dX7_puts_240 (by decide) ?_
                            exact J244 2 (trivial)
                      · refine lv_iload S.1 S.2.1 dX7_puts_219 (lv_at hl 0 rfl) ?_
                        refine lv_if_eq (tgt := 230) S.1 S.2.1 dX7_puts_221 (by decide) (fun c221_4 => ?_) (fun c221_4 => ?_)
                        · refine lv_lload S.1 S.2.1 dX7_puts_230 (lv_at hl 2 rfl) ?_
                          exact J232 z150 (trivial)
                        · refine lv_lload S.1 S.2.1 dX7_puts_224 (lv_at hl 2 rfl) ?_
                          refine lv_lneg S.1 S.2.1 dX7_puts_226 ?_
                          refine lv_goto (tgt := 232) S.1 S.2.1 dX7_puts_227 (by decide) ?_
                          exact J232 (-z150) (trivial)
                    · refine lv_iload S.1 S.2.1 dX7_puts_187 (lv_at hl 5 rfl) ?_
                      refine lv_iconst (v := 3) S.1 S.2.1 dX7_puts_189 (by decide) ?_
                      refine lv_icmp_eq (tgt := 200) S.1 S.2.1 dX7_puts_190 (by decide) (fun c190_4 => ?_) (fun c190_4 => ?_)
                      · refine lv_iconst (v := 1) S.1 S.2.1 dX7_puts_200 (by decide) ?_
                        refine lv_goto (tgt := 205) S.1 S.2.1 dX7_puts_201 (by decide) ?_
                        exact J205 1 (trivial)
                      · refine lv_iload S.1 S.2.1 dX7_puts_193 (lv_at hl 5 rfl) ?_
                        refine lv_bipush (v := 6) S.1 S.2.1 dX7_puts_195 (by decide) ?_
                        refine lv_icmp_ne (tgt := 204) S.1 S.2.1 dX7_puts_197 (by decide) (fun c197_4 => ?_) (fun c197_4 => ?_)
                        · refine lv_iconst (v := 0) S.1 S.2.1 dX7_puts_204 (by decide) ?_
                          exact J205 0 (trivial)
                        · refine lv_iconst (v := 1) S.1 S.2.1 dX7_puts_200 (by decide) ?_
                          refine lv_goto (tgt := 205) S.1 S.2.1 dX7_puts_201 (by decide) ?_
                          exact J205 1 (trivial)
                · refine lv_aload_n S.1 S.2.1 dX7_puts_172 rfl (lv_at hl 7 rfl) ?_
                  refine lv_iload_n S.1 S.2.1 dX7_puts_173 rfl (lv_at hl 9 rfl) ?_
                  refine lv_iload S.1 S.2.1 dX7_puts_174 (lv_at hl 4 rfl) ?_
                  refine lv_ior S.1 S.2.1 dX7_puts_176 ?_
                  refine lv_lload S.1 S.2.1 dX7_puts_177 (lv_at hl 0 rfl) ?_
                  refine cq_v C w [0, 2, 3] [1] [1, 0, 2, 3] (wr := [(mS, .inl (G.2.1 2, 49, .inl fS))]) (w' := fun u : Nat × (Nat → Int32) × (Nat → Int64) => [(mO, .inr (7, [.ref mS, .ref mD, .ref mR, .ref mT, .int mt, .int ma, .int mn, .ref mW, .ref mQ, .ref mC, .int my, .ref mU, .ref mV, .int (nI u.1), .int mf, .int mg])), (mU, .inl (G.2.1 2, 200, .inl u.2.1)), (mV, .inl (G.2.1 3, 200, .inr (.inl u.2.2)))]) (ws2 := fun u : Nat × (Nat → Int32) × (Nat → Int64) => [(mO, .inr (7, [.ref mS, .ref mD, .ref mR, .ref mT, .int mt, .int ma, .int mn, .ref mW, .ref mQ, .ref mC, .int my, .ref mU, .ref mV, .int (nI u.1), .int mf, .int mg])), (mS, .inl (G.2.1 2, 49, .inl fS)), (mU, .inl (G.2.1 2, 200, .inl u.2.1)), (mV, .inl (G.2.1 3, 200, .inr (.inl u.2.2)))]) rfl rfl rfl (by decide) rfl (fun _ => rfl) (va_runV (As := [.int (x0 ||| z44), .long z150]) (rest := []) S (c_X7_adds l G mO mU mV _ mS mD mR mT mW mQ mC mt ma mn my mf mg u136.1 u136.2.1 u136.2.2 (x0 ||| z44) z150 (by omega)) (cwV 2 S.2.2.2.2 gX7_puts_X7_adds rfl rfl rfl (by decide +kernel) ⟨Nat.le_of_ble_eq_true rfl, Nat.le_of_ble_eq_true rfl⟩) ⟨wPre_blind, va_recv C.1 w.1 (ci := 7) (q0 := 0) rfl rfl, wPre_at C w [0, 2, 3] rfl rfl⟩ rfl rfl hl.1 rfl (lv_room (Nat.le_of_ble_eq_true rfl)) dX7_puts_179 ⟨Nat.le_of_ble_eq_true rfl, Nat.le_of_ble_eq_true rfl⟩) (fun u179_2 H locs h179_2 w => ?_)
                  have w : Wd G _ s [(mO, .inr (7, [.ref mS, .ref mD, .ref mR, .ref mT, .int mt, .int ma, .int mn, .ref mW, .ref mQ, .ref mC, .int my, .ref mU, .ref mV, .int (nI u179_2.1), .int mf, .int mg])), (mS, .inl (G.2.1 2, 49, .inl fS)), (mU, .inl (G.2.1 2, 200, .inl u179_2.2.1)), (mV, .inl (G.2.1 3, 200, .inr (.inl u179_2.2.2)))] H locs := w
                  refine lv_iload S.1 S.2.1 dX7_puts_182 (lv_at hl 5 rfl) ?_
                  refine lv_if_eq (tgt := 248) S.1 S.2.1 dX7_puts_184 (by decide) (fun c184_5 => ?_) (fun c184_5 => ?_)
                  · exact W.vret S.1 S.2.1 hr (fun t ht _ => ⟨⟨(u179_2.1, u179_2.2.1, u179_2.2.2), rfl, by dsimp only; omega, by rw [ht]; exact w.1, w.2.1⟩, w.2.2.F ht⟩) w.2.2.2.2 dX7_puts_248
                  · refine w_joini 205 [] (fun z205 => True) (fun z205 hz205 => ?_) (fun J205 => ?_)
                    · refine lv_istore (lv' := [(13, .int z205), (11, .long z150), (10, .int z126), (9, .int z94), (8, .int z75), (7, .int z44), (6, .int (fS (6 + (nI gg)).toNatClampNeg)), (5, .int ((1 : Int32) <<< ((fS (18 + (nI gg)).toNatClampNeg) &&& 31))), (0, .ref mO), (1, .int (nI gg)), (2, .int x0), (3, .long b0)]) S.1 S.2.1 dX7_puts_205 hl (by decide) rfl (fun ls hl => ?_)
                      refine lv_iload S.1 S.2.1 dX7_puts_207 (lv_at hl 3 rfl) ?_
                      refine lv_istore (lv' := [(14, .int z94), (13, .int z205), (11, .long z150), (10, .int z126), (9, .int z94), (8, .int z75), (7, .int z44), (6, .int (fS (6 + (nI gg)).toNatClampNeg)), (5, .int ((1 : Int32) <<< ((fS (18 + (nI gg)).toNatClampNeg) &&& 31))), (0, .ref mO), (1, .int (nI gg)), (2, .int x0), (3, .long b0)]) S.1 S.2.1 dX7_puts_209 hl (by decide) rfl (fun ls hl => ?_)
                      refine lv_aload_n S.1 S.2.1 dX7_puts_211 rfl (lv_at hl 9 rfl) ?_
                      refine lv_iload_n S.1 S.2.1 dX7_puts_212 rfl (lv_at hl 11 rfl) ?_
                      refine lv_iload S.1 S.2.1 dX7_puts_213 (lv_at hl 8 rfl) ?_
                      refine lv_ior S.1 S.2.1 dX7_puts_215 ?_
                      refine lv_iload S.1 S.2.1 dX7_puts_216 (lv_at hl 6 rfl) ?_
                      refine lv_ior S.1 S.2.1 dX7_puts_218 ?_
                      refine w_joinl 232 [.int ((x0 ||| ((1 : Int32) <<< ((fS (18 + (nI gg)).toNatClampNeg) &&& 31))) ||| z44), .ref mO] (fun z232 => True) (fun z232 hz232 => ?_) (fun J232 => ?_)
                      · refine w_joinl 244 [.long z232, .int ((x0 ||| ((1 : Int32) <<< ((fS (18 + (nI gg)).toNatClampNeg) &&& 31))) ||| z44), .ref mO] (fun z244 => True) (fun z244 hz244 => ?_) (fun J244 => ?_)
                        · refine lv_lmul S.1 S.2.1 dX7_puts_244 ?_
                          refine cq_v C w [0, 2, 3] [1] [1, 0, 2, 3] (wr := [(mS, .inl (G.2.1 2, 49, .inl fS))]) (w' := fun u : Nat × (Nat → Int32) × (Nat → Int64) => [(mO, .inr (7, [.ref mS, .ref mD, .ref mR, .ref mT, .int mt, .int ma, .int mn, .ref mW, .ref mQ, .ref mC, .int my, .ref mU, .ref mV, .int (nI u.1), .int mf, .int mg])), (mU, .inl (G.2.1 2, 200, .inl u.2.1)), (mV, .inl (G.2.1 3, 200, .inr (.inl u.2.2)))]) (ws2 := fun u : Nat × (Nat → Int32) × (Nat → Int64) => [(mO, .inr (7, [.ref mS, .ref mD, .ref mR, .ref mT, .int mt, .int ma, .int mn, .ref mW, .ref mQ, .ref mC, .int my, .ref mU, .ref mV, .int (nI u.1), .int mf, .int mg])), (mS, .inl (G.2.1 2, 49, .inl fS)), (mU, .inl (G.2.1 2, 200, .inl u.2.1)), (mV, .inl (G.2.1 3, 200, .inr (.inl u.2.2)))]) rfl rfl rfl (by decide) rfl (fun _ => rfl) (va_runV (As := [.int ((x0 ||| ((1 : Int32) <<< ((fS (18 + (nI gg)).toNatClampNeg) &&& 31))) ||| z44), .long (z232 * z244)]) (rest := []) S (c_X7_adds l G mO mU mV _ mS mD mR mT mW mQ mC mt ma mn my mf mg u179_2.1 u179_2.2.1 u179_2.2.2 ((x0 ||| ((1 : Int32) <<< ((fS (18 + (nI gg)).toNatClampNeg) &&& 31))) ||| z44) (z232 * z244) (by omega)) (cwV 2 S.2.2.2.2 gX7_puts_X7_adds rfl rfl rfl (by decide +kernel) ⟨Nat.le_of_ble_eq_true rfl, Nat.le_of_ble_eq_true rfl⟩) ⟨wPre_blind, va_recv C.1 w.1 (ci := 7) (q0 := 0) rfl rfl, wPre_at C w [0, 2, 3] rfl rfl⟩ rfl rfl hl.1 rfl (lv_room (Nat.le_of_ble_eq_true rfl)) dX7_puts_245 ⟨Nat.le_of_ble_eq_true rfl, Nat.le_of_ble_eq_true rfl⟩) (fun u245_5 H locs h245_5 w => ?_)
                          have w : Wd G _ s [(mO, .inr (7, [.ref mS, .ref mD, .ref mR, .ref mT, .int mt, .int ma, .int mn, .ref mW, .ref mQ, .ref mC, .int my, .ref mU, .ref mV, .int (nI u245_5.1), .int mf, .int mg])), (mS, .inl (G.2.1 2, 49, .inl fS)), (mU, .inl (G.2.1 2, 200, .inl u245_5.2.1)), (mV, .inl (G.2.1 3, 200, .inr (.inl u245_5.2.2)))] H locs := w
                          exact W.vret S.1 S.2.1 hr (fun t ht _ => ⟨⟨(u245_5.1, u245_5.2.1, u245_5.2.2), rfl, by dsimp only; omega, by rw [ht]; exact w.1, w.2.1⟩, w.2.2.F ht⟩) w.2.2.2.2 dX7_puts_248
                        · refine lv_iload S.1 S.2.1 dX7_puts_232 (lv_at hl 1 rfl) ?_
                          refine lv_if_eq (tgt := 243) S.1 S.2.1 dX7_puts_234 (by decide) (fun c234_5 => ?_) (fun c234_5 => ?_)
                          · refine lv_lconst (v := 1) S.1 S.2.1 dX7_puts_243 (by decide) ?_
                            exact J244 1 (trivial)
                          · refine lv_ldc2 (own := RX7) (v := 2) S.1 S.2.1 S.2.2.2.1 (S.2.2.2.2 _ (List.mem_of_getElem? (i := 2) rfl)) dX7_puts_237 ?_
                            refine lv_goto (tgt := 244) S.1 S.2.1 dX7_puts_240 (by decide) ?_
                            exact J244 2 (trivial)
                      · refine lv_iload S.1 S.2.1 dX7_puts_219 (lv_at hl 0 rfl) ?_
                        refine lv_if_eq (tgt := 230) S.1 S.2.1 dX7_puts_221 (by decide) (fun c221_5 => ?_) (fun c221_5 => ?_)
                        · refine lv_lload S.1 S.2.1 dX7_puts_230 (lv_at hl 2 rfl) ?_
                          exact J232 z150 (trivial)
                        · refine lv_lload S.1 S.2.1 dX7_puts_224 (lv_at hl 2 rfl) ?_
                          refine lv_lneg S.1 S.2.1 dX7_puts_226 ?_
                          refine lv_goto (tgt := 232) S.1 S.2.1 dX7_puts_227 (by decide) ?_
                          exact J232 (-z150) (trivial)
                    · refine lv_iload S.1 S.2.1 dX7_puts_187 (lv_at hl 5 rfl) ?_
                      refine lv_iconst (v := 3) S.1 S.2.1 dX7_puts_189 (by decide) ?_
                      refine lv_icmp_eq (tgt := 200) S.1 S.2.1 dX7_puts_190 (by decide) (fun c190_5 => ?_) (fun c190_5 => ?_)
                      · refine lv_iconst (v := 1) S.1 S.2.1 dX7_puts_200 (by decide) ?_
                        refine lv_goto (tgt := 205) S.1 S.2.1 dX7_puts_201 (by decide) ?_
                        exact J205 1 (trivial)
                      · refine lv_iload S.1 S.2.1 dX7_puts_193 (lv_at hl 5 rfl) ?_
                        refine lv_bipush (v := 6) S.1 S.2.1 dX7_puts_195 (by decide) ?_
                        refine lv_icmp_ne (tgt := 204) S.1 S.2.1 dX7_puts_197 (by decide) (fun c197_5 => ?_) (fun c197_5 => ?_)
                        · refine lv_iconst (v := 0) S.1 S.2.1 dX7_puts_204 (by decide) ?_
                          exact J205 0 (trivial)
                        · refine lv_iconst (v := 1) S.1 S.2.1 dX7_puts_200 (by decide) ?_
                          refine lv_goto (tgt := 205) S.1 S.2.1 dX7_puts_201 (by decide) ?_
                          exact J205 1 (trivial)
              · refine lv_aload_n S.1 S.2.1 dX7_puts_157 rfl (lv_at hl 7 rfl) ?_
                refine lv_iload_n S.1 S.2.1 dX7_puts_158 rfl (lv_at hl 9 rfl) ?_
                refine lv_iload S.1 S.2.1 dX7_puts_159 (lv_at hl 6 rfl) ?_
                refine lv_ior S.1 S.2.1 dX7_puts_161 ?_
                refine lv_lload S.1 S.2.1 dX7_puts_162 (lv_at hl 0 rfl) ?_
                refine cq_v C w [0, 2, 3] [1] [1, 0, 2, 3] (wr := [(mS, .inl (G.2.1 2, 49, .inl fS))]) (w' := fun u : Nat × (Nat → Int32) × (Nat → Int64) => [(mO, .inr (7, [.ref mS, .ref mD, .ref mR, .ref mT, .int mt, .int ma, .int mn, .ref mW, .ref mQ, .ref mC, .int my, .ref mU, .ref mV, .int (nI u.1), .int mf, .int mg])), (mU, .inl (G.2.1 2, 200, .inl u.2.1)), (mV, .inl (G.2.1 3, 200, .inr (.inl u.2.2)))]) (ws2 := fun u : Nat × (Nat → Int32) × (Nat → Int64) => [(mO, .inr (7, [.ref mS, .ref mD, .ref mR, .ref mT, .int mt, .int ma, .int mn, .ref mW, .ref mQ, .ref mC, .int my, .ref mU, .ref mV, .int (nI u.1), .int mf, .int mg])), (mS, .inl (G.2.1 2, 49, .inl fS)), (mU, .inl (G.2.1 2, 200, .inl u.2.1)), (mV, .inl (G.2.1 3, 200, .inr (.inl u.2.2)))]) rfl rfl rfl (by decide) rfl (fun _ => rfl) (va_runV (As := [.int (x0 ||| ((1 : Int32) <<< ((fS (18 + (nI gg)).toNatClampNeg) &&& 31))), .long z150]) (rest := []) S (c_X7_adds l G mO mU mV _ mS mD mR mT mW mQ mC mt ma mn my mf mg u136.1 u136.2.1 u136.2.2 (x0 ||| ((1 : Int32) <<< ((fS (18 + (nI gg)).toNatClampNeg) &&& 31))) z150 (by omega)) (cwV 2 S.2.2.2.2 gX7_puts_X7_adds rfl rfl rfl (by decide +kernel) ⟨Nat.le_of_ble_eq_true rfl, Nat.le_of_ble_eq_true rfl⟩) ⟨wPre_blind, va_recv C.1 w.1 (ci := 7) (q0 := 0) rfl rfl, wPre_at C w [0, 2, 3] rfl rfl⟩ rfl rfl hl.1 rfl (lv_room (Nat.le_of_ble_eq_true rfl)) dX7_puts_164 ⟨Nat.le_of_ble_eq_true rfl, Nat.le_of_ble_eq_true rfl⟩) (fun u164_1 H locs h164_1 w => ?_)
                have w : Wd G _ s [(mO, .inr (7, [.ref mS, .ref mD, .ref mR, .ref mT, .int mt, .int ma, .int mn, .ref mW, .ref mQ, .ref mC, .int my, .ref mU, .ref mV, .int (nI u164_1.1), .int mf, .int mg])), (mS, .inl (G.2.1 2, 49, .inl fS)), (mU, .inl (G.2.1 2, 200, .inl u164_1.2.1)), (mV, .inl (G.2.1 3, 200, .inr (.inl u164_1.2.2)))] H locs := w
                refine lv_iload S.1 S.2.1 dX7_puts_167 (lv_at hl 1 rfl) ?_
                refine lv_if_eq (tgt := 182) S.1 S.2.1 dX7_puts_169 (by decide) (fun c169_3 => ?_) (fun c169_3 => ?_)
                · refine lv_iload S.1 S.2.1 dX7_puts_182 (lv_at hl 5 rfl) ?_
                  refine lv_if_eq (tgt := 248) S.1 S.2.1 dX7_puts_184 (by decide) (fun c184_6 => ?_) (fun c184_6 => ?_)
                  · exact W.vret S.1 S.2.1 hr (fun t ht _ => ⟨⟨(u164_1.1, u164_1.2.1, u164_1.2.2), rfl, by dsimp only; omega, by rw [ht]; exact w.1, w.2.1⟩, w.2.2.F ht⟩) w.2.2.2.2 dX7_puts_248
                  · refine w_joini 205 [] (fun z205 => True) (fun z205 hz205 => ?_) (fun J205 => ?_)
                    · refine lv_istore (lv' := [(13, .int z205), (11, .long z150), (10, .int z126), (9, .int z94), (8, .int z75), (7, .int z44), (6, .int (fS (6 + (nI gg)).toNatClampNeg)), (5, .int ((1 : Int32) <<< ((fS (18 + (nI gg)).toNatClampNeg) &&& 31))), (0, .ref mO), (1, .int (nI gg)), (2, .int x0), (3, .long b0)]) S.1 S.2.1 dX7_puts_205 hl (by decide) rfl (fun ls hl => ?_)
                      refine lv_iload S.1 S.2.1 dX7_puts_207 (lv_at hl 3 rfl) ?_
                      refine lv_istore (lv' := [(14, .int z94), (13, .int z205), (11, .long z150), (10, .int z126), (9, .int z94), (8, .int z75), (7, .int z44), (6, .int (fS (6 + (nI gg)).toNatClampNeg)), (5, .int ((1 : Int32) <<< ((fS (18 + (nI gg)).toNatClampNeg) &&& 31))), (0, .ref mO), (1, .int (nI gg)), (2, .int x0), (3, .long b0)]) S.1 S.2.1 dX7_puts_209 hl (by decide) rfl (fun ls hl => ?_)
                      refine lv_aload_n S.1 S.2.1 dX7_puts_211 rfl (lv_at hl 9 rfl) ?_
                      refine lv_iload_n S.1 S.2.1 dX7_puts_212 rfl (lv_at hl 11 rfl) ?_
                      refine lv_iload S.1 S.2.1 dX7_puts_213 (lv_at hl 8 rfl) ?_
                      refine lv_ior S.1 S.2.1 dX7_puts_215 ?_
                      refine lv_iload S.1 S.2.1 dX7_puts_216 (lv_at hl 6 rfl) ?_
                      refine lv_ior S.1 S.2.1 dX7_puts_218 ?_
                      refine w_joinl 232 [.int ((x0 ||| ((1 : Int32) <<< ((fS (18 + (nI gg)).toNatClampNeg) &&& 31))) ||| z44), .ref mO] (fun z232 => True) (fun z232 hz232 => ?_) (fun J232 => ?_)
                      · refine w_joinl 244 [.long z232, .int ((x0 ||| ((1 : Int32) <<< ((fS (18 + (nI gg)).toNatClampNeg) &&& 31))) ||| z44), .ref mO] (fun z244 => True) (fun z244 hz244 => ?_) (fun J244 => ?_)
                        · refine lv_lmul S.1 S.2.1 dX7_puts_244 ?_
                          refine cq_v C w [0, 2, 3] [1] [1, 0, 2, 3] (wr := [(mS, .inl (G.2.1 2, 49, .inl fS))]) (w' := fun u : Nat × (Nat → Int32) × (Nat → Int64) => [(mO, .inr (7, [.ref mS, .ref mD, .ref mR, .ref mT, .int mt, .int ma, .int mn, .ref mW, .ref mQ, .ref mC, .int my, .ref mU, .ref mV, .int (nI u.1), .int mf, .int mg])), (mU, .inl (G.2.1 2, 200, .inl u.2.1)), (mV, .inl (G.2.1 3, 200, .inr (.inl u.2.2)))]) (ws2 := fun u : Nat × (Nat → Int32) × (Nat → Int64) => [(mO, .inr (7, [.ref mS, .ref mD, .ref mR, .ref mT, .int mt, .int ma, .int mn, .ref mW, .ref mQ, .ref mC, .int my, .ref mU, .ref mV, .int (nI u.1), .int mf, .int mg])), (mS, .inl (G.2.1 2, 49, .inl fS)), (mU, .inl (G.2.1 2, 200, .inl u.2.1)), (mV, .inl (G.2.1 3, 200, .inr (.inl u.2.2)))]) rfl rfl rfl (by decide) rfl (fun _ => rfl) (va_runV (As := [.int ((x0 ||| ((1 : Int32) <<< ((fS (18 + (nI gg)).toNatClampNeg) &&& 31))) ||| z44), .long (z232 * z244)]) (rest := []) S (c_X7_adds l G mO mU mV _ mS mD mR mT mW mQ mC mt ma mn my mf mg u164_1.1 u164_1.2.1 u164_1.2.2 ((x0 ||| ((1 : Int32) <<< ((fS (18 + (nI gg)).toNatClampNeg) &&& 31))) ||| z44) (z232 * z244) (by omega)) (cwV 2 S.2.2.2.2 gX7_puts_X7_adds rfl rfl rfl (by decide +kernel) ⟨Nat.le_of_ble_eq_true rfl, Nat.le_of_ble_eq_true rfl⟩) ⟨wPre_blind, va_recv C.1 w.1 (ci := 7) (q0 := 0) rfl rfl, wPre_at C w [0, 2, 3] rfl rfl⟩ rfl rfl hl.1 rfl (lv_room (Nat.le_of_ble_eq_true rfl)) dX7_puts_245 ⟨Nat.le_of_ble_eq_true rfl, Nat.le_of_ble_eq_true rfl⟩) (fun u245_6 H locs h245_6 w => ?_)
                          have w : Wd G _ s [(mO, .inr (7, [.ref mS, .ref mD, .ref mR, .ref mT, .int mt, .int ma, .int mn, .ref mW, .ref mQ, .ref mC, .int my, .ref mU, .ref mV, .int (nI u245_6.1), .int mf, .int mg])), (mS, .inl (G.2.1 2, 49, .inl fS)), (mU, .inl (G.2.1 2, 200, .inl u245_6.2.1)), (mV, .inl (G.2.1 3, 200, .inr (.inl u245_6.2.2)))] H locs := w
                          exact W.vret S.1 S.2.1 hr (fun t ht _ => ⟨⟨(u245_6.1, u245_6.2.1, u245_6.2.2), rfl, by dsimp only; omega, by rw [ht]; exact w.1, w.2.1⟩, w.2.2.F ht⟩) w.2.2.2.2 dX7_puts_248
                        · refine lv_iload S.1 S.2.1 dX7_puts_232 (lv_at hl 1 rfl) ?_
                          refine lv_if_eq (tgt := 243) S.1 S.2.1 dX7_puts_234 (by decide) (fun c234_6 => ?_) (fun c234_6 => ?_)
                          · refine lv_lconst (v := 1) S.1 S.2.1 dX7_puts_243 (by decide) ?_
                            exact J244 1 (trivial)
                          · refine lv_ldc2 (own := RX7) (v := 2) S.1 S.2.1 S.2.2.2.1 (S.2.2.2.2 _ (List.mem_of_getElem? (i := 2) rfl)) dX7_puts_237 ?_
                            refine lv_goto (tgt := 244) S.1 S.2.1 dX7_puts_240 (by decide) ?_
                            exact J244 2 (trivial)
                      · refine lv_iload S.1 S.2.1 dX7_puts_219 (lv_at hl 0 rfl) ?_
                        refine lv_if_eq (tgt := 230) S.1 S.2.1 dX7_puts_221 (by decide) (fun c221_6 => ?_) (fun c221_6 => ?_)
                        · refine lv_lload S.1 S.2.1 dX7_puts_230 (lv_at hl 2 rfl) ?_
                          exact J232 z150 (trivial)
                        · refine lv_lload S.1 S.2.1 dX7_puts_224 (lv_at hl 2 rfl) ?_
                          refine lv_lneg S.1 S.2.1 dX7_puts_226 ?_
                          refine lv_goto (tgt := 232) S.1 S.2.1 dX7_puts_227 (by decide) ?_
                          exact J232 (-z150) (trivial)
                    · refine lv_iload S.1 S.2.1 dX7_puts_187 (lv_at hl 5 rfl) ?_
                      refine lv_iconst (v := 3) S.1 S.2.1 dX7_puts_189 (by decide) ?_
                      refine lv_icmp_eq (tgt := 200) S.1 S.2.1 dX7_puts_190 (by decide) (fun c190_6 => ?_) (fun c190_6 => ?_)
                      · refine lv_iconst (v := 1) S.1 S.2.1 dX7_puts_200 (by decide) ?_
                        refine lv_goto (tgt := 205) S.1 S.2.1 dX7_puts_201 (by decide) ?_
                        exact J205 1 (trivial)
                      · refine lv_iload S.1 S.2.1 dX7_puts_193 (lv_at hl 5 rfl) ?_
                        refine lv_bipush (v := 6) S.1 S.2.1 dX7_puts_195 (by decide) ?_
                        refine lv_icmp_ne (tgt := 204) S.1 S.2.1 dX7_puts_197 (by decide) (fun c197_6 => ?_) (fun c197_6 => ?_)
                        · refine lv_iconst (v := 0) S.1 S.2.1 dX7_puts_204 (by decide) ?_
                          exact J205 0 (trivial)
                        · refine lv_iconst (v := 1) S.1 S.2.1 dX7_puts_200 (by decide) ?_
                          refine lv_goto (tgt := 205) S.1 S.2.1 dX7_puts_201 (by decide) ?_
                          exact J205 1 (trivial)
                · refine lv_aload_n S.1 S.2.1 dX7_puts_172 rfl (lv_at hl 7 rfl) ?_
                  refine lv_iload_n S.1 S.2.1 dX7_puts_173 rfl (lv_at hl 9 rfl) ?_
                  refine lv_iload S.1 S.2.1 dX7_puts_174 (lv_at hl 4 rfl) ?_
                  refine lv_ior S.1 S.2.1 dX7_puts_176 ?_
                  refine lv_lload S.1 S.2.1 dX7_puts_177 (lv_at hl 0 rfl) ?_
                  refine cq_v C w [0, 2, 3] [1] [1, 0, 2, 3] (wr := [(mS, .inl (G.2.1 2, 49, .inl fS))]) (w' := fun u : Nat × (Nat → Int32) × (Nat → Int64) => [(mO, .inr (7, [.ref mS, .ref mD, .ref mR, .ref mT, .int mt, .int ma, .int mn, .ref mW, .ref mQ, .ref mC, .int my, .ref mU, .ref mV, .int (nI u.1), .int mf, .int mg])), (mU, .inl (G.2.1 2, 200, .inl u.2.1)), (mV, .inl (G.2.1 3, 200, .inr (.inl u.2.2)))]) (ws2 := fun u : Nat × (Nat → Int32) × (Nat → Int64) => [(mO, .inr (7, [.ref mS, .ref mD, .ref mR, .ref mT, .int mt, .int ma, .int mn, .ref mW, .ref mQ, .ref mC, .int my, .ref mU, .ref mV, .int (nI u.1), .int mf, .int mg])), (mS, .inl (G.2.1 2, 49, .inl fS)), (mU, .inl (G.2.1 2, 200, .inl u.2.1)), (mV, .inl (G.2.1 3, 200, .inr (.inl u.2.2)))]) rfl rfl rfl (by decide) rfl (fun _ => rfl) (va_runV (As := [.int (x0 ||| z44), .long z150]) (rest := []) S (c_X7_adds l G mO mU mV _ mS mD mR mT mW mQ mC mt ma mn my mf mg u164_1.1 u164_1.2.1 u164_1.2.2 (x0 ||| z44) z150 (by omega)) (cwV 2 S.2.2.2.2 gX7_puts_X7_adds rfl rfl rfl (by decide +kernel) ⟨Nat.le_of_ble_eq_true rfl, Nat.le_of_ble_eq_true rfl⟩) ⟨wPre_blind, va_recv C.1 w.1 (ci := 7) (q0 := 0) rfl rfl, wPre_at C w [0, 2, 3] rfl rfl⟩ rfl rfl hl.1 rfl (lv_room (Nat.le_of_ble_eq_true rfl)) dX7_puts_179 ⟨Nat.le_of_ble_eq_true rfl, Nat.le_of_ble_eq_true rfl⟩) (fun u179_3 H locs h179_3 w => ?_)
                  have w : Wd G _ s [(mO, .inr (7, [.ref mS, .ref mD, .ref mR, .ref mT, .int mt, .int ma, .int mn, .ref mW, .ref mQ, .ref mC, .int my, .ref mU, .ref mV, .int (nI u179_3.1), .int mf, .int mg])), (mS, .inl (G.2.1 2, 49, .inl fS)), (mU, .inl (G.2.1 2, 200, .inl u179_3.2.1)), (mV, .inl (G.2.1 3, 200, .inr (.inl u179_3.2.2)))] H locs := w
                  refine lv_iload S.1 S.2.1 dX7_puts_182 (lv_at hl 5 rfl) ?_
                  refine lv_if_eq (tgt := 248) S.1 S.2.1 dX7_puts_184 (by decide) (fun c184_7 => ?_) (fun c184_7 => ?_)
                  · exact W.vret S.1 S.2.1 hr (fun t ht _ => ⟨⟨(u179_3.1, u179_3.2.1, u179_3.2.2), rfl, by dsimp only; omega, by rw [ht]; exact w.1, w.2.1⟩, w.2.2.F ht⟩) w.2.2.2.2 dX7_puts_248
                  · refine w_joini 205 [] (fun z205 => True) (fun z205 hz205 => ?_) (fun J205 => ?_)
                    · refine lv_istore (lv' := [(13, .int z205), (11, .long z150), (10, .int z126), (9, .int z94), (8, .int z75), (7, .int z44), (6, .int (fS (6 + (nI gg)).toNatClampNeg)), (5, .int ((1 : Int32) <<< ((fS (18 + (nI gg)).toNatClampNeg) &&& 31))), (0, .ref mO), (1, .int (nI gg)), (2, .int x0), (3, .long b0)]) S.1 S.2.1 dX7_puts_205 hl (by decide) rfl (fun ls hl => ?_)
                      refine lv_iload S.1 S.2.1 dX7_puts_207 (lv_at hl 3 rfl) ?_
                      refine lv_istore (lv' := [(14, .int z94), (13, .int z205), (11, .long z150), (10, .int z126), (9, .int z94), (8, .int z75), (7, .int z44), (6, .int (fS (6 + (nI gg)).toNatClampNeg)), (5, .int ((1 : Int32) <<< ((fS (18 + (nI gg)).toNatClampNeg) &&& 31))), (0, .ref mO), (1, .int (nI gg)), (2, .int x0), (3, .long b0)]) S.1 S.2.1 dX7_puts_209 hl (by decide) rfl (fun ls hl => ?_)
                      refine lv_aload_n S.1 S.2.1 dX7_puts_211 rfl (lv_at hl 9 rfl) ?_
                      refine lv_iload_n S.1 S.2.1 dX7_puts_212 rfl (lv_at hl 11 rfl) ?_
                      refine lv_iload S.1 S.2.1 dX7_puts_213 (lv_at hl 8 rfl) ?_
                      refine lv_ior S.1 S.2.1 dX7_puts_215 ?_
                      refine lv_iload S.1 S.2.1 dX7_puts_216 (lv_at hl 6 rfl) ?_
                      refine lv_ior S.1 S.2.1 dX7_puts_218 ?_
                      refine w_joinl 232 [.int ((x0 ||| ((1 : Int32) <<< ((fS (18 + (nI gg)).toNatClampNeg) &&& 31))) ||| z44), .ref mO] (fun z232 => True) (fun z232 hz232 => ?_) (fun J232 => ?_)
                      · refine w_joinl 244 [.long z232, .int ((x0 ||| ((1 : Int32) <<< ((fS (18 + (nI gg)).toNatClampNeg) &&& 31))) ||| z44), .ref mO] (fun z244 => True) (fun z244 hz244 => ?_) (fun J244 => ?_)
                        · refine lv_lmul S.1 S.2.1 dX7_puts_244 ?_
                          refine cq_v C w [0, 2, 3] [1] [1, 0, 2, 3] (wr := [(mS, .inl (G.2.1 2, 49, .inl fS))]) (w' := fun u : Nat × (Nat → Int32) × (Nat → Int64) => [(mO, .inr (7, [.ref mS, .ref mD, .ref mR, .ref mT, .int mt, .int ma, .int mn, .ref mW, .ref mQ, .ref mC, .int my, .ref mU, .ref mV, .int (nI u.1), .int mf, .int mg])), (mU, .inl (G.2.1 2, 200, .inl u.2.1)), (mV, .inl (G.2.1 3, 200, .inr (.inl u.2.2)))]) (ws2 := fun u : Nat × (Nat → Int32) × (Nat → Int64) => [(mO, .inr (7, [.ref mS, .ref mD, .ref mR, .ref mT, .int mt, .int ma, .int mn, .ref mW, .ref mQ, .ref mC, .int my, .ref mU, .ref mV, .int (nI u.1), .int mf, .int mg])), (mS, .inl (G.2.1 2, 49, .inl fS)), (mU, .inl (G.2.1 2, 200, .inl u.2.1)), (mV, .inl (G.2.1 3, 200, .inr (.inl u.2.2)))]) rfl rfl rfl (by decide) rfl (fun _ => rfl) (va_runV (As := [.int ((x0 ||| ((1 : Int32) <<< ((fS (18 + (nI gg)).toNatClampNeg) &&& 31))) ||| z44), .long (z232 * z244)]) (rest := []) S (c_X7_adds l G mO mU mV _ mS mD mR mT mW mQ mC mt ma mn my mf mg u179_3.1 u179_3.2.1 u179_3.2.2 ((x0 ||| ((1 : Int32) <<< ((fS (18 + (nI gg)).toNatClampNeg) &&& 31))) ||| z44) (z232 * z244) (by omega)) (cwV 2 S.2.2.2.2 gX7_puts_X7_adds rfl rfl rfl (by decide +kernel) ⟨Nat.le_of_ble_eq_true rfl, Nat.le_of_ble_eq_true rfl⟩) ⟨wPre_blind, va_recv C.1 w.1 (ci := 7) (q0 := 0) rfl rfl, wPre_at C w [0, 2, 3] rfl rfl⟩ rfl rfl hl.1 rfl (lv_room (Nat.le_of_ble_eq_true rfl)) dX7_puts_245 ⟨Nat.le_of_ble_eq_true rfl, Nat.le_of_ble_eq_true rfl⟩) (fun u245_7 H locs h245_7 w => ?_)
                          have w : Wd G _ s [(mO, .inr (7, [.ref mS, .ref mD, .ref mR, .ref mT, .int mt, .int ma, .int mn, .ref mW, .ref mQ, .ref mC, .int my, .ref mU, .ref mV, .int (nI u245_7.1), .int mf, .int mg])), (mS, .inl (G.2.1 2, 49, .inl fS)), (mU, .inl (G.2.1 2, 200, .inl u245_7.2.1)), (mV, .inl (G.2.1 3, 200, .inr (.inl u245_7.2.2)))] H locs := w
                          exact W.vret S.1 S.2.1 hr (fun t ht _ => ⟨⟨(u245_7.1, u245_7.2.1, u245_7.2.2), rfl, by dsimp only; omega, by rw [ht]; exact w.1, w.2.1⟩, w.2.2.F ht⟩) w.2.2.2.2 dX7_puts_248
                        · refine lv_iload S.1 S.2.1 dX7_puts_232 (lv_at hl 1 rfl) ?_
                          refine lv_if_eq (tgt := 243) S.1 S.2.1 dX7_puts_234 (by decide) (fun c234_7 => ?_) (fun c234_7 => ?_)
                          · refine lv_lconst (v := 1) S.1 S.2.1 dX7_puts_243 (by decide) ?_
                            exact J244 1 (trivial)
                          · refine lv_ldc2 (own := RX7) (v := 2) S.1 S.2.1 S.2.2.2.1 (S.2.2.2.2 _ (List.mem_of_getElem? (i := 2) rfl)) dX7_puts_237 ?_
                            refine lv_goto (tgt := 244) S.1 S.2.1 dX7_puts_240 (by decide) ?_
                            exact J244 2 (trivial)
                      · refine lv_iload S.1 S.2.1 dX7_puts_219 (lv_at hl 0 rfl) ?_
                        refine lv_if_eq (tgt := 230) S.1 S.2.1 dX7_puts_221 (by decide) (fun c221_7 => ?_) (fun c221_7 => ?_)
                        · refine lv_lload S.1 S.2.1 dX7_puts_230 (lv_at hl 2 rfl) ?_
                          exact J232 z150 (trivial)
                        · refine lv_lload S.1 S.2.1 dX7_puts_224 (lv_at hl 2 rfl) ?_
                          refine lv_lneg S.1 S.2.1 dX7_puts_226 ?_
                          refine lv_goto (tgt := 232) S.1 S.2.1 dX7_puts_227 (by decide) ?_
                          exact J232 (-z150) (trivial)
                    · refine lv_iload S.1 S.2.1 dX7_puts_187 (lv_at hl 5 rfl) ?_
                      refine lv_iconst (v := 3) S.1 S.2.1 dX7_puts_189 (by decide) ?_
                      refine lv_icmp_eq (tgt := 200) S.1 S.2.1 dX7_puts_190 (by decide) (fun c190_7 => ?_) (fun c190_7 => ?_)
                      · refine lv_iconst (v := 1) S.1 S.2.1 dX7_puts_200 (by decide) ?_
                        refine lv_goto (tgt := 205) S.1 S.2.1 dX7_puts_201 (by decide) ?_
                        exact J205 1 (trivial)
                      · refine lv_iload S.1 S.2.1 dX7_puts_193 (lv_at hl 5 rfl) ?_
                        refine lv_bipush (v := 6) S.1 S.2.1 dX7_puts_195 (by decide) ?_
                        refine lv_icmp_ne (tgt := 204) S.1 S.2.1 dX7_puts_197 (by decide) (fun c197_7 => ?_) (fun c197_7 => ?_)
                        · refine lv_iconst (v := 0) S.1 S.2.1 dX7_puts_204 (by decide) ?_
                          exact J205 0 (trivial)
                        · refine lv_iconst (v := 1) S.1 S.2.1 dX7_puts_200 (by decide) ?_
                          refine lv_goto (tgt := 205) S.1 S.2.1 dX7_puts_201 (by decide) ?_
                          exact J205 1 (trivial)
            · refine lv_iload S.1 S.2.1 dX7_puts_139 (lv_at hl 2 rfl) ?_
              refine lv_if_eq (tgt := 149) S.1 S.2.1 dX7_puts_141 (by decide) (fun c141_1 => ?_) (fun c141_1 => ?_)
              · refine lv_lload_n S.1 S.2.1 dX7_puts_149 rfl (lv_at hl 9 rfl) ?_
                exact J150 b0 (trivial)
              · refine lv_lload_n S.1 S.2.1 dX7_puts_144 rfl (lv_at hl 9 rfl) ?_
                refine lv_lneg S.1 S.2.1 dX7_puts_145 ?_
                refine lv_goto (tgt := 150) S.1 S.2.1 dX7_puts_146 (by decide) ?_
                exact J150 (-b0) (trivial)
        · refine lv_iload S.1 S.2.1 dX7_puts_96 (lv_at hl 3 rfl) ?_
          refine lv_iconst (v := 2) S.1 S.2.1 dX7_puts_98 (by decide) ?_
          refine lv_icmp_eq (tgt := 121) S.1 S.2.1 dX7_puts_99 (by decide) (fun c99 => ?_) (fun c99 => ?_)
          · refine lv_iconst (v := 1) S.1 S.2.1 dX7_puts_121 (by decide) ?_
            refine lv_goto (tgt := 126) S.1 S.2.1 dX7_puts_122 (by decide) ?_
            exact J126 1 (trivial)
          · refine lv_iload S.1 S.2.1 dX7_puts_102 (lv_at hl 3 rfl) ?_
            refine lv_iconst (v := 3) S.1 S.2.1 dX7_puts_104 (by decide) ?_
            refine lv_icmp_eq (tgt := 121) S.1 S.2.1 dX7_puts_105 (by decide) (fun c105 => ?_) (fun c105 => ?_)
            · refine lv_iconst (v := 1) S.1 S.2.1 dX7_puts_121 (by decide) ?_
              refine lv_goto (tgt := 126) S.1 S.2.1 dX7_puts_122 (by decide) ?_
              exact J126 1 (trivial)
            · refine lv_iload S.1 S.2.1 dX7_puts_108 (lv_at hl 3 rfl) ?_
              refine lv_iconst (v := 5) S.1 S.2.1 dX7_puts_110 (by decide) ?_
              refine lv_icmp_eq (tgt := 121) S.1 S.2.1 dX7_puts_111 (by decide) (fun c111 => ?_) (fun c111 => ?_)
              · refine lv_iconst (v := 1) S.1 S.2.1 dX7_puts_121 (by decide) ?_
                refine lv_goto (tgt := 126) S.1 S.2.1 dX7_puts_122 (by decide) ?_
                exact J126 1 (trivial)
              · refine lv_iload S.1 S.2.1 dX7_puts_114 (lv_at hl 3 rfl) ?_
                refine lv_bipush (v := 6) S.1 S.2.1 dX7_puts_116 (by decide) ?_
                refine lv_icmp_ne (tgt := 125) S.1 S.2.1 dX7_puts_118 (by decide) (fun c118 => ?_) (fun c118 => ?_)
                · refine lv_iconst (v := 0) S.1 S.2.1 dX7_puts_125 (by decide) ?_
                  exact J126 0 (trivial)
                · refine lv_iconst (v := 1) S.1 S.2.1 dX7_puts_121 (by decide) ?_
                  refine lv_goto (tgt := 126) S.1 S.2.1 dX7_puts_122 (by decide) ?_
                  exact J126 1 (trivial)
      · refine lv_iload S.1 S.2.1 dX7_puts_77 (lv_at hl 2 rfl) ?_
        refine lv_iconst (v := 1) S.1 S.2.1 dX7_puts_79 (by decide) ?_
        refine lv_icmp_eq (tgt := 93) S.1 S.2.1 dX7_puts_80 (by decide) (fun c80 => ?_) (fun c80 => ?_)
        · refine lv_iconst (v := 0) S.1 S.2.1 dX7_puts_93 (by decide) ?_
          exact J94 0 (trivial)
        · refine lv_iload S.1 S.2.1 dX7_puts_83 (lv_at hl 2 rfl) ?_
          refine lv_iconst (v := 4) S.1 S.2.1 dX7_puts_85 (by decide) ?_
          refine lv_icmp_eq (tgt := 93) S.1 S.2.1 dX7_puts_86 (by decide) (fun c86 => ?_) (fun c86 => ?_)
          · refine lv_iconst (v := 0) S.1 S.2.1 dX7_puts_93 (by decide) ?_
            exact J94 0 (trivial)
          · refine lv_iconst (v := 1) S.1 S.2.1 dX7_puts_89 (by decide) ?_
            refine lv_goto (tgt := 94) S.1 S.2.1 dX7_puts_90 (by decide) ?_
            exact J94 1 (trivial)
    · refine lv_iload S.1 S.2.1 dX7_puts_46 (lv_at hl 1 rfl) ?_
      refine lv_if_eq (tgt := 70) S.1 S.2.1 dX7_puts_48 (by decide) (fun c48 => ?_) (fun c48 => ?_)
      · refine lv_iconst (v := 1) S.1 S.2.1 dX7_puts_70 (by decide) ?_
        refine lv_goto (tgt := 75) S.1 S.2.1 dX7_puts_71 (by decide) ?_
        exact J75 1 (trivial)
      · refine lv_iload S.1 S.2.1 dX7_puts_51 (lv_at hl 1 rfl) ?_
        refine lv_iconst (v := 4) S.1 S.2.1 dX7_puts_53 (by decide) ?_
        refine lv_icmp_eq (tgt := 70) S.1 S.2.1 dX7_puts_54 (by decide) (fun c54 => ?_) (fun c54 => ?_)
        · refine lv_iconst (v := 1) S.1 S.2.1 dX7_puts_70 (by decide) ?_
          refine lv_goto (tgt := 75) S.1 S.2.1 dX7_puts_71 (by decide) ?_
          exact J75 1 (trivial)
        · refine lv_iload S.1 S.2.1 dX7_puts_57 (lv_at hl 1 rfl) ?_
          refine lv_iconst (v := 5) S.1 S.2.1 dX7_puts_59 (by decide) ?_
          refine lv_icmp_eq (tgt := 70) S.1 S.2.1 dX7_puts_60 (by decide) (fun c60 => ?_) (fun c60 => ?_)
          · refine lv_iconst (v := 1) S.1 S.2.1 dX7_puts_70 (by decide) ?_
            refine lv_goto (tgt := 75) S.1 S.2.1 dX7_puts_71 (by decide) ?_
            exact J75 1 (trivial)
          · refine lv_iload S.1 S.2.1 dX7_puts_63 (lv_at hl 1 rfl) ?_
            refine lv_bipush (v := 6) S.1 S.2.1 dX7_puts_65 (by decide) ?_
            refine lv_icmp_ne (tgt := 74) S.1 S.2.1 dX7_puts_67 (by decide) (fun c67 => ?_) (fun c67 => ?_)
            · refine lv_iconst (v := 0) S.1 S.2.1 dX7_puts_74 (by decide) ?_
              exact J75 0 (trivial)
            · refine lv_iconst (v := 1) S.1 S.2.1 dX7_puts_70 (by decide) ?_
              refine lv_goto (tgt := 75) S.1 S.2.1 dX7_puts_71 (by decide) ?_
              exact J75 1 (trivial)
  · refine lv_iload S.1 S.2.1 dX7_puts_24 (lv_at hl 0 rfl) ?_
    refine lv_if_ne (tgt := 33) S.1 S.2.1 dX7_puts_26 (by decide) (fun c26 => ?_) (fun c26 => ?_)
    · refine lv_iconst (v := 1) S.1 S.2.1 dX7_puts_33 (by decide) ?_
      refine lv_aload_n S.1 S.2.1 dX7_puts_34 rfl (lv_at hl 2 rfl) ?_
      refine w_get S C w (CC := RX7) (T := TX7) (N := 16) (ref := "GateSumsModel") im_X7_puts_X7 0 rfl rfl 0 (by decide) (List.mem_of_getElem? (i := 1) rfl) (fun _ h => h) rfl dX7_puts_35 ?_
      refine lv_bipush (v := 30) S.1 S.2.1 dX7_puts_38 (by decide) ?_
      refine lv_iload_n S.1 S.2.1 dX7_puts_40 rfl (lv_at hl 3 rfl) ?_
      refine lv_iadd S.1 S.2.1 dX7_puts_41 ?_
      refine w_iald S C w 1 rfl (ixA 30 _ (by omega)) dX7_puts_42 ?_
      refine lv_ishl S.1 S.2.1 dX7_puts_43 ?_
      exact J44 ((1 : Int32) <<< ((fS (30 + (nI gg)).toNatClampNeg) &&& 31)) (trivial)
    · refine lv_iconst (v := 0) S.1 S.2.1 dX7_puts_29 (by decide) ?_
      refine lv_goto (tgt := 44) S.1 S.2.1 dX7_puts_30 (by decide) ?_
      exact J44 0 (trivial)
theorem im_X7_step_X7 : ∀ w ∈ u_ws RX7 TX7 16, w ∈ wsX7_step := by decide +kernel
set_option maxHeartbeats 4000000 in
set_option maxRecDepth 100000 in
theorem c_X7_step (l : Launch) (G : GT) (mO mS mQ mC mU mV : Nat) (sz : Nat) (mD mR mT mW : Nat) (mt ma mn mf mg : Int32) (nN mM gg : Nat) (fS fQ fU : Nat → Int32) (lC lV : Nat → Int64) (hgg : gg < 12) (hnN : nN ≤ 40) (hm0 : mM = 0) : Met l yX7_step wsX7_step ({ frames := 2, cells := 0, slots := 0, locals := 58 }) (va_Pc [.ref mO, .int (nI gg)] (wPre G [(mO, .inr (7, [.ref mS, .ref mD, .ref mR, .ref mT, .int mt, .int ma, .int mn, .ref mW, .ref mQ, .ref mC, .int (nI nN), .ref mU, .ref mV, .int (nI mM), .int mf, .int mg])), (mS, .inl (G.2.1 2, 49, .inl fS)), (mQ, .inl (G.2.1 2, 200, .inl fQ)), (mC, .inl (G.2.1 3, 200, .inr (.inl lC))), (mU, .inl (G.2.1 2, 200, .inl fU)), (mV, .inl (G.2.1 3, 200, .inr (.inl lV)))] sz)) (va_Qi (fun (r : Int32) (u : Nat × (Nat → Int32) × (Nat → Int64) × (Nat → Int32) × (Nat → Int64)) => (r = 0 ∨ r = 1) ∧ u.1 ≤ 200 ∧ (¬ r = 0 → u.1 ≤ 40)) (bW G (va_A [(mO, .inr (7, [.ref mS, .ref mD, .ref mR, .ref mT, .int mt, .int ma, .int mn, .ref mW, .ref mQ, .ref mC, .int (nI nN), .ref mU, .ref mV, .int (nI mM), .int mf, .int mg])), (mS, .inl (G.2.1 2, 49, .inl fS)), (mQ, .inl (G.2.1 2, 200, .inl fQ)), (mC, .inl (G.2.1 3, 200, .inr (.inl lC))), (mU, .inl (G.2.1 2, 200, .inl fU)), (mV, .inl (G.2.1 3, 200, .inr (.inl lV)))] sz) (fun u : Nat × (Nat → Int32) × (Nat → Int64) × (Nat → Int32) × (Nat → Int64) => [(mO, .inr (7, [.ref mS, .ref mD, .ref mR, .ref mT, .int mt, .int ma, .int mn, .ref mW, .ref mQ, .ref mC, .int (nI u.1), .ref mU, .ref mV, .int 0, .int mf, .int mg])), (mS, .inl (G.2.1 2, 49, .inl fS)), (mQ, .inl (G.2.1 2, 200, .inl u.2.1)), (mC, .inl (G.2.1 3, 200, .inr (.inl u.2.2.1))), (mU, .inl (G.2.1 2, 200, .inl u.2.2.2.1)), (mV, .inl (G.2.1 3, 200, .inr (.inl u.2.2.2.2)))])) (va_A [(mO, .inr (7, [.ref mS, .ref mD, .ref mR, .ref mT, .int mt, .int ma, .int mn, .ref mW, .ref mQ, .ref mC, .int (nI nN), .ref mU, .ref mV, .int (nI mM), .int mf, .int mg])), (mS, .inl (G.2.1 2, 49, .inl fS)), (mQ, .inl (G.2.1 2, 200, .inl fQ)), (mC, .inl (G.2.1 3, 200, .inr (.inl lC))), (mU, .inl (G.2.1 2, 200, .inl fU)), (mV, .inl (G.2.1 3, 200, .inr (.inl lV)))] sz)) 0 0 (va_A [(mO, .inr (7, [.ref mS, .ref mD, .ref mR, .ref mT, .int mt, .int ma, .int mn, .ref mW, .ref mQ, .ref mC, .int (nI nN), .ref mU, .ref mV, .int (nI mM), .int mf, .int mg])), (mS, .inl (G.2.1 2, 49, .inl fS)), (mQ, .inl (G.2.1 2, 200, .inl fQ)), (mC, .inl (G.2.1 3, 200, .inr (.inl lC))), (mU, .inl (G.2.1 2, 200, .inl fU)), (mV, .inl (G.2.1 3, 200, .inr (.inl lV)))] sz) := by
  refine met_go (cc := cX7_step) (maxL := 4) (ret := (some .boolean)) (own := RX7) (by decide) rfl rfl (Nat.le_of_ble_eq_true rfl) ?_
  intro p e s m below meth c ls S hr hlocks hname hsz C w hl
  have hl : lv_has ls 4 [(0, .ref mO), (1, .int (nI gg))] := hl
  refine lv_iconst (v := 1) S.1 S.2.1 dX7_step_0 (by decide) ?_
  refine lv_aload_n S.1 S.2.1 dX7_step_1 rfl (lv_at hl 0 rfl) ?_
  refine w_get S C w (CC := RX7) (T := TX7) (N := 16) (ref := "GateSumsModel") im_X7_step_X7 0 rfl rfl 0 (by decide) (List.mem_of_getElem? (i := 1) rfl) (fun _ h => h) rfl dX7_step_2 ?_
  refine lv_iconst (v := 0) S.1 S.2.1 dX7_step_5 (by decide) ?_
  refine w_iald S C w 1 rfl (by unfold vp_in; decide) dX7_step_6 ?_
  refine lv_iload_n S.1 S.2.1 dX7_step_7 rfl (lv_at hl 1 rfl) ?_
  refine lv_iadd S.1 S.2.1 dX7_step_8 ?_
  refine lv_ishl S.1 S.2.1 dX7_step_9 ?_
  refine lv_istore_n (lv' := [(2, .int ((1 : Int32) <<< (((fS (0 : Int32).toNatClampNeg) + (nI gg)) &&& 31))), (0, .ref mO), (1, .int (nI gg))]) S.1 S.2.1 dX7_step_10 rfl hl (by decide) rfl (fun ls hl => ?_)
  refine lv_iconst (v := 0) S.1 S.2.1 dX7_step_11 (by decide) ?_
  refine lv_istore_n (lv' := [(3, .int 0), (2, .int ((1 : Int32) <<< (((fS (0 : Int32).toNatClampNeg) + (nI gg)) &&& 31))), (0, .ref mO), (1, .int (nI gg))]) S.1 S.2.1 dX7_step_12 rfl hl (by decide) rfl (fun ls hl => ?_)
  refine w_loop (G := G) (σ := Nat × Nat × (Nat → Int32) × (Nat → Int64)) (nL := 4) 13 (fun x13 => nN - x13.1) (fun x13 => x13.1 ≤ nN ∧ x13.2.1 ≤ 4 * x13.1) (fun x13 => [(mO, .inr (7, [.ref mS, .ref mD, .ref mR, .ref mT, .int mt, .int ma, .int mn, .ref mW, .ref mQ, .ref mC, .int (nI nN), .ref mU, .ref mV, .int (nI x13.2.1), .int mf, .int mg])), (mS, .inl (G.2.1 2, 49, .inl fS)), (mQ, .inl (G.2.1 2, 200, .inl fQ)), (mC, .inl (G.2.1 3, 200, .inr (.inl lC))), (mU, .inl (G.2.1 2, 200, .inl x13.2.2.1)), (mV, .inl (G.2.1 3, 200, .inr (.inl x13.2.2.2)))]) (fun x13 => [(3, .int (nI x13.1)), (2, .int ((1 : Int32) <<< (((fS (0 : Int32).toNatClampNeg) + (nI gg)) &&& 31))), (0, .ref mO), (1, .int (nI gg))]) (fun _ => []) ?_ (0, mM, fU, lV) ls _ _ (⟨Nat.zero_le _, by dsimp only; omega⟩) w (lv_sub hl [0, 1, 2, 3] rfl)
  intro x13 ls H locs hI13 w hl ih13
  have w : Wd G _ s [(mO, .inr (7, [.ref mS, .ref mD, .ref mR, .ref mT, .int mt, .int ma, .int mn, .ref mW, .ref mQ, .ref mC, .int (nI nN), .ref mU, .ref mV, .int (nI x13.2.1), .int mf, .int mg])), (mS, .inl (G.2.1 2, 49, .inl fS)), (mQ, .inl (G.2.1 2, 200, .inl fQ)), (mC, .inl (G.2.1 3, 200, .inr (.inl lC))), (mU, .inl (G.2.1 2, 200, .inl x13.2.2.1)), (mV, .inl (G.2.1 3, 200, .inr (.inl x13.2.2.2)))] H locs := w
  have hl : lv_has ls 4 [(3, .int (nI x13.1)), (2, .int ((1 : Int32) <<< (((fS (0 : Int32).toNatClampNeg) + (nI gg)) &&& 31))), (0, .ref mO), (1, .int (nI gg))] := hl
  refine lv_iload_n S.1 S.2.1 dX7_step_13 rfl (lv_at hl 0 rfl) ?_
  refine lv_aload_n S.1 S.2.1 dX7_step_14 rfl (lv_at hl 2 rfl) ?_
  refine w_get S C w (CC := RX7) (T := TX7) (N := 16) (ref := "GateSumsModel") im_X7_step_X7 0 rfl rfl 10 (by decide) (List.mem_of_getElem? (i := 2) rfl) (fun _ h => h) rfl dX7_step_15 ?_
  refine lv_icmp_ge (tgt := 78) S.1 S.2.1 dX7_step_18 (by decide) (fun c18 => ?_) (fun c18 => ?_)
  · refine lv_aload_n S.1 S.2.1 dX7_step_78 rfl (lv_at hl 2 rfl) ?_
    refine cq_i C w [0, 2, 3, 4, 5] [1] [1, 0, 2, 3, 4, 5] (wr := [(mS, .inl (G.2.1 2, 49, .inl fS))]) (w' := fun u : Nat × (Nat → Int32) × (Nat → Int64) => [(mO, .inr (7, [.ref mS, .ref mD, .ref mR, .ref mT, .int mt, .int ma, .int mn, .ref mW, .ref mQ, .ref mC, .int (nI u.1), .ref mU, .ref mV, .int 0, .int mf, .int mg])), (mQ, .inl (G.2.1 2, 200, .inl u.2.1)), (mC, .inl (G.2.1 3, 200, .inr (.inl u.2.2))), (mU, .inl (G.2.1 2, 200, .inl x13.2.2.1)), (mV, .inl (G.2.1 3, 200, .inr (.inl x13.2.2.2)))]) (ws2 := fun u : Nat × (Nat → Int32) × (Nat → Int64) => [(mO, .inr (7, [.ref mS, .ref mD, .ref mR, .ref mT, .int mt, .int ma, .int mn, .ref mW, .ref mQ, .ref mC, .int (nI u.1), .ref mU, .ref mV, .int 0, .int mf, .int mg])), (mS, .inl (G.2.1 2, 49, .inl fS)), (mQ, .inl (G.2.1 2, 200, .inl u.2.1)), (mC, .inl (G.2.1 3, 200, .inr (.inl u.2.2))), (mU, .inl (G.2.1 2, 200, .inl x13.2.2.1)), (mV, .inl (G.2.1 3, 200, .inr (.inl x13.2.2.2)))]) rfl rfl rfl (by decide) rfl (fun _ => rfl) (va_runV (As := []) (rest := []) S (c_X7_becomes l G mO mQ mC mU mV _ mS mD mR mT mW mt ma mn (nI nN) mf mg x13.2.1 fQ x13.2.2.1 lC x13.2.2.2 (by have := hI13; omega)) (cwV 0 S.2.2.2.2 gX7_step_X7_becomes rfl rfl rfl (by decide +kernel) ⟨Nat.le_of_ble_eq_true rfl, Nat.le_of_ble_eq_true rfl⟩) ⟨wPre_blind, va_recv C.1 w.1 (ci := 7) (q0 := 0) rfl rfl, wPre_at C w [0, 2, 3, 4, 5] rfl rfl⟩ rfl rfl hl.1 rfl (lv_room (Nat.le_of_ble_eq_true rfl)) dX7_step_79 ⟨Nat.le_of_ble_eq_true rfl, Nat.le_of_ble_eq_true rfl⟩) (fun r79 u79 H locs h79 w => ?_)
    have w : Wd G _ s [(mO, .inr (7, [.ref mS, .ref mD, .ref mR, .ref mT, .int mt, .int ma, .int mn, .ref mW, .ref mQ, .ref mC, .int (nI u79.1), .ref mU, .ref mV, .int 0, .int mf, .int mg])), (mS, .inl (G.2.1 2, 49, .inl fS)), (mQ, .inl (G.2.1 2, 200, .inl u79.2.1)), (mC, .inl (G.2.1 3, 200, .inr (.inl u79.2.2))), (mU, .inl (G.2.1 2, 200, .inl x13.2.2.1)), (mV, .inl (G.2.1 3, 200, .inr (.inl x13.2.2.2)))] H locs := w
    exact W.zret (v := r79) S.1 S.2.1 hr (z01_nar (h79).1) (fun t ht _ => ⟨⟨r79, (u79.1, u79.2.1, u79.2.2, x13.2.2.1, x13.2.2.2), rfl, ⟨(h79).1, by have := (h79).2.1; have := hI13; omega, (h79).2.2⟩, by rw [ht]; exact w.1, w.2.1⟩, w.2.2.F ht⟩) w.2.2.2.2 dX7_step_82
  · refine lv_aload_n S.1 S.2.1 dX7_step_21 rfl (lv_at hl 2 rfl) ?_
    refine w_get S C w (CC := RX7) (T := TX7) (N := 16) (ref := "GateSumsModel") im_X7_step_X7 0 rfl rfl 8 (by decide) (List.mem_of_getElem? (i := 3) rfl) (fun _ h => h) rfl dX7_step_22 ?_
    refine lv_iload_n S.1 S.2.1 dX7_step_25 rfl (lv_at hl 0 rfl) ?_
    refine w_iald S C w 2 rfl (nIin (by have h := c18; rw [nI_leI (by omega) (by omega)] at h; omega) (by decide)) dX7_step_26 ?_
    refine lv_iload_n S.1 S.2.1 dX7_step_27 rfl (lv_at hl 1 rfl) ?_
    refine lv_iand S.1 S.2.1 dX7_step_28 ?_
    refine lv_if_ne (tgt := 51) S.1 S.2.1 dX7_step_29 (by decide) (fun c29 => ?_) (fun c29 => ?_)
    · refine lv_aload_n S.1 S.2.1 dX7_step_51 rfl (lv_at hl 2 rfl) ?_
      refine lv_iload_n S.1 S.2.1 dX7_step_52 rfl (lv_at hl 3 rfl) ?_
      refine lv_aload_n S.1 S.2.1 dX7_step_53 rfl (lv_at hl 2 rfl) ?_
      refine w_get S C w (CC := RX7) (T := TX7) (N := 16) (ref := "GateSumsModel") im_X7_step_X7 0 rfl rfl 8 (by decide) (List.mem_of_getElem? (i := 3) rfl) (fun _ h => h) rfl dX7_step_54 ?_
      refine lv_iload_n S.1 S.2.1 dX7_step_57 rfl (lv_at hl 0 rfl) ?_
      refine w_iald S C w 2 rfl (nIin (by have h := c18; rw [nI_leI (by omega) (by omega)] at h; omega) (by decide)) dX7_step_58 ?_
      refine lv_iload_n S.1 S.2.1 dX7_step_59 rfl (lv_at hl 1 rfl) ?_
      refine lv_iconst (v := (-1)) S.1 S.2.1 dX7_step_60 (by decide) ?_
      refine lv_ixor S.1 S.2.1 dX7_step_61 ?_
      refine lv_iand S.1 S.2.1 dX7_step_62 ?_
      refine lv_aload_n S.1 S.2.1 dX7_step_63 rfl (lv_at hl 2 rfl) ?_
      refine w_get S C w (CC := RX7) (T := TX7) (N := 16) (ref := "GateSumsModel") im_X7_step_X7 0 rfl rfl 9 (by decide) (List.mem_of_getElem? (i := 4) rfl) (fun _ h => h) rfl dX7_step_64 ?_
      refine lv_iload_n S.1 S.2.1 dX7_step_67 rfl (lv_at hl 0 rfl) ?_
      refine w_lald S C w 3 rfl (nIin (by have h := c18; rw [nI_leI (by omega) (by omega)] at h; omega) (by decide)) dX7_step_68 ?_
      refine cq_v C w [0, 1, 4, 5] [2, 3] [2, 3, 0, 1, 4, 5] (wr := [(mQ, .inl (G.2.1 2, 200, .inl fQ)), (mC, .inl (G.2.1 3, 200, .inr (.inl lC)))]) (w' := fun u : Nat × (Nat → Int32) × (Nat → Int64) => [(mO, .inr (7, [.ref mS, .ref mD, .ref mR, .ref mT, .int mt, .int ma, .int mn, .ref mW, .ref mQ, .ref mC, .int (nI nN), .ref mU, .ref mV, .int (nI u.1), .int mf, .int mg])), (mS, .inl (G.2.1 2, 49, .inl fS)), (mU, .inl (G.2.1 2, 200, .inl u.2.1)), (mV, .inl (G.2.1 3, 200, .inr (.inl u.2.2)))]) (ws2 := fun u : Nat × (Nat → Int32) × (Nat → Int64) => [(mO, .inr (7, [.ref mS, .ref mD, .ref mR, .ref mT, .int mt, .int ma, .int mn, .ref mW, .ref mQ, .ref mC, .int (nI nN), .ref mU, .ref mV, .int (nI u.1), .int mf, .int mg])), (mS, .inl (G.2.1 2, 49, .inl fS)), (mQ, .inl (G.2.1 2, 200, .inl fQ)), (mC, .inl (G.2.1 3, 200, .inr (.inl lC))), (mU, .inl (G.2.1 2, 200, .inl u.2.1)), (mV, .inl (G.2.1 3, 200, .inr (.inl u.2.2)))]) rfl rfl rfl (by decide) rfl (fun _ => rfl) (va_runV (As := [.int (nI gg), .int ((fQ (nI x13.1).toNatClampNeg) &&& (((1 : Int32) <<< (((fS (0 : Int32).toNatClampNeg) + (nI gg)) &&& 31)) ^^^ (-1))), .long (lC (nI x13.1).toNatClampNeg)]) (rest := []) S (c_X7_puts l G mO mS mU mV _ mD mR mT mW mQ mC mt ma mn (nI nN) mf mg x13.2.1 gg fS x13.2.2.1 x13.2.2.2 ((fQ (nI x13.1).toNatClampNeg) &&& (((1 : Int32) <<< (((fS (0 : Int32).toNatClampNeg) + (nI gg)) &&& 31)) ^^^ (-1))) (lC (nI x13.1).toNatClampNeg) (hgg) (by have := hI13; have h := c18; rw [nI_leI (by omega) (by omega)] at h; omega)) (cwV 3 S.2.2.2.2 gX7_step_X7_puts rfl rfl rfl (by decide +kernel) ⟨Nat.le_of_ble_eq_true rfl, Nat.le_of_ble_eq_true rfl⟩) ⟨wPre_blind, va_recv C.1 w.1 (ci := 7) (q0 := 0) rfl rfl, wPre_at C w [0, 1, 4, 5] rfl rfl⟩ rfl rfl hl.1 rfl (lv_room (Nat.le_of_ble_eq_true rfl)) dX7_step_69 ⟨Nat.le_of_ble_eq_true rfl, Nat.le_of_ble_eq_true rfl⟩) (fun u69 H locs h69 w => ?_)
      have w : Wd G _ s [(mO, .inr (7, [.ref mS, .ref mD, .ref mR, .ref mT, .int mt, .int ma, .int mn, .ref mW, .ref mQ, .ref mC, .int (nI nN), .ref mU, .ref mV, .int (nI u69.1), .int mf, .int mg])), (mS, .inl (G.2.1 2, 49, .inl fS)), (mQ, .inl (G.2.1 2, 200, .inl fQ)), (mC, .inl (G.2.1 3, 200, .inr (.inl lC))), (mU, .inl (G.2.1 2, 200, .inl u69.2.1)), (mV, .inl (G.2.1 3, 200, .inr (.inl u69.2.2)))] H locs := w
      refine lv_iinc (v := (nI (x13.1 + 1))) (lv' := [(3, .int (nI (x13.1 + 1))), (2, .int ((1 : Int32) <<< (((fS (0 : Int32).toNatClampNeg) + (nI gg)) &&& 31))), (0, .ref mO), (1, .int (nI gg))]) S.1 S.2.1 dX7_step_72 hl (k := 0) rfl (nI_1 _) (by decide) rfl (fun ls hl => ?_)
      refine lv_goto (tgt := 13) S.1 S.2.1 dX7_step_75 (by decide) ?_
      have hlt_jj : x13.1 < nN := by have h := c18; rw [nI_leI (by omega) (by omega)] at h; omega
      have hI13b := hI13
      have hQ := h69
      exact ih13 (x13.1 + 1, u69.1, u69.2.1, u69.2.2) ls _ _ (by dsimp only; omega) (by dsimp only; omega) w (lv_sub hl [0, 1, 2, 3] rfl)
    · refine lv_aload_n S.1 S.2.1 dX7_step_32 rfl (lv_at hl 2 rfl) ?_
      refine lv_aload_n S.1 S.2.1 dX7_step_33 rfl (lv_at hl 2 rfl) ?_
      refine w_get S C w (CC := RX7) (T := TX7) (N := 16) (ref := "GateSumsModel") im_X7_step_X7 0 rfl rfl 8 (by decide) (List.mem_of_getElem? (i := 3) rfl) (fun _ h => h) rfl dX7_step_34 ?_
      refine lv_iload_n S.1 S.2.1 dX7_step_37 rfl (lv_at hl 0 rfl) ?_
      refine w_iald S C w 2 rfl (nIin (by have h := c18; rw [nI_leI (by omega) (by omega)] at h; omega) (by decide)) dX7_step_38 ?_
      refine lv_aload_n S.1 S.2.1 dX7_step_39 rfl (lv_at hl 2 rfl) ?_
      refine w_get S C w (CC := RX7) (T := TX7) (N := 16) (ref := "GateSumsModel") im_X7_step_X7 0 rfl rfl 9 (by decide) (List.mem_of_getElem? (i := 4) rfl) (fun _ h => h) rfl dX7_step_40 ?_
      refine lv_iload_n S.1 S.2.1 dX7_step_43 rfl (lv_at hl 0 rfl) ?_
      refine w_lald S C w 3 rfl (nIin (by have h := c18; rw [nI_leI (by omega) (by omega)] at h; omega) (by decide)) dX7_step_44 ?_
      refine cq_v C w [0, 4, 5] [1, 2, 3] [3, 0, 1, 2, 4, 5] (wr := [(mS, .inl (G.2.1 2, 49, .inl fS)), (mQ, .inl (G.2.1 2, 200, .inl fQ)), (mC, .inl (G.2.1 3, 200, .inr (.inl lC)))]) (w' := fun u : Nat × (Nat → Int32) × (Nat → Int64) => [(mO, .inr (7, [.ref mS, .ref mD, .ref mR, .ref mT, .int mt, .int ma, .int mn, .ref mW, .ref mQ, .ref mC, .int (nI nN), .ref mU, .ref mV, .int (nI u.1), .int mf, .int mg])), (mU, .inl (G.2.1 2, 200, .inl u.2.1)), (mV, .inl (G.2.1 3, 200, .inr (.inl u.2.2)))]) (ws2 := fun u : Nat × (Nat → Int32) × (Nat → Int64) => [(mO, .inr (7, [.ref mS, .ref mD, .ref mR, .ref mT, .int mt, .int ma, .int mn, .ref mW, .ref mQ, .ref mC, .int (nI nN), .ref mU, .ref mV, .int (nI u.1), .int mf, .int mg])), (mS, .inl (G.2.1 2, 49, .inl fS)), (mQ, .inl (G.2.1 2, 200, .inl fQ)), (mC, .inl (G.2.1 3, 200, .inr (.inl lC))), (mU, .inl (G.2.1 2, 200, .inl u.2.1)), (mV, .inl (G.2.1 3, 200, .inr (.inl u.2.2)))]) rfl rfl rfl (by decide) rfl (fun _ => rfl) (va_runV (As := [.int (fQ (nI x13.1).toNatClampNeg), .long (lC (nI x13.1).toNatClampNeg)]) (rest := []) S (c_X7_adds l G mO mU mV _ mS mD mR mT mW mQ mC mt ma mn (nI nN) mf mg x13.2.1 x13.2.2.1 x13.2.2.2 (fQ (nI x13.1).toNatClampNeg) (lC (nI x13.1).toNatClampNeg) (by have := hI13; have h := c18; rw [nI_leI (by omega) (by omega)] at h; omega)) (cwV 2 S.2.2.2.2 gX7_step_X7_adds rfl rfl rfl (by decide +kernel) ⟨Nat.le_of_ble_eq_true rfl, Nat.le_of_ble_eq_true rfl⟩) ⟨wPre_blind, va_recv C.1 w.1 (ci := 7) (q0 := 0) rfl rfl, wPre_at C w [0, 4, 5] rfl rfl⟩ rfl rfl hl.1 rfl (lv_room (Nat.le_of_ble_eq_true rfl)) dX7_step_45 ⟨Nat.le_of_ble_eq_true rfl, Nat.le_of_ble_eq_true rfl⟩) (fun u45 H locs h45 w => ?_)
      have w : Wd G _ s [(mO, .inr (7, [.ref mS, .ref mD, .ref mR, .ref mT, .int mt, .int ma, .int mn, .ref mW, .ref mQ, .ref mC, .int (nI nN), .ref mU, .ref mV, .int (nI u45.1), .int mf, .int mg])), (mS, .inl (G.2.1 2, 49, .inl fS)), (mQ, .inl (G.2.1 2, 200, .inl fQ)), (mC, .inl (G.2.1 3, 200, .inr (.inl lC))), (mU, .inl (G.2.1 2, 200, .inl u45.2.1)), (mV, .inl (G.2.1 3, 200, .inr (.inl u45.2.2)))] H locs := w
      refine lv_goto (tgt := 72) S.1 S.2.1 dX7_step_48 (by decide) ?_
      refine lv_iinc (v := (nI (x13.1 + 1))) (lv' := [(3, .int (nI (x13.1 + 1))), (2, .int ((1 : Int32) <<< (((fS (0 : Int32).toNatClampNeg) + (nI gg)) &&& 31))), (0, .ref mO), (1, .int (nI gg))]) S.1 S.2.1 dX7_step_72 hl (k := 0) rfl (nI_1 _) (by decide) rfl (fun ls hl => ?_)
      refine lv_goto (tgt := 13) S.1 S.2.1 dX7_step_75 (by decide) ?_
      have hlt_jj : x13.1 < nN := by have h := c18; rw [nI_leI (by omega) (by omega)] at h; omega
      have hI13b := hI13
      have hQ := h45
      exact ih13 (x13.1 + 1, u45.1, u45.2.1, u45.2.2) ls _ _ (by dsimp only; omega) (by dsimp only; omega) w (lv_sub hl [0, 1, 2, 3] rfl)
theorem im_X7_comes_X7 : ∀ w ∈ u_ws RX7 TX7 16, w ∈ wsX7_comes := by decide +kernel
set_option maxHeartbeats 4000000 in
set_option maxRecDepth 100000 in
theorem c_X7_comes (l : Launch) (G : GT) (mO mS mQ mC mU mV : Nat) (sz : Nat) (mD mR mT mW : Nat) (mt ma mn my mm mf mg : Int32) (fS fQ fU : Nat → Int32) (lC lV : Nat → Int64) (gN oN pN qN kN : Nat) (hg : fS 1 = nI gN) (hgN : gN ≤ 12) (ho : fS 2 = nI oN) (hoN : oN ≤ 7) (hp : fS 4 = nI pN) (hpN : pN ≤ 6) (hq : fS 5 = nI qN) (hqN : qN ≤ 6) (hk : kN ≤ gN) : Met l yX7_comes wsX7_comes ({ frames := 3, cells := 0, slots := 0, locals := 81 }) (va_Pc [.ref mO, .int (nI kN)] (wPre G [(mO, .inr (7, [.ref mS, .ref mD, .ref mR, .ref mT, .int mt, .int ma, .int mn, .ref mW, .ref mQ, .ref mC, .int my, .ref mU, .ref mV, .int mm, .int mf, .int mg])), (mS, .inl (G.2.1 2, 49, .inl fS)), (mQ, .inl (G.2.1 2, 200, .inl fQ)), (mC, .inl (G.2.1 3, 200, .inr (.inl lC))), (mU, .inl (G.2.1 2, 200, .inl fU)), (mV, .inl (G.2.1 3, 200, .inr (.inl lV)))] sz)) (va_Qi (fun (r : Int32) (u : Nat × (Nat → Int32) × (Nat → Int64) × (Nat → Int32) × (Nat → Int64) × Int32) => (r = 0 ∨ r = 1) ∧ u.1 ≤ 200 ∧ (¬ r = 0 → u.1 ≤ 40)) (bW G (va_A [(mO, .inr (7, [.ref mS, .ref mD, .ref mR, .ref mT, .int mt, .int ma, .int mn, .ref mW, .ref mQ, .ref mC, .int my, .ref mU, .ref mV, .int mm, .int mf, .int mg])), (mS, .inl (G.2.1 2, 49, .inl fS)), (mQ, .inl (G.2.1 2, 200, .inl fQ)), (mC, .inl (G.2.1 3, 200, .inr (.inl lC))), (mU, .inl (G.2.1 2, 200, .inl fU)), (mV, .inl (G.2.1 3, 200, .inr (.inl lV)))] sz) (fun u : Nat × (Nat → Int32) × (Nat → Int64) × (Nat → Int32) × (Nat → Int64) × Int32 => [(mO, .inr (7, [.ref mS, .ref mD, .ref mR, .ref mT, .int mt, .int ma, .int mn, .ref mW, .ref mQ, .ref mC, .int (nI u.1), .ref mU, .ref mV, .int 0, .int mf, .int u.2.2.2.2.2])), (mS, .inl (G.2.1 2, 49, .inl fS)), (mQ, .inl (G.2.1 2, 200, .inl u.2.1)), (mC, .inl (G.2.1 3, 200, .inr (.inl u.2.2.1))), (mU, .inl (G.2.1 2, 200, .inl u.2.2.2.1)), (mV, .inl (G.2.1 3, 200, .inr (.inl u.2.2.2.2.1)))])) (va_A [(mO, .inr (7, [.ref mS, .ref mD, .ref mR, .ref mT, .int mt, .int ma, .int mn, .ref mW, .ref mQ, .ref mC, .int my, .ref mU, .ref mV, .int mm, .int mf, .int mg])), (mS, .inl (G.2.1 2, 49, .inl fS)), (mQ, .inl (G.2.1 2, 200, .inl fQ)), (mC, .inl (G.2.1 3, 200, .inr (.inl lC))), (mU, .inl (G.2.1 2, 200, .inl fU)), (mV, .inl (G.2.1 3, 200, .inr (.inl lV)))] sz)) 0 0 (va_A [(mO, .inr (7, [.ref mS, .ref mD, .ref mR, .ref mT, .int mt, .int ma, .int mn, .ref mW, .ref mQ, .ref mC, .int my, .ref mU, .ref mV, .int mm, .int mf, .int mg])), (mS, .inl (G.2.1 2, 49, .inl fS)), (mQ, .inl (G.2.1 2, 200, .inl fQ)), (mC, .inl (G.2.1 3, 200, .inr (.inl lC))), (mU, .inl (G.2.1 2, 200, .inl fU)), (mV, .inl (G.2.1 3, 200, .inr (.inl lV)))] sz) := by
  refine met_go (cc := cX7_comes) (maxL := 4) (ret := (some .boolean)) (own := RX7) (by decide) rfl rfl (Nat.le_of_ble_eq_true rfl) ?_
  intro p e s m below meth c ls S hr hlocks hname hsz C w hl
  have hl : lv_has ls 4 [(0, .ref mO), (1, .int (nI kN))] := hl
  refine lv_aload_n S.1 S.2.1 dX7_comes_0 rfl (lv_at hl 0 rfl) ?_
  refine cq_i C w [0, 1, 2, 3, 4, 5] [] [0, 1, 2, 3, 4, 5] (wr := []) (w' := fun u : Nat × (Nat → Int32) × (Nat → Int64) × (Nat → Int32) × (Nat → Int64) => [(mO, .inr (7, [.ref mS, .ref mD, .ref mR, .ref mT, .int mt, .int ma, .int mn, .ref mW, .ref mQ, .ref mC, .int (nI u.1), .ref mU, .ref mV, .int 0, .int mf, .int mg])), (mS, .inl (G.2.1 2, 49, .inl fS)), (mQ, .inl (G.2.1 2, 200, .inl u.2.1)), (mC, .inl (G.2.1 3, 200, .inr (.inl u.2.2.1))), (mU, .inl (G.2.1 2, 200, .inl u.2.2.2.1)), (mV, .inl (G.2.1 3, 200, .inr (.inl u.2.2.2.2)))]) (ws2 := fun u : Nat × (Nat → Int32) × (Nat → Int64) × (Nat → Int32) × (Nat → Int64) => [(mO, .inr (7, [.ref mS, .ref mD, .ref mR, .ref mT, .int mt, .int ma, .int mn, .ref mW, .ref mQ, .ref mC, .int (nI u.1), .ref mU, .ref mV, .int 0, .int mf, .int mg])), (mS, .inl (G.2.1 2, 49, .inl fS)), (mQ, .inl (G.2.1 2, 200, .inl u.2.1)), (mC, .inl (G.2.1 3, 200, .inr (.inl u.2.2.1))), (mU, .inl (G.2.1 2, 200, .inl u.2.2.2.1)), (mV, .inl (G.2.1 3, 200, .inr (.inl u.2.2.2.2)))]) rfl rfl rfl (by decide) rfl (fun _ => rfl) (va_runV (As := []) (rest := []) S (c_X7_begin l G mO mS mQ mC mU mV _ mD mR mT mW mt ma mn my mm mf mg fS fQ fU lC lV oN pN qN (ho) (hoN) (hp) (hpN) (hq) (hqN)) (cwV 0 S.2.2.2.2 gX7_comes_X7_begin rfl rfl rfl (by decide +kernel) ⟨Nat.le_of_ble_eq_true rfl, Nat.le_of_ble_eq_true rfl⟩) ⟨wPre_blind, va_recv C.1 w.1 (ci := 7) (q0 := 0) rfl rfl, wPre_at C w [0, 1, 2, 3, 4, 5] rfl rfl⟩ rfl rfl hl.1 rfl (lv_room (Nat.le_of_ble_eq_true rfl)) dX7_comes_1 ⟨Nat.le_of_ble_eq_true rfl, Nat.le_of_ble_eq_true rfl⟩) (fun r1 u1 H locs h1 w => ?_)
  have w : Wd G _ s [(mO, .inr (7, [.ref mS, .ref mD, .ref mR, .ref mT, .int mt, .int ma, .int mn, .ref mW, .ref mQ, .ref mC, .int (nI u1.1), .ref mU, .ref mV, .int 0, .int mf, .int mg])), (mS, .inl (G.2.1 2, 49, .inl fS)), (mQ, .inl (G.2.1 2, 200, .inl u1.2.1)), (mC, .inl (G.2.1 3, 200, .inr (.inl u1.2.2.1))), (mU, .inl (G.2.1 2, 200, .inl u1.2.2.2.1)), (mV, .inl (G.2.1 3, 200, .inr (.inl u1.2.2.2.2)))] H locs := w
  refine lv_istore_n (lv' := [(2, .int r1), (0, .ref mO), (1, .int (nI kN))]) S.1 S.2.1 dX7_comes_4 rfl hl (by decide) rfl (fun ls hl => ?_)
  refine lv_aload_n S.1 S.2.1 dX7_comes_5 rfl (lv_at hl 1 rfl) ?_
  refine lv_aload_n S.1 S.2.1 dX7_comes_6 rfl (lv_at hl 1 rfl) ?_
  refine w_get S C w (CC := RX7) (T := TX7) (N := 16) (ref := "GateSumsModel") im_X7_comes_X7 0 rfl rfl 10 (by decide) (List.mem_of_getElem? (i := 1) rfl) (fun _ h => h) rfl dX7_comes_7 ?_
  refine w_put S C w (CC := RX7) (T := TX7) (N := 16) (ref := "GateSumsModel") im_X7_comes_X7 tyX7 tyX7_ok nmX7 0 rfl rfl 15 (by decide) (List.mem_of_getElem? (i := 2) rfl) (fun _ h => h) rfl (ws2 := [(mO, .inr (7, [.ref mS, .ref mD, .ref mR, .ref mT, .int mt, .int ma, .int mn, .ref mW, .ref mQ, .ref mC, .int (nI u1.1), .ref mU, .ref mV, .int 0, .int mf, .int (nI u1.1)])), (mS, .inl (G.2.1 2, 49, .inl fS)), (mQ, .inl (G.2.1 2, 200, .inl u1.2.1)), (mC, .inl (G.2.1 3, 200, .inr (.inl u1.2.2.1))), (mU, .inl (G.2.1 2, 200, .inl u1.2.2.2.1)), (mV, .inl (G.2.1 3, 200, .inr (.inl u1.2.2.2.2)))]) (rfl) (rfl) (Nat.le_of_ble_eq_true rfl) rfl dX7_comes_10 (fun H locs w => ?_)
  refine lv_iconst (v := 0) S.1 S.2.1 dX7_comes_13 (by decide) ?_
  refine lv_istore_n (lv' := [(3, .int 0), (2, .int r1), (0, .ref mO), (1, .int (nI kN))]) S.1 S.2.1 dX7_comes_14 rfl hl (by decide) rfl (fun ls hl => ?_)
  refine w_loop (G := G) (σ := Nat × Int32 × Nat × Int32 × (Nat → Int32) × (Nat → Int64) × (Nat → Int32) × (Nat → Int64)) (nL := 4) 15 (fun x15 => kN - x15.1) (fun x15 => x15.1 ≤ kN ∧ ((x15.2.1 = 0 ∨ x15.2.1 = 1) ∧ x15.2.2.1 ≤ 200 ∧ (¬ x15.2.1 = 0 → x15.2.2.1 ≤ 40))) (fun x15 => [(mO, .inr (7, [.ref mS, .ref mD, .ref mR, .ref mT, .int mt, .int ma, .int mn, .ref mW, .ref mQ, .ref mC, .int (nI x15.2.2.1), .ref mU, .ref mV, .int 0, .int mf, .int x15.2.2.2.1])), (mS, .inl (G.2.1 2, 49, .inl fS)), (mQ, .inl (G.2.1 2, 200, .inl x15.2.2.2.2.1)), (mC, .inl (G.2.1 3, 200, .inr (.inl x15.2.2.2.2.2.1))), (mU, .inl (G.2.1 2, 200, .inl x15.2.2.2.2.2.2.1)), (mV, .inl (G.2.1 3, 200, .inr (.inl x15.2.2.2.2.2.2.2)))]) (fun x15 => [(3, .int (nI x15.1)), (2, .int x15.2.1), (0, .ref mO), (1, .int (nI kN))]) (fun _ => []) ?_ (0, r1, u1.1, (nI u1.1), u1.2.1, u1.2.2.1, u1.2.2.2.1, u1.2.2.2.2) ls _ _ (⟨Nat.zero_le _, h1⟩) w (lv_sub hl [0, 1, 2, 3] rfl)
  intro x15 ls H locs hI15 w hl ih15
  have w : Wd G _ s [(mO, .inr (7, [.ref mS, .ref mD, .ref mR, .ref mT, .int mt, .int ma, .int mn, .ref mW, .ref mQ, .ref mC, .int (nI x15.2.2.1), .ref mU, .ref mV, .int 0, .int mf, .int x15.2.2.2.1])), (mS, .inl (G.2.1 2, 49, .inl fS)), (mQ, .inl (G.2.1 2, 200, .inl x15.2.2.2.2.1)), (mC, .inl (G.2.1 3, 200, .inr (.inl x15.2.2.2.2.2.1))), (mU, .inl (G.2.1 2, 200, .inl x15.2.2.2.2.2.2.1)), (mV, .inl (G.2.1 3, 200, .inr (.inl x15.2.2.2.2.2.2.2)))] H locs := w
  have hl : lv_has ls 4 [(3, .int (nI x15.1)), (2, .int x15.2.1), (0, .ref mO), (1, .int (nI kN))] := hl
  refine lv_iload_n S.1 S.2.1 dX7_comes_15 rfl (lv_at hl 0 rfl) ?_
  refine lv_iload_n S.1 S.2.1 dX7_comes_16 rfl (lv_at hl 3 rfl) ?_
  refine lv_icmp_ge (tgt := 71) S.1 S.2.1 dX7_comes_17 (by decide) (fun c17 => ?_) (fun c17 => ?_)
  · refine lv_iload_n S.1 S.2.1 dX7_comes_71 rfl (lv_at hl 1 rfl) ?_
    exact W.zret (v := x15.2.1) S.1 S.2.1 hr (z01_nar hI15.2.1) (fun t ht _ => ⟨⟨x15.2.1, (x15.2.2.1, x15.2.2.2.2.1, x15.2.2.2.2.2.1, x15.2.2.2.2.2.2.1, x15.2.2.2.2.2.2.2, x15.2.2.2.1), rfl, hI15.2, by rw [ht]; exact w.1, w.2.1⟩, w.2.2.F ht⟩) w.2.2.2.2 dX7_comes_72
  · refine lv_iload_n S.1 S.2.1 dX7_comes_20 rfl (lv_at hl 1 rfl) ?_
    refine lv_if_eq (tgt := 71) S.1 S.2.1 dX7_comes_21 (by decide) (fun c21 => ?_) (fun c21 => ?_)
    · refine lv_iload_n S.1 S.2.1 dX7_comes_71 rfl (lv_at hl 1 rfl) ?_
      exact W.zret (v := x15.2.1) S.1 S.2.1 hr (z01_nar hI15.2.1) (fun t ht _ => ⟨⟨x15.2.1, (x15.2.2.1, x15.2.2.2.2.1, x15.2.2.2.2.2.1, x15.2.2.2.2.2.2.1, x15.2.2.2.2.2.2.2, x15.2.2.2.1), rfl, hI15.2, by rw [ht]; exact w.1, w.2.1⟩, w.2.2.F ht⟩) w.2.2.2.2 dX7_comes_72
    · refine lv_aload_n S.1 S.2.1 dX7_comes_24 rfl (lv_at hl 2 rfl) ?_
      refine lv_aload_n S.1 S.2.1 dX7_comes_25 rfl (lv_at hl 2 rfl) ?_
      refine w_get S C w (CC := RX7) (T := TX7) (N := 16) (ref := "GateSumsModel") im_X7_comes_X7 0 rfl rfl 0 (by decide) (List.mem_of_getElem? (i := 3) rfl) (fun _ h => h) rfl dX7_comes_26 ?_
      refine lv_iconst (v := 1) S.1 S.2.1 dX7_comes_29 (by decide) ?_
      refine w_iald S C w 1 rfl (by unfold vp_in; decide) dX7_comes_30 ?_
      refine lv_iconst (v := 1) S.1 S.2.1 dX7_comes_31 (by decide) ?_
      refine lv_isub S.1 S.2.1 dX7_comes_32 ?_
      refine lv_iload_n S.1 S.2.1 dX7_comes_33 rfl (lv_at hl 0 rfl) ?_
      refine lv_isub S.1 S.2.1 dX7_comes_34 ?_
      refine w_topi (y := (nI (gN - 1 - x15.1))) (by rw [show fS (1 : Int32).toNatClampNeg = nI gN from hg]; exact sub2 (by have h := c17; rw [nI_leI (by omega) (by omega)] at h; omega)) ?_
      refine cq_i C w [0, 1, 2, 3, 4, 5] [] [0, 1, 2, 3, 4, 5] (wr := []) (w' := fun u : Nat × (Nat → Int32) × (Nat → Int64) × (Nat → Int32) × (Nat → Int64) => [(mO, .inr (7, [.ref mS, .ref mD, .ref mR, .ref mT, .int mt, .int ma, .int mn, .ref mW, .ref mQ, .ref mC, .int (nI u.1), .ref mU, .ref mV, .int 0, .int mf, .int x15.2.2.2.1])), (mS, .inl (G.2.1 2, 49, .inl fS)), (mQ, .inl (G.2.1 2, 200, .inl u.2.1)), (mC, .inl (G.2.1 3, 200, .inr (.inl u.2.2.1))), (mU, .inl (G.2.1 2, 200, .inl u.2.2.2.1)), (mV, .inl (G.2.1 3, 200, .inr (.inl u.2.2.2.2)))]) (ws2 := fun u : Nat × (Nat → Int32) × (Nat → Int64) × (Nat → Int32) × (Nat → Int64) => [(mO, .inr (7, [.ref mS, .ref mD, .ref mR, .ref mT, .int mt, .int ma, .int mn, .ref mW, .ref mQ, .ref mC, .int (nI u.1), .ref mU, .ref mV, .int 0, .int mf, .int x15.2.2.2.1])), (mS, .inl (G.2.1 2, 49, .inl fS)), (mQ, .inl (G.2.1 2, 200, .inl u.2.1)), (mC, .inl (G.2.1 3, 200, .inr (.inl u.2.2.1))), (mU, .inl (G.2.1 2, 200, .inl u.2.2.2.1)), (mV, .inl (G.2.1 3, 200, .inr (.inl u.2.2.2.2)))]) rfl rfl rfl (by decide) rfl (fun _ => rfl) (va_runV (As := [.int (nI (gN - 1 - x15.1))]) (rest := []) S (c_X7_step l G mO mS mQ mC mU mV _ mD mR mT mW mt ma mn mf x15.2.2.2.1 x15.2.2.1 0 (gN - 1 - x15.1) fS x15.2.2.2.2.1 x15.2.2.2.2.2.2.1 x15.2.2.2.2.2.1 x15.2.2.2.2.2.2.2 (by omega) (hI15.2.2.2 c21) (rfl)) (cwV 1 S.2.2.2.2 gX7_comes_X7_step rfl rfl rfl (by decide +kernel) ⟨Nat.le_of_ble_eq_true rfl, Nat.le_of_ble_eq_true rfl⟩) ⟨wPre_blind, va_recv C.1 w.1 (ci := 7) (q0 := 0) rfl rfl, wPre_at C w [0, 1, 2, 3, 4, 5] rfl rfl⟩ rfl rfl hl.1 rfl (lv_room (Nat.le_of_ble_eq_true rfl)) dX7_comes_35 ⟨Nat.le_of_ble_eq_true rfl, Nat.le_of_ble_eq_true rfl⟩) (fun r35 u35 H locs h35 w => ?_)
      have w : Wd G _ s [(mO, .inr (7, [.ref mS, .ref mD, .ref mR, .ref mT, .int mt, .int ma, .int mn, .ref mW, .ref mQ, .ref mC, .int (nI u35.1), .ref mU, .ref mV, .int 0, .int mf, .int x15.2.2.2.1])), (mS, .inl (G.2.1 2, 49, .inl fS)), (mQ, .inl (G.2.1 2, 200, .inl u35.2.1)), (mC, .inl (G.2.1 3, 200, .inr (.inl u35.2.2.1))), (mU, .inl (G.2.1 2, 200, .inl u35.2.2.2.1)), (mV, .inl (G.2.1 3, 200, .inr (.inl u35.2.2.2.2)))] H locs := w
      refine lv_istore_n (lv' := [(2, .int r35), (3, .int (nI x15.1)), (0, .ref mO), (1, .int (nI kN))]) S.1 S.2.1 dX7_comes_38 rfl hl (by decide) rfl (fun ls hl => ?_)
      refine lv_aload_n S.1 S.2.1 dX7_comes_39 rfl (lv_at hl 2 rfl) ?_
      refine w_joini 62 [.ref mO] (fun z62 => True) (fun z62 hz62 => ?_) (fun J62 => ?_)
      · refine w_put S C w (CC := RX7) (T := TX7) (N := 16) (ref := "GateSumsModel") im_X7_comes_X7 tyX7 tyX7_ok nmX7 0 rfl rfl 15 (by decide) (List.mem_of_getElem? (i := 2) rfl) (fun _ h => h) rfl (ws2 := [(mO, .inr (7, [.ref mS, .ref mD, .ref mR, .ref mT, .int mt, .int ma, .int mn, .ref mW, .ref mQ, .ref mC, .int (nI u35.1), .ref mU, .ref mV, .int 0, .int mf, .int z62])), (mS, .inl (G.2.1 2, 49, .inl fS)), (mQ, .inl (G.2.1 2, 200, .inl u35.2.1)), (mC, .inl (G.2.1 3, 200, .inr (.inl u35.2.2.1))), (mU, .inl (G.2.1 2, 200, .inl u35.2.2.2.1)), (mV, .inl (G.2.1 3, 200, .inr (.inl u35.2.2.2.2)))]) (rfl) (rfl) (Nat.le_of_ble_eq_true rfl) rfl dX7_comes_62 (fun H locs w => ?_)
        refine lv_iinc (v := (nI (x15.1 + 1))) (lv' := [(3, .int (nI (x15.1 + 1))), (2, .int r35), (0, .ref mO), (1, .int (nI kN))]) S.1 S.2.1 dX7_comes_65 hl (k := 1) rfl (nI_1 _) (by decide) rfl (fun ls hl => ?_)
        refine lv_goto (tgt := 15) S.1 S.2.1 dX7_comes_68 (by decide) ?_
        have hlt : x15.1 < kN := by have h := c17; rw [nI_leI (by omega) (by omega)] at h; omega
        exact ih15 (x15.1 + 1, r35, u35.1, z62, u35.2.1, u35.2.2.1, u35.2.2.2.1, u35.2.2.2.2) ls _ _ (⟨hlt, h35⟩) (by dsimp only; omega) w (lv_sub hl [0, 1, 2, 3] rfl)
      · refine lv_aload_n S.1 S.2.1 dX7_comes_40 rfl (lv_at hl 2 rfl) ?_
        refine w_get S C w (CC := RX7) (T := TX7) (N := 16) (ref := "GateSumsModel") im_X7_comes_X7 0 rfl rfl 10 (by decide) (List.mem_of_getElem? (i := 1) rfl) (fun _ h => h) rfl dX7_comes_41 ?_
        refine lv_aload_n S.1 S.2.1 dX7_comes_44 rfl (lv_at hl 2 rfl) ?_
        refine w_get S C w (CC := RX7) (T := TX7) (N := 16) (ref := "GateSumsModel") im_X7_comes_X7 0 rfl rfl 15 (by decide) (List.mem_of_getElem? (i := 2) rfl) (fun _ h => h) rfl dX7_comes_45 ?_
        refine lv_icmp_le (tgt := 58) S.1 S.2.1 dX7_comes_48 (by decide) (fun c48 => ?_) (fun c48 => ?_)
        · refine lv_aload_n S.1 S.2.1 dX7_comes_58 rfl (lv_at hl 2 rfl) ?_
          refine w_get S C w (CC := RX7) (T := TX7) (N := 16) (ref := "GateSumsModel") im_X7_comes_X7 0 rfl rfl 15 (by decide) (List.mem_of_getElem? (i := 2) rfl) (fun _ h => h) rfl dX7_comes_59 ?_
          exact J62 x15.2.2.2.1 (trivial)
        · refine lv_aload_n S.1 S.2.1 dX7_comes_51 rfl (lv_at hl 2 rfl) ?_
          refine w_get S C w (CC := RX7) (T := TX7) (N := 16) (ref := "GateSumsModel") im_X7_comes_X7 0 rfl rfl 10 (by decide) (List.mem_of_getElem? (i := 1) rfl) (fun _ h => h) rfl dX7_comes_52 ?_
          refine lv_goto (tgt := 62) S.1 S.2.1 dX7_comes_55 (by decide) ?_
          exact J62 (nI u35.1) (trivial)
