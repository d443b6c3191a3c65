set_option maxHeartbeats 4000000 in
set_option maxRecDepth 100000 in
theorem k_X7_adds (l : Launch) (G : GT) (mO mU mV : Nat) (sz : Nat) (mS mD mR mT mW mQ mC : Nat) (mt ma mn my mf mg : Int32) (mM : Nat) (fU : Nat → Int32) (lV : Nat → Int64) (x0 : Int32) (b0 : Int64) (P : Int32 → Int) (B : Int) (hm : mM < 200) (hR : RU mM fU lV P) (hb : b0 = Int64.ofInt B) : Met l yX7_adds wsX7_adds ({ frames := 0, cells := 0, slots := 0, locals := 0 }) (va_Pc [.ref mO, .int x0, .long b0] (wPre G [(mO, .inr (7, [.ref mS, .ref mD, .ref mR, .ref mT, .int mt, .int ma, .int mn, .ref mW, .ref mQ, .ref mC, .int my, .ref mU, .ref mV, .int (nI mM), .int mf, .int mg])), (mU, .inl (G.2.1 2, 200, .inl fU)), (mV, .inl (G.2.1 3, 200, .inr (.inl lV)))] sz)) (va_Qv (fun u : Nat × (Nat → Int32) × (Nat → Int64) => mM ≤ u.1 ∧ u.1 ≤ mM + 1 ∧ RU u.1 u.2.1 u.2.2 (pAdd P x0 B)) (bW G (va_A [(mO, .inr (7, [.ref mS, .ref mD, .ref mR, .ref mT, .int mt, .int ma, .int mn, .ref mW, .ref mQ, .ref mC, .int my, .ref mU, .ref mV, .int (nI mM), .int mf, .int mg])), (mU, .inl (G.2.1 2, 200, .inl fU)), (mV, .inl (G.2.1 3, 200, .inr (.inl lV)))] sz) (fun u : Nat × (Nat → Int32) × (Nat → Int64) => [(mO, .inr (7, [.ref mS, .ref mD, .ref mR, .ref mT, .int mt, .int ma, .int mn, .ref mW, .ref mQ, .ref mC, .int my, .ref mU, .ref mV, .int (nI u.1), .int mf, .int mg])), (mU, .inl (G.2.1 2, 200, .inl u.2.1)), (mV, .inl (G.2.1 3, 200, .inr (.inl u.2.2)))])) (va_A [(mO, .inr (7, [.ref mS, .ref mD, .ref mR, .ref mT, .int mt, .int ma, .int mn, .ref mW, .ref mQ, .ref mC, .int my, .ref mU, .ref mV, .int (nI mM), .int mf, .int mg])), (mU, .inl (G.2.1 2, 200, .inl fU)), (mV, .inl (G.2.1 3, 200, .inr (.inl lV)))] sz)) 0 0 (va_A [(mO, .inr (7, [.ref mS, .ref mD, .ref mR, .ref mT, .int mt, .int ma, .int mn, .ref mW, .ref mQ, .ref mC, .int my, .ref mU, .ref mV, .int (nI mM), .int mf, .int mg])), (mU, .inl (G.2.1 2, 200, .inl fU)), (mV, .inl (G.2.1 3, 200, .inr (.inl lV)))] sz) := by
  refine met_go (cc := cX7_adds) (maxL := 5) (ret := none) (own := RX7) (by decide) rfl rfl (Nat.le_of_ble_eq_true rfl) ?_
  intro p e s m below meth c ls S hr hlocks hname hsz C w hl
  have hl : lv_has ls 5 [(0, .ref mO), (1, .int x0), (2, .long b0)] := hl
  refine lv_iconst (v := 0) S.1 S.2.1 dX7_adds_0 (by decide) ?_
  refine lv_istore (lv' := [(4, .int 0), (0, .ref mO), (1, .int x0), (2, .long b0)]) S.1 S.2.1 dX7_adds_1 hl (by decide) rfl (fun ls hl => ?_)
  refine w_loop (G := G) (σ := Nat) (nL := 5) 3 (fun x3 => mM - x3) (fun x3 => x3 ≤ mM ∧ ∀ i, i < x3 → ¬ fU i = x0) (fun x3 => [(mO, .inr (7, [.ref mS, .ref mD, .ref mR, .ref mT, .int mt, .int ma, .int mn, .ref mW, .ref mQ, .ref mC, .int my, .ref mU, .ref mV, .int (nI mM), .int mf, .int mg])), (mU, .inl (G.2.1 2, 200, .inl fU)), (mV, .inl (G.2.1 3, 200, .inr (.inl lV)))]) (fun x3 => [(4, .int (nI x3)), (0, .ref mO), (1, .int x0), (2, .long b0)]) (fun _ => []) ?_ 0 ls _ _ (⟨Nat.zero_le _, fun i h => absurd h (Nat.not_lt_zero i)⟩) w (lv_sub hl [0, 1, 2, 3] rfl)
  intro x3 ls H locs hI3 w hl ih3
  have w : Wd G _ s [(mO, .inr (7, [.ref mS, .ref mD, .ref mR, .ref mT, .int mt, .int ma, .int mn, .ref mW, .ref mQ, .ref mC, .int my, .ref mU, .ref mV, .int (nI mM), .int mf, .int mg])), (mU, .inl (G.2.1 2, 200, .inl fU)), (mV, .inl (G.2.1 3, 200, .inr (.inl lV)))] H locs := w
  have hl : lv_has ls 5 [(4, .int (nI x3)), (0, .ref mO), (1, .int x0), (2, .long b0)] := hl
  have hJ := hI3.1
  refine lv_iload S.1 S.2.1 dX7_adds_3 (lv_at hl 0 rfl) ?_
  refine lv_aload_n S.1 S.2.1 dX7_adds_5 rfl (lv_at hl 1 rfl) ?_
  refine w_get S C w (CC := RX7) (T := TX7) (N := 16) (ref := "GateSumsModel") im_X7_adds_X7 0 rfl rfl 13 (by decide) (List.mem_of_getElem? (i := 1) rfl) (fun _ h => h) rfl dX7_adds_6 ?_
  refine lv_icmp_ge (tgt := 29) S.1 S.2.1 dX7_adds_9 (by decide) (fun c9 => ?_) (fun c9 => ?_)
  · refine lv_iload S.1 S.2.1 dX7_adds_29 (lv_at hl 0 rfl) ?_
    refine lv_aload_n S.1 S.2.1 dX7_adds_31 rfl (lv_at hl 1 rfl) ?_
    refine w_get S C w (CC := RX7) (T := TX7) (N := 16) (ref := "GateSumsModel") im_X7_adds_X7 0 rfl rfl 13 (by decide) (List.mem_of_getElem? (i := 1) rfl) (fun _ h => h) rfl dX7_adds_32 ?_
    refine lv_icmp_ne (tgt := 68) S.1 S.2.1 dX7_adds_35 (by decide) (fun c35 => ?_) (fun c35 => ?_)
    · refine lv_aload_n S.1 S.2.1 dX7_adds_68 rfl (lv_at hl 1 rfl) ?_
      refine w_get S C w (CC := RX7) (T := TX7) (N := 16) (ref := "GateSumsModel") im_X7_adds_X7 0 rfl rfl 12 (by decide) (List.mem_of_getElem? (i := 3) rfl) (fun _ h => h) rfl dX7_adds_69 ?_
      refine lv_iload S.1 S.2.1 dX7_adds_72 (lv_at hl 0 rfl) ?_
      refine lv_dup2_11 S.1 S.2.1 dX7_adds_74 rfl rfl ?_
      refine w_lald S C w 2 rfl (nIin (by omega) (by decide)) dX7_adds_75 ?_
      refine w_topl (y := (lV x3)) (by rw [nIc (j := x3) (by omega)]) ?_
      refine lv_lload_n S.1 S.2.1 dX7_adds_76 rfl (lv_at hl 3 rfl) ?_
      refine lv_ladd S.1 S.2.1 dX7_adds_77 ?_
      refine w_last S C w 2 rfl (nIin (by omega) (by decide)) (ws2 := [(mO, .inr (7, [.ref mS, .ref mD, .ref mR, .ref mT, .int mt, .int ma, .int mn, .ref mW, .ref mQ, .ref mC, .int my, .ref mU, .ref mV, .int (nI mM), .int mf, .int mg])), (mU, .inl (G.2.1 2, 200, .inl fU)), (mV, .inl (G.2.1 3, 200, .inr (.inl (vp_updL lV (nI x3).toNatClampNeg ((lV x3) + b0)))))]) rfl dX7_adds_78 (fun H locs w => ?_)
      have w : Wd G (va_A [(mO, .inr (7, [.ref mS, .ref mD, .ref mR, .ref mT, .int mt, .int ma, .int mn, .ref mW, .ref mQ, .ref mC, .int my, .ref mU, .ref mV, .int (nI mM), .int mf, .int mg])), (mU, .inl (G.2.1 2, 200, .inl fU)), (mV, .inl (G.2.1 3, 200, .inr (.inl lV)))] sz) s [(mO, .inr (7, [.ref mS, .ref mD, .ref mR, .ref mT, .int mt, .int ma, .int mn, .ref mW, .ref mQ, .ref mC, .int my, .ref mU, .ref mV, .int (nI mM), .int mf, .int mg])), (mU, .inl (G.2.1 2, 200, .inl fU)), (mV, .inl (G.2.1 3, 200, .inr (.inl (vp_updL lV x3 ((lV x3) + b0)))))] H locs := by have h := nIc (j := x3) (by omega); rw [h] at w; exact w
      exact W.vret S.1 S.2.1 hr (fun t ht _ => ⟨⟨(mM, fU, (vp_updL lV x3 ((lV x3) + b0))), rfl, (by first | (have e : x3 = mM := nI_inj (by omega) (by omega) c35; rw [e]; exact ⟨Nat.le_succ _, Nat.le_refl _, RU.more hR (fun j hj => hI3.2 j (by omega)) hb⟩) | exact ⟨Nat.le_refl _, Nat.le_succ _, RU.found hR (by have h := c9; rw [nI_leI (by omega) (by omega)] at h; omega) @c20 hb⟩ | exact absurd (congrArg nI (show x3 = mM from (by have h := c9; rw [nI_leI (by omega) (by omega)] at h; omega))) c35), by rw [ht]; exact w.1, w.2.1⟩, w.2.2.F ht⟩) w.2.2.2.2 dX7_adds_79
    · refine lv_aload_n S.1 S.2.1 dX7_adds_38 rfl (lv_at hl 1 rfl) ?_
      refine w_get S C w (CC := RX7) (T := TX7) (N := 16) (ref := "GateSumsModel") im_X7_adds_X7 0 rfl rfl 11 (by decide) (List.mem_of_getElem? (i := 2) rfl) (fun _ h => h) rfl dX7_adds_39 ?_
      refine lv_aload_n S.1 S.2.1 dX7_adds_42 rfl (lv_at hl 1 rfl) ?_
      refine w_get S C w (CC := RX7) (T := TX7) (N := 16) (ref := "GateSumsModel") im_X7_adds_X7 0 rfl rfl 13 (by decide) (List.mem_of_getElem? (i := 1) rfl) (fun _ h => h) rfl dX7_adds_43 ?_
      refine lv_iload_n S.1 S.2.1 dX7_adds_46 rfl (lv_at hl 2 rfl) ?_
      refine w_iast S C w 1 rfl (nIin (by omega) (by decide)) (ws2 := [(mO, .inr (7, [.ref mS, .ref mD, .ref mR, .ref mT, .int mt, .int ma, .int mn, .ref mW, .ref mQ, .ref mC, .int my, .ref mU, .ref mV, .int (nI mM), .int mf, .int mg])), (mU, .inl (G.2.1 2, 200, .inl (upd fU (nI mM).toNatClampNeg x0))), (mV, .inl (G.2.1 3, 200, .inr (.inl lV)))]) rfl dX7_adds_47 (fun H locs w => ?_)
      have w : Wd G (va_A [(mO, .inr (7, [.ref mS, .ref mD, .ref mR, .ref mT, .int mt, .int ma, .int mn, .ref mW, .ref mQ, .ref mC, .int my, .ref mU, .ref mV, .int (nI mM), .int mf, .int mg])), (mU, .inl (G.2.1 2, 200, .inl fU)), (mV, .inl (G.2.1 3, 200, .inr (.inl lV)))] sz) s [(mO, .inr (7, [.ref mS, .ref mD, .ref mR, .ref mT, .int mt, .int ma, .int mn, .ref mW, .ref mQ, .ref mC, .int my, .ref mU, .ref mV, .int (nI mM), .int mf, .int mg])), (mU, .inl (G.2.1 2, 200, .inl (upd fU mM x0))), (mV, .inl (G.2.1 3, 200, .inr (.inl lV)))] H locs := by have h := nIc (j := mM) (by omega); rw [h] at w; exact w
      refine lv_aload_n S.1 S.2.1 dX7_adds_48 rfl (lv_at hl 1 rfl) ?_
      refine w_get S C w (CC := RX7) (T := TX7) (N := 16) (ref := "GateSumsModel") im_X7_adds_X7 0 rfl rfl 12 (by decide) (List.mem_of_getElem? (i := 3) rfl) (fun _ h => h) rfl dX7_adds_49 ?_
      refine lv_aload_n S.1 S.2.1 dX7_adds_52 rfl (lv_at hl 1 rfl) ?_
      refine w_get S C w (CC := RX7) (T := TX7) (N := 16) (ref := "GateSumsModel") im_X7_adds_X7 0 rfl rfl 13 (by decide) (List.mem_of_getElem? (i := 1) rfl) (fun _ h => h) rfl dX7_adds_53 ?_
      refine lv_lconst (v := 0) S.1 S.2.1 dX7_adds_56 (by decide) ?_
      refine w_last S C w 2 rfl (nIin (by omega) (by decide)) (ws2 := [(mO, .inr (7, [.ref mS, .ref mD, .ref mR, .ref mT, .int mt, .int ma, .int mn, .ref mW, .ref mQ, .ref mC, .int my, .ref mU, .ref mV, .int (nI mM), .int mf, .int mg])), (mU, .inl (G.2.1 2, 200, .inl (upd fU mM x0))), (mV, .inl (G.2.1 3, 200, .inr (.inl (vp_updL lV (nI mM).toNatClampNeg 0))))]) rfl dX7_adds_57 (fun H locs w => ?_)
      have w : Wd G (va_A [(mO, .inr (7, [.ref mS, .ref mD, .ref mR, .ref mT, .int mt, .int ma, .int mn, .ref mW, .ref mQ, .ref mC, .int my, .ref mU, .ref mV, .int (nI mM), .int mf, .int mg])), (mU, .inl (G.2.1 2, 200, .inl fU)), (mV, .inl (G.2.1 3, 200, .inr (.inl lV)))] sz) s [(mO, .inr (7, [.ref mS, .ref mD, .ref mR, .ref mT, .int mt, .int ma, .int mn, .ref mW, .ref mQ, .ref mC, .int my, .ref mU, .ref mV, .int (nI mM), .int mf, .int mg])), (mU, .inl (G.2.1 2, 200, .inl (upd fU mM x0))), (mV, .inl (G.2.1 3, 200, .inr (.inl (vp_updL lV mM 0))))] H locs := by have h := nIc (j := mM) (by omega); rw [h] at w; exact w
      refine lv_aload_n S.1 S.2.1 dX7_adds_58 rfl (lv_at hl 1 rfl) ?_
      refine lv_dup S.1 S.2.1 dX7_adds_59 rfl ?_
      refine w_get S C w (CC := RX7) (T := TX7) (N := 16) (ref := "GateSumsModel") im_X7_adds_X7 0 rfl rfl 13 (by decide) (List.mem_of_getElem? (i := 1) rfl) (fun _ h => h) rfl dX7_adds_60 ?_
      refine lv_iconst (v := 1) S.1 S.2.1 dX7_adds_63 (by decide) ?_
      refine lv_iadd S.1 S.2.1 dX7_adds_64 ?_
      refine w_topi (y := (nI (mM + 1))) (nI_1 _) ?_
      refine w_put S C w (CC := RX7) (T := TX7) (N := 16) (ref := "GateSumsModel") im_X7_adds_X7 tyX7 tyX7_ok nmX7 0 rfl rfl 13 (by decide) (List.mem_of_getElem? (i := 1) rfl) (fun _ h => h) rfl (ws2 := [(mO, .inr (7, [.ref mS, .ref mD, .ref mR, .ref mT, .int mt, .int ma, .int mn, .ref mW, .ref mQ, .ref mC, .int my, .ref mU, .ref mV, .int (nI (mM + 1)), .int mf, .int mg])), (mU, .inl (G.2.1 2, 200, .inl (upd fU mM x0))), (mV, .inl (G.2.1 3, 200, .inr (.inl (vp_updL lV mM 0))))]) (rfl) (rfl) (Nat.le_of_ble_eq_true rfl) rfl dX7_adds_65 (fun H locs w => ?_)
      refine lv_aload_n S.1 S.2.1 dX7_adds_68 rfl (lv_at hl 1 rfl) ?_
      refine w_get S C w (CC := RX7) (T := TX7) (N := 16) (ref := "GateSumsModel") im_X7_adds_X7 0 rfl rfl 12 (by decide) (List.mem_of_getElem? (i := 3) rfl) (fun _ h => h) rfl dX7_adds_69 ?_
      refine lv_iload S.1 S.2.1 dX7_adds_72 (lv_at hl 0 rfl) ?_
      refine lv_dup2_11 S.1 S.2.1 dX7_adds_74 rfl rfl ?_
      refine w_lald S C w 2 rfl (nIin (by omega) (by decide)) dX7_adds_75 ?_
      refine w_topl (y := ((vp_updL lV mM 0) x3)) (by rw [nIc (j := x3) (by omega)]) ?_
      refine lv_lload_n S.1 S.2.1 dX7_adds_76 rfl (lv_at hl 3 rfl) ?_
      refine lv_ladd S.1 S.2.1 dX7_adds_77 ?_
      refine w_last S C w 2 rfl (nIin (by omega) (by decide)) (ws2 := [(mO, .inr (7, [.ref mS, .ref mD, .ref mR, .ref mT, .int mt, .int ma, .int mn, .ref mW, .ref mQ, .ref mC, .int my, .ref mU, .ref mV, .int (nI (mM + 1)), .int mf, .int mg])), (mU, .inl (G.2.1 2, 200, .inl (upd fU mM x0))), (mV, .inl (G.2.1 3, 200, .inr (.inl (vp_updL (vp_updL lV mM 0) (nI x3).toNatClampNeg (((vp_updL lV mM 0) x3) + b0)))))]) rfl dX7_adds_78 (fun H locs w => ?_)
      have w : Wd G (va_A [(mO, .inr (7, [.ref mS, .ref mD, .ref mR, .ref mT, .int mt, .int ma, .int mn, .ref mW, .ref mQ, .ref mC, .int my, .ref mU, .ref mV, .int (nI mM), .int mf, .int mg])), (mU, .inl (G.2.1 2, 200, .inl fU)), (mV, .inl (G.2.1 3, 200, .inr (.inl lV)))] sz) s [(mO, .inr (7, [.ref mS, .ref mD, .ref mR, .ref mT, .int mt, .int ma, .int mn, .ref mW, .ref mQ, .ref mC, .int my, .ref mU, .ref mV, .int (nI (mM + 1)), .int mf, .int mg])), (mU, .inl (G.2.1 2, 200, .inl (upd fU mM x0))), (mV, .inl (G.2.1 3, 200, .inr (.inl (vp_updL (vp_updL lV mM 0) x3 (((vp_updL lV mM 0) x3) + b0)))))] H locs := by have h := nIc (j := x3) (by omega); rw [h] at w; exact w
      exact W.vret S.1 S.2.1 hr (fun t ht _ => ⟨⟨((mM + 1), (upd fU mM x0), (vp_updL (vp_updL lV mM 0) x3 (((vp_updL lV mM 0) x3) + b0))), rfl, (by first | (have e : x3 = mM := nI_inj (by omega) (by omega) c35; rw [e]; exact ⟨Nat.le_succ _, Nat.le_refl _, RU.more hR (fun j hj => hI3.2 j (by omega)) hb⟩) | exact ⟨Nat.le_refl _, Nat.le_succ _, RU.found hR (by have h := c9; rw [nI_leI (by omega) (by omega)] at h; omega) @c20 hb⟩ | exact absurd (congrArg nI (show x3 = mM from (by have h := c9; rw [nI_leI (by omega) (by omega)] at h; omega))) c35), by rw [ht]; exact w.1, w.2.1⟩, w.2.2.F ht⟩) w.2.2.2.2 dX7_adds_79
  · refine lv_aload_n S.1 S.2.1 dX7_adds_12 rfl (lv_at hl 1 rfl) ?_
    refine w_get S C w (CC := RX7) (T := TX7) (N := 16) (ref := "GateSumsModel") im_X7_adds_X7 0 rfl rfl 11 (by decide) (List.mem_of_getElem? (i := 2) rfl) (fun _ h => h) rfl dX7_adds_13 ?_
    refine lv_iload S.1 S.2.1 dX7_adds_16 (lv_at hl 0 rfl) ?_
    refine w_iald S C w 1 rfl (nIin (by omega) (by decide)) dX7_adds_18 ?_
    refine w_topi (y := (fU x3)) (congrArg fU (nIc (by omega))) ?_
    refine lv_iload_n S.1 S.2.1 dX7_adds_19 rfl (lv_at hl 2 rfl) ?_
    refine lv_icmp_eq (tgt := 29) S.1 S.2.1 dX7_adds_20 (by decide) (fun c20 => ?_) (fun c20 => ?_)
    · refine lv_iload S.1 S.2.1 dX7_adds_29 (lv_at hl 0 rfl) ?_
      refine lv_aload_n S.1 S.2.1 dX7_adds_31 rfl (lv_at hl 1 rfl) ?_
      refine w_get S C w (CC := RX7) (T := TX7) (N := 16) (ref := "GateSumsModel") im_X7_adds_X7 0 rfl rfl 13 (by decide) (List.mem_of_getElem? (i := 1) rfl) (fun _ h => h) rfl dX7_adds_32 ?_
      refine lv_icmp_ne (tgt := 68) S.1 S.2.1 dX7_adds_35 (by decide) (fun c35_1 => ?_) (fun c35_1 => ?_)
      · refine lv_aload_n S.1 S.2.1 dX7_adds_68 rfl (lv_at hl 1 rfl) ?_
        refine w_get S C w (CC := RX7) (T := TX7) (N := 16) (ref := "GateSumsModel") im_X7_adds_X7 0 rfl rfl 12 (by decide) (List.mem_of_getElem? (i := 3) rfl) (fun _ h => h) rfl dX7_adds_69 ?_
        refine lv_iload S.1 S.2.1 dX7_adds_72 (lv_at hl 0 rfl) ?_
        refine lv_dup2_11 S.1 S.2.1 dX7_adds_74 rfl rfl ?_
        refine w_lald S C w 2 rfl (nIin (by omega) (by decide)) dX7_adds_75 ?_
        refine w_topl (y := (lV x3)) (by rw [nIc (j := x3) (by omega)]) ?_
        refine lv_lload_n S.1 S.2.1 dX7_adds_76 rfl (lv_at hl 3 rfl) ?_
        refine lv_ladd S.1 S.2.1 dX7_adds_77 ?_
        refine w_last S C w 2 rfl (nIin (by omega) (by decide)) (ws2 := [(mO, .inr (7, [.ref mS, .ref mD, .ref mR, .ref mT, .int mt, .int ma, .int mn, .ref mW, .ref mQ, .ref mC, .int my, .ref mU, .ref mV, .int (nI mM), .int mf, .int mg])), (mU, .inl (G.2.1 2, 200, .inl fU)), (mV, .inl (G.2.1 3, 200, .inr (.inl (vp_updL lV (nI x3).toNatClampNeg ((lV x3) + b0)))))]) rfl dX7_adds_78 (fun H locs w => ?_)
        have w : Wd G (va_A [(mO, .inr (7, [.ref mS, .ref mD, .ref mR, .ref mT, .int mt, .int ma, .int mn, .ref mW, .ref mQ, .ref mC, .int my, .ref mU, .ref mV, .int (nI mM), .int mf, .int mg])), (mU, .inl (G.2.1 2, 200, .inl fU)), (mV, .inl (G.2.1 3, 200, .inr (.inl lV)))] sz) s [(mO, .inr (7, [.ref mS, .ref mD, .ref mR, .ref mT, .int mt, .int ma, .int mn, .ref mW, .ref mQ, .ref mC, .int my, .ref mU, .ref mV, .int (nI mM), .int mf, .int mg])), (mU, .inl (G.2.1 2, 200, .inl fU)), (mV, .inl (G.2.1 3, 200, .inr (.inl (vp_updL lV x3 ((lV x3) + b0)))))] H locs := by have h := nIc (j := x3) (by omega); rw [h] at w; exact w
        exact W.vret S.1 S.2.1 hr (fun t ht _ => ⟨⟨(mM, fU, (vp_updL lV x3 ((lV x3) + b0))), rfl, (by first | (have e : x3 = mM := nI_inj (by omega) (by omega) c35_1; rw [e]; exact ⟨Nat.le_succ _, Nat.le_refl _, RU.more hR (fun j hj => hI3.2 j (by omega)) hb⟩) | exact ⟨Nat.le_refl _, Nat.le_succ _, RU.found hR (by have h := c9; rw [nI_leI (by omega) (by omega)] at h; omega) c20 hb⟩ | exact absurd (congrArg nI (show x3 = mM from (by have h := c9; rw [nI_leI (by omega) (by omega)] at h; omega))) c35_1), by rw [ht]; exact w.1, w.2.1⟩, w.2.2.F ht⟩) w.2.2.2.2 dX7_adds_79
      · refine lv_aload_n S.1 S.2.1 dX7_adds_38 rfl (lv_at hl 1 rfl) ?_
        refine w_get S C w (CC := RX7) (T := TX7) (N := 16) (ref := "GateSumsModel") im_X7_adds_X7 0 rfl rfl 11 (by decide) (List.mem_of_getElem? (i := 2) rfl) (fun _ h => h) rfl dX7_adds_39 ?_
        refine lv_aload_n S.1 S.2.1 dX7_adds_42 rfl (lv_at hl 1 rfl) ?_
        refine w_get S C w (CC := RX7) (T := TX7) (N := 16) (ref := "GateSumsModel") im_X7_adds_X7 0 rfl rfl 13 (by decide) (List.mem_of_getElem? (i := 1) rfl) (fun _ h => h) rfl dX7_adds_43 ?_
        refine lv_iload_n S.1 S.2.1 dX7_adds_46 rfl (lv_at hl 2 rfl) ?_
        refine w_iast S C w 1 rfl (nIin (by omega) (by decide)) (ws2 := [(mO, .inr (7, [.ref mS, .ref mD, .ref mR, .ref mT, .int mt, .int ma, .int mn, .ref mW, .ref mQ, .ref mC, .int my, .ref mU, .ref mV, .int (nI mM), .int mf, .int mg])), (mU, .inl (G.2.1 2, 200, .inl (upd fU (nI mM).toNatClampNeg x0))), (mV, .inl (G.2.1 3, 200, .inr (.inl lV)))]) rfl dX7_adds_47 (fun H locs w => ?_)
        have w : Wd G (va_A [(mO, .inr (7, [.ref mS, .ref mD, .ref mR, .ref mT, .int mt, .int ma, .int mn, .ref mW, .ref mQ, .ref mC, .int my, .ref mU, .ref mV, .int (nI mM), .int mf, .int mg])), (mU, .inl (G.2.1 2, 200, .inl fU)), (mV, .inl (G.2.1 3, 200, .inr (.inl lV)))] sz) s [(mO, .inr (7, [.ref mS, .ref mD, .ref mR, .ref mT, .int mt, .int ma, .int mn, .ref mW, .ref mQ, .ref mC, .int my, .ref mU, .ref mV, .int (nI mM), .int mf, .int mg])), (mU, .inl (G.2.1 2, 200, .inl (upd fU mM x0))), (mV, .inl (G.2.1 3, 200, .inr (.inl lV)))] H locs := by have h := nIc (j := mM) (by omega); rw [h] at w; exact w
        refine lv_aload_n S.1 S.2.1 dX7_adds_48 rfl (lv_at hl 1 rfl) ?_
        refine w_get S C w (CC := RX7) (T := TX7) (N := 16) (ref := "GateSumsModel") im_X7_adds_X7 0 rfl rfl 12 (by decide) (List.mem_of_getElem? (i := 3) rfl) (fun _ h => h) rfl dX7_adds_49 ?_
        refine lv_aload_n S.1 S.2.1 dX7_adds_52 rfl (lv_at hl 1 rfl) ?_
        refine w_get S C w (CC := RX7) (T := TX7) (N := 16) (ref := "GateSumsModel") im_X7_adds_X7 0 rfl rfl 13 (by decide) (List.mem_of_getElem? (i := 1) rfl) (fun _ h => h) rfl dX7_adds_53 ?_
        refine lv_lconst (v := 0) S.1 S.2.1 dX7_adds_56 (by decide) ?_
        refine w_last S C w 2 rfl (nIin (by omega) (by decide)) (ws2 := [(mO, .inr (7, [.ref mS, .ref mD, .ref mR, .ref mT, .int mt, .int ma, .int mn, .ref mW, .ref mQ, .ref mC, .int my, .ref mU, .ref mV, .int (nI mM), .int mf, .int mg])), (mU, .inl (G.2.1 2, 200, .inl (upd fU mM x0))), (mV, .inl (G.2.1 3, 200, .inr (.inl (vp_updL lV (nI mM).toNatClampNeg 0))))]) rfl dX7_adds_57 (fun H locs w => ?_)
        have w : Wd G (va_A [(mO, .inr (7, [.ref mS, .ref mD, .ref mR, .ref mT, .int mt, .int ma, .int mn, .ref mW, .ref mQ, .ref mC, .int my, .ref mU, .ref mV, .int (nI mM), .int mf, .int mg])), (mU, .inl (G.2.1 2, 200, .inl fU)), (mV, .inl (G.2.1 3, 200, .inr (.inl lV)))] sz) s [(mO, .inr (7, [.ref mS, .ref mD, .ref mR, .ref mT, .int mt, .int ma, .int mn, .ref mW, .ref mQ, .ref mC, .int my, .ref mU, .ref mV, .int (nI mM), .int mf, .int mg])), (mU, .inl (G.2.1 2, 200, .inl (upd fU mM x0))), (mV, .inl (G.2.1 3, 200, .inr (.inl (vp_updL lV mM 0))))] H locs := by have h := nIc (j := mM) (by omega); rw [h] at w; exact w
        refine lv_aload_n S.1 S.2.1 dX7_adds_58 rfl (lv_at hl 1 rfl) ?_
        refine lv_dup S.1 S.2.1 dX7_adds_59 rfl ?_
        refine w_get S C w (CC := RX7) (T := TX7) (N := 16) (ref := "GateSumsModel") im_X7_adds_X7 0 rfl rfl 13 (by decide) (List.mem_of_getElem? (i := 1) rfl) (fun _ h => h) rfl dX7_adds_60 ?_
        refine lv_iconst (v := 1) S.1 S.2.1 dX7_adds_63 (by decide) ?_
        refine lv_iadd S.1 S.2.1 dX7_adds_64 ?_
        refine w_topi (y := (nI (mM + 1))) (nI_1 _) ?_
        refine w_put S C w (CC := RX7) (T := TX7) (N := 16) (ref := "GateSumsModel") im_X7_adds_X7 tyX7 tyX7_ok nmX7 0 rfl rfl 13 (by decide) (List.mem_of_getElem? (i := 1) rfl) (fun _ h => h) rfl (ws2 := [(mO, .inr (7, [.ref mS, .ref mD, .ref mR, .ref mT, .int mt, .int ma, .int mn, .ref mW, .ref mQ, .ref mC, .int my, .ref mU, .ref mV, .int (nI (mM + 1)), .int mf, .int mg])), (mU, .inl (G.2.1 2, 200, .inl (upd fU mM x0))), (mV, .inl (G.2.1 3, 200, .inr (.inl (vp_updL lV mM 0))))]) (rfl) (rfl) (Nat.le_of_ble_eq_true rfl) rfl dX7_adds_65 (fun H locs w => ?_)
        refine lv_aload_n S.1 S.2.1 dX7_adds_68 rfl (lv_at hl 1 rfl) ?_
        refine w_get S C w (CC := RX7) (T := TX7) (N := 16) (ref := "GateSumsModel") im_X7_adds_X7 0 rfl rfl 12 (by decide) (List.mem_of_getElem? (i := 3) rfl) (fun _ h => h) rfl dX7_adds_69 ?_
        refine lv_iload S.1 S.2.1 dX7_adds_72 (lv_at hl 0 rfl) ?_
        refine lv_dup2_11 S.1 S.2.1 dX7_adds_74 rfl rfl ?_
        refine w_lald S C w 2 rfl (nIin (by omega) (by decide)) dX7_adds_75 ?_
        refine w_topl (y := ((vp_updL lV mM 0) x3)) (by rw [nIc (j := x3) (by omega)]) ?_
        refine lv_lload_n S.1 S.2.1 dX7_adds_76 rfl (lv_at hl 3 rfl) ?_
        refine lv_ladd S.1 S.2.1 dX7_adds_77 ?_
        refine w_last S C w 2 rfl (nIin (by omega) (by decide)) (ws2 := [(mO, .inr (7, [.ref mS, .ref mD, .ref mR, .ref mT, .int mt, .int ma, .int mn, .ref mW, .ref mQ, .ref mC, .int my, .ref mU, .ref mV, .int (nI (mM + 1)), .int mf, .int mg])), (mU, .inl (G.2.1 2, 200, .inl (upd fU mM x0))), (mV, .inl (G.2.1 3, 200, .inr (.inl (vp_updL (vp_updL lV mM 0) (nI x3).toNatClampNeg (((vp_updL lV mM 0) x3) + b0)))))]) rfl dX7_adds_78 (fun H locs w => ?_)
        have w : Wd G (va_A [(mO, .inr (7, [.ref mS, .ref mD, .ref mR, .ref mT, .int mt, .int ma, .int mn, .ref mW, .ref mQ, .ref mC, .int my, .ref mU, .ref mV, .int (nI mM), .int mf, .int mg])), (mU, .inl (G.2.1 2, 200, .inl fU)), (mV, .inl (G.2.1 3, 200, .inr (.inl lV)))] sz) s [(mO, .inr (7, [.ref mS, .ref mD, .ref mR, .ref mT, .int mt, .int ma, .int mn, .ref mW, .ref mQ, .ref mC, .int my, .ref mU, .ref mV, .int (nI (mM + 1)), .int mf, .int mg])), (mU, .inl (G.2.1 2, 200, .inl (upd fU mM x0))), (mV, .inl (G.2.1 3, 200, .inr (.inl (vp_updL (vp_updL lV mM 0) x3 (((vp_updL lV mM 0) x3) + b0)))))] H locs := by have h := nIc (j := x3) (by omega); rw [h] at w; exact w
        exact W.vret S.1 S.2.1 hr (fun t ht _ => ⟨⟨((mM + 1), (upd fU mM x0), (vp_updL (vp_updL lV mM 0) x3 (((vp_updL lV mM 0) x3) + b0))), rfl, (by first | (have e : x3 = mM := nI_inj (by omega) (by omega) c35_1; rw [e]; exact ⟨Nat.le_succ _, Nat.le_refl _, RU.more hR (fun j hj => hI3.2 j (by omega)) hb⟩) | exact ⟨Nat.le_refl _, Nat.le_succ _, RU.found hR (by have h := c9; rw [nI_leI (by omega) (by omega)] at h; omega) c20 hb⟩ | exact absurd (congrArg nI (show x3 = mM from (by have h := c9; rw [nI_leI (by omega) (by omega)] at h; omega))) c35_1), by rw [ht]; exact w.1, w.2.1⟩, w.2.2.F ht⟩) w.2.2.2.2 dX7_adds_79
    · refine lv_iinc (v := (nI (x3 + 1))) (lv' := [(4, .int (nI (x3 + 1))), (0, .ref mO), (1, .int x0), (2, .long b0)]) S.1 S.2.1 dX7_adds_23 hl (k := 0) rfl (nI_1 _) (by decide) rfl (fun ls hl => ?_)
      refine lv_goto (tgt := 3) S.1 S.2.1 dX7_adds_26 (by decide) ?_
      have hlt : x3 < mM := by have h := c9; rw [nI_leI (by omega) (by omega)] at h; omega
      exact ih3 (x3 + 1) ls _ _ (⟨hlt, fun i hi => ne_step hI3.2 c20 hi⟩) (by omega) w (lv_sub hl [0, 1, 2, 3] rfl)
set_option maxHeartbeats 4000000 in
set_option maxRecDepth 100000 in
theorem k_X7_becomes (l : Launch) (G : GT) (mO mQ mC mU mV : Nat) (sz : Nat) (mS mD mR mT mW : Nat) (mt ma mn my mf mg : Int32) (mM : Nat) (fQ fU : Nat → Int32) (lC lV : Nat → Int64) (P : Int32 → Int) (hm : mM ≤ 200) (hR : RU mM fU lV P) : Met l yX7_becomes wsX7_becomes ({ frames := 0, cells := 0, slots := 0, locals := 0 }) (va_Pc [.ref mO] (wPre G [(mO, .inr (7, [.ref mS, .ref mD, .ref mR, .ref mT, .int mt, .int ma, .int mn, .ref mW, .ref mQ, .ref mC, .int my, .ref mU, .ref mV, .int (nI mM), .int mf, .int mg])), (mQ, .inl (G.2.1 2, 200, .inl fQ)), (mC, .inl (G.2.1 3, 200, .inr (.inl lC))), (mU, .inl (G.2.1 2, 200, .inl fU)), (mV, .inl (G.2.1 3, 200, .inr (.inl lV)))] sz)) (va_Qi (fun (r : Int32) (u : Nat × (Nat → Int32) × (Nat → Int64)) => u.1 ≤ mM ∧ R64 u.1 u.2.1 u.2.2 P ∧ ((r = 1 ∧ u.1 ≤ 40) ∨ (r = 0 ∧ 40 < u.1))) (bW G (va_A [(mO, .inr (7, [.ref mS, .ref mD, .ref mR, .ref mT, .int mt, .int ma, .int mn, .ref mW, .ref mQ, .ref mC, .int my, .ref mU, .ref mV, .int (nI mM), .int mf, .int mg])), (mQ, .inl (G.2.1 2, 200, .inl fQ)), (mC, .inl (G.2.1 3, 200, .inr (.inl lC))), (mU, .inl (G.2.1 2, 200, .inl fU)), (mV, .inl (G.2.1 3, 200, .inr (.inl lV)))] sz) (fun u : Nat × (Nat → Int32) × (Nat → Int64) => [(mO, .inr (7, [.ref mS, .ref mD, .ref mR, .ref mT, .int mt, .int ma, .int mn, .ref mW, .ref mQ, .ref mC, .int (nI u.1), .ref mU, .ref mV, .int 0, .int mf, .int mg])), (mQ, .inl (G.2.1 2, 200, .inl u.2.1)), (mC, .inl (G.2.1 3, 200, .inr (.inl u.2.2))), (mU, .inl (G.2.1 2, 200, .inl fU)), (mV, .inl (G.2.1 3, 200, .inr (.inl lV)))])) (va_A [(mO, .inr (7, [.ref mS, .ref mD, .ref mR, .ref mT, .int mt, .int ma, .int mn, .ref mW, .ref mQ, .ref mC, .int my, .ref mU, .ref mV, .int (nI mM), .int mf, .int mg])), (mQ, .inl (G.2.1 2, 200, .inl fQ)), (mC, .inl (G.2.1 3, 200, .inr (.inl lC))), (mU, .inl (G.2.1 2, 200, .inl fU)), (mV, .inl (G.2.1 3, 200, .inr (.inl lV)))] sz)) 0 0 (va_A [(mO, .inr (7, [.ref mS, .ref mD, .ref mR, .ref mT, .int mt, .int ma, .int mn, .ref mW, .ref mQ, .ref mC, .int my, .ref mU, .ref mV, .int (nI mM), .int mf, .int mg])), (mQ, .inl (G.2.1 2, 200, .inl fQ)), (mC, .inl (G.2.1 3, 200, .inr (.inl lC))), (mU, .inl (G.2.1 2, 200, .inl fU)), (mV, .inl (G.2.1 3, 200, .inr (.inl lV)))] sz) := by
  refine met_go (cc := cX7_becomes) (maxL := 3) (ret := (some .boolean)) (own := RX7) (by decide) rfl rfl (Nat.le_of_ble_eq_true rfl) ?_
  intro p e s m below meth c ls S hr hlocks hname hsz C w hl
  have hl : lv_has ls 3 [(0, .ref mO)] := hl
  refine lv_aload_n S.1 S.2.1 dX7_becomes_0 rfl (lv_at hl 0 rfl) ?_
  refine lv_iconst (v := 0) S.1 S.2.1 dX7_becomes_1 (by decide) ?_
  refine w_put S C w (CC := RX7) (T := TX7) (N := 16) (ref := "GateSumsModel") im_X7_becomes_X7 tyX7 tyX7_ok nmX7 0 rfl rfl 10 (by decide) (List.mem_of_getElem? (i := 1) rfl) (fun _ h => h) rfl (ws2 := [(mO, .inr (7, [.ref mS, .ref mD, .ref mR, .ref mT, .int mt, .int ma, .int mn, .ref mW, .ref mQ, .ref mC, .int 0, .ref mU, .ref mV, .int (nI mM), .int mf, .int mg])), (mQ, .inl (G.2.1 2, 200, .inl fQ)), (mC, .inl (G.2.1 3, 200, .inr (.inl lC))), (mU, .inl (G.2.1 2, 200, .inl fU)), (mV, .inl (G.2.1 3, 200, .inr (.inl lV)))]) (rfl) (rfl) (Nat.le_of_ble_eq_true rfl) rfl dX7_becomes_2 (fun H locs w => ?_)
  refine lv_iconst (v := 0) S.1 S.2.1 dX7_becomes_5 (by decide) ?_
  refine lv_istore_n (lv' := [(1, .int 0), (0, .ref mO)]) S.1 S.2.1 dX7_becomes_6 rfl hl (by decide) rfl (fun ls hl => ?_)
  refine w_loop (G := G) (σ := Nat × Nat × (Nat → Int32) × (Nat → Int64)) (nL := 3) 7 (fun x7 => mM - x7.1) (fun x7 => x7.1 ≤ mM ∧ x7.2.1 ≤ x7.1 ∧ BI x7.1 x7.2.1 x7.2.2.1 x7.2.2.2 fU lV) (fun x7 => [(mO, .inr (7, [.ref mS, .ref mD, .ref mR, .ref mT, .int mt, .int ma, .int mn, .ref mW, .ref mQ, .ref mC, .int (nI x7.2.1), .ref mU, .ref mV, .int (nI mM), .int mf, .int mg])), (mQ, .inl (G.2.1 2, 200, .inl x7.2.2.1)), (mC, .inl (G.2.1 3, 200, .inr (.inl x7.2.2.2))), (mU, .inl (G.2.1 2, 200, .inl fU)), (mV, .inl (G.2.1 3, 200, .inr (.inl lV)))]) (fun x7 => [(1, .int (nI x7.1)), (0, .ref mO)]) (fun _ => []) ?_ (0, 0, fQ, lC) ls _ _ (⟨Nat.zero_le _, Nat.le_refl _, BI.zero⟩) w (lv_sub hl [0, 1] rfl)
  intro x7 ls H locs hI7 w hl ih7
  have w : Wd G _ s [(mO, .inr (7, [.ref mS, .ref mD, .ref mR, .ref mT, .int mt, .int ma, .int mn, .ref mW, .ref mQ, .ref mC, .int (nI x7.2.1), .ref mU, .ref mV, .int (nI mM), .int mf, .int mg])), (mQ, .inl (G.2.1 2, 200, .inl x7.2.2.1)), (mC, .inl (G.2.1 3, 200, .inr (.inl x7.2.2.2))), (mU, .inl (G.2.1 2, 200, .inl fU)), (mV, .inl (G.2.1 3, 200, .inr (.inl lV)))] H locs := w
  have hl : lv_has ls 3 [(1, .int (nI x7.1)), (0, .ref mO)] := hl
  have hJ1 := hI7.1
  have hJ2 := hI7.2.1
  refine lv_iload_n S.1 S.2.1 dX7_becomes_7 rfl (lv_at hl 0 rfl) ?_
  refine lv_aload_n S.1 S.2.1 dX7_becomes_8 rfl (lv_at hl 1 rfl) ?_
  refine w_get S C w (CC := RX7) (T := TX7) (N := 16) (ref := "GateSumsModel") im_X7_becomes_X7 0 rfl rfl 13 (by decide) (List.mem_of_getElem? (i := 2) rfl) (fun _ h => h) rfl dX7_becomes_9 ?_
  refine lv_icmp_ge (tgt := 126) S.1 S.2.1 dX7_becomes_12 (by decide) (fun c12 => ?_) (fun c12 => ?_)
  · refine lv_aload_n S.1 S.2.1 dX7_becomes_126 rfl (lv_at hl 1 rfl) ?_
    refine lv_iconst (v := 0) S.1 S.2.1 dX7_becomes_127 (by decide) ?_
    refine w_put S C w (CC := RX7) (T := TX7) (N := 16) (ref := "GateSumsModel") im_X7_becomes_X7 tyX7 tyX7_ok nmX7 0 rfl rfl 13 (by decide) (List.mem_of_getElem? (i := 2) rfl) (fun _ h => h) rfl (ws2 := [(mO, .inr (7, [.ref mS, .ref mD, .ref mR, .ref mT, .int mt, .int ma, .int mn, .ref mW, .ref mQ, .ref mC, .int (nI x7.2.1), .ref mU, .ref mV, .int 0, .int mf, .int mg])), (mQ, .inl (G.2.1 2, 200, .inl x7.2.2.1)), (mC, .inl (G.2.1 3, 200, .inr (.inl x7.2.2.2))), (mU, .inl (G.2.1 2, 200, .inl fU)), (mV, .inl (G.2.1 3, 200, .inr (.inl lV)))]) (rfl) (rfl) (Nat.le_of_ble_eq_true rfl) rfl dX7_becomes_128 (fun H locs w => ?_)
    refine lv_aload_n S.1 S.2.1 dX7_becomes_131 rfl (lv_at hl 1 rfl) ?_
    refine w_get S C w (CC := RX7) (T := TX7) (N := 16) (ref := "GateSumsModel") im_X7_becomes_X7 0 rfl rfl 10 (by decide) (List.mem_of_getElem? (i := 1) rfl) (fun _ h => h) rfl dX7_becomes_132 ?_
    refine lv_bipush (v := 40) S.1 S.2.1 dX7_becomes_135 (by decide) ?_
    refine lv_icmp_gt (tgt := 144) S.1 S.2.1 dX7_becomes_137 (by decide) (fun c137 => ?_) (fun c137 => ?_)
    · refine lv_iconst (v := 0) S.1 S.2.1 dX7_becomes_144 (by decide) ?_
      exact W.zret (v := 0) S.1 S.2.1 hr (rfl) (fun t ht _ => ⟨⟨0, (x7.2.1, x7.2.2.1, x7.2.2.2), rfl, (by have e : x7.1 = mM := (by have h := c12; rw [nI_leI (by omega) (by omega)] at h; omega); have hB := hI7.2.2; rw [e] at hB; first | exact ⟨by omega, hB.fin hR, Or.inl ⟨rfl, gt40 (by omega) c137⟩⟩ | exact ⟨by omega, hB.fin hR, Or.inr ⟨rfl, by have h := c137; rw [show (40 : Int32) = nI 40 from rfl, nI_ltI (by decide) (by omega)] at h; exact h⟩⟩), by rw [ht]; exact w.1, w.2.1⟩, w.2.2.F ht⟩) w.2.2.2.2 dX7_becomes_145
    · refine lv_iconst (v := 1) S.1 S.2.1 dX7_becomes_140 (by decide) ?_
      refine lv_goto (tgt := 145) S.1 S.2.1 dX7_becomes_141 (by decide) ?_
      exact W.zret (v := 1) S.1 S.2.1 hr (rfl) (fun t ht _ => ⟨⟨1, (x7.2.1, x7.2.2.1, x7.2.2.2), rfl, (by have e : x7.1 = mM := (by have h := c12; rw [nI_leI (by omega) (by omega)] at h; omega); have hB := hI7.2.2; rw [e] at hB; first | exact ⟨by omega, hB.fin hR, Or.inl ⟨rfl, gt40 (by omega) c137⟩⟩ | exact ⟨by omega, hB.fin hR, Or.inr ⟨rfl, by have h := c137; rw [show (40 : Int32) = nI 40 from rfl, nI_ltI (by decide) (by omega)] at h; exact h⟩⟩), by rw [ht]; exact w.1, w.2.1⟩, w.2.2.F ht⟩) w.2.2.2.2 dX7_becomes_145
  · refine lv_aload_n S.1 S.2.1 dX7_becomes_15 rfl (lv_at hl 1 rfl) ?_
    refine w_get S C w (CC := RX7) (T := TX7) (N := 16) (ref := "GateSumsModel") im_X7_becomes_X7 0 rfl rfl 12 (by decide) (List.mem_of_getElem? (i := 3) rfl) (fun _ h => h) rfl dX7_becomes_16 ?_
    refine lv_iload_n S.1 S.2.1 dX7_becomes_19 rfl (lv_at hl 0 rfl) ?_
    refine w_lald S C w 4 rfl (nIin (by have h := c12; rw [nI_leI (by omega) (by omega)] at h; omega) (by decide)) dX7_becomes_20 ?_
    refine w_topl (y := (lV x7.1)) (congrArg lV (nIc (by omega))) ?_
    refine lv_lconst (v := 0) S.1 S.2.1 dX7_becomes_21 (by decide) ?_
    refine W.lcmp S.1 S.2.1 dX7_becomes_22 ?_
    refine lv_if_eq (tgt := 120) S.1 S.2.1 dX7_becomes_23 (by decide) (fun c23 => ?_) (fun c23 => ?_)
    · refine lv_iinc (v := (nI (x7.1 + 1))) (lv' := [(1, .int (nI (x7.1 + 1))), (0, .ref mO)]) S.1 S.2.1 dX7_becomes_120 hl (k := 0) rfl (nI_1 _) (by decide) rfl (fun ls hl => ?_)
      refine lv_goto (tgt := 7) S.1 S.2.1 dX7_becomes_123 (by decide) ?_
      have hlt : x7.1 < mM := by have h := c12; rw [nI_leI (by omega) (by omega)] at h; omega
      exact ih7 (x7.1 + 1, x7.2.1, x7.2.2.1, x7.2.2.2) ls _ _ (by first | exact ⟨hlt, (by dsimp only; omega), hI7.2.2.skip ((lg_cmp_eq _ _).mp c23)⟩ | exact ⟨hlt, (by dsimp only; omega), NJ.fin hI31 hI7.2.2 hR hlt (by first | exact (fun h => absurd h (by have q := @c32; rw [show (0 : Int32) = nI 0 from rfl, nI_leI (by omega) (by decide)] at q; omega)) | exact (fun _ => Int32.not_lt.mpr @c49)) (fun q => c23 ((lg_cmp_eq _ _).mpr q))⟩) (by dsimp only; omega) w (lv_sub hl [0, 1] rfl)
    · refine lv_aload_n S.1 S.2.1 dX7_becomes_26 rfl (lv_at hl 1 rfl) ?_
      refine w_get S C w (CC := RX7) (T := TX7) (N := 16) (ref := "GateSumsModel") im_X7_becomes_X7 0 rfl rfl 10 (by decide) (List.mem_of_getElem? (i := 1) rfl) (fun _ h => h) rfl dX7_becomes_27 ?_
      refine lv_istore_n (lv' := [(2, .int (nI x7.2.1)), (1, .int (nI x7.1)), (0, .ref mO)]) S.1 S.2.1 dX7_becomes_30 rfl hl (by decide) rfl (fun ls hl => ?_)
      refine w_loop (G := G) (σ := Nat × (Nat → Int32) × (Nat → Int64)) (nL := 3) 31 (fun x31 => x31.1) (fun x31 => NJ x31.1 x7.2.1 (fU x7.1) x31.2.1 x7.2.2.1 x31.2.2 x7.2.2.2) (fun x31 => [(mO, .inr (7, [.ref mS, .ref mD, .ref mR, .ref mT, .int mt, .int ma, .int mn, .ref mW, .ref mQ, .ref mC, .int (nI x7.2.1), .ref mU, .ref mV, .int (nI mM), .int mf, .int mg])), (mQ, .inl (G.2.1 2, 200, .inl x31.2.1)), (mC, .inl (G.2.1 3, 200, .inr (.inl x31.2.2))), (mU, .inl (G.2.1 2, 200, .inl fU)), (mV, .inl (G.2.1 3, 200, .inr (.inl lV)))]) (fun x31 => [(2, .int (nI x31.1)), (1, .int (nI x7.1)), (0, .ref mO)]) (fun _ => []) ?_ (x7.2.1, x7.2.2.1, x7.2.2.2) ls _ _ (NJ.start) w (lv_sub hl [0, 1, 2] rfl)
      intro x31 ls H locs hI31 w hl ih31
      have w : Wd G _ s [(mO, .inr (7, [.ref mS, .ref mD, .ref mR, .ref mT, .int mt, .int ma, .int mn, .ref mW, .ref mQ, .ref mC, .int (nI x7.2.1), .ref mU, .ref mV, .int (nI mM), .int mf, .int mg])), (mQ, .inl (G.2.1 2, 200, .inl x31.2.1)), (mC, .inl (G.2.1 3, 200, .inr (.inl x31.2.2))), (mU, .inl (G.2.1 2, 200, .inl fU)), (mV, .inl (G.2.1 3, 200, .inr (.inl lV)))] H locs := w
      have hl : lv_has ls 3 [(2, .int (nI x31.1)), (1, .int (nI x7.1)), (0, .ref mO)] := hl
      have hlt7 : x7.1 < mM := by have h := c12; rw [nI_leI (by omega) (by omega)] at h; omega
      have hT1 := hI31.1
      refine lv_iload_n S.1 S.2.1 dX7_becomes_31 rfl (lv_at hl 0 rfl) ?_
      refine lv_if_le (tgt := 86) S.1 S.2.1 dX7_becomes_32 (by decide) (fun c32 => ?_) (fun c32 => ?_)
      · refine lv_aload_n S.1 S.2.1 dX7_becomes_86 rfl (lv_at hl 2 rfl) ?_
        refine w_get S C w (CC := RX7) (T := TX7) (N := 16) (ref := "GateSumsModel") im_X7_becomes_X7 0 rfl rfl 8 (by decide) (List.mem_of_getElem? (i := 4) rfl) (fun _ h => h) rfl dX7_becomes_87 ?_
        refine lv_iload_n S.1 S.2.1 dX7_becomes_90 rfl (lv_at hl 0 rfl) ?_
        refine lv_aload_n S.1 S.2.1 dX7_becomes_91 rfl (lv_at hl 2 rfl) ?_
        refine w_get S C w (CC := RX7) (T := TX7) (N := 16) (ref := "GateSumsModel") im_X7_becomes_X7 0 rfl rfl 11 (by decide) (List.mem_of_getElem? (i := 5) rfl) (fun _ h => h) rfl dX7_becomes_92 ?_
        refine lv_iload_n S.1 S.2.1 dX7_becomes_95 rfl (lv_at hl 1 rfl) ?_
        refine w_iald S C w 3 rfl (nIin (by omega) (by decide)) dX7_becomes_96 ?_
        refine w_topi (y := (fU x7.1)) (congrArg fU (nIc (by omega))) ?_
        refine w_iast S C w 1 rfl (nIin (by omega) (by decide)) (ws2 := [(mO, .inr (7, [.ref mS, .ref mD, .ref mR, .ref mT, .int mt, .int ma, .int mn, .ref mW, .ref mQ, .ref mC, .int (nI x7.2.1), .ref mU, .ref mV, .int (nI mM), .int mf, .int mg])), (mQ, .inl (G.2.1 2, 200, .inl (upd x31.2.1 (nI x31.1).toNatClampNeg (fU x7.1)))), (mC, .inl (G.2.1 3, 200, .inr (.inl x31.2.2))), (mU, .inl (G.2.1 2, 200, .inl fU)), (mV, .inl (G.2.1 3, 200, .inr (.inl lV)))]) rfl dX7_becomes_97 (fun H locs w => ?_)
        have w : Wd G (va_A [(mO, .inr (7, [.ref mS, .ref mD, .ref mR, .ref mT, .int mt, .int ma, .int mn, .ref mW, .ref mQ, .ref mC, .int my, .ref mU, .ref mV, .int (nI mM), .int mf, .int mg])), (mQ, .inl (G.2.1 2, 200, .inl fQ)), (mC, .inl (G.2.1 3, 200, .inr (.inl lC))), (mU, .inl (G.2.1 2, 200, .inl fU)), (mV, .inl (G.2.1 3, 200, .inr (.inl lV)))] sz) s [(mO, .inr (7, [.ref mS, .ref mD, .ref mR, .ref mT, .int mt, .int ma, .int mn, .ref mW, .ref mQ, .ref mC, .int (nI x7.2.1), .ref mU, .ref mV, .int (nI mM), .int mf, .int mg])), (mQ, .inl (G.2.1 2, 200, .inl (upd x31.2.1 x31.1 (fU x7.1)))), (mC, .inl (G.2.1 3, 200, .inr (.inl x31.2.2))), (mU, .inl (G.2.1 2, 200, .inl fU)), (mV, .inl (G.2.1 3, 200, .inr (.inl lV)))] H locs := by have h := nIc (j := x31.1) (by omega); rw [h] at w; exact w
        refine lv_aload_n S.1 S.2.1 dX7_becomes_98 rfl (lv_at hl 2 rfl) ?_
        refine w_get S C w (CC := RX7) (T := TX7) (N := 16) (ref := "GateSumsModel") im_X7_becomes_X7 0 rfl rfl 9 (by decide) (List.mem_of_getElem? (i := 6) rfl) (fun _ h => h) rfl dX7_becomes_99 ?_
        refine lv_iload_n S.1 S.2.1 dX7_becomes_102 rfl (lv_at hl 0 rfl) ?_
        refine lv_aload_n S.1 S.2.1 dX7_becomes_103 rfl (lv_at hl 2 rfl) ?_
        refine w_get S C w (CC := RX7) (T := TX7) (N := 16) (ref := "GateSumsModel") im_X7_becomes_X7 0 rfl rfl 12 (by decide) (List.mem_of_getElem? (i := 3) rfl) (fun _ h => h) rfl dX7_becomes_104 ?_
        refine lv_iload_n S.1 S.2.1 dX7_becomes_107 rfl (lv_at hl 1 rfl) ?_
        refine w_lald S C w 4 rfl (nIin (by omega) (by decide)) dX7_becomes_108 ?_
        refine w_topl (y := (lV x7.1)) (congrArg lV (nIc (by omega))) ?_
        refine w_last S C w 2 rfl (nIin (by omega) (by decide)) (ws2 := [(mO, .inr (7, [.ref mS, .ref mD, .ref mR, .ref mT, .int mt, .int ma, .int mn, .ref mW, .ref mQ, .ref mC, .int (nI x7.2.1), .ref mU, .ref mV, .int (nI mM), .int mf, .int mg])), (mQ, .inl (G.2.1 2, 200, .inl (upd x31.2.1 x31.1 (fU x7.1)))), (mC, .inl (G.2.1 3, 200, .inr (.inl (vp_updL x31.2.2 (nI x31.1).toNatClampNeg (lV x7.1))))), (mU, .inl (G.2.1 2, 200, .inl fU)), (mV, .inl (G.2.1 3, 200, .inr (.inl lV)))]) rfl dX7_becomes_109 (fun H locs w => ?_)
        have w : Wd G (va_A [(mO, .inr (7, [.ref mS, .ref mD, .ref mR, .ref mT, .int mt, .int ma, .int mn, .ref mW, .ref mQ, .ref mC, .int my, .ref mU, .ref mV, .int (nI mM), .int mf, .int mg])), (mQ, .inl (G.2.1 2, 200, .inl fQ)), (mC, .inl (G.2.1 3, 200, .inr (.inl lC))), (mU, .inl (G.2.1 2, 200, .inl fU)), (mV, .inl (G.2.1 3, 200, .inr (.inl lV)))] sz) s [(mO, .inr (7, [.ref mS, .ref mD, .ref mR, .ref mT, .int mt, .int ma, .int mn, .ref mW, .ref mQ, .ref mC, .int (nI x7.2.1), .ref mU, .ref mV, .int (nI mM), .int mf, .int mg])), (mQ, .inl (G.2.1 2, 200, .inl (upd x31.2.1 x31.1 (fU x7.1)))), (mC, .inl (G.2.1 3, 200, .inr (.inl (vp_updL x31.2.2 x31.1 (lV x7.1))))), (mU, .inl (G.2.1 2, 200, .inl fU)), (mV, .inl (G.2.1 3, 200, .inr (.inl lV)))] H locs := by have h := nIc (j := x31.1) (by omega); rw [h] at w; exact w
        refine lv_aload_n S.1 S.2.1 dX7_becomes_110 rfl (lv_at hl 2 rfl) ?_
        refine lv_dup S.1 S.2.1 dX7_becomes_111 rfl ?_
        refine w_get S C w (CC := RX7) (T := TX7) (N := 16) (ref := "GateSumsModel") im_X7_becomes_X7 0 rfl rfl 10 (by decide) (List.mem_of_getElem? (i := 1) rfl) (fun _ h => h) rfl dX7_becomes_112 ?_
        refine lv_iconst (v := 1) S.1 S.2.1 dX7_becomes_115 (by decide) ?_
        refine lv_iadd S.1 S.2.1 dX7_becomes_116 ?_
        refine w_topi (y := (nI (x7.2.1 + 1))) (nI_1 _) ?_
        refine w_put S C w (CC := RX7) (T := TX7) (N := 16) (ref := "GateSumsModel") im_X7_becomes_X7 tyX7 tyX7_ok nmX7 0 rfl rfl 10 (by decide) (List.mem_of_getElem? (i := 1) rfl) (fun _ h => h) rfl (ws2 := [(mO, .inr (7, [.ref mS, .ref mD, .ref mR, .ref mT, .int mt, .int ma, .int mn, .ref mW, .ref mQ, .ref mC, .int (nI (x7.2.1 + 1)), .ref mU, .ref mV, .int (nI mM), .int mf, .int mg])), (mQ, .inl (G.2.1 2, 200, .inl (upd x31.2.1 x31.1 (fU x7.1)))), (mC, .inl (G.2.1 3, 200, .inr (.inl (vp_updL x31.2.2 x31.1 (lV x7.1))))), (mU, .inl (G.2.1 2, 200, .inl fU)), (mV, .inl (G.2.1 3, 200, .inr (.inl lV)))]) (rfl) (rfl) (Nat.le_of_ble_eq_true rfl) rfl dX7_becomes_117 (fun H locs w => ?_)
        refine lv_iinc (v := (nI (x7.1 + 1))) (lv' := [(1, .int (nI (x7.1 + 1))), (2, .int (nI x31.1)), (0, .ref mO)]) S.1 S.2.1 dX7_becomes_120 hl (k := 1) rfl (nI_1 _) (by decide) rfl (fun ls hl => ?_)
        refine lv_goto (tgt := 7) S.1 S.2.1 dX7_becomes_123 (by decide) ?_
        have hlt : x7.1 < mM := by have h := c12; rw [nI_leI (by omega) (by omega)] at h; omega
        exact ih7 (x7.1 + 1, (x7.2.1 + 1), (upd x31.2.1 x31.1 (fU x7.1)), (vp_updL x31.2.2 x31.1 (lV x7.1))) ls _ _ (by first | exact ⟨hlt, (by dsimp only; omega), hI7.2.2.skip ((lg_cmp_eq _ _).mp c23)⟩ | exact ⟨hlt, (by dsimp only; omega), NJ.fin hI31 hI7.2.2 hR hlt (by first | exact (fun h => absurd h (by have q := c32; rw [show (0 : Int32) = nI 0 from rfl, nI_leI (by omega) (by decide)] at q; omega)) | exact (fun _ => Int32.not_lt.mpr @c49)) (fun q => c23 ((lg_cmp_eq _ _).mpr q))⟩) (by dsimp only; omega) w (lv_sub hl [0, 2] rfl)
      · refine lv_aload_n S.1 S.2.1 dX7_becomes_35 rfl (lv_at hl 2 rfl) ?_
        refine w_get S C w (CC := RX7) (T := TX7) (N := 16) (ref := "GateSumsModel") im_X7_becomes_X7 0 rfl rfl 8 (by decide) (List.mem_of_getElem? (i := 4) rfl) (fun _ h => h) rfl dX7_becomes_36 ?_
        refine lv_iload_n S.1 S.2.1 dX7_becomes_39 rfl (lv_at hl 0 rfl) ?_
        refine lv_iconst (v := 1) S.1 S.2.1 dX7_becomes_40 (by decide) ?_
        refine lv_isub S.1 S.2.1 dX7_becomes_41 ?_
        refine w_topi (y := (nI (x31.1 - 1))) ((sub1 c32).1) ?_
        refine w_iald S C w 1 rfl (nIin (by omega) (by decide)) dX7_becomes_42 ?_
        refine w_topi (y := (x31.2.1 (x31.1 - 1))) (congrArg x31.2.1 (nIc (by omega))) ?_
        refine lv_aload_n S.1 S.2.1 dX7_becomes_43 rfl (lv_at hl 2 rfl) ?_
        refine w_get S C w (CC := RX7) (T := TX7) (N := 16) (ref := "GateSumsModel") im_X7_becomes_X7 0 rfl rfl 11 (by decide) (List.mem_of_getElem? (i := 5) rfl) (fun _ h => h) rfl dX7_becomes_44 ?_
        refine lv_iload_n S.1 S.2.1 dX7_becomes_47 rfl (lv_at hl 1 rfl) ?_
        refine w_iald S C w 3 rfl (nIin (by omega) (by decide)) dX7_becomes_48 ?_
        refine w_topi (y := (fU x7.1)) (congrArg fU (nIc (by omega))) ?_
        refine lv_icmp_ge (tgt := 86) S.1 S.2.1 dX7_becomes_49 (by decide) (fun c49 => ?_) (fun c49 => ?_)
        · refine lv_aload_n S.1 S.2.1 dX7_becomes_86 rfl (lv_at hl 2 rfl) ?_
          refine w_get S C w (CC := RX7) (T := TX7) (N := 16) (ref := "GateSumsModel") im_X7_becomes_X7 0 rfl rfl 8 (by decide) (List.mem_of_getElem? (i := 4) rfl) (fun _ h => h) rfl dX7_becomes_87 ?_
          refine lv_iload_n S.1 S.2.1 dX7_becomes_90 rfl (lv_at hl 0 rfl) ?_
          refine lv_aload_n S.1 S.2.1 dX7_becomes_91 rfl (lv_at hl 2 rfl) ?_
          refine w_get S C w (CC := RX7) (T := TX7) (N := 16) (ref := "GateSumsModel") im_X7_becomes_X7 0 rfl rfl 11 (by decide) (List.mem_of_getElem? (i := 5) rfl) (fun _ h => h) rfl dX7_becomes_92 ?_
          refine lv_iload_n S.1 S.2.1 dX7_becomes_95 rfl (lv_at hl 1 rfl) ?_
          refine w_iald S C w 3 rfl (nIin (by omega) (by decide)) dX7_becomes_96 ?_
          refine w_topi (y := (fU x7.1)) (congrArg fU (nIc (by omega))) ?_
          refine w_iast S C w 1 rfl (nIin (by omega) (by decide)) (ws2 := [(mO, .inr (7, [.ref mS, .ref mD, .ref mR, .ref mT, .int mt, .int ma, .int mn, .ref mW, .ref mQ, .ref mC, .int (nI x7.2.1), .ref mU, .ref mV, .int (nI mM), .int mf, .int mg])), (mQ, .inl (G.2.1 2, 200, .inl (upd x31.2.1 (nI x31.1).toNatClampNeg (fU x7.1)))), (mC, .inl (G.2.1 3, 200, .inr (.inl x31.2.2))), (mU, .inl (G.2.1 2, 200, .inl fU)), (mV, .inl (G.2.1 3, 200, .inr (.inl lV)))]) rfl dX7_becomes_97 (fun H locs w => ?_)
          have w : Wd G (va_A [(mO, .inr (7, [.ref mS, .ref mD, .ref mR, .ref mT, .int mt, .int ma, .int mn, .ref mW, .ref mQ, .ref mC, .int my, .ref mU, .ref mV, .int (nI mM), .int mf, .int mg])), (mQ, .inl (G.2.1 2, 200, .inl fQ)), (mC, .inl (G.2.1 3, 200, .inr (.inl lC))), (mU, .inl (G.2.1 2, 200, .inl fU)), (mV, .inl (G.2.1 3, 200, .inr (.inl lV)))] sz) s [(mO, .inr (7, [.ref mS, .ref mD, .ref mR, .ref mT, .int mt, .int ma, .int mn, .ref mW, .ref mQ, .ref mC, .int (nI x7.2.1), .ref mU, .ref mV, .int (nI mM), .int mf, .int mg])), (mQ, .inl (G.2.1 2, 200, .inl (upd x31.2.1 x31.1 (fU x7.1)))), (mC, .inl (G.2.1 3, 200, .inr (.inl x31.2.2))), (mU, .inl (G.2.1 2, 200, .inl fU)), (mV, .inl (G.2.1 3, 200, .inr (.inl lV)))] H locs := by have h := nIc (j := x31.1) (by omega); rw [h] at w; exact w
          refine lv_aload_n S.1 S.2.1 dX7_becomes_98 rfl (lv_at hl 2 rfl) ?_
          refine w_get S C w (CC := RX7) (T := TX7) (N := 16) (ref := "GateSumsModel") im_X7_becomes_X7 0 rfl rfl 9 (by decide) (List.mem_of_getElem? (i := 6) rfl) (fun _ h => h) rfl dX7_becomes_99 ?_
          refine lv_iload_n S.1 S.2.1 dX7_becomes_102 rfl (lv_at hl 0 rfl) ?_
          refine lv_aload_n S.1 S.2.1 dX7_becomes_103 rfl (lv_at hl 2 rfl) ?_
          refine w_get S C w (CC := RX7) (T := TX7) (N := 16) (ref := "GateSumsModel") im_X7_becomes_X7 0 rfl rfl 12 (by decide) (List.mem_of_getElem? (i := 3) rfl) (fun _ h => h) rfl dX7_becomes_104 ?_
          refine lv_iload_n S.1 S.2.1 dX7_becomes_107 rfl (lv_at hl 1 rfl) ?_
          refine w_lald S C w 4 rfl (nIin (by omega) (by decide)) dX7_becomes_108 ?_
          refine w_topl (y := (lV x7.1)) (congrArg lV (nIc (by omega))) ?_
          refine w_last S C w 2 rfl (nIin (by omega) (by decide)) (ws2 := [(mO, .inr (7, [.ref mS, .ref mD, .ref mR, .ref mT, .int mt, .int ma, .int mn, .ref mW, .ref mQ, .ref mC, .int (nI x7.2.1), .ref mU, .ref mV, .int (nI mM), .int mf, .int mg])), (mQ, .inl (G.2.1 2, 200, .inl (upd x31.2.1 x31.1 (fU x7.1)))), (mC, .inl (G.2.1 3, 200, .inr (.inl (vp_updL x31.2.2 (nI x31.1).toNatClampNeg (lV x7.1))))), (mU, .inl (G.2.1 2, 200, .inl fU)), (mV, .inl (G.2.1 3, 200, .inr (.inl lV)))]) rfl dX7_becomes_109 (fun H locs w => ?_)
          have w : Wd G (va_A [(mO, .inr (7, [.ref mS, .ref mD, .ref mR, .ref mT, .int mt, .int ma, .int mn, .ref mW, .ref mQ, .ref mC, .int my, .ref mU, .ref mV, .int (nI mM), .int mf, .int mg])), (mQ, .inl (G.2.1 2, 200, .inl fQ)), (mC, .inl (G.2.1 3, 200, .inr (.inl lC))), (mU, .inl (G.2.1 2, 200, .inl fU)), (mV, .inl (G.2.1 3, 200, .inr (.inl lV)))] sz) s [(mO, .inr (7, [.ref mS, .ref mD, .ref mR, .ref mT, .int mt, .int ma, .int mn, .ref mW, .ref mQ, .ref mC, .int (nI x7.2.1), .ref mU, .ref mV, .int (nI mM), .int mf, .int mg])), (mQ, .inl (G.2.1 2, 200, .inl (upd x31.2.1 x31.1 (fU x7.1)))), (mC, .inl (G.2.1 3, 200, .inr (.inl (vp_updL x31.2.2 x31.1 (lV x7.1))))), (mU, .inl (G.2.1 2, 200, .inl fU)), (mV, .inl (G.2.1 3, 200, .inr (.inl lV)))] H locs := by have h := nIc (j := x31.1) (by omega); rw [h] at w; exact w
          refine lv_aload_n S.1 S.2.1 dX7_becomes_110 rfl (lv_at hl 2 rfl) ?_
          refine lv_dup S.1 S.2.1 dX7_becomes_111 rfl ?_
          refine w_get S C w (CC := RX7) (T := TX7) (N := 16) (ref := "GateSumsModel") im_X7_becomes_X7 0 rfl rfl 10 (by decide) (List.mem_of_getElem? (i := 1) rfl) (fun _ h => h) rfl dX7_becomes_112 ?_
          refine lv_iconst (v := 1) S.1 S.2.1 dX7_becomes_115 (by decide) ?_
          refine lv_iadd S.1 S.2.1 dX7_becomes_116 ?_
          refine w_topi (y := (nI (x7.2.1 + 1))) (nI_1 _) ?_
          refine w_put S C w (CC := RX7) (T := TX7) (N := 16) (ref := "GateSumsModel") im_X7_becomes_X7 tyX7 tyX7_ok nmX7 0 rfl rfl 10 (by decide) (List.mem_of_getElem? (i := 1) rfl) (fun _ h => h) rfl (ws2 := [(mO, .inr (7, [.ref mS, .ref mD, .ref mR, .ref mT, .int mt, .int ma, .int mn, .ref mW, .ref mQ, .ref mC, .int (nI (x7.2.1 + 1)), .ref mU, .ref mV, .int (nI mM), .int mf, .int mg])), (mQ, .inl (G.2.1 2, 200, .inl (upd x31.2.1 x31.1 (fU x7.1)))), (mC, .inl (G.2.1 3, 200, .inr (.inl (vp_updL x31.2.2 x31.1 (lV x7.1))))), (mU, .inl (G.2.1 2, 200, .inl fU)), (mV, .inl (G.2.1 3, 200, .inr (.inl lV)))]) (rfl) (rfl) (Nat.le_of_ble_eq_true rfl) rfl dX7_becomes_117 (fun H locs w => ?_)
          refine lv_iinc (v := (nI (x7.1 + 1))) (lv' := [(1, .int (nI (x7.1 + 1))), (2, .int (nI x31.1)), (0, .ref mO)]) S.1 S.2.1 dX7_becomes_120 hl (k := 1) rfl (nI_1 _) (by decide) rfl (fun ls hl => ?_)
          refine lv_goto (tgt := 7) S.1 S.2.1 dX7_becomes_123 (by decide) ?_
          have hlt : x7.1 < mM := by have h := c12; rw [nI_leI (by omega) (by omega)] at h; omega
          exact ih7 (x7.1 + 1, (x7.2.1 + 1), (upd x31.2.1 x31.1 (fU x7.1)), (vp_updL x31.2.2 x31.1 (lV x7.1))) ls _ _ (by first | exact ⟨hlt, (by dsimp only; omega), hI7.2.2.skip ((lg_cmp_eq _ _).mp c23)⟩ | exact ⟨hlt, (by dsimp only; omega), NJ.fin hI31 hI7.2.2 hR hlt (by first | exact (fun h => absurd h (by have q := c32; rw [show (0 : Int32) = nI 0 from rfl, nI_leI (by omega) (by decide)] at q; omega)) | exact (fun _ => Int32.not_lt.mpr c49)) (fun q => c23 ((lg_cmp_eq _ _).mpr q))⟩) (by dsimp only; omega) w (lv_sub hl [0, 2] rfl)
        · refine lv_aload_n S.1 S.2.1 dX7_becomes_52 rfl (lv_at hl 2 rfl) ?_
          refine w_get S C w (CC := RX7) (T := TX7) (N := 16) (ref := "GateSumsModel") im_X7_becomes_X7 0 rfl rfl 8 (by decide) (List.mem_of_getElem? (i := 4) rfl) (fun _ h => h) rfl dX7_becomes_53 ?_
          refine lv_iload_n S.1 S.2.1 dX7_becomes_56 rfl (lv_at hl 0 rfl) ?_
          refine lv_aload_n S.1 S.2.1 dX7_becomes_57 rfl (lv_at hl 2 rfl) ?_
          refine w_get S C w (CC := RX7) (T := TX7) (N := 16) (ref := "GateSumsModel") im_X7_becomes_X7 0 rfl rfl 8 (by decide) (List.mem_of_getElem? (i := 4) rfl) (fun _ h => h) rfl dX7_becomes_58 ?_
          refine lv_iload_n S.1 S.2.1 dX7_becomes_61 rfl (lv_at hl 0 rfl) ?_
          refine lv_iconst (v := 1) S.1 S.2.1 dX7_becomes_62 (by decide) ?_
          refine lv_isub S.1 S.2.1 dX7_becomes_63 ?_
          refine w_topi (y := (nI (x31.1 - 1))) ((sub1 c32).1) ?_
          refine w_iald S C w 1 rfl (nIin (by omega) (by decide)) dX7_becomes_64 ?_
          refine w_topi (y := (x31.2.1 (x31.1 - 1))) (congrArg x31.2.1 (nIc (by omega))) ?_
          refine w_iast S C w 1 rfl (nIin (by omega) (by decide)) (ws2 := [(mO, .inr (7, [.ref mS, .ref mD, .ref mR, .ref mT, .int mt, .int ma, .int mn, .ref mW, .ref mQ, .ref mC, .int (nI x7.2.1), .ref mU, .ref mV, .int (nI mM), .int mf, .int mg])), (mQ, .inl (G.2.1 2, 200, .inl (upd x31.2.1 (nI x31.1).toNatClampNeg (x31.2.1 (x31.1 - 1))))), (mC, .inl (G.2.1 3, 200, .inr (.inl x31.2.2))), (mU, .inl (G.2.1 2, 200, .inl fU)), (mV, .inl (G.2.1 3, 200, .inr (.inl lV)))]) rfl dX7_becomes_65 (fun H locs w => ?_)
          have w : Wd G (va_A [(mO, .inr (7, [.ref mS, .ref mD, .ref mR, .ref mT, .int mt, .int ma, .int mn, .ref mW, .ref mQ, .ref mC, .int my, .ref mU, .ref mV, .int (nI mM), .int mf, .int mg])), (mQ, .inl (G.2.1 2, 200, .inl fQ)), (mC, .inl (G.2.1 3, 200, .inr (.inl lC))), (mU, .inl (G.2.1 2, 200, .inl fU)), (mV, .inl (G.2.1 3, 200, .inr (.inl lV)))] sz) s [(mO, .inr (7, [.ref mS, .ref mD, .ref mR, .ref mT, .int mt, .int ma, .int mn, .ref mW, .ref mQ, .ref mC, .int (nI x7.2.1), .ref mU, .ref mV, .int (nI mM), .int mf, .int mg])), (mQ, .inl (G.2.1 2, 200, .inl (upd x31.2.1 x31.1 (x31.2.1 (x31.1 - 1))))), (mC, .inl (G.2.1 3, 200, .inr (.inl x31.2.2))), (mU, .inl (G.2.1 2, 200, .inl fU)), (mV, .inl (G.2.1 3, 200, .inr (.inl lV)))] H locs := by have h := nIc (j := x31.1) (by omega); rw [h] at w; exact w
          refine lv_aload_n S.1 S.2.1 dX7_becomes_66 rfl (lv_at hl 2 rfl) ?_
          refine w_get S C w (CC := RX7) (T := TX7) (N := 16) (ref := "GateSumsModel") im_X7_becomes_X7 0 rfl rfl 9 (by decide) (List.mem_of_getElem? (i := 6) rfl) (fun _ h => h) rfl dX7_becomes_67 ?_
          refine lv_iload_n S.1 S.2.1 dX7_becomes_70 rfl (lv_at hl 0 rfl) ?_
          refine lv_aload_n S.1 S.2.1 dX7_becomes_71 rfl (lv_at hl 2 rfl) ?_
          refine w_get S C w (CC := RX7) (T := TX7) (N := 16) (ref := "GateSumsModel") im_X7_becomes_X7 0 rfl rfl 9 (by decide) (List.mem_of_getElem? (i := 6) rfl) (fun _ h => h) rfl dX7_becomes_72 ?_
          refine lv_iload_n S.1 S.2.1 dX7_becomes_75 rfl (lv_at hl 0 rfl) ?_
          refine lv_iconst (v := 1) S.1 S.2.1 dX7_becomes_76 (by decide) ?_
          refine lv_isub S.1 S.2.1 dX7_becomes_77 ?_
          refine w_topi (y := (nI (x31.1 - 1))) ((sub1 c32).1) ?_
          refine w_lald S C w 2 rfl (nIin (by omega) (by decide)) dX7_becomes_78 ?_
          refine w_topl (y := (x31.2.2 (x31.1 - 1))) (congrArg x31.2.2 (nIc (by omega))) ?_
          refine w_last S C w 2 rfl (nIin (by omega) (by decide)) (ws2 := [(mO, .inr (7, [.ref mS, .ref mD, .ref mR, .ref mT, .int mt, .int ma, .int mn, .ref mW, .ref mQ, .ref mC, .int (nI x7.2.1), .ref mU, .ref mV, .int (nI mM), .int mf, .int mg])), (mQ, .inl (G.2.1 2, 200, .inl (upd x31.2.1 x31.1 (x31.2.1 (x31.1 - 1))))), (mC, .inl (G.2.1 3, 200, .inr (.inl (vp_updL x31.2.2 (nI x31.1).toNatClampNeg (x31.2.2 (x31.1 - 1)))))), (mU, .inl (G.2.1 2, 200, .inl fU)), (mV, .inl (G.2.1 3, 200, .inr (.inl lV)))]) rfl dX7_becomes_79 (fun H locs w => ?_)
          have w : Wd G (va_A [(mO, .inr (7, [.ref mS, .ref mD, .ref mR, .ref mT, .int mt, .int ma, .int mn, .ref mW, .ref mQ, .ref mC, .int my, .ref mU, .ref mV, .int (nI mM), .int mf, .int mg])), (mQ, .inl (G.2.1 2, 200, .inl fQ)), (mC, .inl (G.2.1 3, 200, .inr (.inl lC))), (mU, .inl (G.2.1 2, 200, .inl fU)), (mV, .inl (G.2.1 3, 200, .inr (.inl lV)))] sz) s [(mO, .inr (7, [.ref mS, .ref mD, .ref mR, .ref mT, .int mt, .int ma, .int mn, .ref mW, .ref mQ, .ref mC, .int (nI x7.2.1), .ref mU, .ref mV, .int (nI mM), .int mf, .int mg])), (mQ, .inl (G.2.1 2, 200, .inl (upd x31.2.1 x31.1 (x31.2.1 (x31.1 - 1))))), (mC, .inl (G.2.1 3, 200, .inr (.inl (vp_updL x31.2.2 x31.1 (x31.2.2 (x31.1 - 1)))))), (mU, .inl (G.2.1 2, 200, .inl fU)), (mV, .inl (G.2.1 3, 200, .inr (.inl lV)))] H locs := by have h := nIc (j := x31.1) (by omega); rw [h] at w; exact w
          refine lv_iinc (v := (nI (x31.1 - 1))) (lv' := [(2, .int (nI (x31.1 - 1))), (1, .int (nI x7.1)), (0, .ref mO)]) S.1 S.2.1 dX7_becomes_80 hl (k := 0) rfl (dec1 (sub1 c32).2) (by decide) rfl (fun ls hl => ?_)
          refine lv_goto (tgt := 31) S.1 S.2.1 dX7_becomes_83 (by decide) ?_
          exact ih31 (x31.1 - 1, (upd x31.2.1 x31.1 (x31.2.1 (x31.1 - 1))), (vp_updL x31.2.2 x31.1 (x31.2.2 (x31.1 - 1)))) ls _ _ (NJ.step hI31 (sub1 c32).2 (Int32.not_le.mp c49)) (by dsimp only; have := (sub1 c32).2; omega) w (lv_sub hl [0, 1, 2] rfl)
set_option maxHeartbeats 4000000 in
set_option maxRecDepth 100000 in
theorem k_X7_begin (l : Launch) (G : GT) (mO mS mQ mC mU mV : Nat) (sz : Nat) (mD mR mT mW : Nat) (mt ma mn my mm mf mg : Int32) (fS fQ fU : Nat → Int32) (lC lV : Nat → Int64) (oN pN qN : Nat) (ho : fS 2 = nI oN) (hoN : oN ≤ 7) (hp : fS 4 = nI pN) (hpN : pN ≤ 6) (hq : fS 5 = nI qN) (hqN : qN ≤ 6) (hk3 : ∃ k, k < 4 ∧ fS 3 = nI k) : Met l yX7_begin wsX7_begin ({ frames := 1, cells := 0, slots := 0, locals := 24 }) (va_Pc [.ref mO] (wPre G [(mO, .inr (7, [.ref mS, .ref mD, .ref mR, .ref mT, .int mt, .int ma, .int mn, .ref mW, .ref mQ, .ref mC, .int my, .ref mU, .ref mV, .int mm, .int mf, .int mg])), (mS, .inl (G.2.1 2, 49, .inl fS)), (mQ, .inl (G.2.1 2, 200, .inl fQ)), (mC, .inl (G.2.1 3, 200, .inr (.inl lC))), (mU, .inl (G.2.1 2, 200, .inl fU)), (mV, .inl (G.2.1 3, 200, .inr (.inl lV)))] sz)) (va_Qi (fun (r : Int32) (u : Nat × (Nat → Int32) × (Nat → Int64) × (Nat → Int32) × (Nat → Int64)) => u.1 ≤ 200 ∧ R64 u.1 u.2.1 u.2.2.1 (PK0 fS oN pN qN) ∧ ((r = 1 ∧ u.1 ≤ 40) ∨ (r = 0 ∧ 40 < u.1))) (bW G (va_A [(mO, .inr (7, [.ref mS, .ref mD, .ref mR, .ref mT, .int mt, .int ma, .int mn, .ref mW, .ref mQ, .ref mC, .int my, .ref mU, .ref mV, .int mm, .int mf, .int mg])), (mS, .inl (G.2.1 2, 49, .inl fS)), (mQ, .inl (G.2.1 2, 200, .inl fQ)), (mC, .inl (G.2.1 3, 200, .inr (.inl lC))), (mU, .inl (G.2.1 2, 200, .inl fU)), (mV, .inl (G.2.1 3, 200, .inr (.inl lV)))] sz) (fun u : Nat × (Nat → Int32) × (Nat → Int64) × (Nat → Int32) × (Nat → Int64) => [(mO, .inr (7, [.ref mS, .ref mD, .ref mR, .ref mT, .int mt, .int ma, .int mn, .ref mW, .ref mQ, .ref mC, .int (nI u.1), .ref mU, .ref mV, .int 0, .int mf, .int mg])), (mS, .inl (G.2.1 2, 49, .inl fS)), (mQ, .inl (G.2.1 2, 200, .inl u.2.1)), (mC, .inl (G.2.1 3, 200, .inr (.inl u.2.2.1))), (mU, .inl (G.2.1 2, 200, .inl u.2.2.2.1)), (mV, .inl (G.2.1 3, 200, .inr (.inl u.2.2.2.2)))])) (va_A [(mO, .inr (7, [.ref mS, .ref mD, .ref mR, .ref mT, .int mt, .int ma, .int mn, .ref mW, .ref mQ, .ref mC, .int my, .ref mU, .ref mV, .int mm, .int mf, .int mg])), (mS, .inl (G.2.1 2, 49, .inl fS)), (mQ, .inl (G.2.1 2, 200, .inl fQ)), (mC, .inl (G.2.1 3, 200, .inr (.inl lC))), (mU, .inl (G.2.1 2, 200, .inl fU)), (mV, .inl (G.2.1 3, 200, .inr (.inl lV)))] sz)) 0 0 (va_A [(mO, .inr (7, [.ref mS, .ref mD, .ref mR, .ref mT, .int mt, .int ma, .int mn, .ref mW, .ref mQ, .ref mC, .int my, .ref mU, .ref mV, .int mm, .int mf, .int mg])), (mS, .inl (G.2.1 2, 49, .inl fS)), (mQ, .inl (G.2.1 2, 200, .inl fQ)), (mC, .inl (G.2.1 3, 200, .inr (.inl lC))), (mU, .inl (G.2.1 2, 200, .inl fU)), (mV, .inl (G.2.1 3, 200, .inr (.inl lV)))] sz) := by
  refine met_go (cc := cX7_begin) (maxL := 7) (ret := (some .boolean)) (own := RX7) (by decide) rfl rfl (Nat.le_of_ble_eq_true rfl) ?_
  intro p e s m below meth c ls S hr hlocks hname hsz C w hl
  have hl : lv_has ls 7 [(0, .ref mO)] := hl
  refine lv_aload_n S.1 S.2.1 dX7_begin_0 rfl (lv_at hl 0 rfl) ?_
  refine lv_iconst (v := 0) S.1 S.2.1 dX7_begin_1 (by decide) ?_
  refine w_put S C w (CC := RX7) (T := TX7) (N := 16) (ref := "GateSumsModel") im_X7_begin_X7 tyX7 tyX7_ok nmX7 0 rfl rfl 13 (by decide) (List.mem_of_getElem? (i := 1) rfl) (fun _ h => h) rfl (ws2 := [(mO, .inr (7, [.ref mS, .ref mD, .ref mR, .ref mT, .int mt, .int ma, .int mn, .ref mW, .ref mQ, .ref mC, .int my, .ref mU, .ref mV, .int 0, .int mf, .int mg])), (mS, .inl (G.2.1 2, 49, .inl fS)), (mQ, .inl (G.2.1 2, 200, .inl fQ)), (mC, .inl (G.2.1 3, 200, .inr (.inl lC))), (mU, .inl (G.2.1 2, 200, .inl fU)), (mV, .inl (G.2.1 3, 200, .inr (.inl lV)))]) (rfl) (rfl) (Nat.le_of_ble_eq_true rfl) rfl dX7_begin_2 (fun H locs w => ?_)
  refine lv_iconst (v := 0) S.1 S.2.1 dX7_begin_5 (by decide) ?_
  refine lv_istore_n (lv' := [(1, .int 0), (0, .ref mO)]) S.1 S.2.1 dX7_begin_6 rfl hl (by decide) rfl (fun ls hl => ?_)
  refine w_loop (G := G) (σ := Nat × Nat × (Nat → Int32) × (Nat → Int64)) (nL := 7) 7 (fun x7 => oN - x7.1) (fun x7 => x7.1 ≤ oN ∧ x7.2.1 ≤ x7.1 ∧ RU x7.2.1 x7.2.2.1 x7.2.2.2 (oPo fS x7.1)) (fun x7 => [(mO, .inr (7, [.ref mS, .ref mD, .ref mR, .ref mT, .int mt, .int ma, .int mn, .ref mW, .ref mQ, .ref mC, .int my, .ref mU, .ref mV, .int (nI x7.2.1), .int mf, .int mg])), (mS, .inl (G.2.1 2, 49, .inl fS)), (mQ, .inl (G.2.1 2, 200, .inl fQ)), (mC, .inl (G.2.1 3, 200, .inr (.inl lC))), (mU, .inl (G.2.1 2, 200, .inl x7.2.2.1)), (mV, .inl (G.2.1 3, 200, .inr (.inl x7.2.2.2)))]) (fun x7 => [(1, .int (nI x7.1)), (0, .ref mO)]) (fun _ => []) ?_ (0, 0, fU, lV) ls _ _ (⟨Nat.zero_le _, Nat.le_refl _, RU.nil⟩) w (lv_sub hl [0, 1] rfl)
  intro x7 ls H locs hI7 w hl ih7
  have w : Wd G _ s [(mO, .inr (7, [.ref mS, .ref mD, .ref mR, .ref mT, .int mt, .int ma, .int mn, .ref mW, .ref mQ, .ref mC, .int my, .ref mU, .ref mV, .int (nI x7.2.1), .int mf, .int mg])), (mS, .inl (G.2.1 2, 49, .inl fS)), (mQ, .inl (G.2.1 2, 200, .inl fQ)), (mC, .inl (G.2.1 3, 200, .inr (.inl lC))), (mU, .inl (G.2.1 2, 200, .inl x7.2.2.1)), (mV, .inl (G.2.1 3, 200, .inr (.inl x7.2.2.2)))] H locs := w
  have hl : lv_has ls 7 [(1, .int (nI x7.1)), (0, .ref mO)] := hl
  have hJ1 := hI7.1
  have hJ2 := hI7.2.1
  refine lv_iload_n S.1 S.2.1 dX7_begin_7 rfl (lv_at hl 0 rfl) ?_
  refine lv_aload_n S.1 S.2.1 dX7_begin_8 rfl (lv_at hl 1 rfl) ?_
  refine w_get S C w (CC := RX7) (T := TX7) (N := 16) (ref := "GateSumsModel") im_X7_begin_X7 0 rfl rfl 0 (by decide) (List.mem_of_getElem? (i := 2) rfl) (fun _ h => h) rfl dX7_begin_9 ?_
  refine lv_iconst (v := 2) S.1 S.2.1 dX7_begin_12 (by decide) ?_
  refine w_iald S C w 1 rfl (by unfold vp_in; decide) dX7_begin_13 ?_
  refine w_topi (y := (nI oN)) (ho) ?_
  refine lv_icmp_ge (tgt := 41) S.1 S.2.1 dX7_begin_14 (by decide) (fun c14 => ?_) (fun c14 => ?_)
  · refine lv_aload_n S.1 S.2.1 dX7_begin_41 rfl (lv_at hl 1 rfl) ?_
    refine w_get S C w (CC := RX7) (T := TX7) (N := 16) (ref := "GateSumsModel") im_X7_begin_X7 0 rfl rfl 0 (by decide) (List.mem_of_getElem? (i := 2) rfl) (fun _ h => h) rfl dX7_begin_42 ?_
    refine lv_iconst (v := 4) S.1 S.2.1 dX7_begin_45 (by decide) ?_
    refine w_iald S C w 1 rfl (by unfold vp_in; decide) dX7_begin_46 ?_
    refine w_topi (y := (nI pN)) (hp) ?_
    refine lv_istore_n (lv' := [(1, .int (nI pN)), (0, .ref mO)]) S.1 S.2.1 dX7_begin_47 rfl hl (by decide) rfl (fun ls hl => ?_)
    refine lv_aload_n S.1 S.2.1 dX7_begin_48 rfl (lv_at hl 1 rfl) ?_
    refine w_get S C w (CC := RX7) (T := TX7) (N := 16) (ref := "GateSumsModel") im_X7_begin_X7 0 rfl rfl 0 (by decide) (List.mem_of_getElem? (i := 2) rfl) (fun _ h => h) rfl dX7_begin_49 ?_
    refine lv_iconst (v := 5) S.1 S.2.1 dX7_begin_52 (by decide) ?_
    refine w_iald S C w 1 rfl (by unfold vp_in; decide) dX7_begin_53 ?_
    refine w_topi (y := (nI qN)) (hq) ?_
    refine lv_istore_n (lv' := [(2, .int (nI qN)), (1, .int (nI pN)), (0, .ref mO)]) S.1 S.2.1 dX7_begin_54 rfl hl (by decide) rfl (fun ls hl => ?_)
    refine lv_aload_n S.1 S.2.1 dX7_begin_55 rfl (lv_at hl 2 rfl) ?_
    refine w_get S C w (CC := RX7) (T := TX7) (N := 16) (ref := "GateSumsModel") im_X7_begin_X7 0 rfl rfl 0 (by decide) (List.mem_of_getElem? (i := 2) rfl) (fun _ h => h) rfl dX7_begin_56 ?_
    refine lv_iconst (v := 3) S.1 S.2.1 dX7_begin_59 (by decide) ?_
    refine w_iald S C w 1 rfl (by unfold vp_in; decide) dX7_begin_60 ?_
    refine w_topi (y := (fS 3)) (rfl) ?_
    refine lv_istore_n (lv' := [(3, .int (fS 3)), (2, .int (nI qN)), (1, .int (nI pN)), (0, .ref mO)]) S.1 S.2.1 dX7_begin_61 rfl hl (by decide) rfl (fun ls hl => ?_)
    refine lv_iconst (v := 0) S.1 S.2.1 dX7_begin_62 (by decide) ?_
    refine lv_istore (lv' := [(4, .int 0), (3, .int (fS 3)), (2, .int (nI qN)), (1, .int (nI pN)), (0, .ref mO)]) S.1 S.2.1 dX7_begin_63 hl (by decide) rfl (fun ls hl => ?_)
    have hoe : x7.1 = oN := by have h := c14; rw [nI_leI (by omega) (by omega)] at h; omega
    refine w_loop (G := G) (σ := Nat × Nat × (Nat → Int32) × (Nat → Int64)) (nL := 7) 65 (fun x65 => pN - x65.1) (fun x65 => x65.1 ≤ pN ∧ x65.2.1 ≤ 7 + 6 * x65.1 ∧ RU x65.2.1 x65.2.2.1 x65.2.2.2 (rA (fS 3) pN (rM (fS 3) pN qN) (oPo fS oN) x65.1)) (fun x65 => [(mO, .inr (7, [.ref mS, .ref mD, .ref mR, .ref mT, .int mt, .int ma, .int mn, .ref mW, .ref mQ, .ref mC, .int my, .ref mU, .ref mV, .int (nI x65.2.1), .int mf, .int mg])), (mS, .inl (G.2.1 2, 49, .inl fS)), (mQ, .inl (G.2.1 2, 200, .inl fQ)), (mC, .inl (G.2.1 3, 200, .inr (.inl lC))), (mU, .inl (G.2.1 2, 200, .inl x65.2.2.1)), (mV, .inl (G.2.1 3, 200, .inr (.inl x65.2.2.2)))]) (fun x65 => [(4, .int (nI x65.1)), (3, .int (fS 3)), (2, .int (nI qN)), (1, .int (nI pN)), (0, .ref mO)]) (fun _ => []) ?_ (0, x7.2.1, x7.2.2.1, x7.2.2.2) ls _ _ (⟨Nat.zero_le _, (by dsimp only; omega), (by have h := hI7.2.2; rw [hoe] at h; exact h)⟩) w (lv_sub hl [0, 1, 2, 3, 4] rfl)
    intro x65 ls H locs hI65 w hl ih65
    have w : Wd G _ s [(mO, .inr (7, [.ref mS, .ref mD, .ref mR, .ref mT, .int mt, .int ma, .int mn, .ref mW, .ref mQ, .ref mC, .int my, .ref mU, .ref mV, .int (nI x65.2.1), .int mf, .int mg])), (mS, .inl (G.2.1 2, 49, .inl fS)), (mQ, .inl (G.2.1 2, 200, .inl fQ)), (mC, .inl (G.2.1 3, 200, .inr (.inl lC))), (mU, .inl (G.2.1 2, 200, .inl x65.2.2.1)), (mV, .inl (G.2.1 3, 200, .inr (.inl x65.2.2.2)))] H locs := w
    have hl : lv_has ls 7 [(4, .int (nI x65.1)), (3, .int (fS 3)), (2, .int (nI qN)), (1, .int (nI pN)), (0, .ref mO)] := hl
    have hK1 := hI65.1
    have hK2 := hI65.2.1
    have hb6 := rM_le (k := fS 3) hpN hqN
    refine lv_iload S.1 S.2.1 dX7_begin_65 (lv_at hl 0 rfl) ?_
    refine lv_iload_n S.1 S.2.1 dX7_begin_67 rfl (lv_at hl 3 rfl) ?_
    refine lv_icmp_ge (tgt := 186) S.1 S.2.1 dX7_begin_68 (by decide) (fun c68 => ?_) (fun c68 => ?_)
    · refine lv_iconst (v := 0) S.1 S.2.1 dX7_begin_186 (by decide) ?_
      refine lv_istore (lv' := [(4, .int 0), (3, .int (fS 3)), (2, .int (nI qN)), (1, .int (nI pN)), (0, .ref mO)]) S.1 S.2.1 dX7_begin_187 hl (by decide) rfl (fun ls hl => ?_)
      have hke : x65.1 = pN := by have h := c68; rw [nI_leI (by omega) (by omega)] at h; omega
      refine w_loop (G := G) (σ := Nat × Nat × (Nat → Int32) × (Nat → Int64)) (nL := 7) 189 (fun x189 => qN - x189.1) (fun x189 => x189.1 ≤ qN ∧ x189.2.1 ≤ 43 + x189.1 ∧ RU x189.2.1 x189.2.2.1 x189.2.2.2 (rB (fS 3) pN (rA (fS 3) pN (rM (fS 3) pN qN) (oPo fS oN) pN) x189.1) ∧ (fS 3 = 1 → x189.1 = 0)) (fun x189 => [(mO, .inr (7, [.ref mS, .ref mD, .ref mR, .ref mT, .int mt, .int ma, .int mn, .ref mW, .ref mQ, .ref mC, .int my, .ref mU, .ref mV, .int (nI x189.2.1), .int mf, .int mg])), (mS, .inl (G.2.1 2, 49, .inl fS)), (mQ, .inl (G.2.1 2, 200, .inl fQ)), (mC, .inl (G.2.1 3, 200, .inr (.inl lC))), (mU, .inl (G.2.1 2, 200, .inl x189.2.2.1)), (mV, .inl (G.2.1 3, 200, .inr (.inl x189.2.2.2)))]) (fun x189 => [(4, .int (nI x189.1)), (3, .int (fS 3)), (2, .int (nI qN)), (1, .int (nI pN)), (0, .ref mO)]) (fun _ => []) ?_ (0, x65.2.1, x65.2.2.1, x65.2.2.2) ls _ _ (⟨Nat.zero_le _, (by dsimp only; omega), (by have h := hI65.2.2; rw [hke] at h; exact h), fun _ => rfl⟩) w (lv_sub hl [0, 1, 2, 3, 4] rfl)
      intro x189 ls H locs hI189 w hl ih189
      have w : Wd G _ s [(mO, .inr (7, [.ref mS, .ref mD, .ref mR, .ref mT, .int mt, .int ma, .int mn, .ref mW, .ref mQ, .ref mC, .int my, .ref mU, .ref mV, .int (nI x189.2.1), .int mf, .int mg])), (mS, .inl (G.2.1 2, 49, .inl fS)), (mQ, .inl (G.2.1 2, 200, .inl fQ)), (mC, .inl (G.2.1 3, 200, .inr (.inl lC))), (mU, .inl (G.2.1 2, 200, .inl x189.2.2.1)), (mV, .inl (G.2.1 3, 200, .inr (.inl x189.2.2.2)))] H locs := w
      have hl : lv_has ls 7 [(4, .int (nI x189.1)), (3, .int (fS 3)), (2, .int (nI qN)), (1, .int (nI pN)), (0, .ref mO)] := hl
      have hM1 := hI189.1
      have hM2 := hI189.2.1
      refine lv_iload S.1 S.2.1 dX7_begin_189 (lv_at hl 0 rfl) ?_
      refine lv_iload_n S.1 S.2.1 dX7_begin_191 rfl (lv_at hl 2 rfl) ?_
      refine lv_icmp_ge (tgt := 233) S.1 S.2.1 dX7_begin_192 (by decide) (fun c192 => ?_) (fun c192 => ?_)
      · have hfin : RU x189.2.1 x189.2.2.1 x189.2.2.2 (PK0 fS oN pN qN) := hI189.2.2.1.cong (fun t => congrFun (r_PK0 hk3 hI189.2.2.2 (by first | exact Or.inr @c197 | exact Or.inl (by have h := c192; rw [nI_leI (by omega) (by omega)] at h; omega))) t)
        refine lv_aload_n S.1 S.2.1 dX7_begin_233 rfl (lv_at hl 4 rfl) ?_
        refine cq_i C w [0, 2, 3, 4, 5] [1] [1, 0, 2, 3, 4, 5] (wr := [(mS, .inl (G.2.1 2, 49, .inl fS))]) (w' := fun u : Nat × (Nat → Int32) × (Nat → Int64) => [(mO, .inr (7, [.ref mS, .ref mD, .ref mR, .ref mT, .int mt, .int ma, .int mn, .ref mW, .ref mQ, .ref mC, .int (nI u.1), .ref mU, .ref mV, .int 0, .int mf, .int mg])), (mQ, .inl (G.2.1 2, 200, .inl u.2.1)), (mC, .inl (G.2.1 3, 200, .inr (.inl u.2.2))), (mU, .inl (G.2.1 2, 200, .inl x189.2.2.1)), (mV, .inl (G.2.1 3, 200, .inr (.inl x189.2.2.2)))]) (ws2 := fun u : Nat × (Nat → Int32) × (Nat → Int64) => [(mO, .inr (7, [.ref mS, .ref mD, .ref mR, .ref mT, .int mt, .int ma, .int mn, .ref mW, .ref mQ, .ref mC, .int (nI u.1), .ref mU, .ref mV, .int 0, .int mf, .int mg])), (mS, .inl (G.2.1 2, 49, .inl fS)), (mQ, .inl (G.2.1 2, 200, .inl u.2.1)), (mC, .inl (G.2.1 3, 200, .inr (.inl u.2.2))), (mU, .inl (G.2.1 2, 200, .inl x189.2.2.1)), (mV, .inl (G.2.1 3, 200, .inr (.inl x189.2.2.2)))]) rfl rfl rfl (by decide) rfl (fun _ => rfl) (va_runV (As := []) (rest := []) S (k_X7_becomes l G mO mQ mC mU mV _ mS mD mR mT mW mt ma mn my mf mg x189.2.1 fQ x189.2.2.1 lC x189.2.2.2 (PK0 fS oN pN qN) (by omega) (hfin)) (cwV 0 S.2.2.2.2 gX7_begin_X7_becomes rfl rfl rfl (by decide +kernel) ⟨Nat.le_of_ble_eq_true rfl, Nat.le_of_ble_eq_true rfl⟩) ⟨wPre_blind, va_recv C.1 w.1 (ci := 7) (q0 := 0) rfl rfl, wPre_at C w [0, 2, 3, 4, 5] rfl rfl⟩ rfl rfl hl.1 rfl (lv_room (Nat.le_of_ble_eq_true rfl)) dX7_begin_234 ⟨Nat.le_of_ble_eq_true rfl, Nat.le_of_ble_eq_true rfl⟩) (fun r234 u234 H locs h234 w => ?_)
        have w : Wd G _ s [(mO, .inr (7, [.ref mS, .ref mD, .ref mR, .ref mT, .int mt, .int ma, .int mn, .ref mW, .ref mQ, .ref mC, .int (nI u234.1), .ref mU, .ref mV, .int 0, .int mf, .int mg])), (mS, .inl (G.2.1 2, 49, .inl fS)), (mQ, .inl (G.2.1 2, 200, .inl u234.2.1)), (mC, .inl (G.2.1 3, 200, .inr (.inl u234.2.2))), (mU, .inl (G.2.1 2, 200, .inl x189.2.2.1)), (mV, .inl (G.2.1 3, 200, .inr (.inl x189.2.2.2)))] H locs := w
        exact W.zret (v := r234) S.1 S.2.1 hr (z01_nar (r01 (h234).2.2)) (fun t ht _ => ⟨⟨r234, (u234.1, u234.2.1, u234.2.2, x189.2.2.1, x189.2.2.2), rfl, ⟨by have := (h234).1; omega, (h234).2⟩, by rw [ht]; exact w.1, w.2.1⟩, w.2.2.F ht⟩) w.2.2.2.2 dX7_begin_237
      · refine lv_iload_n S.1 S.2.1 dX7_begin_195 rfl (lv_at hl 1 rfl) ?_
        refine lv_iconst (v := 1) S.1 S.2.1 dX7_begin_196 (by decide) ?_
        refine lv_icmp_eq (tgt := 233) S.1 S.2.1 dX7_begin_197 (by decide) (fun c197 => ?_) (fun c197 => ?_)
        · have hfin : RU x189.2.1 x189.2.2.1 x189.2.2.2 (PK0 fS oN pN qN) := hI189.2.2.1.cong (fun t => congrFun (r_PK0 hk3 hI189.2.2.2 (by first | exact Or.inr c197 | exact Or.inl (by have h := c192; rw [nI_leI (by omega) (by omega)] at h; omega))) t)
          refine lv_aload_n S.1 S.2.1 dX7_begin_233 rfl (lv_at hl 4 rfl) ?_
          refine cq_i C w [0, 2, 3, 4, 5] [1] [1, 0, 2, 3, 4, 5] (wr := [(mS, .inl (G.2.1 2, 49, .inl fS))]) (w' := fun u : Nat × (Nat → Int32) × (Nat → Int64) => [(mO, .inr (7, [.ref mS, .ref mD, .ref mR, .ref mT, .int mt, .int ma, .int mn, .ref mW, .ref mQ, .ref mC, .int (nI u.1), .ref mU, .ref mV, .int 0, .int mf, .int mg])), (mQ, .inl (G.2.1 2, 200, .inl u.2.1)), (mC, .inl (G.2.1 3, 200, .inr (.inl u.2.2))), (mU, .inl (G.2.1 2, 200, .inl x189.2.2.1)), (mV, .inl (G.2.1 3, 200, .inr (.inl x189.2.2.2)))]) (ws2 := fun u : Nat × (Nat → Int32) × (Nat → Int64) => [(mO, .inr (7, [.ref mS, .ref mD, .ref mR, .ref mT, .int mt, .int ma, .int mn, .ref mW, .ref mQ, .ref mC, .int (nI u.1), .ref mU, .ref mV, .int 0, .int mf, .int mg])), (mS, .inl (G.2.1 2, 49, .inl fS)), (mQ, .inl (G.2.1 2, 200, .inl u.2.1)), (mC, .inl (G.2.1 3, 200, .inr (.inl u.2.2))), (mU, .inl (G.2.1 2, 200, .inl x189.2.2.1)), (mV, .inl (G.2.1 3, 200, .inr (.inl x189.2.2.2)))]) rfl rfl rfl (by decide) rfl (fun _ => rfl) (va_runV (As := []) (rest := []) S (k_X7_becomes l G mO mQ mC mU mV _ mS mD mR mT mW mt ma mn my mf mg x189.2.1 fQ x189.2.2.1 lC x189.2.2.2 (PK0 fS oN pN qN) (by omega) (hfin)) (cwV 0 S.2.2.2.2 gX7_begin_X7_becomes rfl rfl rfl (by decide +kernel) ⟨Nat.le_of_ble_eq_true rfl, Nat.le_of_ble_eq_true rfl⟩) ⟨wPre_blind, va_recv C.1 w.1 (ci := 7) (q0 := 0) rfl rfl, wPre_at C w [0, 2, 3, 4, 5] rfl rfl⟩ rfl rfl hl.1 rfl (lv_room (Nat.le_of_ble_eq_true rfl)) dX7_begin_234 ⟨Nat.le_of_ble_eq_true rfl, Nat.le_of_ble_eq_true rfl⟩) (fun r234_1 u234_1 H locs h234_1 w => ?_)
          have w : Wd G _ s [(mO, .inr (7, [.ref mS, .ref mD, .ref mR, .ref mT, .int mt, .int ma, .int mn, .ref mW, .ref mQ, .ref mC, .int (nI u234_1.1), .ref mU, .ref mV, .int 0, .int mf, .int mg])), (mS, .inl (G.2.1 2, 49, .inl fS)), (mQ, .inl (G.2.1 2, 200, .inl u234_1.2.1)), (mC, .inl (G.2.1 3, 200, .inr (.inl u234_1.2.2))), (mU, .inl (G.2.1 2, 200, .inl x189.2.2.1)), (mV, .inl (G.2.1 3, 200, .inr (.inl x189.2.2.2)))] H locs := w
          exact W.zret (v := r234_1) S.1 S.2.1 hr (z01_nar (r01 (h234_1).2.2)) (fun t ht _ => ⟨⟨r234_1, (u234_1.1, u234_1.2.1, u234_1.2.2, x189.2.2.1, x189.2.2.2), rfl, ⟨by have := (h234_1).1; omega, (h234_1).2⟩, by rw [ht]; exact w.1, w.2.1⟩, w.2.2.F ht⟩) w.2.2.2.2 dX7_begin_237
        · have hlt4 : x189.1 < qN := by have h := c192; rw [nI_leI (by omega) (by omega)] at h; omega
          refine lv_aload_n S.1 S.2.1 dX7_begin_200 rfl (lv_at hl 4 rfl) ?_
          refine lv_iconst (v := 1) S.1 S.2.1 dX7_begin_201 (by decide) ?_
          refine lv_iload_n S.1 S.2.1 dX7_begin_202 rfl (lv_at hl 3 rfl) ?_
          refine lv_iload S.1 S.2.1 dX7_begin_203 (lv_at hl 0 rfl) ?_
          refine lv_iadd S.1 S.2.1 dX7_begin_205 ?_
          refine w_topi (y := (nI (pN + x189.1))) (nI_add _ _) ?_
          refine lv_ishl S.1 S.2.1 dX7_begin_206 ?_
          refine w_joinl 224 [.int ((1 : Int32) <<< ((nI (pN + x189.1)) &&& 31)), .ref mO] (fun z224 => z224 = Int64.ofInt (rBc (fS 3) x189.1)) (fun z224 hz224 => ?_) (fun J224 => ?_)
          · refine cq_v C w [0, 4, 5] [1, 2, 3] [3, 0, 1, 2, 4, 5] (wr := [(mS, .inl (G.2.1 2, 49, .inl fS)), (mQ, .inl (G.2.1 2, 200, .inl fQ)), (mC, .inl (G.2.1 3, 200, .inr (.inl lC)))]) (w' := fun u : Nat × (Nat → Int32) × (Nat → Int64) => [(mO, .inr (7, [.ref mS, .ref mD, .ref mR, .ref mT, .int mt, .int ma, .int mn, .ref mW, .ref mQ, .ref mC, .int my, .ref mU, .ref mV, .int (nI u.1), .int mf, .int mg])), (mU, .inl (G.2.1 2, 200, .inl u.2.1)), (mV, .inl (G.2.1 3, 200, .inr (.inl u.2.2)))]) (ws2 := fun u : Nat × (Nat → Int32) × (Nat → Int64) => [(mO, .inr (7, [.ref mS, .ref mD, .ref mR, .ref mT, .int mt, .int ma, .int mn, .ref mW, .ref mQ, .ref mC, .int my, .ref mU, .ref mV, .int (nI u.1), .int mf, .int mg])), (mS, .inl (G.2.1 2, 49, .inl fS)), (mQ, .inl (G.2.1 2, 200, .inl fQ)), (mC, .inl (G.2.1 3, 200, .inr (.inl lC))), (mU, .inl (G.2.1 2, 200, .inl u.2.1)), (mV, .inl (G.2.1 3, 200, .inr (.inl u.2.2)))]) rfl rfl rfl (by decide) rfl (fun _ => rfl) (va_runV (As := [.int ((1 : Int32) <<< ((nI (pN + x189.1)) &&& 31)), .long z224]) (rest := []) S (k_X7_adds l G mO mU mV _ mS mD mR mT mW mQ mC mt ma mn my mf mg x189.2.1 x189.2.2.1 x189.2.2.2 ((1 : Int32) <<< ((nI (pN + x189.1)) &&& 31)) z224 (rB (fS 3) pN (rA (fS 3) pN (rM (fS 3) pN qN) (oPo fS oN) pN) x189.1) (rBc (fS 3) x189.1) (by omega) (hI189.2.2.1) (hz224)) (cwV 2 S.2.2.2.2 gX7_begin_X7_adds rfl rfl rfl (by decide +kernel) ⟨Nat.le_of_ble_eq_true rfl, Nat.le_of_ble_eq_true rfl⟩) ⟨wPre_blind, va_recv C.1 w.1 (ci := 7) (q0 := 0) rfl rfl, wPre_at C w [0, 4, 5] rfl rfl⟩ rfl rfl hl.1 rfl (lv_room (Nat.le_of_ble_eq_true rfl)) dX7_begin_224 ⟨Nat.le_of_ble_eq_true rfl, Nat.le_of_ble_eq_true rfl⟩) (fun u224 H locs h224 w => ?_)
            have w : Wd G _ s [(mO, .inr (7, [.ref mS, .ref mD, .ref mR, .ref mT, .int mt, .int ma, .int mn, .ref mW, .ref mQ, .ref mC, .int my, .ref mU, .ref mV, .int (nI u224.1), .int mf, .int mg])), (mS, .inl (G.2.1 2, 49, .inl fS)), (mQ, .inl (G.2.1 2, 200, .inl fQ)), (mC, .inl (G.2.1 3, 200, .inr (.inl lC))), (mU, .inl (G.2.1 2, 200, .inl u224.2.1)), (mV, .inl (G.2.1 3, 200, .inr (.inl u224.2.2)))] H locs := w
            refine lv_iinc (v := (nI (x189.1 + 1))) (lv' := [(4, .int (nI (x189.1 + 1))), (3, .int (fS 3)), (2, .int (nI qN)), (1, .int (nI pN)), (0, .ref mO)]) S.1 S.2.1 dX7_begin_227 hl (k := 0) rfl (nI_1 _) (by decide) rfl (fun ls hl => ?_)
            refine lv_goto (tgt := 189) S.1 S.2.1 dX7_begin_230 (by decide) ?_
            have hlt_mm9 : x189.1 < qN := by have h := c192; rw [nI_leI (by omega) (by omega)] at h; omega
            exact ih189 (x189.1 + 1, u224.1, u224.2.1, u224.2.2) ls _ _ (⟨hlt_mm9, (by have := (h224).2.1; dsimp only; omega), (h224).2.2, fun q => absurd q c197⟩) (by dsimp only; omega) w (lv_sub hl [0, 1, 2, 3, 4] rfl)
          · refine lv_iload_n S.1 S.2.1 dX7_begin_207 rfl (lv_at hl 1 rfl) ?_
            refine lv_iconst (v := 3) S.1 S.2.1 dX7_begin_208 (by decide) ?_
            refine lv_icmp_ne (tgt := 219) S.1 S.2.1 dX7_begin_209 (by decide) (fun c209 => ?_) (fun c209 => ?_)
            · refine lv_lconst (v := 1) S.1 S.2.1 dX7_begin_219 (by decide) ?_
              refine lv_iload S.1 S.2.1 dX7_begin_220 (lv_at hl 0 rfl) ?_
              refine lv_lshl (v := ((1 : Int64) <<< ((nI x189.1).toInt64 &&& 63))) S.1 S.2.1 dX7_begin_222 rfl ?_
              refine lv_lneg S.1 S.2.1 dX7_begin_223 ?_
              exact J224 (-((1 : Int64) <<< ((nI x189.1).toInt64 &&& 63))) (by unfold rBc; first | (rw [if_pos c209]; exact lsh_of _ (by omega)) | (rw [if_neg c209]; exact nlsh_of (by omega)))
            · refine lv_lconst (v := 1) S.1 S.2.1 dX7_begin_212 (by decide) ?_
              refine lv_iload S.1 S.2.1 dX7_begin_213 (lv_at hl 0 rfl) ?_
              refine lv_lshl (v := ((1 : Int64) <<< ((nI x189.1).toInt64 &&& 63))) S.1 S.2.1 dX7_begin_215 rfl ?_
              refine lv_goto (tgt := 224) S.1 S.2.1 dX7_begin_216 (by decide) ?_
              exact J224 ((1 : Int64) <<< ((nI x189.1).toInt64 &&& 63)) (by unfold rBc; first | (rw [if_pos c209]; exact lsh_of _ (by omega)) | (rw [if_neg c209]; exact nlsh_of (by omega)))
    · refine lv_iconst (v := 0) S.1 S.2.1 dX7_begin_71 (by decide) ?_
      refine lv_istore (lv' := [(5, .int 0), (4, .int (nI x65.1)), (3, .int (fS 3)), (2, .int (nI qN)), (1, .int (nI pN)), (0, .ref mO)]) S.1 S.2.1 dX7_begin_72 hl (by decide) rfl (fun ls hl => ?_)
      refine w_loop (G := G) (σ := Nat × Nat × (Nat → Int32) × (Nat → Int64)) (nL := 7) 74 (fun x74 => (rM (fS 3) pN qN) - x74.1) (fun x74 => x74.1 ≤ (rM (fS 3) pN qN) ∧ x74.2.1 ≤ 7 + 6 * x65.1 + x74.1 ∧ RU x74.2.1 x74.2.2.1 x74.2.2.2 (rN (fS 3) pN x65.1 (rA (fS 3) pN (rM (fS 3) pN qN) (oPo fS oN) x65.1) x74.1)) (fun x74 => [(mO, .inr (7, [.ref mS, .ref mD, .ref mR, .ref mT, .int mt, .int ma, .int mn, .ref mW, .ref mQ, .ref mC, .int my, .ref mU, .ref mV, .int (nI x74.2.1), .int mf, .int mg])), (mS, .inl (G.2.1 2, 49, .inl fS)), (mQ, .inl (G.2.1 2, 200, .inl fQ)), (mC, .inl (G.2.1 3, 200, .inr (.inl lC))), (mU, .inl (G.2.1 2, 200, .inl x74.2.2.1)), (mV, .inl (G.2.1 3, 200, .inr (.inl x74.2.2.2)))]) (fun x74 => [(5, .int (nI x74.1)), (4, .int (nI x65.1)), (3, .int (fS 3)), (2, .int (nI qN)), (1, .int (nI pN)), (0, .ref mO)]) (fun _ => []) ?_ (0, x65.2.1, x65.2.2.1, x65.2.2.2) ls _ _ (⟨Nat.zero_le _, (by dsimp only; omega), hI65.2.2⟩) w (lv_sub hl [0, 1, 2, 3, 4, 5] rfl)
      intro x74 ls H locs hI74 w hl ih74
      have w : Wd G _ s [(mO, .inr (7, [.ref mS, .ref mD, .ref mR, .ref mT, .int mt, .int ma, .int mn, .ref mW, .ref mQ, .ref mC, .int my, .ref mU, .ref mV, .int (nI x74.2.1), .int mf, .int mg])), (mS, .inl (G.2.1 2, 49, .inl fS)), (mQ, .inl (G.2.1 2, 200, .inl fQ)), (mC, .inl (G.2.1 3, 200, .inr (.inl lC))), (mU, .inl (G.2.1 2, 200, .inl x74.2.2.1)), (mV, .inl (G.2.1 3, 200, .inr (.inl x74.2.2.2)))] H locs := w
      have hl : lv_has ls 7 [(5, .int (nI x74.1)), (4, .int (nI x65.1)), (3, .int (fS 3)), (2, .int (nI qN)), (1, .int (nI pN)), (0, .ref mO)] := hl
      have hL1 := hI74.1
      have hL2 := hI74.2.1
      refine lv_iload S.1 S.2.1 dX7_begin_74 (lv_at hl 0 rfl) ?_
      refine w_joini 95 [.int (nI x74.1)] (fun z95 => z95 = nI (rM (fS 3) pN qN)) (fun z95 hz95 => ?_) (fun J95 => ?_)
      · refine w_topi (y := (nI (rM (fS 3) pN qN))) (hz95) ?_
        refine lv_icmp_ge (tgt := 180) S.1 S.2.1 dX7_begin_95 (by decide) (fun c95 => ?_) (fun c95 => ?_)
        · refine lv_iinc (v := (nI (x65.1 + 1))) (lv' := [(4, .int (nI (x65.1 + 1))), (5, .int (nI x74.1)), (3, .int (fS 3)), (2, .int (nI qN)), (1, .int (nI pN)), (0, .ref mO)]) S.1 S.2.1 dX7_begin_180 hl (k := 1) rfl (nI_1 _) (by decide) rfl (fun ls hl => ?_)
          refine lv_goto (tgt := 65) S.1 S.2.1 dX7_begin_183 (by decide) ?_
          have hlt_kk : x65.1 < pN := by have h := c68; rw [nI_leI (by omega) (by omega)] at h; omega
          have hle : x74.1 = (rM (fS 3) pN qN) := by have h := c95; rw [nI_leI (by omega) (by omega)] at h; omega
          exact ih65 (x65.1 + 1, x74.2.1, x74.2.2.1, x74.2.2.2) ls _ _ (⟨hlt_kk, (by have := hI74.2.1; dsimp only; omega), (by have h := hI74.2.2; rw [hle] at h; exact h)⟩) (by dsimp only; omega) w (lv_sub hl [0, 2, 3, 4, 5] rfl)
        · refine w_joini 125 [] (fun z125 => z125 = (if (fS 3) = 1 then bitI (pN + x74.1) else if (fS 3) = 2 then bitI x74.1 else 0)) (fun z125 hz125 => ?_) (fun J125 => ?_)
          · refine w_topi (y := (if (fS 3) = 1 then bitI (pN + x74.1) else if (fS 3) = 2 then bitI x74.1 else 0)) (hz125) ?_
            refine lv_istore (lv' := [(6, .int (if (fS 3) = 1 then bitI (pN + x74.1) else if (fS 3) = 2 then bitI x74.1 else 0)), (5, .int (nI x74.1)), (4, .int (nI x65.1)), (3, .int (fS 3)), (2, .int (nI qN)), (1, .int (nI pN)), (0, .ref mO)]) S.1 S.2.1 dX7_begin_125 hl (by decide) rfl (fun ls hl => ?_)
            refine lv_aload_n S.1 S.2.1 dX7_begin_127 rfl (lv_at hl 6 rfl) ?_
            refine lv_iconst (v := 1) S.1 S.2.1 dX7_begin_128 (by decide) ?_
            refine lv_iload S.1 S.2.1 dX7_begin_129 (lv_at hl 2 rfl) ?_
            refine lv_ishl S.1 S.2.1 dX7_begin_131 ?_
            refine lv_iload S.1 S.2.1 dX7_begin_132 (lv_at hl 0 rfl) ?_
            refine lv_ior S.1 S.2.1 dX7_begin_134 ?_
            refine w_joinl 171 [.int (((1 : Int32) <<< ((nI x65.1) &&& 31)) ||| (if (fS 3) = 1 then bitI (pN + x74.1) else if (fS 3) = 2 then bitI x74.1 else 0)), .ref mO] (fun z171 => z171 = Int64.ofInt (rCf (fS 3) x65.1 x74.1)) (fun z171 hz171 => ?_) (fun J171 => ?_)
            · refine cq_v C w [0, 4, 5] [1, 2, 3] [3, 0, 1, 2, 4, 5] (wr := [(mS, .inl (G.2.1 2, 49, .inl fS)), (mQ, .inl (G.2.1 2, 200, .inl fQ)), (mC, .inl (G.2.1 3, 200, .inr (.inl lC)))]) (w' := fun u : Nat × (Nat → Int32) × (Nat → Int64) => [(mO, .inr (7, [.ref mS, .ref mD, .ref mR, .ref mT, .int mt, .int ma, .int mn, .ref mW, .ref mQ, .ref mC, .int my, .ref mU, .ref mV, .int (nI u.1), .int mf, .int mg])), (mU, .inl (G.2.1 2, 200, .inl u.2.1)), (mV, .inl (G.2.1 3, 200, .inr (.inl u.2.2)))]) (ws2 := fun u : Nat × (Nat → Int32) × (Nat → Int64) => [(mO, .inr (7, [.ref mS, .ref mD, .ref mR, .ref mT, .int mt, .int ma, .int mn, .ref mW, .ref mQ, .ref mC, .int my, .ref mU, .ref mV, .int (nI u.1), .int mf, .int mg])), (mS, .inl (G.2.1 2, 49, .inl fS)), (mQ, .inl (G.2.1 2, 200, .inl fQ)), (mC, .inl (G.2.1 3, 200, .inr (.inl lC))), (mU, .inl (G.2.1 2, 200, .inl u.2.1)), (mV, .inl (G.2.1 3, 200, .inr (.inl u.2.2)))]) rfl rfl rfl (by decide) rfl (fun _ => rfl) (va_runV (As := [.int (((1 : Int32) <<< ((nI x65.1) &&& 31)) ||| (if (fS 3) = 1 then bitI (pN + x74.1) else if (fS 3) = 2 then bitI x74.1 else 0)), .long z171]) (rest := []) S (k_X7_adds l G mO mU mV _ mS mD mR mT mW mQ mC mt ma mn my mf mg x74.2.1 x74.2.2.1 x74.2.2.2 (((1 : Int32) <<< ((nI x65.1) &&& 31)) ||| (if (fS 3) = 1 then bitI (pN + x74.1) else if (fS 3) = 2 then bitI x74.1 else 0)) z171 (rN (fS 3) pN x65.1 (rA (fS 3) pN (rM (fS 3) pN qN) (oPo fS oN) x65.1) x74.1) (rCf (fS 3) x65.1 x74.1) (by omega) (hI74.2.2) (hz171)) (cwV 2 S.2.2.2.2 gX7_begin_X7_adds rfl rfl rfl (by decide +kernel) ⟨Nat.le_of_ble_eq_true rfl, Nat.le_of_ble_eq_true rfl⟩) ⟨wPre_blind, va_recv C.1 w.1 (ci := 7) (q0 := 0) rfl rfl, wPre_at C w [0, 4, 5] rfl rfl⟩ rfl rfl hl.1 rfl (lv_room (Nat.le_of_ble_eq_true rfl)) dX7_begin_171 ⟨Nat.le_of_ble_eq_true rfl, Nat.le_of_ble_eq_true rfl⟩) (fun u171 H locs h171 w => ?_)
              have w : Wd G _ s [(mO, .inr (7, [.ref mS, .ref mD, .ref mR, .ref mT, .int mt, .int ma, .int mn, .ref mW, .ref mQ, .ref mC, .int my, .ref mU, .ref mV, .int (nI u171.1), .int mf, .int mg])), (mS, .inl (G.2.1 2, 49, .inl fS)), (mQ, .inl (G.2.1 2, 200, .inl fQ)), (mC, .inl (G.2.1 3, 200, .inr (.inl lC))), (mU, .inl (G.2.1 2, 200, .inl u171.2.1)), (mV, .inl (G.2.1 3, 200, .inr (.inl u171.2.2)))] H locs := w
              refine lv_iinc (v := (nI (x74.1 + 1))) (lv' := [(5, .int (nI (x74.1 + 1))), (6, .int (if (fS 3) = 1 then bitI (pN + x74.1) else if (fS 3) = 2 then bitI x74.1 else 0)), (4, .int (nI x65.1)), (3, .int (fS 3)), (2, .int (nI qN)), (1, .int (nI pN)), (0, .ref mO)]) S.1 S.2.1 dX7_begin_174 hl (k := 1) rfl (nI_1 _) (by decide) rfl (fun ls hl => ?_)
              refine lv_goto (tgt := 74) S.1 S.2.1 dX7_begin_177 (by decide) ?_
              have hlt_ll : x74.1 < (rM (fS 3) pN qN) := by have h := c95; rw [nI_leI (by omega) (by omega)] at h; omega
              exact ih74 (x74.1 + 1, u171.1, u171.2.1, u171.2.2) ls _ _ (⟨hlt_ll, (by have := (h171).2.1; dsimp only; omega), (h171).2.2⟩) (by dsimp only; omega) w (lv_sub hl [0, 2, 3, 4, 5, 6] rfl)
            · refine lv_iload_n S.1 S.2.1 dX7_begin_135 rfl (lv_at hl 3 rfl) ?_
              refine lv_if_ne (tgt := 147) S.1 S.2.1 dX7_begin_136 (by decide) (fun c136 => ?_) (fun c136 => ?_)
              · refine lv_iload_n S.1 S.2.1 dX7_begin_147 rfl (lv_at hl 3 rfl) ?_
                refine lv_iconst (v := 3) S.1 S.2.1 dX7_begin_148 (by decide) ?_
                refine lv_icmp_ge (tgt := 163) S.1 S.2.1 dX7_begin_149 (by decide) (fun c149 => ?_) (fun c149 => ?_)
                · refine lv_ldc2 (own := RX7) (v := (-3)) S.1 S.2.1 S.2.2.2.1 (S.2.2.2.2 _ (List.mem_of_getElem? (i := 3) rfl)) dX7_begin_163 ?_
                  refine lv_lconst (v := 1) S.1 S.2.1 dX7_begin_166 (by decide) ?_
                  refine lv_iload S.1 S.2.1 dX7_begin_167 (lv_at hl 2 rfl) ?_
                  refine lv_lshl (v := ((1 : Int64) <<< ((nI x65.1).toInt64 &&& 63))) S.1 S.2.1 dX7_begin_169 rfl ?_
                  refine lv_lmul S.1 S.2.1 dX7_begin_170 ?_
                  exact J171 ((-3) * ((1 : Int64) <<< ((nI x65.1).toInt64 &&& 63))) (by unfold rCf; first | (rw [if_pos c136]; exact nlsh_of (by omega)) | (rw [if_neg c136, if_pos (Int32.not_le.mp c149)]; exact nlsh_of (by omega)) | (rw [if_neg c136, if_neg (Int32.not_lt.mpr c149)]; exact m3lsh_of (by omega)))
                · refine lv_lconst (v := 1) S.1 S.2.1 dX7_begin_152 (by decide) ?_
                  refine lv_iload S.1 S.2.1 dX7_begin_153 (lv_at hl 2 rfl) ?_
                  refine lv_iload S.1 S.2.1 dX7_begin_155 (lv_at hl 1 rfl) ?_
                  refine lv_iadd S.1 S.2.1 dX7_begin_157 ?_
                  refine w_topi (y := (nI (x65.1 + x74.1))) (nI_add _ _) ?_
                  refine lv_lshl (v := ((1 : Int64) <<< ((nI (x65.1 + x74.1)).toInt64 &&& 63))) S.1 S.2.1 dX7_begin_158 rfl ?_
                  refine lv_lneg S.1 S.2.1 dX7_begin_159 ?_
                  refine lv_goto (tgt := 171) S.1 S.2.1 dX7_begin_160 (by decide) ?_
                  exact J171 (-((1 : Int64) <<< ((nI (x65.1 + x74.1)).toInt64 &&& 63))) (by unfold rCf; first | (rw [if_pos c136]; exact nlsh_of (by omega)) | (rw [if_neg c136, if_pos (Int32.not_le.mp c149)]; exact nlsh_of (by omega)) | (rw [if_neg c136, if_neg (Int32.not_lt.mpr c149)]; exact m3lsh_of (by omega)))
              · refine lv_lconst (v := 1) S.1 S.2.1 dX7_begin_139 (by decide) ?_
                refine lv_iload S.1 S.2.1 dX7_begin_140 (lv_at hl 2 rfl) ?_
                refine lv_lshl (v := ((1 : Int64) <<< ((nI x65.1).toInt64 &&& 63))) S.1 S.2.1 dX7_begin_142 rfl ?_
                refine lv_lneg S.1 S.2.1 dX7_begin_143 ?_
                refine lv_goto (tgt := 171) S.1 S.2.1 dX7_begin_144 (by decide) ?_
                exact J171 (-((1 : Int64) <<< ((nI x65.1).toInt64 &&& 63))) (by unfold rCf; first | (rw [if_pos c136]; exact nlsh_of (by omega)) | (rw [if_neg c136, if_pos (Int32.not_le.mp @c149)]; exact nlsh_of (by omega)) | (rw [if_neg c136, if_neg (Int32.not_lt.mpr @c149)]; exact m3lsh_of (by omega)))
          · have hlt2 : x74.1 < (rM (fS 3) pN qN) := by have h := c95; rw [nI_leI (by omega) (by omega)] at h; omega
            have hlt3 : x65.1 < pN := by have h := c68; rw [nI_leI (by omega) (by omega)] at h; omega
            refine lv_iload_n S.1 S.2.1 dX7_begin_98 rfl (lv_at hl 2 rfl) ?_
            refine lv_iconst (v := 1) S.1 S.2.1 dX7_begin_99 (by decide) ?_
            refine lv_icmp_ne (tgt := 112) S.1 S.2.1 dX7_begin_100 (by decide) (fun c100 => ?_) (fun c100 => ?_)
            · refine lv_iload_n S.1 S.2.1 dX7_begin_112 rfl (lv_at hl 2 rfl) ?_
              refine lv_iconst (v := 2) S.1 S.2.1 dX7_begin_113 (by decide) ?_
              refine lv_icmp_ne (tgt := 124) S.1 S.2.1 dX7_begin_114 (by decide) (fun c114 => ?_) (fun c114 => ?_)
              · refine lv_iconst (v := 0) S.1 S.2.1 dX7_begin_124 (by decide) ?_
                exact J125 0 (by first | exact (if_pos c100).symm | exact ((if_neg c100).trans (if_pos c114)).symm | exact ((if_neg c100).trans (if_neg c114)).symm)
              · refine lv_iconst (v := 1) S.1 S.2.1 dX7_begin_117 (by decide) ?_
                refine lv_iload S.1 S.2.1 dX7_begin_118 (lv_at hl 0 rfl) ?_
                refine lv_ishl S.1 S.2.1 dX7_begin_120 ?_
                refine lv_goto (tgt := 125) S.1 S.2.1 dX7_begin_121 (by decide) ?_
                exact J125 ((1 : Int32) <<< ((nI x74.1) &&& 31)) (by first | exact (if_pos c100).symm | exact ((if_neg c100).trans (if_pos c114)).symm | exact ((if_neg c100).trans (if_neg c114)).symm)
            · refine lv_iconst (v := 1) S.1 S.2.1 dX7_begin_103 (by decide) ?_
              refine lv_iload_n S.1 S.2.1 dX7_begin_104 rfl (lv_at hl 4 rfl) ?_
              refine lv_iload S.1 S.2.1 dX7_begin_105 (lv_at hl 0 rfl) ?_
              refine lv_iadd S.1 S.2.1 dX7_begin_107 ?_
              refine w_topi (y := (nI (pN + x74.1))) (nI_add _ _) ?_
              refine lv_ishl S.1 S.2.1 dX7_begin_108 ?_
              refine lv_goto (tgt := 125) S.1 S.2.1 dX7_begin_109 (by decide) ?_
              exact J125 ((1 : Int32) <<< ((nI (pN + x74.1)) &&& 31)) (by first | exact (if_pos c100).symm | exact ((if_neg c100).trans (if_pos @c114)).symm | exact ((if_neg c100).trans (if_neg @c114)).symm)
      · refine lv_iload_n S.1 S.2.1 dX7_begin_76 rfl (lv_at hl 2 rfl) ?_
        refine lv_iconst (v := 1) S.1 S.2.1 dX7_begin_77 (by decide) ?_
        refine lv_icmp_ne (tgt := 85) S.1 S.2.1 dX7_begin_78 (by decide) (fun c78 => ?_) (fun c78 => ?_)
        · refine lv_iload_n S.1 S.2.1 dX7_begin_85 rfl (lv_at hl 2 rfl) ?_
          refine lv_iconst (v := 2) S.1 S.2.1 dX7_begin_86 (by decide) ?_
          refine lv_icmp_ne (tgt := 94) S.1 S.2.1 dX7_begin_87 (by decide) (fun c87 => ?_) (fun c87 => ?_)
          · refine lv_iconst (v := 1) S.1 S.2.1 dX7_begin_94 (by decide) ?_
            exact J95 1 (by unfold rM; first | exact congrArg nI (if_pos c78).symm | exact congrArg nI ((if_neg c78).trans (if_pos c87)).symm | exact congrArg nI ((if_neg c78).trans (if_neg c87)).symm)
          · refine lv_iload_n S.1 S.2.1 dX7_begin_90 rfl (lv_at hl 4 rfl) ?_
            refine lv_goto (tgt := 95) S.1 S.2.1 dX7_begin_91 (by decide) ?_
            exact J95 (nI pN) (by unfold rM; first | exact congrArg nI (if_pos c78).symm | exact congrArg nI ((if_neg c78).trans (if_pos c87)).symm | exact congrArg nI ((if_neg c78).trans (if_neg c87)).symm)
        · refine lv_iload_n S.1 S.2.1 dX7_begin_81 rfl (lv_at hl 3 rfl) ?_
          refine lv_goto (tgt := 95) S.1 S.2.1 dX7_begin_82 (by decide) ?_
          exact J95 (nI qN) (by unfold rM; first | exact congrArg nI (if_pos c78).symm | exact congrArg nI ((if_neg c78).trans (if_pos @c87)).symm | exact congrArg nI ((if_neg c78).trans (if_neg @c87)).symm)
  · have hlt1 : x7.1 < oN := by have h := c14; rw [nI_leI (by omega) (by omega)] at h; omega
    refine lv_aload_n S.1 S.2.1 dX7_begin_17 rfl (lv_at hl 1 rfl) ?_
    refine lv_iconst (v := 1) S.1 S.2.1 dX7_begin_18 (by decide) ?_
    refine lv_aload_n S.1 S.2.1 dX7_begin_19 rfl (lv_at hl 1 rfl) ?_
    refine w_get S C w (CC := RX7) (T := TX7) (N := 16) (ref := "GateSumsModel") im_X7_begin_X7 0 rfl rfl 0 (by decide) (List.mem_of_getElem? (i := 2) rfl) (fun _ h => h) rfl dX7_begin_20 ?_
    refine lv_bipush (v := 42) S.1 S.2.1 dX7_begin_23 (by decide) ?_
    refine lv_iload_n S.1 S.2.1 dX7_begin_25 rfl (lv_at hl 0 rfl) ?_
    refine lv_iadd S.1 S.2.1 dX7_begin_26 ?_
    refine w_iald S C w 1 rfl (ixA 42 _ (by have h := c14; rw [nI_leI (by omega) (by omega)] at h; omega)) dX7_begin_27 ?_
    refine w_topi (y := (fS (42 + x7.1))) (congrArg fS (ixc 42 _ (by have h := c14; rw [nI_leI (by omega) (by omega)] at h; omega))) ?_
    refine lv_ishl S.1 S.2.1 dX7_begin_28 ?_
    refine lv_lconst (v := 1) S.1 S.2.1 dX7_begin_29 (by decide) ?_
    refine lv_iload_n S.1 S.2.1 dX7_begin_30 rfl (lv_at hl 0 rfl) ?_
    refine lv_lshl (v := ((1 : Int64) <<< ((nI x7.1).toInt64 &&& 63))) S.1 S.2.1 dX7_begin_31 rfl ?_
    refine cq_v C w [0, 4, 5] [1, 2, 3] [3, 0, 1, 2, 4, 5] (wr := [(mS, .inl (G.2.1 2, 49, .inl fS)), (mQ, .inl (G.2.1 2, 200, .inl fQ)), (mC, .inl (G.2.1 3, 200, .inr (.inl lC)))]) (w' := fun u : Nat × (Nat → Int32) × (Nat → Int64) => [(mO, .inr (7, [.ref mS, .ref mD, .ref mR, .ref mT, .int mt, .int ma, .int mn, .ref mW, .ref mQ, .ref mC, .int my, .ref mU, .ref mV, .int (nI u.1), .int mf, .int mg])), (mU, .inl (G.2.1 2, 200, .inl u.2.1)), (mV, .inl (G.2.1 3, 200, .inr (.inl u.2.2)))]) (ws2 := fun u : Nat × (Nat → Int32) × (Nat → Int64) => [(mO, .inr (7, [.ref mS, .ref mD, .ref mR, .ref mT, .int mt, .int ma, .int mn, .ref mW, .ref mQ, .ref mC, .int my, .ref mU, .ref mV, .int (nI u.1), .int mf, .int mg])), (mS, .inl (G.2.1 2, 49, .inl fS)), (mQ, .inl (G.2.1 2, 200, .inl fQ)), (mC, .inl (G.2.1 3, 200, .inr (.inl lC))), (mU, .inl (G.2.1 2, 200, .inl u.2.1)), (mV, .inl (G.2.1 3, 200, .inr (.inl u.2.2)))]) rfl rfl rfl (by decide) rfl (fun _ => rfl) (va_runV (As := [.int ((1 : Int32) <<< ((fS (42 + x7.1)) &&& 31)), .long ((1 : Int64) <<< ((nI x7.1).toInt64 &&& 63))]) (rest := []) S (k_X7_adds l G mO mU mV _ mS mD mR mT mW mQ mC mt ma mn my mf mg x7.2.1 x7.2.2.1 x7.2.2.2 ((1 : Int32) <<< ((fS (42 + x7.1)) &&& 31)) ((1 : Int64) <<< ((nI x7.1).toInt64 &&& 63)) (oPo fS x7.1) ((2 ^ x7.1 : Nat) : Int) (by omega) (hI7.2.2) (lsh_of _ (by omega))) (cwV 2 S.2.2.2.2 gX7_begin_X7_adds rfl rfl rfl (by decide +kernel) ⟨Nat.le_of_ble_eq_true rfl, Nat.le_of_ble_eq_true rfl⟩) ⟨wPre_blind, va_recv C.1 w.1 (ci := 7) (q0 := 0) rfl rfl, wPre_at C w [0, 4, 5] rfl rfl⟩ rfl rfl hl.1 rfl (lv_room (Nat.le_of_ble_eq_true rfl)) dX7_begin_32 ⟨Nat.le_of_ble_eq_true rfl, Nat.le_of_ble_eq_true rfl⟩) (fun u32 H locs h32 w => ?_)
    have w : Wd G _ s [(mO, .inr (7, [.ref mS, .ref mD, .ref mR, .ref mT, .int mt, .int ma, .int mn, .ref mW, .ref mQ, .ref mC, .int my, .ref mU, .ref mV, .int (nI u32.1), .int mf, .int mg])), (mS, .inl (G.2.1 2, 49, .inl fS)), (mQ, .inl (G.2.1 2, 200, .inl fQ)), (mC, .inl (G.2.1 3, 200, .inr (.inl lC))), (mU, .inl (G.2.1 2, 200, .inl u32.2.1)), (mV, .inl (G.2.1 3, 200, .inr (.inl u32.2.2)))] H locs := w
    refine lv_iinc (v := (nI (x7.1 + 1))) (lv' := [(1, .int (nI (x7.1 + 1))), (0, .ref mO)]) S.1 S.2.1 dX7_begin_35 hl (k := 0) rfl (nI_1 _) (by decide) rfl (fun ls hl => ?_)
    refine lv_goto (tgt := 7) S.1 S.2.1 dX7_begin_38 (by decide) ?_
    have hlt_jj : x7.1 < oN := by have h := c14; rw [nI_leI (by omega) (by omega)] at h; omega
    exact ih7 (x7.1 + 1, u32.1, u32.2.1, u32.2.2) ls _ _ (⟨hlt_jj, (by have := (h32).2.1; dsimp only; omega), (h32).2.2⟩) (by dsimp only; omega) w (lv_sub hl [0, 1] rfl)
set_option maxHeartbeats 4000000 in
set_option maxRecDepth 100000 in
theorem k_X7_puts (l : Launch) (G : GT) (mO mS mU mV : Nat) (sz : Nat) (mD mR mT mW mQ mC : Nat) (mt ma mn my mf mg : Int32) (mM gg : Nat) (fS fU : Nat → Int32) (lV : Nat → Int64) (x0 : Int32) (b0 : Int64) (P : Int32 → Int) (B : Int) (kz : Int32) (hgg : gg < 12) (hm : mM + 4 ≤ 200) (hR : RU mM fU lV P) (hb : b0 = Int64.ofInt B) (hkz : fS (6 + gg) = kz) (hk8 : kz = 0 ∨ kz = 1 ∨ kz = 2 ∨ kz = 3 ∨ kz = 4 ∨ kz = 5 ∨ kz = 6 ∨ kz = 7) : Met l yX7_puts wsX7_puts ({ frames := 1, cells := 0, slots := 0, locals := 24 }) (va_Pc [.ref mO, .int (nI gg), .int x0, .long b0] (wPre G [(mO, .inr (7, [.ref mS, .ref mD, .ref mR, .ref mT, .int mt, .int ma, .int mn, .ref mW, .ref mQ, .ref mC, .int my, .ref mU, .ref mV, .int (nI mM), .int mf, .int mg])), (mS, .inl (G.2.1 2, 49, .inl fS)), (mU, .inl (G.2.1 2, 200, .inl fU)), (mV, .inl (G.2.1 3, 200, .inr (.inl lV)))] sz)) (va_Qv (fun u : Nat × (Nat → Int32) × (Nat → Int64) => mM ≤ u.1 ∧ u.1 ≤ mM + 4 ∧ RU u.1 u.2.1 u.2.2 (rq4 kz (gX fS gg) (if kz = 0 then 0 else (1 : Int32) <<< ((fS (30 + gg)) &&& 31)) x0 B P)) (bW G (va_A [(mO, .inr (7, [.ref mS, .ref mD, .ref mR, .ref mT, .int mt, .int ma, .int mn, .ref mW, .ref mQ, .ref mC, .int my, .ref mU, .ref mV, .int (nI mM), .int mf, .int mg])), (mS, .inl (G.2.1 2, 49, .inl fS)), (mU, .inl (G.2.1 2, 200, .inl fU)), (mV, .inl (G.2.1 3, 200, .inr (.inl lV)))] sz) (fun u : Nat × (Nat → Int32) × (Nat → Int64) => [(mO, .inr (7, [.ref mS, .ref mD, .ref mR, .ref mT, .int mt, .int ma, .int mn, .ref mW, .ref mQ, .ref mC, .int my, .ref mU, .ref mV, .int (nI u.1), .int mf, .int mg])), (mS, .inl (G.2.1 2, 49, .inl fS)), (mU, .inl (G.2.1 2, 200, .inl u.2.1)), (mV, .inl (G.2.1 3, 200, .inr (.inl u.2.2)))])) (va_A [(mO, .inr (7, [.ref mS, .ref mD, .ref mR, .ref mT, .int mt, .int ma, .int mn, .ref mW, .ref mQ, .ref mC, .int my, .ref mU, .ref mV, .int (nI mM), .int mf, .int mg])), (mS, .inl (G.2.1 2, 49, .inl fS)), (mU, .inl (G.2.1 2, 200, .inl fU)), (mV, .inl (G.2.1 3, 200, .inr (.inl lV)))] sz)) 0 0 (va_A [(mO, .inr (7, [.ref mS, .ref mD, .ref mR, .ref mT, .int mt, .int ma, .int mn, .ref mW, .ref mQ, .ref mC, .int my, .ref mU, .ref mV, .int (nI mM), .int mf, .int mg])), (mS, .inl (G.2.1 2, 49, .inl fS)), (mU, .inl (G.2.1 2, 200, .inl fU)), (mV, .inl (G.2.1 3, 200, .inr (.inl lV)))] sz) := by
  refine met_go (cc := cX7_puts) (maxL := 15) (ret := none) (own := RX7) (by decide) rfl rfl (Nat.le_of_ble_eq_true rfl) ?_
  intro p e s m below meth c ls S hr hlocks hname hsz C w hl
  have hl : lv_has ls 15 [(0, .ref mO), (1, .int (nI gg)), (2, .int x0), (3, .long b0)] := hl
  refine lv_iconst (v := 1) S.1 S.2.1 dX7_puts_0 (by decide) ?_
  refine lv_aload_n S.1 S.2.1 dX7_puts_1 rfl (lv_at hl 0 rfl) ?_
  refine w_get S C w (CC := RX7) (T := TX7) (N := 16) (ref := "GateSumsModel") im_X7_puts_X7 0 rfl rfl 0 (by decide) (List.mem_of_getElem? (i := 1) rfl) (fun _ h => h) rfl dX7_puts_2 ?_
  refine lv_bipush (v := 18) S.1 S.2.1 dX7_puts_5 (by decide) ?_
  refine lv_iload_n S.1 S.2.1 dX7_puts_7 rfl (lv_at hl 1 rfl) ?_
  refine lv_iadd S.1 S.2.1 dX7_puts_8 ?_
  refine w_iald S C w 1 rfl (ixA 18 _ (by omega)) dX7_puts_9 ?_
  refine w_topi (y := (fS (18 + gg))) (congrArg fS (ixc 18 _ (by omega))) ?_
  refine lv_ishl S.1 S.2.1 dX7_puts_10 ?_
  refine w_topi (y := (gX fS gg)) (rfl) ?_
  refine lv_istore (lv' := [(5, .int (gX fS gg)), (0, .ref mO), (1, .int (nI gg)), (2, .int x0), (3, .long b0)]) S.1 S.2.1 dX7_puts_11 hl (by decide) rfl (fun ls hl => ?_)
  refine lv_aload_n S.1 S.2.1 dX7_puts_13 rfl (lv_at hl 1 rfl) ?_
  refine w_get S C w (CC := RX7) (T := TX7) (N := 16) (ref := "GateSumsModel") im_X7_puts_X7 0 rfl rfl 0 (by decide) (List.mem_of_getElem? (i := 1) rfl) (fun _ h => h) rfl dX7_puts_14 ?_
  refine lv_bipush (v := 6) S.1 S.2.1 dX7_puts_17 (by decide) ?_
  refine lv_iload_n S.1 S.2.1 dX7_puts_19 rfl (lv_at hl 2 rfl) ?_
  refine lv_iadd S.1 S.2.1 dX7_puts_20 ?_
  refine w_iald S C w 1 rfl (ixA 6 _ (by omega)) dX7_puts_21 ?_
  refine w_topi (y := kz) ((congrArg fS (ixc 6 _ (by omega))).trans hkz) ?_
  refine lv_istore (lv' := [(6, .int kz), (5, .int (gX fS gg)), (0, .ref mO), (1, .int (nI gg)), (2, .int x0), (3, .long b0)]) S.1 S.2.1 dX7_puts_22 hl (by decide) rfl (fun ls hl => ?_)
  rcases hk8 with hcs | hcs | hcs | hcs | hcs | hcs | hcs | hcs
  · subst hcs
    refine lv_iload S.1 S.2.1 dX7_puts_24 (lv_at hl 0 rfl) ?_
    refine lv_if_ne (tgt := 33) S.1 S.2.1 dX7_puts_26 (by decide) (fun c26 => ?_) (fun c26 => ?_)
    · exact absurd c26 (by decide)
    · refine lv_iconst (v := 0) S.1 S.2.1 dX7_puts_29 (by decide) ?_
      refine lv_goto (tgt := 44) S.1 S.2.1 dX7_puts_30 (by decide) ?_
      refine lv_istore (lv' := [(7, .int 0), (6, .int 0), (5, .int (gX fS gg)), (0, .ref mO), (1, .int (nI gg)), (2, .int x0), (3, .long b0)]) S.1 S.2.1 dX7_puts_44 hl (by decide) rfl (fun ls hl => ?_)
      refine lv_iload S.1 S.2.1 dX7_puts_46 (lv_at hl 1 rfl) ?_
      refine lv_if_eq (tgt := 70) S.1 S.2.1 dX7_puts_48 (by decide) (fun c48 => ?_) (fun c48 => ?_)
      · refine lv_iconst (v := 1) S.1 S.2.1 dX7_puts_70 (by decide) ?_
        refine lv_goto (tgt := 75) S.1 S.2.1 dX7_puts_71 (by decide) ?_
        refine lv_istore (lv' := [(8, .int 1), (7, .int 0), (6, .int 0), (5, .int (gX fS gg)), (0, .ref mO), (1, .int (nI gg)), (2, .int x0), (3, .long b0)]) S.1 S.2.1 dX7_puts_75 hl (by decide) rfl (fun ls hl => ?_)
        refine lv_iload S.1 S.2.1 dX7_puts_77 (lv_at hl 2 rfl) ?_
        refine lv_iconst (v := 1) S.1 S.2.1 dX7_puts_79 (by decide) ?_
        refine lv_icmp_eq (tgt := 93) S.1 S.2.1 dX7_puts_80 (by decide) (fun c80 => ?_) (fun c80 => ?_)
        · exact absurd c80 (by decide)
        · refine lv_iload S.1 S.2.1 dX7_puts_83 (lv_at hl 2 rfl) ?_
          refine lv_iconst (v := 4) S.1 S.2.1 dX7_puts_85 (by decide) ?_
          refine lv_icmp_eq (tgt := 93) S.1 S.2.1 dX7_puts_86 (by decide) (fun c86 => ?_) (fun c86 => ?_)
          · exact absurd c86 (by decide)
          · refine lv_iconst (v := 1) S.1 S.2.1 dX7_puts_89 (by decide) ?_
            refine lv_goto (tgt := 94) S.1 S.2.1 dX7_puts_90 (by decide) ?_
            refine lv_istore (lv' := [(9, .int 1), (8, .int 1), (7, .int 0), (6, .int 0), (5, .int (gX fS gg)), (0, .ref mO), (1, .int (nI gg)), (2, .int x0), (3, .long b0)]) S.1 S.2.1 dX7_puts_94 hl (by decide) rfl (fun ls hl => ?_)
            refine lv_iload S.1 S.2.1 dX7_puts_96 (lv_at hl 3 rfl) ?_
            refine lv_iconst (v := 2) S.1 S.2.1 dX7_puts_98 (by decide) ?_
            refine lv_icmp_eq (tgt := 121) S.1 S.2.1 dX7_puts_99 (by decide) (fun c99 => ?_) (fun c99 => ?_)
            · exact absurd c99 (by decide)
            · refine lv_iload S.1 S.2.1 dX7_puts_102 (lv_at hl 3 rfl) ?_
              refine lv_iconst (v := 3) S.1 S.2.1 dX7_puts_104 (by decide) ?_
              refine lv_icmp_eq (tgt := 121) S.1 S.2.1 dX7_puts_105 (by decide) (fun c105 => ?_) (fun c105 => ?_)
              · exact absurd c105 (by decide)
              · refine lv_iload S.1 S.2.1 dX7_puts_108 (lv_at hl 3 rfl) ?_
                refine lv_iconst (v := 5) S.1 S.2.1 dX7_puts_110 (by decide) ?_
                refine lv_icmp_eq (tgt := 121) S.1 S.2.1 dX7_puts_111 (by decide) (fun c111 => ?_) (fun c111 => ?_)
                · exact absurd c111 (by decide)
                · refine lv_iload S.1 S.2.1 dX7_puts_114 (lv_at hl 3 rfl) ?_
                  refine lv_bipush (v := 6) S.1 S.2.1 dX7_puts_116 (by decide) ?_
                  refine lv_icmp_ne (tgt := 125) S.1 S.2.1 dX7_puts_118 (by decide) (fun c118 => ?_) (fun c118 => ?_)
                  · refine lv_iconst (v := 0) S.1 S.2.1 dX7_puts_125 (by decide) ?_
                    refine lv_istore (lv' := [(10, .int 0), (9, .int 1), (8, .int 1), (7, .int 0), (6, .int 0), (5, .int (gX fS gg)), (0, .ref mO), (1, .int (nI gg)), (2, .int x0), (3, .long b0)]) S.1 S.2.1 dX7_puts_126 hl (by decide) rfl (fun ls hl => ?_)
                    refine lv_iload S.1 S.2.1 dX7_puts_128 (lv_at hl 2 rfl) ?_
                    refine lv_if_eq (tgt := 139) S.1 S.2.1 dX7_puts_130 (by decide) (fun c130 => ?_) (fun c130 => ?_)
                    · exact absurd c130 (by decide)
                    · refine lv_aload_n S.1 S.2.1 dX7_puts_133 rfl (lv_at hl 6 rfl) ?_
                      refine lv_iload_n S.1 S.2.1 dX7_puts_134 rfl (lv_at hl 8 rfl) ?_
                      refine lv_lload_n S.1 S.2.1 dX7_puts_135 rfl (lv_at hl 9 rfl) ?_
                      refine cq_v C w [0, 2, 3] [1] [1, 0, 2, 3] (wr := [(mS, .inl (G.2.1 2, 49, .inl fS))]) (w' := fun u : Nat × (Nat → Int32) × (Nat → Int64) => [(mO, .inr (7, [.ref mS, .ref mD, .ref mR, .ref mT, .int mt, .int ma, .int mn, .ref mW, .ref mQ, .ref mC, .int my, .ref mU, .ref mV, .int (nI u.1), .int mf, .int mg])), (mU, .inl (G.2.1 2, 200, .inl u.2.1)), (mV, .inl (G.2.1 3, 200, .inr (.inl u.2.2)))]) (ws2 := fun u : Nat × (Nat → Int32) × (Nat → Int64) => [(mO, .inr (7, [.ref mS, .ref mD, .ref mR, .ref mT, .int mt, .int ma, .int mn, .ref mW, .ref mQ, .ref mC, .int my, .ref mU, .ref mV, .int (nI u.1), .int mf, .int mg])), (mS, .inl (G.2.1 2, 49, .inl fS)), (mU, .inl (G.2.1 2, 200, .inl u.2.1)), (mV, .inl (G.2.1 3, 200, .inr (.inl u.2.2)))]) rfl rfl rfl (by decide) rfl (fun _ => rfl) (va_runV (As := [.int x0, .long b0]) (rest := []) S (k_X7_adds l G mO mU mV _ mS mD mR mT mW mQ mC mt ma mn my mf mg mM fU lV x0 b0 P B (by  omega) (hR) (hb)) (cwV 2 S.2.2.2.2 gX7_puts_X7_adds rfl rfl rfl (by decide +kernel) ⟨Nat.le_of_ble_eq_true rfl, Nat.le_of_ble_eq_true rfl⟩) ⟨wPre_blind, va_recv C.1 w.1 (ci := 7) (q0 := 0) rfl rfl, wPre_at C w [0, 2, 3] rfl rfl⟩ rfl rfl hl.1 rfl (lv_room (Nat.le_of_ble_eq_true rfl)) dX7_puts_136 ⟨Nat.le_of_ble_eq_true rfl, Nat.le_of_ble_eq_true rfl⟩) (fun u136 H locs h136 w => ?_)
                      have w : Wd G _ s [(mO, .inr (7, [.ref mS, .ref mD, .ref mR, .ref mT, .int mt, .int ma, .int mn, .ref mW, .ref mQ, .ref mC, .int my, .ref mU, .ref mV, .int (nI u136.1), .int mf, .int mg])), (mS, .inl (G.2.1 2, 49, .inl fS)), (mU, .inl (G.2.1 2, 200, .inl u136.2.1)), (mV, .inl (G.2.1 3, 200, .inr (.inl u136.2.2)))] H locs := w
                      refine lv_iload S.1 S.2.1 dX7_puts_139 (lv_at hl 2 rfl) ?_
                      refine lv_if_eq (tgt := 149) S.1 S.2.1 dX7_puts_141 (by decide) (fun c141 => ?_) (fun c141 => ?_)
                      · exact absurd c141 (by decide)
                      · refine lv_lload_n S.1 S.2.1 dX7_puts_144 rfl (lv_at hl 9 rfl) ?_
                        refine lv_lneg S.1 S.2.1 dX7_puts_145 ?_
                        refine lv_goto (tgt := 150) S.1 S.2.1 dX7_puts_146 (by decide) ?_
                        refine lv_lstore (lv' := [(11, .long (-b0)), (10, .int 0), (9, .int 1), (8, .int 1), (7, .int 0), (6, .int 0), (5, .int (gX fS gg)), (0, .ref mO), (1, .int (nI gg)), (2, .int x0), (3, .long b0)]) S.1 S.2.1 dX7_puts_150 hl (by decide) rfl (fun ls hl => ?_)
                        refine lv_iload S.1 S.2.1 dX7_puts_152 (lv_at hl 2 rfl) ?_
                        refine lv_if_eq (tgt := 167) S.1 S.2.1 dX7_puts_154 (by decide) (fun c154 => ?_) (fun c154 => ?_)
                        · exact absurd c154 (by decide)
                        · refine lv_aload_n S.1 S.2.1 dX7_puts_157 rfl (lv_at hl 7 rfl) ?_
                          refine lv_iload_n S.1 S.2.1 dX7_puts_158 rfl (lv_at hl 9 rfl) ?_
                          refine lv_iload S.1 S.2.1 dX7_puts_159 (lv_at hl 6 rfl) ?_
                          refine lv_ior S.1 S.2.1 dX7_puts_161 ?_
                          refine lv_lload S.1 S.2.1 dX7_puts_162 (lv_at hl 0 rfl) ?_
                          refine cq_v C w [0, 2, 3] [1] [1, 0, 2, 3] (wr := [(mS, .inl (G.2.1 2, 49, .inl fS))]) (w' := fun u : Nat × (Nat → Int32) × (Nat → Int64) => [(mO, .inr (7, [.ref mS, .ref mD, .ref mR, .ref mT, .int mt, .int ma, .int mn, .ref mW, .ref mQ, .ref mC, .int my, .ref mU, .ref mV, .int (nI u.1), .int mf, .int mg])), (mU, .inl (G.2.1 2, 200, .inl u.2.1)), (mV, .inl (G.2.1 3, 200, .inr (.inl u.2.2)))]) (ws2 := fun u : Nat × (Nat → Int32) × (Nat → Int64) => [(mO, .inr (7, [.ref mS, .ref mD, .ref mR, .ref mT, .int mt, .int ma, .int mn, .ref mW, .ref mQ, .ref mC, .int my, .ref mU, .ref mV, .int (nI u.1), .int mf, .int mg])), (mS, .inl (G.2.1 2, 49, .inl fS)), (mU, .inl (G.2.1 2, 200, .inl u.2.1)), (mV, .inl (G.2.1 3, 200, .inr (.inl u.2.2)))]) rfl rfl rfl (by decide) rfl (fun _ => rfl) (va_runV (As := [.int (x0 ||| (gX fS gg)), .long (-b0)]) (rest := []) S (k_X7_adds l G mO mU mV _ mS mD mR mT mW mQ mC mt ma mn my mf mg u136.1 u136.2.1 u136.2.2 (x0 ||| (gX fS gg)) (-b0) (pAdd P x0 B) (-B) (by have := (h136).2.1; omega) (h136.2.2) (by rw [hb]; simp only [Int64.ofInt_mul, Int64.ofInt_neg]; first | done | rfl)) (cwV 2 S.2.2.2.2 gX7_puts_X7_adds rfl rfl rfl (by decide +kernel) ⟨Nat.le_of_ble_eq_true rfl, Nat.le_of_ble_eq_true rfl⟩) ⟨wPre_blind, va_recv C.1 w.1 (ci := 7) (q0 := 0) rfl rfl, wPre_at C w [0, 2, 3] rfl rfl⟩ rfl rfl hl.1 rfl (lv_room (Nat.le_of_ble_eq_true rfl)) dX7_puts_164 ⟨Nat.le_of_ble_eq_true rfl, Nat.le_of_ble_eq_true rfl⟩) (fun u164 H locs h164 w => ?_)
                          have w : Wd G _ s [(mO, .inr (7, [.ref mS, .ref mD, .ref mR, .ref mT, .int mt, .int ma, .int mn, .ref mW, .ref mQ, .ref mC, .int my, .ref mU, .ref mV, .int (nI u164.1), .int mf, .int mg])), (mS, .inl (G.2.1 2, 49, .inl fS)), (mU, .inl (G.2.1 2, 200, .inl u164.2.1)), (mV, .inl (G.2.1 3, 200, .inr (.inl u164.2.2)))] H locs := w
                          refine lv_iload S.1 S.2.1 dX7_puts_167 (lv_at hl 1 rfl) ?_
                          refine lv_if_eq (tgt := 182) S.1 S.2.1 dX7_puts_169 (by decide) (fun c169 => ?_) (fun c169 => ?_)
                          · refine lv_iload S.1 S.2.1 dX7_puts_182 (lv_at hl 5 rfl) ?_
                            refine lv_if_eq (tgt := 248) S.1 S.2.1 dX7_puts_184 (by decide) (fun c184 => ?_) (fun c184 => ?_)
                            · exact W.vret S.1 S.2.1 hr (fun t ht _ => ⟨⟨(u164.1, u164.2.1, u164.2.2), rfl, ⟨by have := (h136).1; have := (h164).1; dsimp only; omega, by have := (h136).2.1; have := (h164).2.1; dsimp only; omega, (h164).2.2.cong (fun t => by first | exact rq4_0 t | exact rq4_1 t | exact rq4_2 t | exact rq4_3 t | exact rq4_4 t | exact rq4_5 t | exact rq4_6 t | exact rq4_7 t)⟩, by rw [ht]; exact w.1, w.2.1⟩, w.2.2.F ht⟩) w.2.2.2.2 dX7_puts_248
                            · exact absurd c184 (by decide)
                          · exact absurd c169 (by decide)
                  · exact absurd c118 (by decide)
      · exact absurd c48 (by decide)
  · subst hcs
    refine lv_iload S.1 S.2.1 dX7_puts_24 (lv_at hl 0 rfl) ?_
    refine lv_if_ne (tgt := 33) S.1 S.2.1 dX7_puts_26 (by decide) (fun c26_1 => ?_) (fun c26_1 => ?_)
    · refine lv_iconst (v := 1) S.1 S.2.1 dX7_puts_33 (by decide) ?_
      refine lv_aload_n S.1 S.2.1 dX7_puts_34 rfl (lv_at hl 2 rfl) ?_
      refine w_get S C w (CC := RX7) (T := TX7) (N := 16) (ref := "GateSumsModel") im_X7_puts_X7 0 rfl rfl 0 (by decide) (List.mem_of_getElem? (i := 1) rfl) (fun _ h => h) rfl dX7_puts_35 ?_
      refine lv_bipush (v := 30) S.1 S.2.1 dX7_puts_38 (by decide) ?_
      refine lv_iload_n S.1 S.2.1 dX7_puts_40 rfl (lv_at hl 3 rfl) ?_
      refine lv_iadd S.1 S.2.1 dX7_puts_41 ?_
      refine w_iald S C w 1 rfl (ixA 30 _ (by omega)) dX7_puts_42 ?_
      refine w_topi (y := (fS (30 + gg))) (congrArg fS (ixc 30 _ (by omega))) ?_
      refine lv_ishl S.1 S.2.1 dX7_puts_43 ?_
      refine lv_istore (lv' := [(7, .int ((1 : Int32) <<< ((fS (30 + gg)) &&& 31))), (6, .int 1), (5, .int (gX fS gg)), (0, .ref mO), (1, .int (nI gg)), (2, .int x0), (3, .long b0)]) S.1 S.2.1 dX7_puts_44 hl (by decide) rfl (fun ls hl => ?_)
      refine lv_iload S.1 S.2.1 dX7_puts_46 (lv_at hl 1 rfl) ?_
      refine lv_if_eq (tgt := 70) S.1 S.2.1 dX7_puts_48 (by decide) (fun c48_1 => ?_) (fun c48_1 => ?_)
      · exact absurd c48_1 (by decide)
      · refine lv_iload S.1 S.2.1 dX7_puts_51 (lv_at hl 1 rfl) ?_
        refine lv_iconst (v := 4) S.1 S.2.1 dX7_puts_53 (by decide) ?_
        refine lv_icmp_eq (tgt := 70) S.1 S.2.1 dX7_puts_54 (by decide) (fun c54 => ?_) (fun c54 => ?_)
        · exact absurd c54 (by decide)
        · refine lv_iload S.1 S.2.1 dX7_puts_57 (lv_at hl 1 rfl) ?_
          refine lv_iconst (v := 5) S.1 S.2.1 dX7_puts_59 (by decide) ?_
          refine lv_icmp_eq (tgt := 70) S.1 S.2.1 dX7_puts_60 (by decide) (fun c60 => ?_) (fun c60 => ?_)
          · exact absurd c60 (by decide)
          · refine lv_iload S.1 S.2.1 dX7_puts_63 (lv_at hl 1 rfl) ?_
            refine lv_bipush (v := 6) S.1 S.2.1 dX7_puts_65 (by decide) ?_
            refine lv_icmp_ne (tgt := 74) S.1 S.2.1 dX7_puts_67 (by decide) (fun c67 => ?_) (fun c67 => ?_)
            · refine lv_iconst (v := 0) S.1 S.2.1 dX7_puts_74 (by decide) ?_
              refine lv_istore (lv' := [(8, .int 0), (7, .int ((1 : Int32) <<< ((fS (30 + gg)) &&& 31))), (6, .int 1), (5, .int (gX fS gg)), (0, .ref mO), (1, .int (nI gg)), (2, .int x0), (3, .long b0)]) S.1 S.2.1 dX7_puts_75 hl (by decide) rfl (fun ls hl => ?_)
              refine lv_iload S.1 S.2.1 dX7_puts_77 (lv_at hl 2 rfl) ?_
              refine lv_iconst (v := 1) S.1 S.2.1 dX7_puts_79 (by decide) ?_
              refine lv_icmp_eq (tgt := 93) S.1 S.2.1 dX7_puts_80 (by decide) (fun c80_1 => ?_) (fun c80_1 => ?_)
              · refine lv_iconst (v := 0) S.1 S.2.1 dX7_puts_93 (by decide) ?_
                refine lv_istore (lv' := [(9, .int 0), (8, .int 0), (7, .int ((1 : Int32) <<< ((fS (30 + gg)) &&& 31))), (6, .int 1), (5, .int (gX fS gg)), (0, .ref mO), (1, .int (nI gg)), (2, .int x0), (3, .long b0)]) S.1 S.2.1 dX7_puts_94 hl (by decide) rfl (fun ls hl => ?_)
                refine lv_iload S.1 S.2.1 dX7_puts_96 (lv_at hl 3 rfl) ?_
                refine lv_iconst (v := 2) S.1 S.2.1 dX7_puts_98 (by decide) ?_
                refine lv_icmp_eq (tgt := 121) S.1 S.2.1 dX7_puts_99 (by decide) (fun c99_1 => ?_) (fun c99_1 => ?_)
                · exact absurd c99_1 (by decide)
                · refine lv_iload S.1 S.2.1 dX7_puts_102 (lv_at hl 3 rfl) ?_
                  refine lv_iconst (v := 3) S.1 S.2.1 dX7_puts_104 (by decide) ?_
                  refine lv_icmp_eq (tgt := 121) S.1 S.2.1 dX7_puts_105 (by decide) (fun c105_1 => ?_) (fun c105_1 => ?_)
                  · exact absurd c105_1 (by decide)
                  · refine lv_iload S.1 S.2.1 dX7_puts_108 (lv_at hl 3 rfl) ?_
                    refine lv_iconst (v := 5) S.1 S.2.1 dX7_puts_110 (by decide) ?_
                    refine lv_icmp_eq (tgt := 121) S.1 S.2.1 dX7_puts_111 (by decide) (fun c111_1 => ?_) (fun c111_1 => ?_)
                    · exact absurd c111_1 (by decide)
                    · refine lv_iload S.1 S.2.1 dX7_puts_114 (lv_at hl 3 rfl) ?_
                      refine lv_bipush (v := 6) S.1 S.2.1 dX7_puts_116 (by decide) ?_
                      refine lv_icmp_ne (tgt := 125) S.1 S.2.1 dX7_puts_118 (by decide) (fun c118_1 => ?_) (fun c118_1 => ?_)
                      · refine lv_iconst (v := 0) S.1 S.2.1 dX7_puts_125 (by decide) ?_
                        refine lv_istore (lv' := [(10, .int 0), (9, .int 0), (8, .int 0), (7, .int ((1 : Int32) <<< ((fS (30 + gg)) &&& 31))), (6, .int 1), (5, .int (gX fS gg)), (0, .ref mO), (1, .int (nI gg)), (2, .int x0), (3, .long b0)]) S.1 S.2.1 dX7_puts_126 hl (by decide) rfl (fun ls hl => ?_)
                        refine lv_iload S.1 S.2.1 dX7_puts_128 (lv_at hl 2 rfl) ?_
                        refine lv_if_eq (tgt := 139) S.1 S.2.1 dX7_puts_130 (by decide) (fun c130_1 => ?_) (fun c130_1 => ?_)
                        · refine lv_iload S.1 S.2.1 dX7_puts_139 (lv_at hl 2 rfl) ?_
                          refine lv_if_eq (tgt := 149) S.1 S.2.1 dX7_puts_141 (by decide) (fun c141_1 => ?_) (fun c141_1 => ?_)
                          · refine lv_lload_n S.1 S.2.1 dX7_puts_149 rfl (lv_at hl 9 rfl) ?_
                            refine lv_lstore (lv' := [(11, .long b0), (10, .int 0), (9, .int 0), (8, .int 0), (7, .int ((1 : Int32) <<< ((fS (30 + gg)) &&& 31))), (6, .int 1), (5, .int (gX fS gg)), (0, .ref mO), (1, .int (nI gg)), (2, .int x0), (3, .long b0)]) S.1 S.2.1 dX7_puts_150 hl (by decide) rfl (fun ls hl => ?_)
                            refine lv_iload S.1 S.2.1 dX7_puts_152 (lv_at hl 2 rfl) ?_
                            refine lv_if_eq (tgt := 167) S.1 S.2.1 dX7_puts_154 (by decide) (fun c154_1 => ?_) (fun c154_1 => ?_)
                            · refine lv_iload S.1 S.2.1 dX7_puts_167 (lv_at hl 1 rfl) ?_
                              refine lv_if_eq (tgt := 182) S.1 S.2.1 dX7_puts_169 (by decide) (fun c169_1 => ?_) (fun c169_1 => ?_)
                              · refine lv_iload S.1 S.2.1 dX7_puts_182 (lv_at hl 5 rfl) ?_
                                refine lv_if_eq (tgt := 248) S.1 S.2.1 dX7_puts_184 (by decide) (fun c184_1 => ?_) (fun c184_1 => ?_)
                                · exact absurd c184_1 (by decide)
                                · refine lv_iload S.1 S.2.1 dX7_puts_187 (lv_at hl 5 rfl) ?_
                                  refine lv_iconst (v := 3) S.1 S.2.1 dX7_puts_189 (by decide) ?_
                                  refine lv_icmp_eq (tgt := 200) S.1 S.2.1 dX7_puts_190 (by decide) (fun c190 => ?_) (fun c190 => ?_)
                                  · exact absurd c190 (by decide)
                                  · refine lv_iload S.1 S.2.1 dX7_puts_193 (lv_at hl 5 rfl) ?_
                                    refine lv_bipush (v := 6) S.1 S.2.1 dX7_puts_195 (by decide) ?_
                                    refine lv_icmp_ne (tgt := 204) S.1 S.2.1 dX7_puts_197 (by decide) (fun c197 => ?_) (fun c197 => ?_)
                                    · refine lv_iconst (v := 0) S.1 S.2.1 dX7_puts_204 (by decide) ?_
                                      refine lv_istore (lv' := [(13, .int 0), (11, .long b0), (10, .int 0), (9, .int 0), (8, .int 0), (7, .int ((1 : Int32) <<< ((fS (30 + gg)) &&& 31))), (6, .int 1), (5, .int (gX fS gg)), (0, .ref mO), (1, .int (nI gg)), (2, .int x0), (3, .long b0)]) S.1 S.2.1 dX7_puts_205 hl (by decide) rfl (fun ls hl => ?_)
                                      refine lv_iload S.1 S.2.1 dX7_puts_207 (lv_at hl 3 rfl) ?_
                                      refine lv_istore (lv' := [(14, .int 0), (13, .int 0), (11, .long b0), (10, .int 0), (9, .int 0), (8, .int 0), (7, .int ((1 : Int32) <<< ((fS (30 + gg)) &&& 31))), (6, .int 1), (5, .int (gX fS gg)), (0, .ref mO), (1, .int (nI gg)), (2, .int x0), (3, .long b0)]) S.1 S.2.1 dX7_puts_209 hl (by decide) rfl (fun ls hl => ?_)
                                      refine lv_aload_n S.1 S.2.1 dX7_puts_211 rfl (lv_at hl 9 rfl) ?_
                                      refine lv_iload_n S.1 S.2.1 dX7_puts_212 rfl (lv_at hl 11 rfl) ?_
                                      refine lv_iload S.1 S.2.1 dX7_puts_213 (lv_at hl 8 rfl) ?_
                                      refine lv_ior S.1 S.2.1 dX7_puts_215 ?_
                                      refine lv_iload S.1 S.2.1 dX7_puts_216 (lv_at hl 6 rfl) ?_
                                      refine lv_ior S.1 S.2.1 dX7_puts_218 ?_
                                      refine lv_iload S.1 S.2.1 dX7_puts_219 (lv_at hl 0 rfl) ?_
                                      refine lv_if_eq (tgt := 230) S.1 S.2.1 dX7_puts_221 (by decide) (fun c221 => ?_) (fun c221 => ?_)
                                      · refine lv_lload S.1 S.2.1 dX7_puts_230 (lv_at hl 2 rfl) ?_
                                        refine lv_iload S.1 S.2.1 dX7_puts_232 (lv_at hl 1 rfl) ?_
                                        refine lv_if_eq (tgt := 243) S.1 S.2.1 dX7_puts_234 (by decide) (fun c234 => ?_) (fun c234 => ?_)
                                        · refine lv_lconst (v := 1) S.1 S.2.1 dX7_puts_243 (by decide) ?_
                                          refine lv_lmul S.1 S.2.1 dX7_puts_244 ?_
                                          refine cq_v C w [0, 2, 3] [1] [1, 0, 2, 3] (wr := [(mS, .inl (G.2.1 2, 49, .inl fS))]) (w' := fun u : Nat × (Nat → Int32) × (Nat → Int64) => [(mO, .inr (7, [.ref mS, .ref mD, .ref mR, .ref mT, .int mt, .int ma, .int mn, .ref mW, .ref mQ, .ref mC, .int my, .ref mU, .ref mV, .int (nI u.1), .int mf, .int mg])), (mU, .inl (G.2.1 2, 200, .inl u.2.1)), (mV, .inl (G.2.1 3, 200, .inr (.inl u.2.2)))]) (ws2 := fun u : Nat × (Nat → Int32) × (Nat → Int64) => [(mO, .inr (7, [.ref mS, .ref mD, .ref mR, .ref mT, .int mt, .int ma, .int mn, .ref mW, .ref mQ, .ref mC, .int my, .ref mU, .ref mV, .int (nI u.1), .int mf, .int mg])), (mS, .inl (G.2.1 2, 49, .inl fS)), (mU, .inl (G.2.1 2, 200, .inl u.2.1)), (mV, .inl (G.2.1 3, 200, .inr (.inl u.2.2)))]) rfl rfl rfl (by decide) rfl (fun _ => rfl) (va_runV (As := [.int ((x0 ||| (gX fS gg)) ||| ((1 : Int32) <<< ((fS (30 + gg)) &&& 31))), .long (b0 * 1)]) (rest := []) S (k_X7_adds l G mO mU mV _ mS mD mR mT mW mQ mC mt ma mn my mf mg mM fU lV ((x0 ||| (gX fS gg)) ||| ((1 : Int32) <<< ((fS (30 + gg)) &&& 31))) (b0 * 1) P (B * 1) (by  omega) (hR) (by rw [hb]; simp only [Int64.ofInt_mul, Int64.ofInt_neg]; first | done | rfl)) (cwV 2 S.2.2.2.2 gX7_puts_X7_adds rfl rfl rfl (by decide +kernel) ⟨Nat.le_of_ble_eq_true rfl, Nat.le_of_ble_eq_true rfl⟩) ⟨wPre_blind, va_recv C.1 w.1 (ci := 7) (q0 := 0) rfl rfl, wPre_at C w [0, 2, 3] rfl rfl⟩ rfl rfl hl.1 rfl (lv_room (Nat.le_of_ble_eq_true rfl)) dX7_puts_245 ⟨Nat.le_of_ble_eq_true rfl, Nat.le_of_ble_eq_true rfl⟩) (fun u245 H locs h245 w => ?_)
                                          have w : Wd G _ s [(mO, .inr (7, [.ref mS, .ref mD, .ref mR, .ref mT, .int mt, .int ma, .int mn, .ref mW, .ref mQ, .ref mC, .int my, .ref mU, .ref mV, .int (nI u245.1), .int mf, .int mg])), (mS, .inl (G.2.1 2, 49, .inl fS)), (mU, .inl (G.2.1 2, 200, .inl u245.2.1)), (mV, .inl (G.2.1 3, 200, .inr (.inl u245.2.2)))] H locs := w
                                          exact W.vret S.1 S.2.1 hr (fun t ht _ => ⟨⟨(u245.1, u245.2.1, u245.2.2), rfl, ⟨by have := (h245).1; dsimp only; omega, by have := (h245).2.1; dsimp only; omega, (h245).2.2.cong (fun t => by first | exact rq4_0 t | exact rq4_1 t | exact rq4_2 t | exact rq4_3 t | exact rq4_4 t | exact rq4_5 t | exact rq4_6 t | exact rq4_7 t)⟩, by rw [ht]; exact w.1, w.2.1⟩, w.2.2.F ht⟩) w.2.2.2.2 dX7_puts_248
                                        · exact absurd c234 (by decide)
                                      · exact absurd c221 (by decide)
                                    · exact absurd c197 (by decide)
                              · exact absurd c169_1 (by decide)
                            · exact absurd c154_1 (by decide)
                          · exact absurd c141_1 (by decide)
                        · exact absurd c130_1 (by decide)
                      · exact absurd c118_1 (by decide)
              · exact absurd c80_1 (by decide)
            · exact absurd c67 (by decide)
    · exact absurd c26_1 (by decide)
  · subst hcs
    refine lv_iload S.1 S.2.1 dX7_puts_24 (lv_at hl 0 rfl) ?_
    refine lv_if_ne (tgt := 33) S.1 S.2.1 dX7_puts_26 (by decide) (fun c26_2 => ?_) (fun c26_2 => ?_)
    · refine lv_iconst (v := 1) S.1 S.2.1 dX7_puts_33 (by decide) ?_
      refine lv_aload_n S.1 S.2.1 dX7_puts_34 rfl (lv_at hl 2 rfl) ?_
      refine w_get S C w (CC := RX7) (T := TX7) (N := 16) (ref := "GateSumsModel") im_X7_puts_X7 0 rfl rfl 0 (by decide) (List.mem_of_getElem? (i := 1) rfl) (fun _ h => h) rfl dX7_puts_35 ?_
      refine lv_bipush (v := 30) S.1 S.2.1 dX7_puts_38 (by decide) ?_
      refine lv_iload_n S.1 S.2.1 dX7_puts_40 rfl (lv_at hl 3 rfl) ?_
      refine lv_iadd S.1 S.2.1 dX7_puts_41 ?_
      refine w_iald S C w 1 rfl (ixA 30 _ (by omega)) dX7_puts_42 ?_
      refine w_topi (y := (fS (30 + gg))) (congrArg fS (ixc 30 _ (by omega))) ?_
      refine lv_ishl S.1 S.2.1 dX7_puts_43 ?_
      refine lv_istore (lv' := [(7, .int ((1 : Int32) <<< ((fS (30 + gg)) &&& 31))), (6, .int 2), (5, .int (gX fS gg)), (0, .ref mO), (1, .int (nI gg)), (2, .int x0), (3, .long b0)]) S.1 S.2.1 dX7_puts_44 hl (by decide) rfl (fun ls hl => ?_)
      refine lv_iload S.1 S.2.1 dX7_puts_46 (lv_at hl 1 rfl) ?_
      refine lv_if_eq (tgt := 70) S.1 S.2.1 dX7_puts_48 (by decide) (fun c48_2 => ?_) (fun c48_2 => ?_)
      · exact absurd c48_2 (by decide)
      · refine lv_iload S.1 S.2.1 dX7_puts_51 (lv_at hl 1 rfl) ?_
        refine lv_iconst (v := 4) S.1 S.2.1 dX7_puts_53 (by decide) ?_
        refine lv_icmp_eq (tgt := 70) S.1 S.2.1 dX7_puts_54 (by decide) (fun c54_1 => ?_) (fun c54_1 => ?_)
        · exact absurd c54_1 (by decide)
        · refine lv_iload S.1 S.2.1 dX7_puts_57 (lv_at hl 1 rfl) ?_
          refine lv_iconst (v := 5) S.1 S.2.1 dX7_puts_59 (by decide) ?_
          refine lv_icmp_eq (tgt := 70) S.1 S.2.1 dX7_puts_60 (by decide) (fun c60_1 => ?_) (fun c60_1 => ?_)
          · exact absurd c60_1 (by decide)
          · refine lv_iload S.1 S.2.1 dX7_puts_63 (lv_at hl 1 rfl) ?_
            refine lv_bipush (v := 6) S.1 S.2.1 dX7_puts_65 (by decide) ?_
            refine lv_icmp_ne (tgt := 74) S.1 S.2.1 dX7_puts_67 (by decide) (fun c67_1 => ?_) (fun c67_1 => ?_)
            · refine lv_iconst (v := 0) S.1 S.2.1 dX7_puts_74 (by decide) ?_
              refine lv_istore (lv' := [(8, .int 0), (7, .int ((1 : Int32) <<< ((fS (30 + gg)) &&& 31))), (6, .int 2), (5, .int (gX fS gg)), (0, .ref mO), (1, .int (nI gg)), (2, .int x0), (3, .long b0)]) S.1 S.2.1 dX7_puts_75 hl (by decide) rfl (fun ls hl => ?_)
              refine lv_iload S.1 S.2.1 dX7_puts_77 (lv_at hl 2 rfl) ?_
              refine lv_iconst (v := 1) S.1 S.2.1 dX7_puts_79 (by decide) ?_
              refine lv_icmp_eq (tgt := 93) S.1 S.2.1 dX7_puts_80 (by decide) (fun c80_2 => ?_) (fun c80_2 => ?_)
              · exact absurd c80_2 (by decide)
              · refine lv_iload S.1 S.2.1 dX7_puts_83 (lv_at hl 2 rfl) ?_
                refine lv_iconst (v := 4) S.1 S.2.1 dX7_puts_85 (by decide) ?_
                refine lv_icmp_eq (tgt := 93) S.1 S.2.1 dX7_puts_86 (by decide) (fun c86_1 => ?_) (fun c86_1 => ?_)
                · exact absurd c86_1 (by decide)
                · refine lv_iconst (v := 1) S.1 S.2.1 dX7_puts_89 (by decide) ?_
                  refine lv_goto (tgt := 94) S.1 S.2.1 dX7_puts_90 (by decide) ?_
                  refine lv_istore (lv' := [(9, .int 1), (8, .int 0), (7, .int ((1 : Int32) <<< ((fS (30 + gg)) &&& 31))), (6, .int 2), (5, .int (gX fS gg)), (0, .ref mO), (1, .int (nI gg)), (2, .int x0), (3, .long b0)]) S.1 S.2.1 dX7_puts_94 hl (by decide) rfl (fun ls hl => ?_)
                  refine lv_iload S.1 S.2.1 dX7_puts_96 (lv_at hl 3 rfl) ?_
                  refine lv_iconst (v := 2) S.1 S.2.1 dX7_puts_98 (by decide) ?_
                  refine lv_icmp_eq (tgt := 121) S.1 S.2.1 dX7_puts_99 (by decide) (fun c99_2 => ?_) (fun c99_2 => ?_)
                  · refine lv_iconst (v := 1) S.1 S.2.1 dX7_puts_121 (by decide) ?_
                    refine lv_goto (tgt := 126) S.1 S.2.1 dX7_puts_122 (by decide) ?_
                    refine lv_istore (lv' := [(10, .int 1), (9, .int 1), (8, .int 0), (7, .int ((1 : Int32) <<< ((fS (30 + gg)) &&& 31))), (6, .int 2), (5, .int (gX fS gg)), (0, .ref mO), (1, .int (nI gg)), (2, .int x0), (3, .long b0)]) S.1 S.2.1 dX7_puts_126 hl (by decide) rfl (fun ls hl => ?_)
                    refine lv_iload S.1 S.2.1 dX7_puts_128 (lv_at hl 2 rfl) ?_
                    refine lv_if_eq (tgt := 139) S.1 S.2.1 dX7_puts_130 (by decide) (fun c130_2 => ?_) (fun c130_2 => ?_)
                    · refine lv_iload S.1 S.2.1 dX7_puts_139 (lv_at hl 2 rfl) ?_
                      refine lv_if_eq (tgt := 149) S.1 S.2.1 dX7_puts_141 (by decide) (fun c141_2 => ?_) (fun c141_2 => ?_)
                      · refine lv_lload_n S.1 S.2.1 dX7_puts_149 rfl (lv_at hl 9 rfl) ?_
                        refine lv_lstore (lv' := [(11, .long b0), (10, .int 1), (9, .int 1), (8, .int 0), (7, .int ((1 : Int32) <<< ((fS (30 + gg)) &&& 31))), (6, .int 2), (5, .int (gX fS gg)), (0, .ref mO), (1, .int (nI gg)), (2, .int x0), (3, .long b0)]) S.1 S.2.1 dX7_puts_150 hl (by decide) rfl (fun ls hl => ?_)
                        refine lv_iload S.1 S.2.1 dX7_puts_152 (lv_at hl 2 rfl) ?_
                        refine lv_if_eq (tgt := 167) S.1 S.2.1 dX7_puts_154 (by decide) (fun c154_2 => ?_) (fun c154_2 => ?_)
                        · exact absurd c154_2 (by decide)
                        · refine lv_aload_n S.1 S.2.1 dX7_puts_157 rfl (lv_at hl 7 rfl) ?_
                          refine lv_iload_n S.1 S.2.1 dX7_puts_158 rfl (lv_at hl 9 rfl) ?_
                          refine lv_iload S.1 S.2.1 dX7_puts_159 (lv_at hl 6 rfl) ?_
                          refine lv_ior S.1 S.2.1 dX7_puts_161 ?_
                          refine lv_lload S.1 S.2.1 dX7_puts_162 (lv_at hl 0 rfl) ?_
                          refine cq_v C w [0, 2, 3] [1] [1, 0, 2, 3] (wr := [(mS, .inl (G.2.1 2, 49, .inl fS))]) (w' := fun u : Nat × (Nat → Int32) × (Nat → Int64) => [(mO, .inr (7, [.ref mS, .ref mD, .ref mR, .ref mT, .int mt, .int ma, .int mn, .ref mW, .ref mQ, .ref mC, .int my, .ref mU, .ref mV, .int (nI u.1), .int mf, .int mg])), (mU, .inl (G.2.1 2, 200, .inl u.2.1)), (mV, .inl (G.2.1 3, 200, .inr (.inl u.2.2)))]) (ws2 := fun u : Nat × (Nat → Int32) × (Nat → Int64) => [(mO, .inr (7, [.ref mS, .ref mD, .ref mR, .ref mT, .int mt, .int ma, .int mn, .ref mW, .ref mQ, .ref mC, .int my, .ref mU, .ref mV, .int (nI u.1), .int mf, .int mg])), (mS, .inl (G.2.1 2, 49, .inl fS)), (mU, .inl (G.2.1 2, 200, .inl u.2.1)), (mV, .inl (G.2.1 3, 200, .inr (.inl u.2.2)))]) rfl rfl rfl (by decide) rfl (fun _ => rfl) (va_runV (As := [.int (x0 ||| (gX fS gg)), .long b0]) (rest := []) S (k_X7_adds l G mO mU mV _ mS mD mR mT mW mQ mC mt ma mn my mf mg mM fU lV (x0 ||| (gX fS gg)) b0 P B (by  omega) (hR) (hb)) (cwV 2 S.2.2.2.2 gX7_puts_X7_adds rfl rfl rfl (by decide +kernel) ⟨Nat.le_of_ble_eq_true rfl, Nat.le_of_ble_eq_true rfl⟩) ⟨wPre_blind, va_recv C.1 w.1 (ci := 7) (q0 := 0) rfl rfl, wPre_at C w [0, 2, 3] rfl rfl⟩ rfl rfl hl.1 rfl (lv_room (Nat.le_of_ble_eq_true rfl)) dX7_puts_164 ⟨Nat.le_of_ble_eq_true rfl, Nat.le_of_ble_eq_true rfl⟩) (fun u164_1 H locs h164_1 w => ?_)
                          have w : Wd G _ s [(mO, .inr (7, [.ref mS, .ref mD, .ref mR, .ref mT, .int mt, .int ma, .int mn, .ref mW, .ref mQ, .ref mC, .int my, .ref mU, .ref mV, .int (nI u164_1.1), .int mf, .int mg])), (mS, .inl (G.2.1 2, 49, .inl fS)), (mU, .inl (G.2.1 2, 200, .inl u164_1.2.1)), (mV, .inl (G.2.1 3, 200, .inr (.inl u164_1.2.2)))] H locs := w
                          refine lv_iload S.1 S.2.1 dX7_puts_167 (lv_at hl 1 rfl) ?_
                          refine lv_if_eq (tgt := 182) S.1 S.2.1 dX7_puts_169 (by decide) (fun c169_2 => ?_) (fun c169_2 => ?_)
                          · exact absurd c169_2 (by decide)
                          · refine lv_aload_n S.1 S.2.1 dX7_puts_172 rfl (lv_at hl 7 rfl) ?_
                            refine lv_iload_n S.1 S.2.1 dX7_puts_173 rfl (lv_at hl 9 rfl) ?_
                            refine lv_iload S.1 S.2.1 dX7_puts_174 (lv_at hl 4 rfl) ?_
                            refine lv_ior S.1 S.2.1 dX7_puts_176 ?_
                            refine lv_lload S.1 S.2.1 dX7_puts_177 (lv_at hl 0 rfl) ?_
                            refine cq_v C w [0, 2, 3] [1] [1, 0, 2, 3] (wr := [(mS, .inl (G.2.1 2, 49, .inl fS))]) (w' := fun u : Nat × (Nat → Int32) × (Nat → Int64) => [(mO, .inr (7, [.ref mS, .ref mD, .ref mR, .ref mT, .int mt, .int ma, .int mn, .ref mW, .ref mQ, .ref mC, .int my, .ref mU, .ref mV, .int (nI u.1), .int mf, .int mg])), (mU, .inl (G.2.1 2, 200, .inl u.2.1)), (mV, .inl (G.2.1 3, 200, .inr (.inl u.2.2)))]) (ws2 := fun u : Nat × (Nat → Int32) × (Nat → Int64) => [(mO, .inr (7, [.ref mS, .ref mD, .ref mR, .ref mT, .int mt, .int ma, .int mn, .ref mW, .ref mQ, .ref mC, .int my, .ref mU, .ref mV, .int (nI u.1), .int mf, .int mg])), (mS, .inl (G.2.1 2, 49, .inl fS)), (mU, .inl (G.2.1 2, 200, .inl u.2.1)), (mV, .inl (G.2.1 3, 200, .inr (.inl u.2.2)))]) rfl rfl rfl (by decide) rfl (fun _ => rfl) (va_runV (As := [.int (x0 ||| ((1 : Int32) <<< ((fS (30 + gg)) &&& 31))), .long b0]) (rest := []) S (k_X7_adds l G mO mU mV _ mS mD mR mT mW mQ mC mt ma mn my mf mg u164_1.1 u164_1.2.1 u164_1.2.2 (x0 ||| ((1 : Int32) <<< ((fS (30 + gg)) &&& 31))) b0 (pAdd P (x0 ||| (gX fS gg)) B) B (by have := (h164_1).2.1; omega) (h164_1.2.2) (hb)) (cwV 2 S.2.2.2.2 gX7_puts_X7_adds rfl rfl rfl (by decide +kernel) ⟨Nat.le_of_ble_eq_true rfl, Nat.le_of_ble_eq_true rfl⟩) ⟨wPre_blind, va_recv C.1 w.1 (ci := 7) (q0 := 0) rfl rfl, wPre_at C w [0, 2, 3] rfl rfl⟩ rfl rfl hl.1 rfl (lv_room (Nat.le_of_ble_eq_true rfl)) dX7_puts_179 ⟨Nat.le_of_ble_eq_true rfl, Nat.le_of_ble_eq_true rfl⟩) (fun u179 H locs h179 w => ?_)
                            have w : Wd G _ s [(mO, .inr (7, [.ref mS, .ref mD, .ref mR, .ref mT, .int mt, .int ma, .int mn, .ref mW, .ref mQ, .ref mC, .int my, .ref mU, .ref mV, .int (nI u179.1), .int mf, .int mg])), (mS, .inl (G.2.1 2, 49, .inl fS)), (mU, .inl (G.2.1 2, 200, .inl u179.2.1)), (mV, .inl (G.2.1 3, 200, .inr (.inl u179.2.2)))] H locs := w
                            refine lv_iload S.1 S.2.1 dX7_puts_182 (lv_at hl 5 rfl) ?_
                            refine lv_if_eq (tgt := 248) S.1 S.2.1 dX7_puts_184 (by decide) (fun c184_2 => ?_) (fun c184_2 => ?_)
                            · exact absurd c184_2 (by decide)
                            · refine lv_iload S.1 S.2.1 dX7_puts_187 (lv_at hl 5 rfl) ?_
                              refine lv_iconst (v := 3) S.1 S.2.1 dX7_puts_189 (by decide) ?_
                              refine lv_icmp_eq (tgt := 200) S.1 S.2.1 dX7_puts_190 (by decide) (fun c190_1 => ?_) (fun c190_1 => ?_)
                              · exact absurd c190_1 (by decide)
                              · refine lv_iload S.1 S.2.1 dX7_puts_193 (lv_at hl 5 rfl) ?_
                                refine lv_bipush (v := 6) S.1 S.2.1 dX7_puts_195 (by decide) ?_
                                refine lv_icmp_ne (tgt := 204) S.1 S.2.1 dX7_puts_197 (by decide) (fun c197_1 => ?_) (fun c197_1 => ?_)
                                · refine lv_iconst (v := 0) S.1 S.2.1 dX7_puts_204 (by decide) ?_
                                  refine lv_istore (lv' := [(13, .int 0), (11, .long b0), (10, .int 1), (9, .int 1), (8, .int 0), (7, .int ((1 : Int32) <<< ((fS (30 + gg)) &&& 31))), (6, .int 2), (5, .int (gX fS gg)), (0, .ref mO), (1, .int (nI gg)), (2, .int x0), (3, .long b0)]) S.1 S.2.1 dX7_puts_205 hl (by decide) rfl (fun ls hl => ?_)
                                  refine lv_iload S.1 S.2.1 dX7_puts_207 (lv_at hl 3 rfl) ?_
                                  refine lv_istore (lv' := [(14, .int 1), (13, .int 0), (11, .long b0), (10, .int 1), (9, .int 1), (8, .int 0), (7, .int ((1 : Int32) <<< ((fS (30 + gg)) &&& 31))), (6, .int 2), (5, .int (gX fS gg)), (0, .ref mO), (1, .int (nI gg)), (2, .int x0), (3, .long b0)]) S.1 S.2.1 dX7_puts_209 hl (by decide) rfl (fun ls hl => ?_)
                                  refine lv_aload_n S.1 S.2.1 dX7_puts_211 rfl (lv_at hl 9 rfl) ?_
                                  refine lv_iload_n S.1 S.2.1 dX7_puts_212 rfl (lv_at hl 11 rfl) ?_
                                  refine lv_iload S.1 S.2.1 dX7_puts_213 (lv_at hl 8 rfl) ?_
                                  refine lv_ior S.1 S.2.1 dX7_puts_215 ?_
                                  refine lv_iload S.1 S.2.1 dX7_puts_216 (lv_at hl 6 rfl) ?_
                                  refine lv_ior S.1 S.2.1 dX7_puts_218 ?_
                                  refine lv_iload S.1 S.2.1 dX7_puts_219 (lv_at hl 0 rfl) ?_
                                  refine lv_if_eq (tgt := 230) S.1 S.2.1 dX7_puts_221 (by decide) (fun c221_1 => ?_) (fun c221_1 => ?_)
                                  · exact absurd c221_1 (by decide)
                                  · refine lv_lload S.1 S.2.1 dX7_puts_224 (lv_at hl 2 rfl) ?_
                                    refine lv_lneg S.1 S.2.1 dX7_puts_226 ?_
                                    refine lv_goto (tgt := 232) S.1 S.2.1 dX7_puts_227 (by decide) ?_
                                    refine lv_iload S.1 S.2.1 dX7_puts_232 (lv_at hl 1 rfl) ?_
                                    refine lv_if_eq (tgt := 243) S.1 S.2.1 dX7_puts_234 (by decide) (fun c234_1 => ?_) (fun c234_1 => ?_)
                                    · refine lv_lconst (v := 1) S.1 S.2.1 dX7_puts_243 (by decide) ?_
                                      refine lv_lmul S.1 S.2.1 dX7_puts_244 ?_
                                      refine cq_v C w [0, 2, 3] [1] [1, 0, 2, 3] (wr := [(mS, .inl (G.2.1 2, 49, .inl fS))]) (w' := fun u : Nat × (Nat → Int32) × (Nat → Int64) => [(mO, .inr (7, [.ref mS, .ref mD, .ref mR, .ref mT, .int mt, .int ma, .int mn, .ref mW, .ref mQ, .ref mC, .int my, .ref mU, .ref mV, .int (nI u.1), .int mf, .int mg])), (mU, .inl (G.2.1 2, 200, .inl u.2.1)), (mV, .inl (G.2.1 3, 200, .inr (.inl u.2.2)))]) (ws2 := fun u : Nat × (Nat → Int32) × (Nat → Int64) => [(mO, .inr (7, [.ref mS, .ref mD, .ref mR, .ref mT, .int mt, .int ma, .int mn, .ref mW, .ref mQ, .ref mC, .int my, .ref mU, .ref mV, .int (nI u.1), .int mf, .int mg])), (mS, .inl (G.2.1 2, 49, .inl fS)), (mU, .inl (G.2.1 2, 200, .inl u.2.1)), (mV, .inl (G.2.1 3, 200, .inr (.inl u.2.2)))]) rfl rfl rfl (by decide) rfl (fun _ => rfl) (va_runV (As := [.int ((x0 ||| (gX fS gg)) ||| ((1 : Int32) <<< ((fS (30 + gg)) &&& 31))), .long ((-b0) * 1)]) (rest := []) S (k_X7_adds l G mO mU mV _ mS mD mR mT mW mQ mC mt ma mn my mf mg u179.1 u179.2.1 u179.2.2 ((x0 ||| (gX fS gg)) ||| ((1 : Int32) <<< ((fS (30 + gg)) &&& 31))) ((-b0) * 1) (pAdd (pAdd P (x0 ||| (gX fS gg)) B) (x0 ||| ((1 : Int32) <<< ((fS (30 + gg)) &&& 31))) B) ((-B) * 1) (by have := (h164_1).2.1; have := (h179).2.1; omega) (h179.2.2) (by rw [hb]; simp only [Int64.ofInt_mul, Int64.ofInt_neg]; first | done | rfl)) (cwV 2 S.2.2.2.2 gX7_puts_X7_adds rfl rfl rfl (by decide +kernel) ⟨Nat.le_of_ble_eq_true rfl, Nat.le_of_ble_eq_true rfl⟩) ⟨wPre_blind, va_recv C.1 w.1 (ci := 7) (q0 := 0) rfl rfl, wPre_at C w [0, 2, 3] rfl rfl⟩ rfl rfl hl.1 rfl (lv_room (Nat.le_of_ble_eq_true rfl)) dX7_puts_245 ⟨Nat.le_of_ble_eq_true rfl, Nat.le_of_ble_eq_true rfl⟩) (fun u245_1 H locs h245_1 w => ?_)
                                      have w : Wd G _ s [(mO, .inr (7, [.ref mS, .ref mD, .ref mR, .ref mT, .int mt, .int ma, .int mn, .ref mW, .ref mQ, .ref mC, .int my, .ref mU, .ref mV, .int (nI u245_1.1), .int mf, .int mg])), (mS, .inl (G.2.1 2, 49, .inl fS)), (mU, .inl (G.2.1 2, 200, .inl u245_1.2.1)), (mV, .inl (G.2.1 3, 200, .inr (.inl u245_1.2.2)))] H locs := w
                                      exact W.vret S.1 S.2.1 hr (fun t ht _ => ⟨⟨(u245_1.1, u245_1.2.1, u245_1.2.2), rfl, ⟨by have := (h164_1).1; have := (h179).1; have := (h245_1).1; dsimp only; omega, by have := (h164_1).2.1; have := (h179).2.1; have := (h245_1).2.1; dsimp only; omega, (h245_1).2.2.cong (fun t => by first | exact rq4_0 t | exact rq4_1 t | exact rq4_2 t | exact rq4_3 t | exact rq4_4 t | exact rq4_5 t | exact rq4_6 t | exact rq4_7 t)⟩, by rw [ht]; exact w.1, w.2.1⟩, w.2.2.F ht⟩) w.2.2.2.2 dX7_puts_248
                                    · exact absurd c234_1 (by decide)
                                · exact absurd c197_1 (by decide)
                      · exact absurd c141_2 (by decide)
                    · exact absurd c130_2 (by decide)
                  · exact absurd c99_2 (by decide)
            · exact absurd c67_1 (by decide)
    · exact absurd c26_2 (by decide)
  · subst hcs
    refine lv_iload S.1 S.2.1 dX7_puts_24 (lv_at hl 0 rfl) ?_
    refine lv_if_ne (tgt := 33) S.1 S.2.1 dX7_puts_26 (by decide) (fun c26_3 => ?_) (fun c26_3 => ?_)
    · refine lv_iconst (v := 1) S.1 S.2.1 dX7_puts_33 (by decide) ?_
      refine lv_aload_n S.1 S.2.1 dX7_puts_34 rfl (lv_at hl 2 rfl) ?_
      refine w_get S C w (CC := RX7) (T := TX7) (N := 16) (ref := "GateSumsModel") im_X7_puts_X7 0 rfl rfl 0 (by decide) (List.mem_of_getElem? (i := 1) rfl) (fun _ h => h) rfl dX7_puts_35 ?_
      refine lv_bipush (v := 30) S.1 S.2.1 dX7_puts_38 (by decide) ?_
      refine lv_iload_n S.1 S.2.1 dX7_puts_40 rfl (lv_at hl 3 rfl) ?_
      refine lv_iadd S.1 S.2.1 dX7_puts_41 ?_
      refine w_iald S C w 1 rfl (ixA 30 _ (by omega)) dX7_puts_42 ?_
      refine w_topi (y := (fS (30 + gg))) (congrArg fS (ixc 30 _ (by omega))) ?_
      refine lv_ishl S.1 S.2.1 dX7_puts_43 ?_
      refine lv_istore (lv' := [(7, .int ((1 : Int32) <<< ((fS (30 + gg)) &&& 31))), (6, .int 3), (5, .int (gX fS gg)), (0, .ref mO), (1, .int (nI gg)), (2, .int x0), (3, .long b0)]) S.1 S.2.1 dX7_puts_44 hl (by decide) rfl (fun ls hl => ?_)
      refine lv_iload S.1 S.2.1 dX7_puts_46 (lv_at hl 1 rfl) ?_
      refine lv_if_eq (tgt := 70) S.1 S.2.1 dX7_puts_48 (by decide) (fun c48_3 => ?_) (fun c48_3 => ?_)
      · exact absurd c48_3 (by decide)
      · refine lv_iload S.1 S.2.1 dX7_puts_51 (lv_at hl 1 rfl) ?_
        refine lv_iconst (v := 4) S.1 S.2.1 dX7_puts_53 (by decide) ?_
        refine lv_icmp_eq (tgt := 70) S.1 S.2.1 dX7_puts_54 (by decide) (fun c54_2 => ?_) (fun c54_2 => ?_)
        · exact absurd c54_2 (by decide)
        · refine lv_iload S.1 S.2.1 dX7_puts_57 (lv_at hl 1 rfl) ?_
          refine lv_iconst (v := 5) S.1 S.2.1 dX7_puts_59 (by decide) ?_
          refine lv_icmp_eq (tgt := 70) S.1 S.2.1 dX7_puts_60 (by decide) (fun c60_2 => ?_) (fun c60_2 => ?_)
          · exact absurd c60_2 (by decide)
          · refine lv_iload S.1 S.2.1 dX7_puts_63 (lv_at hl 1 rfl) ?_
            refine lv_bipush (v := 6) S.1 S.2.1 dX7_puts_65 (by decide) ?_
            refine lv_icmp_ne (tgt := 74) S.1 S.2.1 dX7_puts_67 (by decide) (fun c67_2 => ?_) (fun c67_2 => ?_)
            · refine lv_iconst (v := 0) S.1 S.2.1 dX7_puts_74 (by decide) ?_
              refine lv_istore (lv' := [(8, .int 0), (7, .int ((1 : Int32) <<< ((fS (30 + gg)) &&& 31))), (6, .int 3), (5, .int (gX fS gg)), (0, .ref mO), (1, .int (nI gg)), (2, .int x0), (3, .long b0)]) S.1 S.2.1 dX7_puts_75 hl (by decide) rfl (fun ls hl => ?_)
              refine lv_iload S.1 S.2.1 dX7_puts_77 (lv_at hl 2 rfl) ?_
              refine lv_iconst (v := 1) S.1 S.2.1 dX7_puts_79 (by decide) ?_
              refine lv_icmp_eq (tgt := 93) S.1 S.2.1 dX7_puts_80 (by decide) (fun c80_3 => ?_) (fun c80_3 => ?_)
              · exact absurd c80_3 (by decide)
              · refine lv_iload S.1 S.2.1 dX7_puts_83 (lv_at hl 2 rfl) ?_
                refine lv_iconst (v := 4) S.1 S.2.1 dX7_puts_85 (by decide) ?_
                refine lv_icmp_eq (tgt := 93) S.1 S.2.1 dX7_puts_86 (by decide) (fun c86_2 => ?_) (fun c86_2 => ?_)
                · exact absurd c86_2 (by decide)
                · refine lv_iconst (v := 1) S.1 S.2.1 dX7_puts_89 (by decide) ?_
                  refine lv_goto (tgt := 94) S.1 S.2.1 dX7_puts_90 (by decide) ?_
                  refine lv_istore (lv' := [(9, .int 1), (8, .int 0), (7, .int ((1 : Int32) <<< ((fS (30 + gg)) &&& 31))), (6, .int 3), (5, .int (gX fS gg)), (0, .ref mO), (1, .int (nI gg)), (2, .int x0), (3, .long b0)]) S.1 S.2.1 dX7_puts_94 hl (by decide) rfl (fun ls hl => ?_)
                  refine lv_iload S.1 S.2.1 dX7_puts_96 (lv_at hl 3 rfl) ?_
                  refine lv_iconst (v := 2) S.1 S.2.1 dX7_puts_98 (by decide) ?_
                  refine lv_icmp_eq (tgt := 121) S.1 S.2.1 dX7_puts_99 (by decide) (fun c99_3 => ?_) (fun c99_3 => ?_)
                  · exact absurd c99_3 (by decide)
                  · refine lv_iload S.1 S.2.1 dX7_puts_102 (lv_at hl 3 rfl) ?_
                    refine lv_iconst (v := 3) S.1 S.2.1 dX7_puts_104 (by decide) ?_
                    refine lv_icmp_eq (tgt := 121) S.1 S.2.1 dX7_puts_105 (by decide) (fun c105_2 => ?_) (fun c105_2 => ?_)
                    · refine lv_iconst (v := 1) S.1 S.2.1 dX7_puts_121 (by decide) ?_
                      refine lv_goto (tgt := 126) S.1 S.2.1 dX7_puts_122 (by decide) ?_
                      refine lv_istore (lv' := [(10, .int 1), (9, .int 1), (8, .int 0), (7, .int ((1 : Int32) <<< ((fS (30 + gg)) &&& 31))), (6, .int 3), (5, .int (gX fS gg)), (0, .ref mO), (1, .int (nI gg)), (2, .int x0), (3, .long b0)]) S.1 S.2.1 dX7_puts_126 hl (by decide) rfl (fun ls hl => ?_)
                      refine lv_iload S.1 S.2.1 dX7_puts_128 (lv_at hl 2 rfl) ?_
                      refine lv_if_eq (tgt := 139) S.1 S.2.1 dX7_puts_130 (by decide) (fun c130_3 => ?_) (fun c130_3 => ?_)
                      · refine lv_iload S.1 S.2.1 dX7_puts_139 (lv_at hl 2 rfl) ?_
                        refine lv_if_eq (tgt := 149) S.1 S.2.1 dX7_puts_141 (by decide) (fun c141_3 => ?_) (fun c141_3 => ?_)
                        · refine lv_lload_n S.1 S.2.1 dX7_puts_149 rfl (lv_at hl 9 rfl) ?_
                          refine lv_lstore (lv' := [(11, .long b0), (10, .int 1), (9, .int 1), (8, .int 0), (7, .int ((1 : Int32) <<< ((fS (30 + gg)) &&& 31))), (6, .int 3), (5, .int (gX fS gg)), (0, .ref mO), (1, .int (nI gg)), (2, .int x0), (3, .long b0)]) S.1 S.2.1 dX7_puts_150 hl (by decide) rfl (fun ls hl => ?_)
                          refine lv_iload S.1 S.2.1 dX7_puts_152 (lv_at hl 2 rfl) ?_
                          refine lv_if_eq (tgt := 167) S.1 S.2.1 dX7_puts_154 (by decide) (fun c154_3 => ?_) (fun c154_3 => ?_)
                          · exact absurd c154_3 (by decide)
                          · refine lv_aload_n S.1 S.2.1 dX7_puts_157 rfl (lv_at hl 7 rfl) ?_
                            refine lv_iload_n S.1 S.2.1 dX7_puts_158 rfl (lv_at hl 9 rfl) ?_
                            refine lv_iload S.1 S.2.1 dX7_puts_159 (lv_at hl 6 rfl) ?_
                            refine lv_ior S.1 S.2.1 dX7_puts_161 ?_
                            refine lv_lload S.1 S.2.1 dX7_puts_162 (lv_at hl 0 rfl) ?_
                            refine cq_v C w [0, 2, 3] [1] [1, 0, 2, 3] (wr := [(mS, .inl (G.2.1 2, 49, .inl fS))]) (w' := fun u : Nat × (Nat → Int32) × (Nat → Int64) => [(mO, .inr (7, [.ref mS, .ref mD, .ref mR, .ref mT, .int mt, .int ma, .int mn, .ref mW, .ref mQ, .ref mC, .int my, .ref mU, .ref mV, .int (nI u.1), .int mf, .int mg])), (mU, .inl (G.2.1 2, 200, .inl u.2.1)), (mV, .inl (G.2.1 3, 200, .inr (.inl u.2.2)))]) (ws2 := fun u : Nat × (Nat → Int32) × (Nat → Int64) => [(mO, .inr (7, [.ref mS, .ref mD, .ref mR, .ref mT, .int mt, .int ma, .int mn, .ref mW, .ref mQ, .ref mC, .int my, .ref mU, .ref mV, .int (nI u.1), .int mf, .int mg])), (mS, .inl (G.2.1 2, 49, .inl fS)), (mU, .inl (G.2.1 2, 200, .inl u.2.1)), (mV, .inl (G.2.1 3, 200, .inr (.inl u.2.2)))]) rfl rfl rfl (by decide) rfl (fun _ => rfl) (va_runV (As := [.int (x0 ||| (gX fS gg)), .long b0]) (rest := []) S (k_X7_adds l G mO mU mV _ mS mD mR mT mW mQ mC mt ma mn my mf mg mM fU lV (x0 ||| (gX fS gg)) b0 P B (by  omega) (hR) (hb)) (cwV 2 S.2.2.2.2 gX7_puts_X7_adds rfl rfl rfl (by decide +kernel) ⟨Nat.le_of_ble_eq_true rfl, Nat.le_of_ble_eq_true rfl⟩) ⟨wPre_blind, va_recv C.1 w.1 (ci := 7) (q0 := 0) rfl rfl, wPre_at C w [0, 2, 3] rfl rfl⟩ rfl rfl hl.1 rfl (lv_room (Nat.le_of_ble_eq_true rfl)) dX7_puts_164 ⟨Nat.le_of_ble_eq_true rfl, Nat.le_of_ble_eq_true rfl⟩) (fun u164_2 H locs h164_2 w => ?_)
                            have w : Wd G _ s [(mO, .inr (7, [.ref mS, .ref mD, .ref mR, .ref mT, .int mt, .int ma, .int mn, .ref mW, .ref mQ, .ref mC, .int my, .ref mU, .ref mV, .int (nI u164_2.1), .int mf, .int mg])), (mS, .inl (G.2.1 2, 49, .inl fS)), (mU, .inl (G.2.1 2, 200, .inl u164_2.2.1)), (mV, .inl (G.2.1 3, 200, .inr (.inl u164_2.2.2)))] H locs := w
                            refine lv_iload S.1 S.2.1 dX7_puts_167 (lv_at hl 1 rfl) ?_
                            refine lv_if_eq (tgt := 182) S.1 S.2.1 dX7_puts_169 (by decide) (fun c169_3 => ?_) (fun c169_3 => ?_)
                            · exact absurd c169_3 (by decide)
                            · refine lv_aload_n S.1 S.2.1 dX7_puts_172 rfl (lv_at hl 7 rfl) ?_
                              refine lv_iload_n S.1 S.2.1 dX7_puts_173 rfl (lv_at hl 9 rfl) ?_
                              refine lv_iload S.1 S.2.1 dX7_puts_174 (lv_at hl 4 rfl) ?_
                              refine lv_ior S.1 S.2.1 dX7_puts_176 ?_
                              refine lv_lload S.1 S.2.1 dX7_puts_177 (lv_at hl 0 rfl) ?_
                              refine cq_v C w [0, 2, 3] [1] [1, 0, 2, 3] (wr := [(mS, .inl (G.2.1 2, 49, .inl fS))]) (w' := fun u : Nat × (Nat → Int32) × (Nat → Int64) => [(mO, .inr (7, [.ref mS, .ref mD, .ref mR, .ref mT, .int mt, .int ma, .int mn, .ref mW, .ref mQ, .ref mC, .int my, .ref mU, .ref mV, .int (nI u.1), .int mf, .int mg])), (mU, .inl (G.2.1 2, 200, .inl u.2.1)), (mV, .inl (G.2.1 3, 200, .inr (.inl u.2.2)))]) (ws2 := fun u : Nat × (Nat → Int32) × (Nat → Int64) => [(mO, .inr (7, [.ref mS, .ref mD, .ref mR, .ref mT, .int mt, .int ma, .int mn, .ref mW, .ref mQ, .ref mC, .int my, .ref mU, .ref mV, .int (nI u.1), .int mf, .int mg])), (mS, .inl (G.2.1 2, 49, .inl fS)), (mU, .inl (G.2.1 2, 200, .inl u.2.1)), (mV, .inl (G.2.1 3, 200, .inr (.inl u.2.2)))]) rfl rfl rfl (by decide) rfl (fun _ => rfl) (va_runV (As := [.int (x0 ||| ((1 : Int32) <<< ((fS (30 + gg)) &&& 31))), .long b0]) (rest := []) S (k_X7_adds l G mO mU mV _ mS mD mR mT mW mQ mC mt ma mn my mf mg u164_2.1 u164_2.2.1 u164_2.2.2 (x0 ||| ((1 : Int32) <<< ((fS (30 + gg)) &&& 31))) b0 (pAdd P (x0 ||| (gX fS gg)) B) B (by have := (h164_2).2.1; omega) (h164_2.2.2) (hb)) (cwV 2 S.2.2.2.2 gX7_puts_X7_adds rfl rfl rfl (by decide +kernel) ⟨Nat.le_of_ble_eq_true rfl, Nat.le_of_ble_eq_true rfl⟩) ⟨wPre_blind, va_recv C.1 w.1 (ci := 7) (q0 := 0) rfl rfl, wPre_at C w [0, 2, 3] rfl rfl⟩ rfl rfl hl.1 rfl (lv_room (Nat.le_of_ble_eq_true rfl)) dX7_puts_179 ⟨Nat.le_of_ble_eq_true rfl, Nat.le_of_ble_eq_true rfl⟩) (fun u179_1 H locs h179_1 w => ?_)
                              have w : Wd G _ s [(mO, .inr (7, [.ref mS, .ref mD, .ref mR, .ref mT, .int mt, .int ma, .int mn, .ref mW, .ref mQ, .ref mC, .int my, .ref mU, .ref mV, .int (nI u179_1.1), .int mf, .int mg])), (mS, .inl (G.2.1 2, 49, .inl fS)), (mU, .inl (G.2.1 2, 200, .inl u179_1.2.1)), (mV, .inl (G.2.1 3, 200, .inr (.inl u179_1.2.2)))] H locs := w
                              refine lv_iload S.1 S.2.1 dX7_puts_182 (lv_at hl 5 rfl) ?_
                              refine lv_if_eq (tgt := 248) S.1 S.2.1 dX7_puts_184 (by decide) (fun c184_3 => ?_) (fun c184_3 => ?_)
                              · exact absurd c184_3 (by decide)
                              · refine lv_iload S.1 S.2.1 dX7_puts_187 (lv_at hl 5 rfl) ?_
                                refine lv_iconst (v := 3) S.1 S.2.1 dX7_puts_189 (by decide) ?_
                                refine lv_icmp_eq (tgt := 200) S.1 S.2.1 dX7_puts_190 (by decide) (fun c190_2 => ?_) (fun c190_2 => ?_)
                                · refine lv_iconst (v := 1) S.1 S.2.1 dX7_puts_200 (by decide) ?_
                                  refine lv_goto (tgt := 205) S.1 S.2.1 dX7_puts_201 (by decide) ?_
                                  refine lv_istore (lv' := [(13, .int 1), (11, .long b0), (10, .int 1), (9, .int 1), (8, .int 0), (7, .int ((1 : Int32) <<< ((fS (30 + gg)) &&& 31))), (6, .int 3), (5, .int (gX fS gg)), (0, .ref mO), (1, .int (nI gg)), (2, .int x0), (3, .long b0)]) S.1 S.2.1 dX7_puts_205 hl (by decide) rfl (fun ls hl => ?_)
                                  refine lv_iload S.1 S.2.1 dX7_puts_207 (lv_at hl 3 rfl) ?_
                                  refine lv_istore (lv' := [(14, .int 1), (13, .int 1), (11, .long b0), (10, .int 1), (9, .int 1), (8, .int 0), (7, .int ((1 : Int32) <<< ((fS (30 + gg)) &&& 31))), (6, .int 3), (5, .int (gX fS gg)), (0, .ref mO), (1, .int (nI gg)), (2, .int x0), (3, .long b0)]) S.1 S.2.1 dX7_puts_209 hl (by decide) rfl (fun ls hl => ?_)
                                  refine lv_aload_n S.1 S.2.1 dX7_puts_211 rfl (lv_at hl 9 rfl) ?_
                                  refine lv_iload_n S.1 S.2.1 dX7_puts_212 rfl (lv_at hl 11 rfl) ?_
                                  refine lv_iload S.1 S.2.1 dX7_puts_213 (lv_at hl 8 rfl) ?_
                                  refine lv_ior S.1 S.2.1 dX7_puts_215 ?_
                                  refine lv_iload S.1 S.2.1 dX7_puts_216 (lv_at hl 6 rfl) ?_
                                  refine lv_ior S.1 S.2.1 dX7_puts_218 ?_
                                  refine lv_iload S.1 S.2.1 dX7_puts_219 (lv_at hl 0 rfl) ?_
                                  refine lv_if_eq (tgt := 230) S.1 S.2.1 dX7_puts_221 (by decide) (fun c221_2 => ?_) (fun c221_2 => ?_)
                                  · exact absurd c221_2 (by decide)
                                  · refine lv_lload S.1 S.2.1 dX7_puts_224 (lv_at hl 2 rfl) ?_
                                    refine lv_lneg S.1 S.2.1 dX7_puts_226 ?_
                                    refine lv_goto (tgt := 232) S.1 S.2.1 dX7_puts_227 (by decide) ?_
                                    refine lv_iload S.1 S.2.1 dX7_puts_232 (lv_at hl 1 rfl) ?_
                                    refine lv_if_eq (tgt := 243) S.1 S.2.1 dX7_puts_234 (by decide) (fun c234_2 => ?_) (fun c234_2 => ?_)
                                    · exact absurd c234_2 (by decide)
                                    · refine lv_ldc2 (own := RX7) (v := 2) S.1 S.2.1 S.2.2.2.1 (S.2.2.2.2 _ (List.mem_of_getElem? (i := 2) rfl)) dX7_puts_237 ?_
                                      refine lv_goto (tgt := 244) S.1 S.2.1 dX7_puts_240 (by decide) ?_
                                      refine lv_lmul S.1 S.2.1 dX7_puts_244 ?_
                                      refine cq_v C w [0, 2, 3] [1] [1, 0, 2, 3] (wr := [(mS, .inl (G.2.1 2, 49, .inl fS))]) (w' := fun u : Nat × (Nat → Int32) × (Nat → Int64) => [(mO, .inr (7, [.ref mS, .ref mD, .ref mR, .ref mT, .int mt, .int ma, .int mn, .ref mW, .ref mQ, .ref mC, .int my, .ref mU, .ref mV, .int (nI u.1), .int mf, .int mg])), (mU, .inl (G.2.1 2, 200, .inl u.2.1)), (mV, .inl (G.2.1 3, 200, .inr (.inl u.2.2)))]) (ws2 := fun u : Nat × (Nat → Int32) × (Nat → Int64) => [(mO, .inr (7, [.ref mS, .ref mD, .ref mR, .ref mT, .int mt, .int ma, .int mn, .ref mW, .ref mQ, .ref mC, .int my, .ref mU, .ref mV, .int (nI u.1), .int mf, .int mg])), (mS, .inl (G.2.1 2, 49, .inl fS)), (mU, .inl (G.2.1 2, 200, .inl u.2.1)), (mV, .inl (G.2.1 3, 200, .inr (.inl u.2.2)))]) rfl rfl rfl (by decide) rfl (fun _ => rfl) (va_runV (As := [.int ((x0 ||| (gX fS gg)) ||| ((1 : Int32) <<< ((fS (30 + gg)) &&& 31))), .long ((-b0) * 2)]) (rest := []) S (k_X7_adds l G mO mU mV _ mS mD mR mT mW mQ mC mt ma mn my mf mg u179_1.1 u179_1.2.1 u179_1.2.2 ((x0 ||| (gX fS gg)) ||| ((1 : Int32) <<< ((fS (30 + gg)) &&& 31))) ((-b0) * 2) (pAdd (pAdd P (x0 ||| (gX fS gg)) B) (x0 ||| ((1 : Int32) <<< ((fS (30 + gg)) &&& 31))) B) ((-B) * 2) (by have := (h164_2).2.1; have := (h179_1).2.1; omega) (h179_1.2.2) (by rw [hb]; simp only [Int64.ofInt_mul, Int64.ofInt_neg]; first | done | rfl)) (cwV 2 S.2.2.2.2 gX7_puts_X7_adds rfl rfl rfl (by decide +kernel) ⟨Nat.le_of_ble_eq_true rfl, Nat.le_of_ble_eq_true rfl⟩) ⟨wPre_blind, va_recv C.1 w.1 (ci := 7) (q0 := 0) rfl rfl, wPre_at C w [0, 2, 3] rfl rfl⟩ rfl rfl hl.1 rfl (lv_room (Nat.le_of_ble_eq_true rfl)) dX7_puts_245 ⟨Nat.le_of_ble_eq_true rfl, Nat.le_of_ble_eq_true rfl⟩) (fun u245_2 H locs h245_2 w => ?_)
                                      have w : Wd G _ s [(mO, .inr (7, [.ref mS, .ref mD, .ref mR, .ref mT, .int mt, .int ma, .int mn, .ref mW, .ref mQ, .ref mC, .int my, .ref mU, .ref mV, .int (nI u245_2.1), .int mf, .int mg])), (mS, .inl (G.2.1 2, 49, .inl fS)), (mU, .inl (G.2.1 2, 200, .inl u245_2.2.1)), (mV, .inl (G.2.1 3, 200, .inr (.inl u245_2.2.2)))] H locs := w
                                      exact W.vret S.1 S.2.1 hr (fun t ht _ => ⟨⟨(u245_2.1, u245_2.2.1, u245_2.2.2), rfl, ⟨by have := (h164_2).1; have := (h179_1).1; have := (h245_2).1; dsimp only; omega, by have := (h164_2).2.1; have := (h179_1).2.1; have := (h245_2).2.1; dsimp only; omega, (h245_2).2.2.cong (fun t => by first | exact rq4_0 t | exact rq4_1 t | exact rq4_2 t | exact rq4_3 t | exact rq4_4 t | exact rq4_5 t | exact rq4_6 t | exact rq4_7 t)⟩, by rw [ht]; exact w.1, w.2.1⟩, w.2.2.F ht⟩) w.2.2.2.2 dX7_puts_248
                                · exact absurd c190_2 (by decide)
                        · exact absurd c141_3 (by decide)
                      · exact absurd c130_3 (by decide)
                    · exact absurd c105_2 (by decide)
            · exact absurd c67_2 (by decide)
    · exact absurd c26_3 (by decide)
  · subst hcs
    refine lv_iload S.1 S.2.1 dX7_puts_24 (lv_at hl 0 rfl) ?_
    refine lv_if_ne (tgt := 33) S.1 S.2.1 dX7_puts_26 (by decide) (fun c26_4 => ?_) (fun c26_4 => ?_)
    · refine lv_iconst (v := 1) S.1 S.2.1 dX7_puts_33 (by decide) ?_
      refine lv_aload_n S.1 S.2.1 dX7_puts_34 rfl (lv_at hl 2 rfl) ?_
      refine w_get S C w (CC := RX7) (T := TX7) (N := 16) (ref := "GateSumsModel") im_X7_puts_X7 0 rfl rfl 0 (by decide) (List.mem_of_getElem? (i := 1) rfl) (fun _ h => h) rfl dX7_puts_35 ?_
      refine lv_bipush (v := 30) S.1 S.2.1 dX7_puts_38 (by decide) ?_
      refine lv_iload_n S.1 S.2.1 dX7_puts_40 rfl (lv_at hl 3 rfl) ?_
      refine lv_iadd S.1 S.2.1 dX7_puts_41 ?_
      refine w_iald S C w 1 rfl (ixA 30 _ (by omega)) dX7_puts_42 ?_
      refine w_topi (y := (fS (30 + gg))) (congrArg fS (ixc 30 _ (by omega))) ?_
      refine lv_ishl S.1 S.2.1 dX7_puts_43 ?_
      refine lv_istore (lv' := [(7, .int ((1 : Int32) <<< ((fS (30 + gg)) &&& 31))), (6, .int 4), (5, .int (gX fS gg)), (0, .ref mO), (1, .int (nI gg)), (2, .int x0), (3, .long b0)]) S.1 S.2.1 dX7_puts_44 hl (by decide) rfl (fun ls hl => ?_)
      refine lv_iload S.1 S.2.1 dX7_puts_46 (lv_at hl 1 rfl) ?_
      refine lv_if_eq (tgt := 70) S.1 S.2.1 dX7_puts_48 (by decide) (fun c48_4 => ?_) (fun c48_4 => ?_)
      · exact absurd c48_4 (by decide)
      · refine lv_iload S.1 S.2.1 dX7_puts_51 (lv_at hl 1 rfl) ?_
        refine lv_iconst (v := 4) S.1 S.2.1 dX7_puts_53 (by decide) ?_
        refine lv_icmp_eq (tgt := 70) S.1 S.2.1 dX7_puts_54 (by decide) (fun c54_3 => ?_) (fun c54_3 => ?_)
        · refine lv_iconst (v := 1) S.1 S.2.1 dX7_puts_70 (by decide) ?_
          refine lv_goto (tgt := 75) S.1 S.2.1 dX7_puts_71 (by decide) ?_
          refine lv_istore (lv' := [(8, .int 1), (7, .int ((1 : Int32) <<< ((fS (30 + gg)) &&& 31))), (6, .int 4), (5, .int (gX fS gg)), (0, .ref mO), (1, .int (nI gg)), (2, .int x0), (3, .long b0)]) S.1 S.2.1 dX7_puts_75 hl (by decide) rfl (fun ls hl => ?_)
          refine lv_iload S.1 S.2.1 dX7_puts_77 (lv_at hl 2 rfl) ?_
          refine lv_iconst (v := 1) S.1 S.2.1 dX7_puts_79 (by decide) ?_
          refine lv_icmp_eq (tgt := 93) S.1 S.2.1 dX7_puts_80 (by decide) (fun c80_4 => ?_) (fun c80_4 => ?_)
          · exact absurd c80_4 (by decide)
          · refine lv_iload S.1 S.2.1 dX7_puts_83 (lv_at hl 2 rfl) ?_
            refine lv_iconst (v := 4) S.1 S.2.1 dX7_puts_85 (by decide) ?_
            refine lv_icmp_eq (tgt := 93) S.1 S.2.1 dX7_puts_86 (by decide) (fun c86_3 => ?_) (fun c86_3 => ?_)
            · refine lv_iconst (v := 0) S.1 S.2.1 dX7_puts_93 (by decide) ?_
              refine lv_istore (lv' := [(9, .int 0), (8, .int 1), (7, .int ((1 : Int32) <<< ((fS (30 + gg)) &&& 31))), (6, .int 4), (5, .int (gX fS gg)), (0, .ref mO), (1, .int (nI gg)), (2, .int x0), (3, .long b0)]) S.1 S.2.1 dX7_puts_94 hl (by decide) rfl (fun ls hl => ?_)
              refine lv_iload S.1 S.2.1 dX7_puts_96 (lv_at hl 3 rfl) ?_
              refine lv_iconst (v := 2) S.1 S.2.1 dX7_puts_98 (by decide) ?_
              refine lv_icmp_eq (tgt := 121) S.1 S.2.1 dX7_puts_99 (by decide) (fun c99_4 => ?_) (fun c99_4 => ?_)
              · exact absurd c99_4 (by decide)
              · refine lv_iload S.1 S.2.1 dX7_puts_102 (lv_at hl 3 rfl) ?_
                refine lv_iconst (v := 3) S.1 S.2.1 dX7_puts_104 (by decide) ?_
                refine lv_icmp_eq (tgt := 121) S.1 S.2.1 dX7_puts_105 (by decide) (fun c105_3 => ?_) (fun c105_3 => ?_)
                · exact absurd c105_3 (by decide)
                · refine lv_iload S.1 S.2.1 dX7_puts_108 (lv_at hl 3 rfl) ?_
                  refine lv_iconst (v := 5) S.1 S.2.1 dX7_puts_110 (by decide) ?_
                  refine lv_icmp_eq (tgt := 121) S.1 S.2.1 dX7_puts_111 (by decide) (fun c111_2 => ?_) (fun c111_2 => ?_)
                  · exact absurd c111_2 (by decide)
                  · refine lv_iload S.1 S.2.1 dX7_puts_114 (lv_at hl 3 rfl) ?_
                    refine lv_bipush (v := 6) S.1 S.2.1 dX7_puts_116 (by decide) ?_
                    refine lv_icmp_ne (tgt := 125) S.1 S.2.1 dX7_puts_118 (by decide) (fun c118_2 => ?_) (fun c118_2 => ?_)
                    · refine lv_iconst (v := 0) S.1 S.2.1 dX7_puts_125 (by decide) ?_
                      refine lv_istore (lv' := [(10, .int 0), (9, .int 0), (8, .int 1), (7, .int ((1 : Int32) <<< ((fS (30 + gg)) &&& 31))), (6, .int 4), (5, .int (gX fS gg)), (0, .ref mO), (1, .int (nI gg)), (2, .int x0), (3, .long b0)]) S.1 S.2.1 dX7_puts_126 hl (by decide) rfl (fun ls hl => ?_)
                      refine lv_iload S.1 S.2.1 dX7_puts_128 (lv_at hl 2 rfl) ?_
                      refine lv_if_eq (tgt := 139) S.1 S.2.1 dX7_puts_130 (by decide) (fun c130_4 => ?_) (fun c130_4 => ?_)
                      · exact absurd c130_4 (by decide)
                      · refine lv_aload_n S.1 S.2.1 dX7_puts_133 rfl (lv_at hl 6 rfl) ?_
                        refine lv_iload_n S.1 S.2.1 dX7_puts_134 rfl (lv_at hl 8 rfl) ?_
                        refine lv_lload_n S.1 S.2.1 dX7_puts_135 rfl (lv_at hl 9 rfl) ?_
                        refine cq_v C w [0, 2, 3] [1] [1, 0, 2, 3] (wr := [(mS, .inl (G.2.1 2, 49, .inl fS))]) (w' := fun u : Nat × (Nat → Int32) × (Nat → Int64) => [(mO, .inr (7, [.ref mS, .ref mD, .ref mR, .ref mT, .int mt, .int ma, .int mn, .ref mW, .ref mQ, .ref mC, .int my, .ref mU, .ref mV, .int (nI u.1), .int mf, .int mg])), (mU, .inl (G.2.1 2, 200, .inl u.2.1)), (mV, .inl (G.2.1 3, 200, .inr (.inl u.2.2)))]) (ws2 := fun u : Nat × (Nat → Int32) × (Nat → Int64) => [(mO, .inr (7, [.ref mS, .ref mD, .ref mR, .ref mT, .int mt, .int ma, .int mn, .ref mW, .ref mQ, .ref mC, .int my, .ref mU, .ref mV, .int (nI u.1), .int mf, .int mg])), (mS, .inl (G.2.1 2, 49, .inl fS)), (mU, .inl (G.2.1 2, 200, .inl u.2.1)), (mV, .inl (G.2.1 3, 200, .inr (.inl u.2.2)))]) rfl rfl rfl (by decide) rfl (fun _ => rfl) (va_runV (As := [.int x0, .long b0]) (rest := []) S (k_X7_adds l G mO mU mV _ mS mD mR mT mW mQ mC mt ma mn my mf mg mM fU lV x0 b0 P B (by  omega) (hR) (hb)) (cwV 2 S.2.2.2.2 gX7_puts_X7_adds rfl rfl rfl (by decide +kernel) ⟨Nat.le_of_ble_eq_true rfl, Nat.le_of_ble_eq_true rfl⟩) ⟨wPre_blind, va_recv C.1 w.1 (ci := 7) (q0 := 0) rfl rfl, wPre_at C w [0, 2, 3] rfl rfl⟩ rfl rfl hl.1 rfl (lv_room (Nat.le_of_ble_eq_true rfl)) dX7_puts_136 ⟨Nat.le_of_ble_eq_true rfl, Nat.le_of_ble_eq_true rfl⟩) (fun u136_1 H locs h136_1 w => ?_)
                        have w : Wd G _ s [(mO, .inr (7, [.ref mS, .ref mD, .ref mR, .ref mT, .int mt, .int ma, .int mn, .ref mW, .ref mQ, .ref mC, .int my, .ref mU, .ref mV, .int (nI u136_1.1), .int mf, .int mg])), (mS, .inl (G.2.1 2, 49, .inl fS)), (mU, .inl (G.2.1 2, 200, .inl u136_1.2.1)), (mV, .inl (G.2.1 3, 200, .inr (.inl u136_1.2.2)))] H locs := w
                        refine lv_iload S.1 S.2.1 dX7_puts_139 (lv_at hl 2 rfl) ?_
                        refine lv_if_eq (tgt := 149) S.1 S.2.1 dX7_puts_141 (by decide) (fun c141_4 => ?_) (fun c141_4 => ?_)
                        · exact absurd c141_4 (by decide)
                        · refine lv_lload_n S.1 S.2.1 dX7_puts_144 rfl (lv_at hl 9 rfl) ?_
                          refine lv_lneg S.1 S.2.1 dX7_puts_145 ?_
                          refine lv_goto (tgt := 150) S.1 S.2.1 dX7_puts_146 (by decide) ?_
                          refine lv_lstore (lv' := [(11, .long (-b0)), (10, .int 0), (9, .int 0), (8, .int 1), (7, .int ((1 : Int32) <<< ((fS (30 + gg)) &&& 31))), (6, .int 4), (5, .int (gX fS gg)), (0, .ref mO), (1, .int (nI gg)), (2, .int x0), (3, .long b0)]) S.1 S.2.1 dX7_puts_150 hl (by decide) rfl (fun ls hl => ?_)
                          refine lv_iload S.1 S.2.1 dX7_puts_152 (lv_at hl 2 rfl) ?_
                          refine lv_if_eq (tgt := 167) S.1 S.2.1 dX7_puts_154 (by decide) (fun c154_4 => ?_) (fun c154_4 => ?_)
                          · refine lv_iload S.1 S.2.1 dX7_puts_167 (lv_at hl 1 rfl) ?_
                            refine lv_if_eq (tgt := 182) S.1 S.2.1 dX7_puts_169 (by decide) (fun c169_4 => ?_) (fun c169_4 => ?_)
                            · refine lv_iload S.1 S.2.1 dX7_puts_182 (lv_at hl 5 rfl) ?_
                              refine lv_if_eq (tgt := 248) S.1 S.2.1 dX7_puts_184 (by decide) (fun c184_4 => ?_) (fun c184_4 => ?_)
                              · exact absurd c184_4 (by decide)
                              · refine lv_iload S.1 S.2.1 dX7_puts_187 (lv_at hl 5 rfl) ?_
                                refine lv_iconst (v := 3) S.1 S.2.1 dX7_puts_189 (by decide) ?_
                                refine lv_icmp_eq (tgt := 200) S.1 S.2.1 dX7_puts_190 (by decide) (fun c190_3 => ?_) (fun c190_3 => ?_)
                                · exact absurd c190_3 (by decide)
                                · refine lv_iload S.1 S.2.1 dX7_puts_193 (lv_at hl 5 rfl) ?_
                                  refine lv_bipush (v := 6) S.1 S.2.1 dX7_puts_195 (by decide) ?_
                                  refine lv_icmp_ne (tgt := 204) S.1 S.2.1 dX7_puts_197 (by decide) (fun c197_2 => ?_) (fun c197_2 => ?_)
                                  · refine lv_iconst (v := 0) S.1 S.2.1 dX7_puts_204 (by decide) ?_
                                    refine lv_istore (lv' := [(13, .int 0), (11, .long (-b0)), (10, .int 0), (9, .int 0), (8, .int 1), (7, .int ((1 : Int32) <<< ((fS (30 + gg)) &&& 31))), (6, .int 4), (5, .int (gX fS gg)), (0, .ref mO), (1, .int (nI gg)), (2, .int x0), (3, .long b0)]) S.1 S.2.1 dX7_puts_205 hl (by decide) rfl (fun ls hl => ?_)
                                    refine lv_iload S.1 S.2.1 dX7_puts_207 (lv_at hl 3 rfl) ?_
                                    refine lv_istore (lv' := [(14, .int 0), (13, .int 0), (11, .long (-b0)), (10, .int 0), (9, .int 0), (8, .int 1), (7, .int ((1 : Int32) <<< ((fS (30 + gg)) &&& 31))), (6, .int 4), (5, .int (gX fS gg)), (0, .ref mO), (1, .int (nI gg)), (2, .int x0), (3, .long b0)]) S.1 S.2.1 dX7_puts_209 hl (by decide) rfl (fun ls hl => ?_)
                                    refine lv_aload_n S.1 S.2.1 dX7_puts_211 rfl (lv_at hl 9 rfl) ?_
                                    refine lv_iload_n S.1 S.2.1 dX7_puts_212 rfl (lv_at hl 11 rfl) ?_
                                    refine lv_iload S.1 S.2.1 dX7_puts_213 (lv_at hl 8 rfl) ?_
                                    refine lv_ior S.1 S.2.1 dX7_puts_215 ?_
                                    refine lv_iload S.1 S.2.1 dX7_puts_216 (lv_at hl 6 rfl) ?_
                                    refine lv_ior S.1 S.2.1 dX7_puts_218 ?_
                                    refine lv_iload S.1 S.2.1 dX7_puts_219 (lv_at hl 0 rfl) ?_
                                    refine lv_if_eq (tgt := 230) S.1 S.2.1 dX7_puts_221 (by decide) (fun c221_3 => ?_) (fun c221_3 => ?_)
                                    · refine lv_lload S.1 S.2.1 dX7_puts_230 (lv_at hl 2 rfl) ?_
                                      refine lv_iload S.1 S.2.1 dX7_puts_232 (lv_at hl 1 rfl) ?_
                                      refine lv_if_eq (tgt := 243) S.1 S.2.1 dX7_puts_234 (by decide) (fun c234_3 => ?_) (fun c234_3 => ?_)
                                      · refine lv_lconst (v := 1) S.1 S.2.1 dX7_puts_243 (by decide) ?_
                                        refine lv_lmul S.1 S.2.1 dX7_puts_244 ?_
                                        refine cq_v C w [0, 2, 3] [1] [1, 0, 2, 3] (wr := [(mS, .inl (G.2.1 2, 49, .inl fS))]) (w' := fun u : Nat × (Nat → Int32) × (Nat → Int64) => [(mO, .inr (7, [.ref mS, .ref mD, .ref mR, .ref mT, .int mt, .int ma, .int mn, .ref mW, .ref mQ, .ref mC, .int my, .ref mU, .ref mV, .int (nI u.1), .int mf, .int mg])), (mU, .inl (G.2.1 2, 200, .inl u.2.1)), (mV, .inl (G.2.1 3, 200, .inr (.inl u.2.2)))]) (ws2 := fun u : Nat × (Nat → Int32) × (Nat → Int64) => [(mO, .inr (7, [.ref mS, .ref mD, .ref mR, .ref mT, .int mt, .int ma, .int mn, .ref mW, .ref mQ, .ref mC, .int my, .ref mU, .ref mV, .int (nI u.1), .int mf, .int mg])), (mS, .inl (G.2.1 2, 49, .inl fS)), (mU, .inl (G.2.1 2, 200, .inl u.2.1)), (mV, .inl (G.2.1 3, 200, .inr (.inl u.2.2)))]) rfl rfl rfl (by decide) rfl (fun _ => rfl) (va_runV (As := [.int ((x0 ||| (gX fS gg)) ||| ((1 : Int32) <<< ((fS (30 + gg)) &&& 31))), .long ((-b0) * 1)]) (rest := []) S (k_X7_adds l G mO mU mV _ mS mD mR mT mW mQ mC mt ma mn my mf mg u136_1.1 u136_1.2.1 u136_1.2.2 ((x0 ||| (gX fS gg)) ||| ((1 : Int32) <<< ((fS (30 + gg)) &&& 31))) ((-b0) * 1) (pAdd P x0 B) ((-B) * 1) (by have := (h136_1).2.1; omega) (h136_1.2.2) (by rw [hb]; simp only [Int64.ofInt_mul, Int64.ofInt_neg]; first | done | rfl)) (cwV 2 S.2.2.2.2 gX7_puts_X7_adds rfl rfl rfl (by decide +kernel) ⟨Nat.le_of_ble_eq_true rfl, Nat.le_of_ble_eq_true rfl⟩) ⟨wPre_blind, va_recv C.1 w.1 (ci := 7) (q0 := 0) rfl rfl, wPre_at C w [0, 2, 3] rfl rfl⟩ rfl rfl hl.1 rfl (lv_room (Nat.le_of_ble_eq_true rfl)) dX7_puts_245 ⟨Nat.le_of_ble_eq_true rfl, Nat.le_of_ble_eq_true rfl⟩) (fun u245_3 H locs h245_3 w => ?_)
                                        have w : Wd G _ s [(mO, .inr (7, [.ref mS, .ref mD, .ref mR, .ref mT, .int mt, .int ma, .int mn, .ref mW, .ref mQ, .ref mC, .int my, .ref mU, .ref mV, .int (nI u245_3.1), .int mf, .int mg])), (mS, .inl (G.2.1 2, 49, .inl fS)), (mU, .inl (G.2.1 2, 200, .inl u245_3.2.1)), (mV, .inl (G.2.1 3, 200, .inr (.inl u245_3.2.2)))] H locs := w
                                        exact W.vret S.1 S.2.1 hr (fun t ht _ => ⟨⟨(u245_3.1, u245_3.2.1, u245_3.2.2), rfl, ⟨by have := (h136_1).1; have := (h245_3).1; dsimp only; omega, by have := (h136_1).2.1; have := (h245_3).2.1; dsimp only; omega, (h245_3).2.2.cong (fun t => by first | exact rq4_0 t | exact rq4_1 t | exact rq4_2 t | exact rq4_3 t | exact rq4_4 t | exact rq4_5 t | exact rq4_6 t | exact rq4_7 t)⟩, by rw [ht]; exact w.1, w.2.1⟩, w.2.2.F ht⟩) w.2.2.2.2 dX7_puts_248
                                      · exact absurd c234_3 (by decide)
                                    · exact absurd c221_3 (by decide)
                                  · exact absurd c197_2 (by decide)
                            · exact absurd c169_4 (by decide)
                          · exact absurd c154_4 (by decide)
                    · exact absurd c118_2 (by decide)
            · exact absurd c86_3 (by decide)
        · exact absurd c54_3 (by decide)
    · exact absurd c26_4 (by decide)
  · subst hcs
    refine lv_iload S.1 S.2.1 dX7_puts_24 (lv_at hl 0 rfl) ?_
    refine lv_if_ne (tgt := 33) S.1 S.2.1 dX7_puts_26 (by decide) (fun c26_5 => ?_) (fun c26_5 => ?_)
    · refine lv_iconst (v := 1) S.1 S.2.1 dX7_puts_33 (by decide) ?_
      refine lv_aload_n S.1 S.2.1 dX7_puts_34 rfl (lv_at hl 2 rfl) ?_
      refine w_get S C w (CC := RX7) (T := TX7) (N := 16) (ref := "GateSumsModel") im_X7_puts_X7 0 rfl rfl 0 (by decide) (List.mem_of_getElem? (i := 1) rfl) (fun _ h => h) rfl dX7_puts_35 ?_
      refine lv_bipush (v := 30) S.1 S.2.1 dX7_puts_38 (by decide) ?_
      refine lv_iload_n S.1 S.2.1 dX7_puts_40 rfl (lv_at hl 3 rfl) ?_
      refine lv_iadd S.1 S.2.1 dX7_puts_41 ?_
      refine w_iald S C w 1 rfl (ixA 30 _ (by omega)) dX7_puts_42 ?_
      refine w_topi (y := (fS (30 + gg))) (congrArg fS (ixc 30 _ (by omega))) ?_
      refine lv_ishl S.1 S.2.1 dX7_puts_43 ?_
      refine lv_istore (lv' := [(7, .int ((1 : Int32) <<< ((fS (30 + gg)) &&& 31))), (6, .int 5), (5, .int (gX fS gg)), (0, .ref mO), (1, .int (nI gg)), (2, .int x0), (3, .long b0)]) S.1 S.2.1 dX7_puts_44 hl (by decide) rfl (fun ls hl => ?_)
      refine lv_iload S.1 S.2.1 dX7_puts_46 (lv_at hl 1 rfl) ?_
      refine lv_if_eq (tgt := 70) S.1 S.2.1 dX7_puts_48 (by decide) (fun c48_5 => ?_) (fun c48_5 => ?_)
      · exact absurd c48_5 (by decide)
      · refine lv_iload S.1 S.2.1 dX7_puts_51 (lv_at hl 1 rfl) ?_
        refine lv_iconst (v := 4) S.1 S.2.1 dX7_puts_53 (by decide) ?_
        refine lv_icmp_eq (tgt := 70) S.1 S.2.1 dX7_puts_54 (by decide) (fun c54_4 => ?_) (fun c54_4 => ?_)
        · exact absurd c54_4 (by decide)
        · refine lv_iload S.1 S.2.1 dX7_puts_57 (lv_at hl 1 rfl) ?_
          refine lv_iconst (v := 5) S.1 S.2.1 dX7_puts_59 (by decide) ?_
          refine lv_icmp_eq (tgt := 70) S.1 S.2.1 dX7_puts_60 (by decide) (fun c60_3 => ?_) (fun c60_3 => ?_)
          · refine lv_iconst (v := 1) S.1 S.2.1 dX7_puts_70 (by decide) ?_
            refine lv_goto (tgt := 75) S.1 S.2.1 dX7_puts_71 (by decide) ?_
            refine lv_istore (lv' := [(8, .int 1), (7, .int ((1 : Int32) <<< ((fS (30 + gg)) &&& 31))), (6, .int 5), (5, .int (gX fS gg)), (0, .ref mO), (1, .int (nI gg)), (2, .int x0), (3, .long b0)]) S.1 S.2.1 dX7_puts_75 hl (by decide) rfl (fun ls hl => ?_)
            refine lv_iload S.1 S.2.1 dX7_puts_77 (lv_at hl 2 rfl) ?_
            refine lv_iconst (v := 1) S.1 S.2.1 dX7_puts_79 (by decide) ?_
            refine lv_icmp_eq (tgt := 93) S.1 S.2.1 dX7_puts_80 (by decide) (fun c80_5 => ?_) (fun c80_5 => ?_)
            · exact absurd c80_5 (by decide)
            · refine lv_iload S.1 S.2.1 dX7_puts_83 (lv_at hl 2 rfl) ?_
              refine lv_iconst (v := 4) S.1 S.2.1 dX7_puts_85 (by decide) ?_
              refine lv_icmp_eq (tgt := 93) S.1 S.2.1 dX7_puts_86 (by decide) (fun c86_4 => ?_) (fun c86_4 => ?_)
              · exact absurd c86_4 (by decide)
              · refine lv_iconst (v := 1) S.1 S.2.1 dX7_puts_89 (by decide) ?_
                refine lv_goto (tgt := 94) S.1 S.2.1 dX7_puts_90 (by decide) ?_
                refine lv_istore (lv' := [(9, .int 1), (8, .int 1), (7, .int ((1 : Int32) <<< ((fS (30 + gg)) &&& 31))), (6, .int 5), (5, .int (gX fS gg)), (0, .ref mO), (1, .int (nI gg)), (2, .int x0), (3, .long b0)]) S.1 S.2.1 dX7_puts_94 hl (by decide) rfl (fun ls hl => ?_)
                refine lv_iload S.1 S.2.1 dX7_puts_96 (lv_at hl 3 rfl) ?_
                refine lv_iconst (v := 2) S.1 S.2.1 dX7_puts_98 (by decide) ?_
                refine lv_icmp_eq (tgt := 121) S.1 S.2.1 dX7_puts_99 (by decide) (fun c99_5 => ?_) (fun c99_5 => ?_)
                · exact absurd c99_5 (by decide)
                · refine lv_iload S.1 S.2.1 dX7_puts_102 (lv_at hl 3 rfl) ?_
                  refine lv_iconst (v := 3) S.1 S.2.1 dX7_puts_104 (by decide) ?_
                  refine lv_icmp_eq (tgt := 121) S.1 S.2.1 dX7_puts_105 (by decide) (fun c105_4 => ?_) (fun c105_4 => ?_)
                  · exact absurd c105_4 (by decide)
                  · refine lv_iload S.1 S.2.1 dX7_puts_108 (lv_at hl 3 rfl) ?_
                    refine lv_iconst (v := 5) S.1 S.2.1 dX7_puts_110 (by decide) ?_
                    refine lv_icmp_eq (tgt := 121) S.1 S.2.1 dX7_puts_111 (by decide) (fun c111_3 => ?_) (fun c111_3 => ?_)
                    · refine lv_iconst (v := 1) S.1 S.2.1 dX7_puts_121 (by decide) ?_
                      refine lv_goto (tgt := 126) S.1 S.2.1 dX7_puts_122 (by decide) ?_
                      refine lv_istore (lv' := [(10, .int 1), (9, .int 1), (8, .int 1), (7, .int ((1 : Int32) <<< ((fS (30 + gg)) &&& 31))), (6, .int 5), (5, .int (gX fS gg)), (0, .ref mO), (1, .int (nI gg)), (2, .int x0), (3, .long b0)]) S.1 S.2.1 dX7_puts_126 hl (by decide) rfl (fun ls hl => ?_)
                      refine lv_iload S.1 S.2.1 dX7_puts_128 (lv_at hl 2 rfl) ?_
                      refine lv_if_eq (tgt := 139) S.1 S.2.1 dX7_puts_130 (by decide) (fun c130_5 => ?_) (fun c130_5 => ?_)
                      · exact absurd c130_5 (by decide)
                      · refine lv_aload_n S.1 S.2.1 dX7_puts_133 rfl (lv_at hl 6 rfl) ?_
                        refine lv_iload_n S.1 S.2.1 dX7_puts_134 rfl (lv_at hl 8 rfl) ?_
                        refine lv_lload_n S.1 S.2.1 dX7_puts_135 rfl (lv_at hl 9 rfl) ?_
                        refine cq_v C w [0, 2, 3] [1] [1, 0, 2, 3] (wr := [(mS, .inl (G.2.1 2, 49, .inl fS))]) (w' := fun u : Nat × (Nat → Int32) × (Nat → Int64) => [(mO, .inr (7, [.ref mS, .ref mD, .ref mR, .ref mT, .int mt, .int ma, .int mn, .ref mW, .ref mQ, .ref mC, .int my, .ref mU, .ref mV, .int (nI u.1), .int mf, .int mg])), (mU, .inl (G.2.1 2, 200, .inl u.2.1)), (mV, .inl (G.2.1 3, 200, .inr (.inl u.2.2)))]) (ws2 := fun u : Nat × (Nat → Int32) × (Nat → Int64) => [(mO, .inr (7, [.ref mS, .ref mD, .ref mR, .ref mT, .int mt, .int ma, .int mn, .ref mW, .ref mQ, .ref mC, .int my, .ref mU, .ref mV, .int (nI u.1), .int mf, .int mg])), (mS, .inl (G.2.1 2, 49, .inl fS)), (mU, .inl (G.2.1 2, 200, .inl u.2.1)), (mV, .inl (G.2.1 3, 200, .inr (.inl u.2.2)))]) rfl rfl rfl (by decide) rfl (fun _ => rfl) (va_runV (As := [.int x0, .long b0]) (rest := []) S (k_X7_adds l G mO mU mV _ mS mD mR mT mW mQ mC mt ma mn my mf mg mM fU lV x0 b0 P B (by  omega) (hR) (hb)) (cwV 2 S.2.2.2.2 gX7_puts_X7_adds rfl rfl rfl (by decide +kernel) ⟨Nat.le_of_ble_eq_true rfl, Nat.le_of_ble_eq_true rfl⟩) ⟨wPre_blind, va_recv C.1 w.1 (ci := 7) (q0 := 0) rfl rfl, wPre_at C w [0, 2, 3] rfl rfl⟩ rfl rfl hl.1 rfl (lv_room (Nat.le_of_ble_eq_true rfl)) dX7_puts_136 ⟨Nat.le_of_ble_eq_true rfl, Nat.le_of_ble_eq_true rfl⟩) (fun u136_2 H locs h136_2 w => ?_)
                        have w : Wd G _ s [(mO, .inr (7, [.ref mS, .ref mD, .ref mR, .ref mT, .int mt, .int ma, .int mn, .ref mW, .ref mQ, .ref mC, .int my, .ref mU, .ref mV, .int (nI u136_2.1), .int mf, .int mg])), (mS, .inl (G.2.1 2, 49, .inl fS)), (mU, .inl (G.2.1 2, 200, .inl u136_2.2.1)), (mV, .inl (G.2.1 3, 200, .inr (.inl u136_2.2.2)))] H locs := w
                        refine lv_iload S.1 S.2.1 dX7_puts_139 (lv_at hl 2 rfl) ?_
                        refine lv_if_eq (tgt := 149) S.1 S.2.1 dX7_puts_141 (by decide) (fun c141_5 => ?_) (fun c141_5 => ?_)
                        · exact absurd c141_5 (by decide)
                        · refine lv_lload_n S.1 S.2.1 dX7_puts_144 rfl (lv_at hl 9 rfl) ?_
                          refine lv_lneg S.1 S.2.1 dX7_puts_145 ?_
                          refine lv_goto (tgt := 150) S.1 S.2.1 dX7_puts_146 (by decide) ?_
                          refine lv_lstore (lv' := [(11, .long (-b0)), (10, .int 1), (9, .int 1), (8, .int 1), (7, .int ((1 : Int32) <<< ((fS (30 + gg)) &&& 31))), (6, .int 5), (5, .int (gX fS gg)), (0, .ref mO), (1, .int (nI gg)), (2, .int x0), (3, .long b0)]) S.1 S.2.1 dX7_puts_150 hl (by decide) rfl (fun ls hl => ?_)
                          refine lv_iload S.1 S.2.1 dX7_puts_152 (lv_at hl 2 rfl) ?_
                          refine lv_if_eq (tgt := 167) S.1 S.2.1 dX7_puts_154 (by decide) (fun c154_5 => ?_) (fun c154_5 => ?_)
                          · exact absurd c154_5 (by decide)
                          · refine lv_aload_n S.1 S.2.1 dX7_puts_157 rfl (lv_at hl 7 rfl) ?_
                            refine lv_iload_n S.1 S.2.1 dX7_puts_158 rfl (lv_at hl 9 rfl) ?_
                            refine lv_iload S.1 S.2.1 dX7_puts_159 (lv_at hl 6 rfl) ?_
                            refine lv_ior S.1 S.2.1 dX7_puts_161 ?_
                            refine lv_lload S.1 S.2.1 dX7_puts_162 (lv_at hl 0 rfl) ?_
                            refine cq_v C w [0, 2, 3] [1] [1, 0, 2, 3] (wr := [(mS, .inl (G.2.1 2, 49, .inl fS))]) (w' := fun u : Nat × (Nat → Int32) × (Nat → Int64) => [(mO, .inr (7, [.ref mS, .ref mD, .ref mR, .ref mT, .int mt, .int ma, .int mn, .ref mW, .ref mQ, .ref mC, .int my, .ref mU, .ref mV, .int (nI u.1), .int mf, .int mg])), (mU, .inl (G.2.1 2, 200, .inl u.2.1)), (mV, .inl (G.2.1 3, 200, .inr (.inl u.2.2)))]) (ws2 := fun u : Nat × (Nat → Int32) × (Nat → Int64) => [(mO, .inr (7, [.ref mS, .ref mD, .ref mR, .ref mT, .int mt, .int ma, .int mn, .ref mW, .ref mQ, .ref mC, .int my, .ref mU, .ref mV, .int (nI u.1), .int mf, .int mg])), (mS, .inl (G.2.1 2, 49, .inl fS)), (mU, .inl (G.2.1 2, 200, .inl u.2.1)), (mV, .inl (G.2.1 3, 200, .inr (.inl u.2.2)))]) rfl rfl rfl (by decide) rfl (fun _ => rfl) (va_runV (As := [.int (x0 ||| (gX fS gg)), .long (-b0)]) (rest := []) S (k_X7_adds l G mO mU mV _ mS mD mR mT mW mQ mC mt ma mn my mf mg u136_2.1 u136_2.2.1 u136_2.2.2 (x0 ||| (gX fS gg)) (-b0) (pAdd P x0 B) (-B) (by have := (h136_2).2.1; omega) (h136_2.2.2) (by rw [hb]; simp only [Int64.ofInt_mul, Int64.ofInt_neg]; first | done | rfl)) (cwV 2 S.2.2.2.2 gX7_puts_X7_adds rfl rfl rfl (by decide +kernel) ⟨Nat.le_of_ble_eq_true rfl, Nat.le_of_ble_eq_true rfl⟩) ⟨wPre_blind, va_recv C.1 w.1 (ci := 7) (q0 := 0) rfl rfl, wPre_at C w [0, 2, 3] rfl rfl⟩ rfl rfl hl.1 rfl (lv_room (Nat.le_of_ble_eq_true rfl)) dX7_puts_164 ⟨Nat.le_of_ble_eq_true rfl, Nat.le_of_ble_eq_true rfl⟩) (fun u164_3 H locs h164_3 w => ?_)
                            have w : Wd G _ s [(mO, .inr (7, [.ref mS, .ref mD, .ref mR, .ref mT, .int mt, .int ma, .int mn, .ref mW, .ref mQ, .ref mC, .int my, .ref mU, .ref mV, .int (nI u164_3.1), .int mf, .int mg])), (mS, .inl (G.2.1 2, 49, .inl fS)), (mU, .inl (G.2.1 2, 200, .inl u164_3.2.1)), (mV, .inl (G.2.1 3, 200, .inr (.inl u164_3.2.2)))] H locs := w
                            refine lv_iload S.1 S.2.1 dX7_puts_167 (lv_at hl 1 rfl) ?_
                            refine lv_if_eq (tgt := 182) S.1 S.2.1 dX7_puts_169 (by decide) (fun c169_5 => ?_) (fun c169_5 => ?_)
                            · exact absurd c169_5 (by decide)
                            · refine lv_aload_n S.1 S.2.1 dX7_puts_172 rfl (lv_at hl 7 rfl) ?_
                              refine lv_iload_n S.1 S.2.1 dX7_puts_173 rfl (lv_at hl 9 rfl) ?_
                              refine lv_iload S.1 S.2.1 dX7_puts_174 (lv_at hl 4 rfl) ?_
                              refine lv_ior S.1 S.2.1 dX7_puts_176 ?_
                              refine lv_lload S.1 S.2.1 dX7_puts_177 (lv_at hl 0 rfl) ?_
                              refine cq_v C w [0, 2, 3] [1] [1, 0, 2, 3] (wr := [(mS, .inl (G.2.1 2, 49, .inl fS))]) (w' := fun u : Nat × (Nat → Int32) × (Nat → Int64) => [(mO, .inr (7, [.ref mS, .ref mD, .ref mR, .ref mT, .int mt, .int ma, .int mn, .ref mW, .ref mQ, .ref mC, .int my, .ref mU, .ref mV, .int (nI u.1), .int mf, .int mg])), (mU, .inl (G.2.1 2, 200, .inl u.2.1)), (mV, .inl (G.2.1 3, 200, .inr (.inl u.2.2)))]) (ws2 := fun u : Nat × (Nat → Int32) × (Nat → Int64) => [(mO, .inr (7, [.ref mS, .ref mD, .ref mR, .ref mT, .int mt, .int ma, .int mn, .ref mW, .ref mQ, .ref mC, .int my, .ref mU, .ref mV, .int (nI u.1), .int mf, .int mg])), (mS, .inl (G.2.1 2, 49, .inl fS)), (mU, .inl (G.2.1 2, 200, .inl u.2.1)), (mV, .inl (G.2.1 3, 200, .inr (.inl u.2.2)))]) rfl rfl rfl (by decide) rfl (fun _ => rfl) (va_runV (As := [.int (x0 ||| ((1 : Int32) <<< ((fS (30 + gg)) &&& 31))), .long (-b0)]) (rest := []) S (k_X7_adds l G mO mU mV _ mS mD mR mT mW mQ mC mt ma mn my mf mg u164_3.1 u164_3.2.1 u164_3.2.2 (x0 ||| ((1 : Int32) <<< ((fS (30 + gg)) &&& 31))) (-b0) (pAdd (pAdd P x0 B) (x0 ||| (gX fS gg)) (-B)) (-B) (by have := (h136_2).2.1; have := (h164_3).2.1; omega) (h164_3.2.2) (by rw [hb]; simp only [Int64.ofInt_mul, Int64.ofInt_neg]; first | done | rfl)) (cwV 2 S.2.2.2.2 gX7_puts_X7_adds rfl rfl rfl (by decide +kernel) ⟨Nat.le_of_ble_eq_true rfl, Nat.le_of_ble_eq_true rfl⟩) ⟨wPre_blind, va_recv C.1 w.1 (ci := 7) (q0 := 0) rfl rfl, wPre_at C w [0, 2, 3] rfl rfl⟩ rfl rfl hl.1 rfl (lv_room (Nat.le_of_ble_eq_true rfl)) dX7_puts_179 ⟨Nat.le_of_ble_eq_true rfl, Nat.le_of_ble_eq_true rfl⟩) (fun u179_2 H locs h179_2 w => ?_)
                              have w : Wd G _ s [(mO, .inr (7, [.ref mS, .ref mD, .ref mR, .ref mT, .int mt, .int ma, .int mn, .ref mW, .ref mQ, .ref mC, .int my, .ref mU, .ref mV, .int (nI u179_2.1), .int mf, .int mg])), (mS, .inl (G.2.1 2, 49, .inl fS)), (mU, .inl (G.2.1 2, 200, .inl u179_2.2.1)), (mV, .inl (G.2.1 3, 200, .inr (.inl u179_2.2.2)))] H locs := w
                              refine lv_iload S.1 S.2.1 dX7_puts_182 (lv_at hl 5 rfl) ?_
                              refine lv_if_eq (tgt := 248) S.1 S.2.1 dX7_puts_184 (by decide) (fun c184_5 => ?_) (fun c184_5 => ?_)
                              · exact absurd c184_5 (by decide)
                              · refine lv_iload S.1 S.2.1 dX7_puts_187 (lv_at hl 5 rfl) ?_
                                refine lv_iconst (v := 3) S.1 S.2.1 dX7_puts_189 (by decide) ?_
                                refine lv_icmp_eq (tgt := 200) S.1 S.2.1 dX7_puts_190 (by decide) (fun c190_4 => ?_) (fun c190_4 => ?_)
                                · exact absurd c190_4 (by decide)
                                · refine lv_iload S.1 S.2.1 dX7_puts_193 (lv_at hl 5 rfl) ?_
                                  refine lv_bipush (v := 6) S.1 S.2.1 dX7_puts_195 (by decide) ?_
                                  refine lv_icmp_ne (tgt := 204) S.1 S.2.1 dX7_puts_197 (by decide) (fun c197_3 => ?_) (fun c197_3 => ?_)
                                  · refine lv_iconst (v := 0) S.1 S.2.1 dX7_puts_204 (by decide) ?_
                                    refine lv_istore (lv' := [(13, .int 0), (11, .long (-b0)), (10, .int 1), (9, .int 1), (8, .int 1), (7, .int ((1 : Int32) <<< ((fS (30 + gg)) &&& 31))), (6, .int 5), (5, .int (gX fS gg)), (0, .ref mO), (1, .int (nI gg)), (2, .int x0), (3, .long b0)]) S.1 S.2.1 dX7_puts_205 hl (by decide) rfl (fun ls hl => ?_)
                                    refine lv_iload S.1 S.2.1 dX7_puts_207 (lv_at hl 3 rfl) ?_
                                    refine lv_istore (lv' := [(14, .int 1), (13, .int 0), (11, .long (-b0)), (10, .int 1), (9, .int 1), (8, .int 1), (7, .int ((1 : Int32) <<< ((fS (30 + gg)) &&& 31))), (6, .int 5), (5, .int (gX fS gg)), (0, .ref mO), (1, .int (nI gg)), (2, .int x0), (3, .long b0)]) S.1 S.2.1 dX7_puts_209 hl (by decide) rfl (fun ls hl => ?_)
                                    refine lv_aload_n S.1 S.2.1 dX7_puts_211 rfl (lv_at hl 9 rfl) ?_
                                    refine lv_iload_n S.1 S.2.1 dX7_puts_212 rfl (lv_at hl 11 rfl) ?_
                                    refine lv_iload S.1 S.2.1 dX7_puts_213 (lv_at hl 8 rfl) ?_
                                    refine lv_ior S.1 S.2.1 dX7_puts_215 ?_
                                    refine lv_iload S.1 S.2.1 dX7_puts_216 (lv_at hl 6 rfl) ?_
                                    refine lv_ior S.1 S.2.1 dX7_puts_218 ?_
                                    refine lv_iload S.1 S.2.1 dX7_puts_219 (lv_at hl 0 rfl) ?_
                                    refine lv_if_eq (tgt := 230) S.1 S.2.1 dX7_puts_221 (by decide) (fun c221_4 => ?_) (fun c221_4 => ?_)
                                    · exact absurd c221_4 (by decide)
                                    · refine lv_lload S.1 S.2.1 dX7_puts_224 (lv_at hl 2 rfl) ?_
                                      refine lv_lneg S.1 S.2.1 dX7_puts_226 ?_
                                      refine lv_goto (tgt := 232) S.1 S.2.1 dX7_puts_227 (by decide) ?_
                                      refine lv_iload S.1 S.2.1 dX7_puts_232 (lv_at hl 1 rfl) ?_
                                      refine lv_if_eq (tgt := 243) S.1 S.2.1 dX7_puts_234 (by decide) (fun c234_4 => ?_) (fun c234_4 => ?_)
                                      · refine lv_lconst (v := 1) S.1 S.2.1 dX7_puts_243 (by decide) ?_
                                        refine lv_lmul S.1 S.2.1 dX7_puts_244 ?_
                                        refine cq_v C w [0, 2, 3] [1] [1, 0, 2, 3] (wr := [(mS, .inl (G.2.1 2, 49, .inl fS))]) (w' := fun u : Nat × (Nat → Int32) × (Nat → Int64) => [(mO, .inr (7, [.ref mS, .ref mD, .ref mR, .ref mT, .int mt, .int ma, .int mn, .ref mW, .ref mQ, .ref mC, .int my, .ref mU, .ref mV, .int (nI u.1), .int mf, .int mg])), (mU, .inl (G.2.1 2, 200, .inl u.2.1)), (mV, .inl (G.2.1 3, 200, .inr (.inl u.2.2)))]) (ws2 := fun u : Nat × (Nat → Int32) × (Nat → Int64) => [(mO, .inr (7, [.ref mS, .ref mD, .ref mR, .ref mT, .int mt, .int ma, .int mn, .ref mW, .ref mQ, .ref mC, .int my, .ref mU, .ref mV, .int (nI u.1), .int mf, .int mg])), (mS, .inl (G.2.1 2, 49, .inl fS)), (mU, .inl (G.2.1 2, 200, .inl u.2.1)), (mV, .inl (G.2.1 3, 200, .inr (.inl u.2.2)))]) rfl rfl rfl (by decide) rfl (fun _ => rfl) (va_runV (As := [.int ((x0 ||| (gX fS gg)) ||| ((1 : Int32) <<< ((fS (30 + gg)) &&& 31))), .long ((-(-b0)) * 1)]) (rest := []) S (k_X7_adds l G mO mU mV _ mS mD mR mT mW mQ mC mt ma mn my mf mg u179_2.1 u179_2.2.1 u179_2.2.2 ((x0 ||| (gX fS gg)) ||| ((1 : Int32) <<< ((fS (30 + gg)) &&& 31))) ((-(-b0)) * 1) (pAdd (pAdd (pAdd P x0 B) (x0 ||| (gX fS gg)) (-B)) (x0 ||| ((1 : Int32) <<< ((fS (30 + gg)) &&& 31))) (-B)) ((-(-B)) * 1) (by have := (h136_2).2.1; have := (h164_3).2.1; have := (h179_2).2.1; omega) (h179_2.2.2) (by rw [hb]; simp only [Int64.ofInt_mul, Int64.ofInt_neg]; first | done | rfl)) (cwV 2 S.2.2.2.2 gX7_puts_X7_adds rfl rfl rfl (by decide +kernel) ⟨Nat.le_of_ble_eq_true rfl, Nat.le_of_ble_eq_true rfl⟩) ⟨wPre_blind, va_recv C.1 w.1 (ci := 7) (q0 := 0) rfl rfl, wPre_at C w [0, 2, 3] rfl rfl⟩ rfl rfl hl.1 rfl (lv_room (Nat.le_of_ble_eq_true rfl)) dX7_puts_245 ⟨Nat.le_of_ble_eq_true rfl, Nat.le_of_ble_eq_true rfl⟩) (fun u245_4 H locs h245_4 w => ?_)
                                        have w : Wd G _ s [(mO, .inr (7, [.ref mS, .ref mD, .ref mR, .ref mT, .int mt, .int ma, .int mn, .ref mW, .ref mQ, .ref mC, .int my, .ref mU, .ref mV, .int (nI u245_4.1), .int mf, .int mg])), (mS, .inl (G.2.1 2, 49, .inl fS)), (mU, .inl (G.2.1 2, 200, .inl u245_4.2.1)), (mV, .inl (G.2.1 3, 200, .inr (.inl u245_4.2.2)))] H locs := w
                                        exact W.vret S.1 S.2.1 hr (fun t ht _ => ⟨⟨(u245_4.1, u245_4.2.1, u245_4.2.2), rfl, ⟨by have := (h136_2).1; have := (h164_3).1; have := (h179_2).1; have := (h245_4).1; dsimp only; omega, by have := (h136_2).2.1; have := (h164_3).2.1; have := (h179_2).2.1; have := (h245_4).2.1; dsimp only; omega, (h245_4).2.2.cong (fun t => by first | exact rq4_0 t | exact rq4_1 t | exact rq4_2 t | exact rq4_3 t | exact rq4_4 t | exact rq4_5 t | exact rq4_6 t | exact rq4_7 t)⟩, by rw [ht]; exact w.1, w.2.1⟩, w.2.2.F ht⟩) w.2.2.2.2 dX7_puts_248
                                      · exact absurd c234_4 (by decide)
                                  · exact absurd c197_3 (by decide)
                    · exact absurd c111_3 (by decide)
          · exact absurd c60_3 (by decide)
    · exact absurd c26_5 (by decide)
  · subst hcs
    refine lv_iload S.1 S.2.1 dX7_puts_24 (lv_at hl 0 rfl) ?_
    refine lv_if_ne (tgt := 33) S.1 S.2.1 dX7_puts_26 (by decide) (fun c26_6 => ?_) (fun c26_6 => ?_)
    · refine lv_iconst (v := 1) S.1 S.2.1 dX7_puts_33 (by decide) ?_
      refine lv_aload_n S.1 S.2.1 dX7_puts_34 rfl (lv_at hl 2 rfl) ?_
      refine w_get S C w (CC := RX7) (T := TX7) (N := 16) (ref := "GateSumsModel") im_X7_puts_X7 0 rfl rfl 0 (by decide) (List.mem_of_getElem? (i := 1) rfl) (fun _ h => h) rfl dX7_puts_35 ?_
      refine lv_bipush (v := 30) S.1 S.2.1 dX7_puts_38 (by decide) ?_
      refine lv_iload_n S.1 S.2.1 dX7_puts_40 rfl (lv_at hl 3 rfl) ?_
      refine lv_iadd S.1 S.2.1 dX7_puts_41 ?_
      refine w_iald S C w 1 rfl (ixA 30 _ (by omega)) dX7_puts_42 ?_
      refine w_topi (y := (fS (30 + gg))) (congrArg fS (ixc 30 _ (by omega))) ?_
      refine lv_ishl S.1 S.2.1 dX7_puts_43 ?_
      refine lv_istore (lv' := [(7, .int ((1 : Int32) <<< ((fS (30 + gg)) &&& 31))), (6, .int 6), (5, .int (gX fS gg)), (0, .ref mO), (1, .int (nI gg)), (2, .int x0), (3, .long b0)]) S.1 S.2.1 dX7_puts_44 hl (by decide) rfl (fun ls hl => ?_)
      refine lv_iload S.1 S.2.1 dX7_puts_46 (lv_at hl 1 rfl) ?_
      refine lv_if_eq (tgt := 70) S.1 S.2.1 dX7_puts_48 (by decide) (fun c48_6 => ?_) (fun c48_6 => ?_)
      · exact absurd c48_6 (by decide)
      · refine lv_iload S.1 S.2.1 dX7_puts_51 (lv_at hl 1 rfl) ?_
        refine lv_iconst (v := 4) S.1 S.2.1 dX7_puts_53 (by decide) ?_
        refine lv_icmp_eq (tgt := 70) S.1 S.2.1 dX7_puts_54 (by decide) (fun c54_5 => ?_) (fun c54_5 => ?_)
        · exact absurd c54_5 (by decide)
        · refine lv_iload S.1 S.2.1 dX7_puts_57 (lv_at hl 1 rfl) ?_
          refine lv_iconst (v := 5) S.1 S.2.1 dX7_puts_59 (by decide) ?_
          refine lv_icmp_eq (tgt := 70) S.1 S.2.1 dX7_puts_60 (by decide) (fun c60_4 => ?_) (fun c60_4 => ?_)
          · exact absurd c60_4 (by decide)
          · refine lv_iload S.1 S.2.1 dX7_puts_63 (lv_at hl 1 rfl) ?_
            refine lv_bipush (v := 6) S.1 S.2.1 dX7_puts_65 (by decide) ?_
            refine lv_icmp_ne (tgt := 74) S.1 S.2.1 dX7_puts_67 (by decide) (fun c67_3 => ?_) (fun c67_3 => ?_)
            · exact absurd c67_3 (by decide)
            · refine lv_iconst (v := 1) S.1 S.2.1 dX7_puts_70 (by decide) ?_
              refine lv_goto (tgt := 75) S.1 S.2.1 dX7_puts_71 (by decide) ?_
              refine lv_istore (lv' := [(8, .int 1), (7, .int ((1 : Int32) <<< ((fS (30 + gg)) &&& 31))), (6, .int 6), (5, .int (gX fS gg)), (0, .ref mO), (1, .int (nI gg)), (2, .int x0), (3, .long b0)]) S.1 S.2.1 dX7_puts_75 hl (by decide) rfl (fun ls hl => ?_)
              refine lv_iload S.1 S.2.1 dX7_puts_77 (lv_at hl 2 rfl) ?_
              refine lv_iconst (v := 1) S.1 S.2.1 dX7_puts_79 (by decide) ?_
              refine lv_icmp_eq (tgt := 93) S.1 S.2.1 dX7_puts_80 (by decide) (fun c80_6 => ?_) (fun c80_6 => ?_)
              · exact absurd c80_6 (by decide)
              · refine lv_iload S.1 S.2.1 dX7_puts_83 (lv_at hl 2 rfl) ?_
                refine lv_iconst (v := 4) S.1 S.2.1 dX7_puts_85 (by decide) ?_
                refine lv_icmp_eq (tgt := 93) S.1 S.2.1 dX7_puts_86 (by decide) (fun c86_5 => ?_) (fun c86_5 => ?_)
                · exact absurd c86_5 (by decide)
                · refine lv_iconst (v := 1) S.1 S.2.1 dX7_puts_89 (by decide) ?_
                  refine lv_goto (tgt := 94) S.1 S.2.1 dX7_puts_90 (by decide) ?_
                  refine lv_istore (lv' := [(9, .int 1), (8, .int 1), (7, .int ((1 : Int32) <<< ((fS (30 + gg)) &&& 31))), (6, .int 6), (5, .int (gX fS gg)), (0, .ref mO), (1, .int (nI gg)), (2, .int x0), (3, .long b0)]) S.1 S.2.1 dX7_puts_94 hl (by decide) rfl (fun ls hl => ?_)
                  refine lv_iload S.1 S.2.1 dX7_puts_96 (lv_at hl 3 rfl) ?_
                  refine lv_iconst (v := 2) S.1 S.2.1 dX7_puts_98 (by decide) ?_
                  refine lv_icmp_eq (tgt := 121) S.1 S.2.1 dX7_puts_99 (by decide) (fun c99_6 => ?_) (fun c99_6 => ?_)
                  · exact absurd c99_6 (by decide)
                  · refine lv_iload S.1 S.2.1 dX7_puts_102 (lv_at hl 3 rfl) ?_
                    refine lv_iconst (v := 3) S.1 S.2.1 dX7_puts_104 (by decide) ?_
                    refine lv_icmp_eq (tgt := 121) S.1 S.2.1 dX7_puts_105 (by decide) (fun c105_5 => ?_) (fun c105_5 => ?_)
                    · exact absurd c105_5 (by decide)
                    · refine lv_iload S.1 S.2.1 dX7_puts_108 (lv_at hl 3 rfl) ?_
                      refine lv_iconst (v := 5) S.1 S.2.1 dX7_puts_110 (by decide) ?_
                      refine lv_icmp_eq (tgt := 121) S.1 S.2.1 dX7_puts_111 (by decide) (fun c111_4 => ?_) (fun c111_4 => ?_)
                      · exact absurd c111_4 (by decide)
                      · refine lv_iload S.1 S.2.1 dX7_puts_114 (lv_at hl 3 rfl) ?_
                        refine lv_bipush (v := 6) S.1 S.2.1 dX7_puts_116 (by decide) ?_
                        refine lv_icmp_ne (tgt := 125) S.1 S.2.1 dX7_puts_118 (by decide) (fun c118_3 => ?_) (fun c118_3 => ?_)
                        · exact absurd c118_3 (by decide)
                        · refine lv_iconst (v := 1) S.1 S.2.1 dX7_puts_121 (by decide) ?_
                          refine lv_goto (tgt := 126) S.1 S.2.1 dX7_puts_122 (by decide) ?_
                          refine lv_istore (lv' := [(10, .int 1), (9, .int 1), (8, .int 1), (7, .int ((1 : Int32) <<< ((fS (30 + gg)) &&& 31))), (6, .int 6), (5, .int (gX fS gg)), (0, .ref mO), (1, .int (nI gg)), (2, .int x0), (3, .long b0)]) S.1 S.2.1 dX7_puts_126 hl (by decide) rfl (fun ls hl => ?_)
                          refine lv_iload S.1 S.2.1 dX7_puts_128 (lv_at hl 2 rfl) ?_
                          refine lv_if_eq (tgt := 139) S.1 S.2.1 dX7_puts_130 (by decide) (fun c130_6 => ?_) (fun c130_6 => ?_)
                          · exact absurd c130_6 (by decide)
                          · refine lv_aload_n S.1 S.2.1 dX7_puts_133 rfl (lv_at hl 6 rfl) ?_
                            refine lv_iload_n S.1 S.2.1 dX7_puts_134 rfl (lv_at hl 8 rfl) ?_
                            refine lv_lload_n S.1 S.2.1 dX7_puts_135 rfl (lv_at hl 9 rfl) ?_
                            refine cq_v C w [0, 2, 3] [1] [1, 0, 2, 3] (wr := [(mS, .inl (G.2.1 2, 49, .inl fS))]) (w' := fun u : Nat × (Nat → Int32) × (Nat → Int64) => [(mO, .inr (7, [.ref mS, .ref mD, .ref mR, .ref mT, .int mt, .int ma, .int mn, .ref mW, .ref mQ, .ref mC, .int my, .ref mU, .ref mV, .int (nI u.1), .int mf, .int mg])), (mU, .inl (G.2.1 2, 200, .inl u.2.1)), (mV, .inl (G.2.1 3, 200, .inr (.inl u.2.2)))]) (ws2 := fun u : Nat × (Nat → Int32) × (Nat → Int64) => [(mO, .inr (7, [.ref mS, .ref mD, .ref mR, .ref mT, .int mt, .int ma, .int mn, .ref mW, .ref mQ, .ref mC, .int my, .ref mU, .ref mV, .int (nI u.1), .int mf, .int mg])), (mS, .inl (G.2.1 2, 49, .inl fS)), (mU, .inl (G.2.1 2, 200, .inl u.2.1)), (mV, .inl (G.2.1 3, 200, .inr (.inl u.2.2)))]) rfl rfl rfl (by decide) rfl (fun _ => rfl) (va_runV (As := [.int x0, .long b0]) (rest := []) S (k_X7_adds l G mO mU mV _ mS mD mR mT mW mQ mC mt ma mn my mf mg mM fU lV x0 b0 P B (by  omega) (hR) (hb)) (cwV 2 S.2.2.2.2 gX7_puts_X7_adds rfl rfl rfl (by decide +kernel) ⟨Nat.le_of_ble_eq_true rfl, Nat.le_of_ble_eq_true rfl⟩) ⟨wPre_blind, va_recv C.1 w.1 (ci := 7) (q0 := 0) rfl rfl, wPre_at C w [0, 2, 3] rfl rfl⟩ rfl rfl hl.1 rfl (lv_room (Nat.le_of_ble_eq_true rfl)) dX7_puts_136 ⟨Nat.le_of_ble_eq_true rfl, Nat.le_of_ble_eq_true rfl⟩) (fun u136_3 H locs h136_3 w => ?_)
                            have w : Wd G _ s [(mO, .inr (7, [.ref mS, .ref mD, .ref mR, .ref mT, .int mt, .int ma, .int mn, .ref mW, .ref mQ, .ref mC, .int my, .ref mU, .ref mV, .int (nI u136_3.1), .int mf, .int mg])), (mS, .inl (G.2.1 2, 49, .inl fS)), (mU, .inl (G.2.1 2, 200, .inl u136_3.2.1)), (mV, .inl (G.2.1 3, 200, .inr (.inl u136_3.2.2)))] H locs := w
                            refine lv_iload S.1 S.2.1 dX7_puts_139 (lv_at hl 2 rfl) ?_
                            refine lv_if_eq (tgt := 149) S.1 S.2.1 dX7_puts_141 (by decide) (fun c141_6 => ?_) (fun c141_6 => ?_)
                            · exact absurd c141_6 (by decide)
                            · refine lv_lload_n S.1 S.2.1 dX7_puts_144 rfl (lv_at hl 9 rfl) ?_
                              refine lv_lneg S.1 S.2.1 dX7_puts_145 ?_
                              refine lv_goto (tgt := 150) S.1 S.2.1 dX7_puts_146 (by decide) ?_
                              refine lv_lstore (lv' := [(11, .long (-b0)), (10, .int 1), (9, .int 1), (8, .int 1), (7, .int ((1 : Int32) <<< ((fS (30 + gg)) &&& 31))), (6, .int 6), (5, .int (gX fS gg)), (0, .ref mO), (1, .int (nI gg)), (2, .int x0), (3, .long b0)]) S.1 S.2.1 dX7_puts_150 hl (by decide) rfl (fun ls hl => ?_)
                              refine lv_iload S.1 S.2.1 dX7_puts_152 (lv_at hl 2 rfl) ?_
                              refine lv_if_eq (tgt := 167) S.1 S.2.1 dX7_puts_154 (by decide) (fun c154_6 => ?_) (fun c154_6 => ?_)
                              · exact absurd c154_6 (by decide)
                              · refine lv_aload_n S.1 S.2.1 dX7_puts_157 rfl (lv_at hl 7 rfl) ?_
                                refine lv_iload_n S.1 S.2.1 dX7_puts_158 rfl (lv_at hl 9 rfl) ?_
                                refine lv_iload S.1 S.2.1 dX7_puts_159 (lv_at hl 6 rfl) ?_
                                refine lv_ior S.1 S.2.1 dX7_puts_161 ?_
                                refine lv_lload S.1 S.2.1 dX7_puts_162 (lv_at hl 0 rfl) ?_
                                refine cq_v C w [0, 2, 3] [1] [1, 0, 2, 3] (wr := [(mS, .inl (G.2.1 2, 49, .inl fS))]) (w' := fun u : Nat × (Nat → Int32) × (Nat → Int64) => [(mO, .inr (7, [.ref mS, .ref mD, .ref mR, .ref mT, .int mt, .int ma, .int mn, .ref mW, .ref mQ, .ref mC, .int my, .ref mU, .ref mV, .int (nI u.1), .int mf, .int mg])), (mU, .inl (G.2.1 2, 200, .inl u.2.1)), (mV, .inl (G.2.1 3, 200, .inr (.inl u.2.2)))]) (ws2 := fun u : Nat × (Nat → Int32) × (Nat → Int64) => [(mO, .inr (7, [.ref mS, .ref mD, .ref mR, .ref mT, .int mt, .int ma, .int mn, .ref mW, .ref mQ, .ref mC, .int my, .ref mU, .ref mV, .int (nI u.1), .int mf, .int mg])), (mS, .inl (G.2.1 2, 49, .inl fS)), (mU, .inl (G.2.1 2, 200, .inl u.2.1)), (mV, .inl (G.2.1 3, 200, .inr (.inl u.2.2)))]) rfl rfl rfl (by decide) rfl (fun _ => rfl) (va_runV (As := [.int (x0 ||| (gX fS gg)), .long (-b0)]) (rest := []) S (k_X7_adds l G mO mU mV _ mS mD mR mT mW mQ mC mt ma mn my mf mg u136_3.1 u136_3.2.1 u136_3.2.2 (x0 ||| (gX fS gg)) (-b0) (pAdd P x0 B) (-B) (by have := (h136_3).2.1; omega) (h136_3.2.2) (by rw [hb]; simp only [Int64.ofInt_mul, Int64.ofInt_neg]; first | done | rfl)) (cwV 2 S.2.2.2.2 gX7_puts_X7_adds rfl rfl rfl (by decide +kernel) ⟨Nat.le_of_ble_eq_true rfl, Nat.le_of_ble_eq_true rfl⟩) ⟨wPre_blind, va_recv C.1 w.1 (ci := 7) (q0 := 0) rfl rfl, wPre_at C w [0, 2, 3] rfl rfl⟩ rfl rfl hl.1 rfl (lv_room (Nat.le_of_ble_eq_true rfl)) dX7_puts_164 ⟨Nat.le_of_ble_eq_true rfl, Nat.le_of_ble_eq_true rfl⟩) (fun u164_4 H locs h164_4 w => ?_)
                                have w : Wd G _ s [(mO, .inr (7, [.ref mS, .ref mD, .ref mR, .ref mT, .int mt, .int ma, .int mn, .ref mW, .ref mQ, .ref mC, .int my, .ref mU, .ref mV, .int (nI u164_4.1), .int mf, .int mg])), (mS, .inl (G.2.1 2, 49, .inl fS)), (mU, .inl (G.2.1 2, 200, .inl u164_4.2.1)), (mV, .inl (G.2.1 3, 200, .inr (.inl u164_4.2.2)))] H locs := w
                                refine lv_iload S.1 S.2.1 dX7_puts_167 (lv_at hl 1 rfl) ?_
                                refine lv_if_eq (tgt := 182) S.1 S.2.1 dX7_puts_169 (by decide) (fun c169_6 => ?_) (fun c169_6 => ?_)
                                · exact absurd c169_6 (by decide)
                                · refine lv_aload_n S.1 S.2.1 dX7_puts_172 rfl (lv_at hl 7 rfl) ?_
                                  refine lv_iload_n S.1 S.2.1 dX7_puts_173 rfl (lv_at hl 9 rfl) ?_
                                  refine lv_iload S.1 S.2.1 dX7_puts_174 (lv_at hl 4 rfl) ?_
                                  refine lv_ior S.1 S.2.1 dX7_puts_176 ?_
                                  refine lv_lload S.1 S.2.1 dX7_puts_177 (lv_at hl 0 rfl) ?_
                                  refine cq_v C w [0, 2, 3] [1] [1, 0, 2, 3] (wr := [(mS, .inl (G.2.1 2, 49, .inl fS))]) (w' := fun u : Nat × (Nat → Int32) × (Nat → Int64) => [(mO, .inr (7, [.ref mS, .ref mD, .ref mR, .ref mT, .int mt, .int ma, .int mn, .ref mW, .ref mQ, .ref mC, .int my, .ref mU, .ref mV, .int (nI u.1), .int mf, .int mg])), (mU, .inl (G.2.1 2, 200, .inl u.2.1)), (mV, .inl (G.2.1 3, 200, .inr (.inl u.2.2)))]) (ws2 := fun u : Nat × (Nat → Int32) × (Nat → Int64) => [(mO, .inr (7, [.ref mS, .ref mD, .ref mR, .ref mT, .int mt, .int ma, .int mn, .ref mW, .ref mQ, .ref mC, .int my, .ref mU, .ref mV, .int (nI u.1), .int mf, .int mg])), (mS, .inl (G.2.1 2, 49, .inl fS)), (mU, .inl (G.2.1 2, 200, .inl u.2.1)), (mV, .inl (G.2.1 3, 200, .inr (.inl u.2.2)))]) rfl rfl rfl (by decide) rfl (fun _ => rfl) (va_runV (As := [.int (x0 ||| ((1 : Int32) <<< ((fS (30 + gg)) &&& 31))), .long (-b0)]) (rest := []) S (k_X7_adds l G mO mU mV _ mS mD mR mT mW mQ mC mt ma mn my mf mg u164_4.1 u164_4.2.1 u164_4.2.2 (x0 ||| ((1 : Int32) <<< ((fS (30 + gg)) &&& 31))) (-b0) (pAdd (pAdd P x0 B) (x0 ||| (gX fS gg)) (-B)) (-B) (by have := (h136_3).2.1; have := (h164_4).2.1; omega) (h164_4.2.2) (by rw [hb]; simp only [Int64.ofInt_mul, Int64.ofInt_neg]; first | done | rfl)) (cwV 2 S.2.2.2.2 gX7_puts_X7_adds rfl rfl rfl (by decide +kernel) ⟨Nat.le_of_ble_eq_true rfl, Nat.le_of_ble_eq_true rfl⟩) ⟨wPre_blind, va_recv C.1 w.1 (ci := 7) (q0 := 0) rfl rfl, wPre_at C w [0, 2, 3] rfl rfl⟩ rfl rfl hl.1 rfl (lv_room (Nat.le_of_ble_eq_true rfl)) dX7_puts_179 ⟨Nat.le_of_ble_eq_true rfl, Nat.le_of_ble_eq_true rfl⟩) (fun u179_3 H locs h179_3 w => ?_)
                                  have w : Wd G _ s [(mO, .inr (7, [.ref mS, .ref mD, .ref mR, .ref mT, .int mt, .int ma, .int mn, .ref mW, .ref mQ, .ref mC, .int my, .ref mU, .ref mV, .int (nI u179_3.1), .int mf, .int mg])), (mS, .inl (G.2.1 2, 49, .inl fS)), (mU, .inl (G.2.1 2, 200, .inl u179_3.2.1)), (mV, .inl (G.2.1 3, 200, .inr (.inl u179_3.2.2)))] H locs := w
                                  refine lv_iload S.1 S.2.1 dX7_puts_182 (lv_at hl 5 rfl) ?_
                                  refine lv_if_eq (tgt := 248) S.1 S.2.1 dX7_puts_184 (by decide) (fun c184_6 => ?_) (fun c184_6 => ?_)
                                  · exact absurd c184_6 (by decide)
                                  · refine lv_iload S.1 S.2.1 dX7_puts_187 (lv_at hl 5 rfl) ?_
                                    refine lv_iconst (v := 3) S.1 S.2.1 dX7_puts_189 (by decide) ?_
                                    refine lv_icmp_eq (tgt := 200) S.1 S.2.1 dX7_puts_190 (by decide) (fun c190_5 => ?_) (fun c190_5 => ?_)
                                    · exact absurd c190_5 (by decide)
                                    · refine lv_iload S.1 S.2.1 dX7_puts_193 (lv_at hl 5 rfl) ?_
                                      refine lv_bipush (v := 6) S.1 S.2.1 dX7_puts_195 (by decide) ?_
                                      refine lv_icmp_ne (tgt := 204) S.1 S.2.1 dX7_puts_197 (by decide) (fun c197_4 => ?_) (fun c197_4 => ?_)
                                      · exact absurd c197_4 (by decide)
                                      · refine lv_iconst (v := 1) S.1 S.2.1 dX7_puts_200 (by decide) ?_
                                        refine lv_goto (tgt := 205) S.1 S.2.1 dX7_puts_201 (by decide) ?_
                                        refine lv_istore (lv' := [(13, .int 1), (11, .long (-b0)), (10, .int 1), (9, .int 1), (8, .int 1), (7, .int ((1 : Int32) <<< ((fS (30 + gg)) &&& 31))), (6, .int 6), (5, .int (gX fS gg)), (0, .ref mO), (1, .int (nI gg)), (2, .int x0), (3, .long b0)]) S.1 S.2.1 dX7_puts_205 hl (by decide) rfl (fun ls hl => ?_)
                                        refine lv_iload S.1 S.2.1 dX7_puts_207 (lv_at hl 3 rfl) ?_
                                        refine lv_istore (lv' := [(14, .int 1), (13, .int 1), (11, .long (-b0)), (10, .int 1), (9, .int 1), (8, .int 1), (7, .int ((1 : Int32) <<< ((fS (30 + gg)) &&& 31))), (6, .int 6), (5, .int (gX fS gg)), (0, .ref mO), (1, .int (nI gg)), (2, .int x0), (3, .long b0)]) S.1 S.2.1 dX7_puts_209 hl (by decide) rfl (fun ls hl => ?_)
                                        refine lv_aload_n S.1 S.2.1 dX7_puts_211 rfl (lv_at hl 9 rfl) ?_
                                        refine lv_iload_n S.1 S.2.1 dX7_puts_212 rfl (lv_at hl 11 rfl) ?_
                                        refine lv_iload S.1 S.2.1 dX7_puts_213 (lv_at hl 8 rfl) ?_
                                        refine lv_ior S.1 S.2.1 dX7_puts_215 ?_
                                        refine lv_iload S.1 S.2.1 dX7_puts_216 (lv_at hl 6 rfl) ?_
                                        refine lv_ior S.1 S.2.1 dX7_puts_218 ?_
                                        refine lv_iload S.1 S.2.1 dX7_puts_219 (lv_at hl 0 rfl) ?_
                                        refine lv_if_eq (tgt := 230) S.1 S.2.1 dX7_puts_221 (by decide) (fun c221_5 => ?_) (fun c221_5 => ?_)
                                        · exact absurd c221_5 (by decide)
                                        · refine lv_lload S.1 S.2.1 dX7_puts_224 (lv_at hl 2 rfl) ?_
                                          refine lv_lneg S.1 S.2.1 dX7_puts_226 ?_
                                          refine lv_goto (tgt := 232) S.1 S.2.1 dX7_puts_227 (by decide) ?_
                                          refine lv_iload S.1 S.2.1 dX7_puts_232 (lv_at hl 1 rfl) ?_
                                          refine lv_if_eq (tgt := 243) S.1 S.2.1 dX7_puts_234 (by decide) (fun c234_5 => ?_) (fun c234_5 => ?_)
                                          · exact absurd c234_5 (by decide)
                                          · refine lv_ldc2 (own := RX7) (v := 2) S.1 S.2.1 S.2.2.2.1 (S.2.2.2.2 _ (List.mem_of_getElem? (i := 2) rfl)) dX7_puts_237 ?_
                                            refine lv_goto (tgt := 244) S.1 S.2.1 dX7_puts_240 (by decide) ?_
                                            refine lv_lmul S.1 S.2.1 dX7_puts_244 ?_
                                            refine cq_v C w [0, 2, 3] [1] [1, 0, 2, 3] (wr := [(mS, .inl (G.2.1 2, 49, .inl fS))]) (w' := fun u : Nat × (Nat → Int32) × (Nat → Int64) => [(mO, .inr (7, [.ref mS, .ref mD, .ref mR, .ref mT, .int mt, .int ma, .int mn, .ref mW, .ref mQ, .ref mC, .int my, .ref mU, .ref mV, .int (nI u.1), .int mf, .int mg])), (mU, .inl (G.2.1 2, 200, .inl u.2.1)), (mV, .inl (G.2.1 3, 200, .inr (.inl u.2.2)))]) (ws2 := fun u : Nat × (Nat → Int32) × (Nat → Int64) => [(mO, .inr (7, [.ref mS, .ref mD, .ref mR, .ref mT, .int mt, .int ma, .int mn, .ref mW, .ref mQ, .ref mC, .int my, .ref mU, .ref mV, .int (nI u.1), .int mf, .int mg])), (mS, .inl (G.2.1 2, 49, .inl fS)), (mU, .inl (G.2.1 2, 200, .inl u.2.1)), (mV, .inl (G.2.1 3, 200, .inr (.inl u.2.2)))]) rfl rfl rfl (by decide) rfl (fun _ => rfl) (va_runV (As := [.int ((x0 ||| (gX fS gg)) ||| ((1 : Int32) <<< ((fS (30 + gg)) &&& 31))), .long ((-(-b0)) * 2)]) (rest := []) S (k_X7_adds l G mO mU mV _ mS mD mR mT mW mQ mC mt ma mn my mf mg u179_3.1 u179_3.2.1 u179_3.2.2 ((x0 ||| (gX fS gg)) ||| ((1 : Int32) <<< ((fS (30 + gg)) &&& 31))) ((-(-b0)) * 2) (pAdd (pAdd (pAdd P x0 B) (x0 ||| (gX fS gg)) (-B)) (x0 ||| ((1 : Int32) <<< ((fS (30 + gg)) &&& 31))) (-B)) ((-(-B)) * 2) (by have := (h136_3).2.1; have := (h164_4).2.1; have := (h179_3).2.1; omega) (h179_3.2.2) (by rw [hb]; simp only [Int64.ofInt_mul, Int64.ofInt_neg]; first | done | rfl)) (cwV 2 S.2.2.2.2 gX7_puts_X7_adds rfl rfl rfl (by decide +kernel) ⟨Nat.le_of_ble_eq_true rfl, Nat.le_of_ble_eq_true rfl⟩) ⟨wPre_blind, va_recv C.1 w.1 (ci := 7) (q0 := 0) rfl rfl, wPre_at C w [0, 2, 3] rfl rfl⟩ rfl rfl hl.1 rfl (lv_room (Nat.le_of_ble_eq_true rfl)) dX7_puts_245 ⟨Nat.le_of_ble_eq_true rfl, Nat.le_of_ble_eq_true rfl⟩) (fun u245_5 H locs h245_5 w => ?_)
                                            have w : Wd G _ s [(mO, .inr (7, [.ref mS, .ref mD, .ref mR, .ref mT, .int mt, .int ma, .int mn, .ref mW, .ref mQ, .ref mC, .int my, .ref mU, .ref mV, .int (nI u245_5.1), .int mf, .int mg])), (mS, .inl (G.2.1 2, 49, .inl fS)), (mU, .inl (G.2.1 2, 200, .inl u245_5.2.1)), (mV, .inl (G.2.1 3, 200, .inr (.inl u245_5.2.2)))] H locs := w
                                            exact W.vret S.1 S.2.1 hr (fun t ht _ => ⟨⟨(u245_5.1, u245_5.2.1, u245_5.2.2), rfl, ⟨by have := (h136_3).1; have := (h164_4).1; have := (h179_3).1; have := (h245_5).1; dsimp only; omega, by have := (h136_3).2.1; have := (h164_4).2.1; have := (h179_3).2.1; have := (h245_5).2.1; dsimp only; omega, (h245_5).2.2.cong (fun t => by first | exact rq4_0 t | exact rq4_1 t | exact rq4_2 t | exact rq4_3 t | exact rq4_4 t | exact rq4_5 t | exact rq4_6 t | exact rq4_7 t)⟩, by rw [ht]; exact w.1, w.2.1⟩, w.2.2.F ht⟩) w.2.2.2.2 dX7_puts_248
    · exact absurd c26_6 (by decide)
  · subst hcs
    refine lv_iload S.1 S.2.1 dX7_puts_24 (lv_at hl 0 rfl) ?_
    refine lv_if_ne (tgt := 33) S.1 S.2.1 dX7_puts_26 (by decide) (fun c26_7 => ?_) (fun c26_7 => ?_)
    · refine lv_iconst (v := 1) S.1 S.2.1 dX7_puts_33 (by decide) ?_
      refine lv_aload_n S.1 S.2.1 dX7_puts_34 rfl (lv_at hl 2 rfl) ?_
      refine w_get S C w (CC := RX7) (T := TX7) (N := 16) (ref := "GateSumsModel") im_X7_puts_X7 0 rfl rfl 0 (by decide) (List.mem_of_getElem? (i := 1) rfl) (fun _ h => h) rfl dX7_puts_35 ?_
      refine lv_bipush (v := 30) S.1 S.2.1 dX7_puts_38 (by decide) ?_
      refine lv_iload_n S.1 S.2.1 dX7_puts_40 rfl (lv_at hl 3 rfl) ?_
      refine lv_iadd S.1 S.2.1 dX7_puts_41 ?_
      refine w_iald S C w 1 rfl (ixA 30 _ (by omega)) dX7_puts_42 ?_
      refine w_topi (y := (fS (30 + gg))) (congrArg fS (ixc 30 _ (by omega))) ?_
      refine lv_ishl S.1 S.2.1 dX7_puts_43 ?_
      refine lv_istore (lv' := [(7, .int ((1 : Int32) <<< ((fS (30 + gg)) &&& 31))), (6, .int 7), (5, .int (gX fS gg)), (0, .ref mO), (1, .int (nI gg)), (2, .int x0), (3, .long b0)]) S.1 S.2.1 dX7_puts_44 hl (by decide) rfl (fun ls hl => ?_)
      refine lv_iload S.1 S.2.1 dX7_puts_46 (lv_at hl 1 rfl) ?_
      refine lv_if_eq (tgt := 70) S.1 S.2.1 dX7_puts_48 (by decide) (fun c48_7 => ?_) (fun c48_7 => ?_)
      · exact absurd c48_7 (by decide)
      · refine lv_iload S.1 S.2.1 dX7_puts_51 (lv_at hl 1 rfl) ?_
        refine lv_iconst (v := 4) S.1 S.2.1 dX7_puts_53 (by decide) ?_
        refine lv_icmp_eq (tgt := 70) S.1 S.2.1 dX7_puts_54 (by decide) (fun c54_6 => ?_) (fun c54_6 => ?_)
        · exact absurd c54_6 (by decide)
        · refine lv_iload S.1 S.2.1 dX7_puts_57 (lv_at hl 1 rfl) ?_
          refine lv_iconst (v := 5) S.1 S.2.1 dX7_puts_59 (by decide) ?_
          refine lv_icmp_eq (tgt := 70) S.1 S.2.1 dX7_puts_60 (by decide) (fun c60_5 => ?_) (fun c60_5 => ?_)
          · exact absurd c60_5 (by decide)
          · refine lv_iload S.1 S.2.1 dX7_puts_63 (lv_at hl 1 rfl) ?_
            refine lv_bipush (v := 6) S.1 S.2.1 dX7_puts_65 (by decide) ?_
            refine lv_icmp_ne (tgt := 74) S.1 S.2.1 dX7_puts_67 (by decide) (fun c67_4 => ?_) (fun c67_4 => ?_)
            · refine lv_iconst (v := 0) S.1 S.2.1 dX7_puts_74 (by decide) ?_
              refine lv_istore (lv' := [(8, .int 0), (7, .int ((1 : Int32) <<< ((fS (30 + gg)) &&& 31))), (6, .int 7), (5, .int (gX fS gg)), (0, .ref mO), (1, .int (nI gg)), (2, .int x0), (3, .long b0)]) S.1 S.2.1 dX7_puts_75 hl (by decide) rfl (fun ls hl => ?_)
              refine lv_iload S.1 S.2.1 dX7_puts_77 (lv_at hl 2 rfl) ?_
              refine lv_iconst (v := 1) S.1 S.2.1 dX7_puts_79 (by decide) ?_
              refine lv_icmp_eq (tgt := 93) S.1 S.2.1 dX7_puts_80 (by decide) (fun c80_7 => ?_) (fun c80_7 => ?_)
              · exact absurd c80_7 (by decide)
              · refine lv_iload S.1 S.2.1 dX7_puts_83 (lv_at hl 2 rfl) ?_
                refine lv_iconst (v := 4) S.1 S.2.1 dX7_puts_85 (by decide) ?_
                refine lv_icmp_eq (tgt := 93) S.1 S.2.1 dX7_puts_86 (by decide) (fun c86_6 => ?_) (fun c86_6 => ?_)
                · exact absurd c86_6 (by decide)
                · refine lv_iconst (v := 1) S.1 S.2.1 dX7_puts_89 (by decide) ?_
                  refine lv_goto (tgt := 94) S.1 S.2.1 dX7_puts_90 (by decide) ?_
                  refine lv_istore (lv' := [(9, .int 1), (8, .int 0), (7, .int ((1 : Int32) <<< ((fS (30 + gg)) &&& 31))), (6, .int 7), (5, .int (gX fS gg)), (0, .ref mO), (1, .int (nI gg)), (2, .int x0), (3, .long b0)]) S.1 S.2.1 dX7_puts_94 hl (by decide) rfl (fun ls hl => ?_)
                  refine lv_iload S.1 S.2.1 dX7_puts_96 (lv_at hl 3 rfl) ?_
                  refine lv_iconst (v := 2) S.1 S.2.1 dX7_puts_98 (by decide) ?_
                  refine lv_icmp_eq (tgt := 121) S.1 S.2.1 dX7_puts_99 (by decide) (fun c99_7 => ?_) (fun c99_7 => ?_)
                  · exact absurd c99_7 (by decide)
                  · refine lv_iload S.1 S.2.1 dX7_puts_102 (lv_at hl 3 rfl) ?_
                    refine lv_iconst (v := 3) S.1 S.2.1 dX7_puts_104 (by decide) ?_
                    refine lv_icmp_eq (tgt := 121) S.1 S.2.1 dX7_puts_105 (by decide) (fun c105_6 => ?_) (fun c105_6 => ?_)
                    · exact absurd c105_6 (by decide)
                    · refine lv_iload S.1 S.2.1 dX7_puts_108 (lv_at hl 3 rfl) ?_
                      refine lv_iconst (v := 5) S.1 S.2.1 dX7_puts_110 (by decide) ?_
                      refine lv_icmp_eq (tgt := 121) S.1 S.2.1 dX7_puts_111 (by decide) (fun c111_5 => ?_) (fun c111_5 => ?_)
                      · exact absurd c111_5 (by decide)
                      · refine lv_iload S.1 S.2.1 dX7_puts_114 (lv_at hl 3 rfl) ?_
                        refine lv_bipush (v := 6) S.1 S.2.1 dX7_puts_116 (by decide) ?_
                        refine lv_icmp_ne (tgt := 125) S.1 S.2.1 dX7_puts_118 (by decide) (fun c118_4 => ?_) (fun c118_4 => ?_)
                        · refine lv_iconst (v := 0) S.1 S.2.1 dX7_puts_125 (by decide) ?_
                          refine lv_istore (lv' := [(10, .int 0), (9, .int 1), (8, .int 0), (7, .int ((1 : Int32) <<< ((fS (30 + gg)) &&& 31))), (6, .int 7), (5, .int (gX fS gg)), (0, .ref mO), (1, .int (nI gg)), (2, .int x0), (3, .long b0)]) S.1 S.2.1 dX7_puts_126 hl (by decide) rfl (fun ls hl => ?_)
                          refine lv_iload S.1 S.2.1 dX7_puts_128 (lv_at hl 2 rfl) ?_
                          refine lv_if_eq (tgt := 139) S.1 S.2.1 dX7_puts_130 (by decide) (fun c130_7 => ?_) (fun c130_7 => ?_)
                          · refine lv_iload S.1 S.2.1 dX7_puts_139 (lv_at hl 2 rfl) ?_
                            refine lv_if_eq (tgt := 149) S.1 S.2.1 dX7_puts_141 (by decide) (fun c141_7 => ?_) (fun c141_7 => ?_)
                            · refine lv_lload_n S.1 S.2.1 dX7_puts_149 rfl (lv_at hl 9 rfl) ?_
                              refine lv_lstore (lv' := [(11, .long b0), (10, .int 0), (9, .int 1), (8, .int 0), (7, .int ((1 : Int32) <<< ((fS (30 + gg)) &&& 31))), (6, .int 7), (5, .int (gX fS gg)), (0, .ref mO), (1, .int (nI gg)), (2, .int x0), (3, .long b0)]) S.1 S.2.1 dX7_puts_150 hl (by decide) rfl (fun ls hl => ?_)
                              refine lv_iload S.1 S.2.1 dX7_puts_152 (lv_at hl 2 rfl) ?_
                              refine lv_if_eq (tgt := 167) S.1 S.2.1 dX7_puts_154 (by decide) (fun c154_7 => ?_) (fun c154_7 => ?_)
                              · exact absurd c154_7 (by decide)
                              · refine lv_aload_n S.1 S.2.1 dX7_puts_157 rfl (lv_at hl 7 rfl) ?_
                                refine lv_iload_n S.1 S.2.1 dX7_puts_158 rfl (lv_at hl 9 rfl) ?_
                                refine lv_iload S.1 S.2.1 dX7_puts_159 (lv_at hl 6 rfl) ?_
                                refine lv_ior S.1 S.2.1 dX7_puts_161 ?_
                                refine lv_lload S.1 S.2.1 dX7_puts_162 (lv_at hl 0 rfl) ?_
                                refine cq_v C w [0, 2, 3] [1] [1, 0, 2, 3] (wr := [(mS, .inl (G.2.1 2, 49, .inl fS))]) (w' := fun u : Nat × (Nat → Int32) × (Nat → Int64) => [(mO, .inr (7, [.ref mS, .ref mD, .ref mR, .ref mT, .int mt, .int ma, .int mn, .ref mW, .ref mQ, .ref mC, .int my, .ref mU, .ref mV, .int (nI u.1), .int mf, .int mg])), (mU, .inl (G.2.1 2, 200, .inl u.2.1)), (mV, .inl (G.2.1 3, 200, .inr (.inl u.2.2)))]) (ws2 := fun u : Nat × (Nat → Int32) × (Nat → Int64) => [(mO, .inr (7, [.ref mS, .ref mD, .ref mR, .ref mT, .int mt, .int ma, .int mn, .ref mW, .ref mQ, .ref mC, .int my, .ref mU, .ref mV, .int (nI u.1), .int mf, .int mg])), (mS, .inl (G.2.1 2, 49, .inl fS)), (mU, .inl (G.2.1 2, 200, .inl u.2.1)), (mV, .inl (G.2.1 3, 200, .inr (.inl u.2.2)))]) rfl rfl rfl (by decide) rfl (fun _ => rfl) (va_runV (As := [.int (x0 ||| (gX fS gg)), .long b0]) (rest := []) S (k_X7_adds l G mO mU mV _ mS mD mR mT mW mQ mC mt ma mn my mf mg mM fU lV (x0 ||| (gX fS gg)) b0 P B (by  omega) (hR) (hb)) (cwV 2 S.2.2.2.2 gX7_puts_X7_adds rfl rfl rfl (by decide +kernel) ⟨Nat.le_of_ble_eq_true rfl, Nat.le_of_ble_eq_true rfl⟩) ⟨wPre_blind, va_recv C.1 w.1 (ci := 7) (q0 := 0) rfl rfl, wPre_at C w [0, 2, 3] rfl rfl⟩ rfl rfl hl.1 rfl (lv_room (Nat.le_of_ble_eq_true rfl)) dX7_puts_164 ⟨Nat.le_of_ble_eq_true rfl, Nat.le_of_ble_eq_true rfl⟩) (fun u164_5 H locs h164_5 w => ?_)
                                have w : Wd G _ s [(mO, .inr (7, [.ref mS, .ref mD, .ref mR, .ref mT, .int mt, .int ma, .int mn, .ref mW, .ref mQ, .ref mC, .int my, .ref mU, .ref mV, .int (nI u164_5.1), .int mf, .int mg])), (mS, .inl (G.2.1 2, 49, .inl fS)), (mU, .inl (G.2.1 2, 200, .inl u164_5.2.1)), (mV, .inl (G.2.1 3, 200, .inr (.inl u164_5.2.2)))] H locs := w
                                refine lv_iload S.1 S.2.1 dX7_puts_167 (lv_at hl 1 rfl) ?_
                                refine lv_if_eq (tgt := 182) S.1 S.2.1 dX7_puts_169 (by decide) (fun c169_7 => ?_) (fun c169_7 => ?_)
                                · refine lv_iload S.1 S.2.1 dX7_puts_182 (lv_at hl 5 rfl) ?_
                                  refine lv_if_eq (tgt := 248) S.1 S.2.1 dX7_puts_184 (by decide) (fun c184_7 => ?_) (fun c184_7 => ?_)
                                  · exact absurd c184_7 (by decide)
                                  · refine lv_iload S.1 S.2.1 dX7_puts_187 (lv_at hl 5 rfl) ?_
                                    refine lv_iconst (v := 3) S.1 S.2.1 dX7_puts_189 (by decide) ?_
                                    refine lv_icmp_eq (tgt := 200) S.1 S.2.1 dX7_puts_190 (by decide) (fun c190_6 => ?_) (fun c190_6 => ?_)
                                    · exact absurd c190_6 (by decide)
                                    · refine lv_iload S.1 S.2.1 dX7_puts_193 (lv_at hl 5 rfl) ?_
                                      refine lv_bipush (v := 6) S.1 S.2.1 dX7_puts_195 (by decide) ?_
                                      refine lv_icmp_ne (tgt := 204) S.1 S.2.1 dX7_puts_197 (by decide) (fun c197_5 => ?_) (fun c197_5 => ?_)
                                      · refine lv_iconst (v := 0) S.1 S.2.1 dX7_puts_204 (by decide) ?_
                                        refine lv_istore (lv' := [(13, .int 0), (11, .long b0), (10, .int 0), (9, .int 1), (8, .int 0), (7, .int ((1 : Int32) <<< ((fS (30 + gg)) &&& 31))), (6, .int 7), (5, .int (gX fS gg)), (0, .ref mO), (1, .int (nI gg)), (2, .int x0), (3, .long b0)]) S.1 S.2.1 dX7_puts_205 hl (by decide) rfl (fun ls hl => ?_)
                                        refine lv_iload S.1 S.2.1 dX7_puts_207 (lv_at hl 3 rfl) ?_
                                        refine lv_istore (lv' := [(14, .int 1), (13, .int 0), (11, .long b0), (10, .int 0), (9, .int 1), (8, .int 0), (7, .int ((1 : Int32) <<< ((fS (30 + gg)) &&& 31))), (6, .int 7), (5, .int (gX fS gg)), (0, .ref mO), (1, .int (nI gg)), (2, .int x0), (3, .long b0)]) S.1 S.2.1 dX7_puts_209 hl (by decide) rfl (fun ls hl => ?_)
                                        refine lv_aload_n S.1 S.2.1 dX7_puts_211 rfl (lv_at hl 9 rfl) ?_
                                        refine lv_iload_n S.1 S.2.1 dX7_puts_212 rfl (lv_at hl 11 rfl) ?_
                                        refine lv_iload S.1 S.2.1 dX7_puts_213 (lv_at hl 8 rfl) ?_
                                        refine lv_ior S.1 S.2.1 dX7_puts_215 ?_
                                        refine lv_iload S.1 S.2.1 dX7_puts_216 (lv_at hl 6 rfl) ?_
                                        refine lv_ior S.1 S.2.1 dX7_puts_218 ?_
                                        refine lv_iload S.1 S.2.1 dX7_puts_219 (lv_at hl 0 rfl) ?_
                                        refine lv_if_eq (tgt := 230) S.1 S.2.1 dX7_puts_221 (by decide) (fun c221_6 => ?_) (fun c221_6 => ?_)
                                        · exact absurd c221_6 (by decide)
                                        · refine lv_lload S.1 S.2.1 dX7_puts_224 (lv_at hl 2 rfl) ?_
                                          refine lv_lneg S.1 S.2.1 dX7_puts_226 ?_
                                          refine lv_goto (tgt := 232) S.1 S.2.1 dX7_puts_227 (by decide) ?_
                                          refine lv_iload S.1 S.2.1 dX7_puts_232 (lv_at hl 1 rfl) ?_
                                          refine lv_if_eq (tgt := 243) S.1 S.2.1 dX7_puts_234 (by decide) (fun c234_6 => ?_) (fun c234_6 => ?_)
                                          · refine lv_lconst (v := 1) S.1 S.2.1 dX7_puts_243 (by decide) ?_
                                            refine lv_lmul S.1 S.2.1 dX7_puts_244 ?_
                                            refine cq_v C w [0, 2, 3] [1] [1, 0, 2, 3] (wr := [(mS, .inl (G.2.1 2, 49, .inl fS))]) (w' := fun u : Nat × (Nat → Int32) × (Nat → Int64) => [(mO, .inr (7, [.ref mS, .ref mD, .ref mR, .ref mT, .int mt, .int ma, .int mn, .ref mW, .ref mQ, .ref mC, .int my, .ref mU, .ref mV, .int (nI u.1), .int mf, .int mg])), (mU, .inl (G.2.1 2, 200, .inl u.2.1)), (mV, .inl (G.2.1 3, 200, .inr (.inl u.2.2)))]) (ws2 := fun u : Nat × (Nat → Int32) × (Nat → Int64) => [(mO, .inr (7, [.ref mS, .ref mD, .ref mR, .ref mT, .int mt, .int ma, .int mn, .ref mW, .ref mQ, .ref mC, .int my, .ref mU, .ref mV, .int (nI u.1), .int mf, .int mg])), (mS, .inl (G.2.1 2, 49, .inl fS)), (mU, .inl (G.2.1 2, 200, .inl u.2.1)), (mV, .inl (G.2.1 3, 200, .inr (.inl u.2.2)))]) rfl rfl rfl (by decide) rfl (fun _ => rfl) (va_runV (As := [.int ((x0 ||| (gX fS gg)) ||| ((1 : Int32) <<< ((fS (30 + gg)) &&& 31))), .long ((-b0) * 1)]) (rest := []) S (k_X7_adds l G mO mU mV _ mS mD mR mT mW mQ mC mt ma mn my mf mg u164_5.1 u164_5.2.1 u164_5.2.2 ((x0 ||| (gX fS gg)) ||| ((1 : Int32) <<< ((fS (30 + gg)) &&& 31))) ((-b0) * 1) (pAdd P (x0 ||| (gX fS gg)) B) ((-B) * 1) (by have := (h164_5).2.1; omega) (h164_5.2.2) (by rw [hb]; simp only [Int64.ofInt_mul, Int64.ofInt_neg]; first | done | rfl)) (cwV 2 S.2.2.2.2 gX7_puts_X7_adds rfl rfl rfl (by decide +kernel) ⟨Nat.le_of_ble_eq_true rfl, Nat.le_of_ble_eq_true rfl⟩) ⟨wPre_blind, va_recv C.1 w.1 (ci := 7) (q0 := 0) rfl rfl, wPre_at C w [0, 2, 3] rfl rfl⟩ rfl rfl hl.1 rfl (lv_room (Nat.le_of_ble_eq_true rfl)) dX7_puts_245 ⟨Nat.le_of_ble_eq_true rfl, Nat.le_of_ble_eq_true rfl⟩) (fun u245_6 H locs h245_6 w => ?_)
                                            have w : Wd G _ s [(mO, .inr (7, [.ref mS, .ref mD, .ref mR, .ref mT, .int mt, .int ma, .int mn, .ref mW, .ref mQ, .ref mC, .int my, .ref mU, .ref mV, .int (nI u245_6.1), .int mf, .int mg])), (mS, .inl (G.2.1 2, 49, .inl fS)), (mU, .inl (G.2.1 2, 200, .inl u245_6.2.1)), (mV, .inl (G.2.1 3, 200, .inr (.inl u245_6.2.2)))] H locs := w
                                            exact W.vret S.1 S.2.1 hr (fun t ht _ => ⟨⟨(u245_6.1, u245_6.2.1, u245_6.2.2), rfl, ⟨by have := (h164_5).1; have := (h245_6).1; dsimp only; omega, by have := (h164_5).2.1; have := (h245_6).2.1; dsimp only; omega, (h245_6).2.2.cong (fun t => by first | exact rq4_0 t | exact rq4_1 t | exact rq4_2 t | exact rq4_3 t | exact rq4_4 t | exact rq4_5 t | exact rq4_6 t | exact rq4_7 t)⟩, by rw [ht]; exact w.1, w.2.1⟩, w.2.2.F ht⟩) w.2.2.2.2 dX7_puts_248
                                          · exact absurd c234_6 (by decide)
                                      · exact absurd c197_5 (by decide)
                                · exact absurd c169_7 (by decide)
                            · exact absurd c141_7 (by decide)
                          · exact absurd c130_7 (by decide)
                        · exact absurd c118_4 (by decide)
            · exact absurd c67_4 (by decide)
    · exact absurd c26_7 (by decide)
set_option maxHeartbeats 4000000 in
set_option maxRecDepth 100000 in
theorem k_X7_step (l : Launch) (G : GT) (mO mS mQ mC mU mV : Nat) (sz : Nat) (mD mR mT mW : Nat) (mt ma mn mf mg : Int32) (nN gg : Nat) (fS fQ fU : Nat → Int32) (lC lV : Nat → Int64) (hgg : gg < 12) (hnN : nN ≤ 40) (hk8 : ∃ k, k < 8 ∧ fS (6 + gg) = nI k) : Met l yX7_step wsX7_step ({ frames := 2, cells := 0, slots := 0, locals := 58 }) (va_Pc [.ref mO, .int (nI gg)] (wPre G [(mO, .inr (7, [.ref mS, .ref mD, .ref mR, .ref mT, .int mt, .int ma, .int mn, .ref mW, .ref mQ, .ref mC, .int (nI nN), .ref mU, .ref mV, .int 0, .int mf, .int mg])), (mS, .inl (G.2.1 2, 49, .inl fS)), (mQ, .inl (G.2.1 2, 200, .inl fQ)), (mC, .inl (G.2.1 3, 200, .inr (.inl lC))), (mU, .inl (G.2.1 2, 200, .inl fU)), (mV, .inl (G.2.1 3, 200, .inr (.inl lV)))] sz)) (va_Qi (fun (r : Int32) (u : Nat × (Nat → Int32) × (Nat → Int64) × (Nat → Int32) × (Nat → Int64)) => u.1 ≤ 200 ∧ R64 u.1 u.2.1 u.2.2.1 (rpF (fS (6 + gg)) (gX fS gg) (gY fS gg) (gG fS gg) fQ (fun j => (lC j).toInt) nN) ∧ ((r = 1 ∧ u.1 ≤ 40) ∨ (r = 0 ∧ 40 < u.1))) (bW G (va_A [(mO, .inr (7, [.ref mS, .ref mD, .ref mR, .ref mT, .int mt, .int ma, .int mn, .ref mW, .ref mQ, .ref mC, .int (nI nN), .ref mU, .ref mV, .int 0, .int mf, .int mg])), (mS, .inl (G.2.1 2, 49, .inl fS)), (mQ, .inl (G.2.1 2, 200, .inl fQ)), (mC, .inl (G.2.1 3, 200, .inr (.inl lC))), (mU, .inl (G.2.1 2, 200, .inl fU)), (mV, .inl (G.2.1 3, 200, .inr (.inl lV)))] sz) (fun u : Nat × (Nat → Int32) × (Nat → Int64) × (Nat → Int32) × (Nat → Int64) => [(mO, .inr (7, [.ref mS, .ref mD, .ref mR, .ref mT, .int mt, .int ma, .int mn, .ref mW, .ref mQ, .ref mC, .int (nI u.1), .ref mU, .ref mV, .int 0, .int mf, .int mg])), (mS, .inl (G.2.1 2, 49, .inl fS)), (mQ, .inl (G.2.1 2, 200, .inl u.2.1)), (mC, .inl (G.2.1 3, 200, .inr (.inl u.2.2.1))), (mU, .inl (G.2.1 2, 200, .inl u.2.2.2.1)), (mV, .inl (G.2.1 3, 200, .inr (.inl u.2.2.2.2)))])) (va_A [(mO, .inr (7, [.ref mS, .ref mD, .ref mR, .ref mT, .int mt, .int ma, .int mn, .ref mW, .ref mQ, .ref mC, .int (nI nN), .ref mU, .ref mV, .int 0, .int mf, .int mg])), (mS, .inl (G.2.1 2, 49, .inl fS)), (mQ, .inl (G.2.1 2, 200, .inl fQ)), (mC, .inl (G.2.1 3, 200, .inr (.inl lC))), (mU, .inl (G.2.1 2, 200, .inl fU)), (mV, .inl (G.2.1 3, 200, .inr (.inl lV)))] sz)) 0 0 (va_A [(mO, .inr (7, [.ref mS, .ref mD, .ref mR, .ref mT, .int mt, .int ma, .int mn, .ref mW, .ref mQ, .ref mC, .int (nI nN), .ref mU, .ref mV, .int 0, .int mf, .int mg])), (mS, .inl (G.2.1 2, 49, .inl fS)), (mQ, .inl (G.2.1 2, 200, .inl fQ)), (mC, .inl (G.2.1 3, 200, .inr (.inl lC))), (mU, .inl (G.2.1 2, 200, .inl fU)), (mV, .inl (G.2.1 3, 200, .inr (.inl lV)))] sz) := by
  refine met_go (cc := cX7_step) (maxL := 4) (ret := (some .boolean)) (own := RX7) (by decide) rfl rfl (Nat.le_of_ble_eq_true rfl) ?_
  intro p e s m below meth c ls S hr hlocks hname hsz C w hl
  have hl : lv_has ls 4 [(0, .ref mO), (1, .int (nI gg))] := hl
  refine lv_iconst (v := 1) S.1 S.2.1 dX7_step_0 (by decide) ?_
  refine lv_aload_n S.1 S.2.1 dX7_step_1 rfl (lv_at hl 0 rfl) ?_
  refine w_get S C w (CC := RX7) (T := TX7) (N := 16) (ref := "GateSumsModel") im_X7_step_X7 0 rfl rfl 0 (by decide) (List.mem_of_getElem? (i := 1) rfl) (fun _ h => h) rfl dX7_step_2 ?_
  refine lv_iconst (v := 0) S.1 S.2.1 dX7_step_5 (by decide) ?_
  refine w_iald S C w 1 rfl (by unfold vp_in; decide) dX7_step_6 ?_
  refine w_topi (y := (fS 0)) (rfl) ?_
  refine lv_iload_n S.1 S.2.1 dX7_step_7 rfl (lv_at hl 1 rfl) ?_
  refine lv_iadd S.1 S.2.1 dX7_step_8 ?_
  refine lv_ishl S.1 S.2.1 dX7_step_9 ?_
  refine w_topi (y := (gG fS gg)) (rfl) ?_
  refine lv_istore_n (lv' := [(2, .int (gG fS gg)), (0, .ref mO), (1, .int (nI gg))]) S.1 S.2.1 dX7_step_10 rfl hl (by decide) rfl (fun ls hl => ?_)
  refine lv_iconst (v := 0) S.1 S.2.1 dX7_step_11 (by decide) ?_
  refine lv_istore_n (lv' := [(3, .int 0), (2, .int (gG fS gg)), (0, .ref mO), (1, .int (nI gg))]) S.1 S.2.1 dX7_step_12 rfl hl (by decide) rfl (fun ls hl => ?_)
  refine w_loop (G := G) (σ := Nat × Nat × (Nat → Int32) × (Nat → Int64)) (nL := 4) 13 (fun x13 => nN - x13.1) (fun x13 => x13.1 ≤ nN ∧ x13.2.1 ≤ 4 * x13.1 ∧ RU x13.2.1 x13.2.2.1 x13.2.2.2 (rpF (fS (6 + gg)) (gX fS gg) (gY fS gg) (gG fS gg) fQ (fun j => (lC j).toInt) x13.1)) (fun x13 => [(mO, .inr (7, [.ref mS, .ref mD, .ref mR, .ref mT, .int mt, .int ma, .int mn, .ref mW, .ref mQ, .ref mC, .int (nI nN), .ref mU, .ref mV, .int (nI x13.2.1), .int mf, .int mg])), (mS, .inl (G.2.1 2, 49, .inl fS)), (mQ, .inl (G.2.1 2, 200, .inl fQ)), (mC, .inl (G.2.1 3, 200, .inr (.inl lC))), (mU, .inl (G.2.1 2, 200, .inl x13.2.2.1)), (mV, .inl (G.2.1 3, 200, .inr (.inl x13.2.2.2)))]) (fun x13 => [(3, .int (nI x13.1)), (2, .int (gG fS gg)), (0, .ref mO), (1, .int (nI gg))]) (fun _ => []) ?_ (0, 0, fU, lV) ls _ _ (⟨Nat.zero_le _, Nat.zero_le _, RU.nil⟩) w (lv_sub hl [0, 1, 2, 3] rfl)
  intro x13 ls H locs hI13 w hl ih13
  have w : Wd G _ s [(mO, .inr (7, [.ref mS, .ref mD, .ref mR, .ref mT, .int mt, .int ma, .int mn, .ref mW, .ref mQ, .ref mC, .int (nI nN), .ref mU, .ref mV, .int (nI x13.2.1), .int mf, .int mg])), (mS, .inl (G.2.1 2, 49, .inl fS)), (mQ, .inl (G.2.1 2, 200, .inl fQ)), (mC, .inl (G.2.1 3, 200, .inr (.inl lC))), (mU, .inl (G.2.1 2, 200, .inl x13.2.2.1)), (mV, .inl (G.2.1 3, 200, .inr (.inl x13.2.2.2)))] H locs := w
  have hl : lv_has ls 4 [(3, .int (nI x13.1)), (2, .int (gG fS gg)), (0, .ref mO), (1, .int (nI gg))] := hl
  have hJ1 := hI13.1
  have hJ2 := hI13.2.1
  refine lv_iload_n S.1 S.2.1 dX7_step_13 rfl (lv_at hl 0 rfl) ?_
  refine lv_aload_n S.1 S.2.1 dX7_step_14 rfl (lv_at hl 2 rfl) ?_
  refine w_get S C w (CC := RX7) (T := TX7) (N := 16) (ref := "GateSumsModel") im_X7_step_X7 0 rfl rfl 10 (by decide) (List.mem_of_getElem? (i := 2) rfl) (fun _ h => h) rfl dX7_step_15 ?_
  refine lv_icmp_ge (tgt := 78) S.1 S.2.1 dX7_step_18 (by decide) (fun c18 => ?_) (fun c18 => ?_)
  · refine lv_aload_n S.1 S.2.1 dX7_step_78 rfl (lv_at hl 2 rfl) ?_
    refine cq_i C w [0, 2, 3, 4, 5] [1] [1, 0, 2, 3, 4, 5] (wr := [(mS, .inl (G.2.1 2, 49, .inl fS))]) (w' := fun u : Nat × (Nat → Int32) × (Nat → Int64) => [(mO, .inr (7, [.ref mS, .ref mD, .ref mR, .ref mT, .int mt, .int ma, .int mn, .ref mW, .ref mQ, .ref mC, .int (nI u.1), .ref mU, .ref mV, .int 0, .int mf, .int mg])), (mQ, .inl (G.2.1 2, 200, .inl u.2.1)), (mC, .inl (G.2.1 3, 200, .inr (.inl u.2.2))), (mU, .inl (G.2.1 2, 200, .inl x13.2.2.1)), (mV, .inl (G.2.1 3, 200, .inr (.inl x13.2.2.2)))]) (ws2 := fun u : Nat × (Nat → Int32) × (Nat → Int64) => [(mO, .inr (7, [.ref mS, .ref mD, .ref mR, .ref mT, .int mt, .int ma, .int mn, .ref mW, .ref mQ, .ref mC, .int (nI u.1), .ref mU, .ref mV, .int 0, .int mf, .int mg])), (mS, .inl (G.2.1 2, 49, .inl fS)), (mQ, .inl (G.2.1 2, 200, .inl u.2.1)), (mC, .inl (G.2.1 3, 200, .inr (.inl u.2.2))), (mU, .inl (G.2.1 2, 200, .inl x13.2.2.1)), (mV, .inl (G.2.1 3, 200, .inr (.inl x13.2.2.2)))]) rfl rfl rfl (by decide) rfl (fun _ => rfl) (va_runV (As := []) (rest := []) S (k_X7_becomes l G mO mQ mC mU mV _ mS mD mR mT mW mt ma mn (nI nN) mf mg x13.2.1 fQ x13.2.2.1 lC x13.2.2.2 (rpF (fS (6 + gg)) (gX fS gg) (gY fS gg) (gG fS gg) fQ (fun j => (lC j).toInt) nN) (by omega) ((by have e : x13.1 = nN := (by have h := c18; rw [nI_leI (by omega) (by omega)] at h; omega); rw [← e]; exact hI13.2.2))) (cwV 0 S.2.2.2.2 gX7_step_X7_becomes rfl rfl rfl (by decide +kernel) ⟨Nat.le_of_ble_eq_true rfl, Nat.le_of_ble_eq_true rfl⟩) ⟨wPre_blind, va_recv C.1 w.1 (ci := 7) (q0 := 0) rfl rfl, wPre_at C w [0, 2, 3, 4, 5] rfl rfl⟩ rfl rfl hl.1 rfl (lv_room (Nat.le_of_ble_eq_true rfl)) dX7_step_79 ⟨Nat.le_of_ble_eq_true rfl, Nat.le_of_ble_eq_true rfl⟩) (fun r79 u79 H locs h79 w => ?_)
    have w : Wd G _ s [(mO, .inr (7, [.ref mS, .ref mD, .ref mR, .ref mT, .int mt, .int ma, .int mn, .ref mW, .ref mQ, .ref mC, .int (nI u79.1), .ref mU, .ref mV, .int 0, .int mf, .int mg])), (mS, .inl (G.2.1 2, 49, .inl fS)), (mQ, .inl (G.2.1 2, 200, .inl u79.2.1)), (mC, .inl (G.2.1 3, 200, .inr (.inl u79.2.2))), (mU, .inl (G.2.1 2, 200, .inl x13.2.2.1)), (mV, .inl (G.2.1 3, 200, .inr (.inl x13.2.2.2)))] H locs := w
    exact W.zret (v := r79) S.1 S.2.1 hr (z01_nar (r01 (h79).2.2)) (fun t ht _ => ⟨⟨r79, (u79.1, u79.2.1, u79.2.2, x13.2.2.1, x13.2.2.2), rfl, ⟨by have := (h79).1; omega, (h79).2⟩, by rw [ht]; exact w.1, w.2.1⟩, w.2.2.F ht⟩) w.2.2.2.2 dX7_step_82
  · have hlt : x13.1 < nN := by have h := c18; rw [nI_leI (by omega) (by omega)] at h; omega
    refine lv_aload_n S.1 S.2.1 dX7_step_21 rfl (lv_at hl 2 rfl) ?_
    refine w_get S C w (CC := RX7) (T := TX7) (N := 16) (ref := "GateSumsModel") im_X7_step_X7 0 rfl rfl 8 (by decide) (List.mem_of_getElem? (i := 3) rfl) (fun _ h => h) rfl dX7_step_22 ?_
    refine lv_iload_n S.1 S.2.1 dX7_step_25 rfl (lv_at hl 0 rfl) ?_
    refine w_iald S C w 2 rfl (nIin (by omega) (by decide)) dX7_step_26 ?_
    refine w_topi (y := (fQ x13.1)) (congrArg fQ (nIc (by omega))) ?_
    refine lv_iload_n S.1 S.2.1 dX7_step_27 rfl (lv_at hl 1 rfl) ?_
    refine lv_iand S.1 S.2.1 dX7_step_28 ?_
    refine lv_if_ne (tgt := 51) S.1 S.2.1 dX7_step_29 (by decide) (fun c29 => ?_) (fun c29 => ?_)
    · refine lv_aload_n S.1 S.2.1 dX7_step_51 rfl (lv_at hl 2 rfl) ?_
      refine lv_iload_n S.1 S.2.1 dX7_step_52 rfl (lv_at hl 3 rfl) ?_
      refine lv_aload_n S.1 S.2.1 dX7_step_53 rfl (lv_at hl 2 rfl) ?_
      refine w_get S C w (CC := RX7) (T := TX7) (N := 16) (ref := "GateSumsModel") im_X7_step_X7 0 rfl rfl 8 (by decide) (List.mem_of_getElem? (i := 3) rfl) (fun _ h => h) rfl dX7_step_54 ?_
      refine lv_iload_n S.1 S.2.1 dX7_step_57 rfl (lv_at hl 0 rfl) ?_
      refine w_iald S C w 2 rfl (nIin (by omega) (by decide)) dX7_step_58 ?_
      refine w_topi (y := (fQ x13.1)) (congrArg fQ (nIc (by omega))) ?_
      refine lv_iload_n S.1 S.2.1 dX7_step_59 rfl (lv_at hl 1 rfl) ?_
      refine lv_iconst (v := (-1)) S.1 S.2.1 dX7_step_60 (by decide) ?_
      refine lv_ixor S.1 S.2.1 dX7_step_61 ?_
      refine w_topi (y := (~~~(gG fS gg))) (xor_m1 _) ?_
      refine lv_iand S.1 S.2.1 dX7_step_62 ?_
      refine lv_aload_n S.1 S.2.1 dX7_step_63 rfl (lv_at hl 2 rfl) ?_
      refine w_get S C w (CC := RX7) (T := TX7) (N := 16) (ref := "GateSumsModel") im_X7_step_X7 0 rfl rfl 9 (by decide) (List.mem_of_getElem? (i := 4) rfl) (fun _ h => h) rfl dX7_step_64 ?_
      refine lv_iload_n S.1 S.2.1 dX7_step_67 rfl (lv_at hl 0 rfl) ?_
      refine w_lald S C w 3 rfl (nIin (by omega) (by decide)) dX7_step_68 ?_
      refine w_topl (y := (lC x13.1)) (congrArg lC (nIc (by omega))) ?_
      refine cq_v C w [0, 1, 4, 5] [2, 3] [2, 3, 0, 1, 4, 5] (wr := [(mQ, .inl (G.2.1 2, 200, .inl fQ)), (mC, .inl (G.2.1 3, 200, .inr (.inl lC)))]) (w' := fun u : Nat × (Nat → Int32) × (Nat → Int64) => [(mO, .inr (7, [.ref mS, .ref mD, .ref mR, .ref mT, .int mt, .int ma, .int mn, .ref mW, .ref mQ, .ref mC, .int (nI nN), .ref mU, .ref mV, .int (nI u.1), .int mf, .int mg])), (mS, .inl (G.2.1 2, 49, .inl fS)), (mU, .inl (G.2.1 2, 200, .inl u.2.1)), (mV, .inl (G.2.1 3, 200, .inr (.inl u.2.2)))]) (ws2 := fun u : Nat × (Nat → Int32) × (Nat → Int64) => [(mO, .inr (7, [.ref mS, .ref mD, .ref mR, .ref mT, .int mt, .int ma, .int mn, .ref mW, .ref mQ, .ref mC, .int (nI nN), .ref mU, .ref mV, .int (nI u.1), .int mf, .int mg])), (mS, .inl (G.2.1 2, 49, .inl fS)), (mQ, .inl (G.2.1 2, 200, .inl fQ)), (mC, .inl (G.2.1 3, 200, .inr (.inl lC))), (mU, .inl (G.2.1 2, 200, .inl u.2.1)), (mV, .inl (G.2.1 3, 200, .inr (.inl u.2.2)))]) rfl rfl rfl (by decide) rfl (fun _ => rfl) (va_runV (As := [.int (nI gg), .int ((fQ x13.1) &&& (~~~(gG fS gg))), .long (lC x13.1)]) (rest := []) S (k_X7_puts l G mO mS mU mV _ mD mR mT mW mQ mC mt ma mn (nI nN) mf mg x13.2.1 gg fS x13.2.2.1 x13.2.2.2 ((fQ x13.1) &&& (~~~(gG fS gg))) (lC x13.1) (rpF (fS (6 + gg)) (gX fS gg) (gY fS gg) (gG fS gg) fQ (fun j => (lC j).toInt) x13.1) ((lC x13.1).toInt) (fS (6 + gg)) (hgg) (by omega) (hI13.2.2) ((Int64.ofInt_toInt _).symm) (rfl) (kind8 hk8)) (cwV 3 S.2.2.2.2 gX7_step_X7_puts rfl rfl rfl (by decide +kernel) ⟨Nat.le_of_ble_eq_true rfl, Nat.le_of_ble_eq_true rfl⟩) ⟨wPre_blind, va_recv C.1 w.1 (ci := 7) (q0 := 0) rfl rfl, wPre_at C w [0, 1, 4, 5] rfl rfl⟩ rfl rfl hl.1 rfl (lv_room (Nat.le_of_ble_eq_true rfl)) dX7_step_69 ⟨Nat.le_of_ble_eq_true rfl, Nat.le_of_ble_eq_true rfl⟩) (fun u69 H locs h69 w => ?_)
      have w : Wd G _ s [(mO, .inr (7, [.ref mS, .ref mD, .ref mR, .ref mT, .int mt, .int ma, .int mn, .ref mW, .ref mQ, .ref mC, .int (nI nN), .ref mU, .ref mV, .int (nI u69.1), .int mf, .int mg])), (mS, .inl (G.2.1 2, 49, .inl fS)), (mQ, .inl (G.2.1 2, 200, .inl fQ)), (mC, .inl (G.2.1 3, 200, .inr (.inl lC))), (mU, .inl (G.2.1 2, 200, .inl u69.2.1)), (mV, .inl (G.2.1 3, 200, .inr (.inl u69.2.2)))] H locs := w
      refine lv_iinc (v := (nI (x13.1 + 1))) (lv' := [(3, .int (nI (x13.1 + 1))), (2, .int (gG fS gg)), (0, .ref mO), (1, .int (nI gg))]) S.1 S.2.1 dX7_step_72 hl (k := 0) rfl (nI_1 _) (by decide) rfl (fun ls hl => ?_)
      refine lv_goto (tgt := 13) S.1 S.2.1 dX7_step_75 (by decide) ?_
      have hlt_jj : x13.1 < nN := by have h := c18; rw [nI_leI (by omega) (by omega)] at h; omega
      exact ih13 (x13.1 + 1, u69.1, u69.2.1, u69.2.2) ls _ _ (by first | exact ⟨hlt_jj, (by have := (@h45).2.1; dsimp only; omega), (@h45).2.2.cong (fun t => congrFun (rpF_1 c29) t)⟩ | exact ⟨hlt_jj, (by have := (h69).2.1; dsimp only; omega), (h69).2.2.cong (fun t => congrFun (rpF_4 c29) t)⟩) (by dsimp only; omega) w (lv_sub hl [0, 1, 2, 3] rfl)
    · refine lv_aload_n S.1 S.2.1 dX7_step_32 rfl (lv_at hl 2 rfl) ?_
      refine lv_aload_n S.1 S.2.1 dX7_step_33 rfl (lv_at hl 2 rfl) ?_
      refine w_get S C w (CC := RX7) (T := TX7) (N := 16) (ref := "GateSumsModel") im_X7_step_X7 0 rfl rfl 8 (by decide) (List.mem_of_getElem? (i := 3) rfl) (fun _ h => h) rfl dX7_step_34 ?_
      refine lv_iload_n S.1 S.2.1 dX7_step_37 rfl (lv_at hl 0 rfl) ?_
      refine w_iald S C w 2 rfl (nIin (by omega) (by decide)) dX7_step_38 ?_
      refine w_topi (y := (fQ x13.1)) (congrArg fQ (nIc (by omega))) ?_
      refine lv_aload_n S.1 S.2.1 dX7_step_39 rfl (lv_at hl 2 rfl) ?_
      refine w_get S C w (CC := RX7) (T := TX7) (N := 16) (ref := "GateSumsModel") im_X7_step_X7 0 rfl rfl 9 (by decide) (List.mem_of_getElem? (i := 4) rfl) (fun _ h => h) rfl dX7_step_40 ?_
      refine lv_iload_n S.1 S.2.1 dX7_step_43 rfl (lv_at hl 0 rfl) ?_
      refine w_lald S C w 3 rfl (nIin (by omega) (by decide)) dX7_step_44 ?_
      refine w_topl (y := (lC x13.1)) (congrArg lC (nIc (by omega))) ?_
      refine cq_v C w [0, 4, 5] [1, 2, 3] [3, 0, 1, 2, 4, 5] (wr := [(mS, .inl (G.2.1 2, 49, .inl fS)), (mQ, .inl (G.2.1 2, 200, .inl fQ)), (mC, .inl (G.2.1 3, 200, .inr (.inl lC)))]) (w' := fun u : Nat × (Nat → Int32) × (Nat → Int64) => [(mO, .inr (7, [.ref mS, .ref mD, .ref mR, .ref mT, .int mt, .int ma, .int mn, .ref mW, .ref mQ, .ref mC, .int (nI nN), .ref mU, .ref mV, .int (nI u.1), .int mf, .int mg])), (mU, .inl (G.2.1 2, 200, .inl u.2.1)), (mV, .inl (G.2.1 3, 200, .inr (.inl u.2.2)))]) (ws2 := fun u : Nat × (Nat → Int32) × (Nat → Int64) => [(mO, .inr (7, [.ref mS, .ref mD, .ref mR, .ref mT, .int mt, .int ma, .int mn, .ref mW, .ref mQ, .ref mC, .int (nI nN), .ref mU, .ref mV, .int (nI u.1), .int mf, .int mg])), (mS, .inl (G.2.1 2, 49, .inl fS)), (mQ, .inl (G.2.1 2, 200, .inl fQ)), (mC, .inl (G.2.1 3, 200, .inr (.inl lC))), (mU, .inl (G.2.1 2, 200, .inl u.2.1)), (mV, .inl (G.2.1 3, 200, .inr (.inl u.2.2)))]) rfl rfl rfl (by decide) rfl (fun _ => rfl) (va_runV (As := [.int (fQ x13.1), .long (lC x13.1)]) (rest := []) S (k_X7_adds l G mO mU mV _ mS mD mR mT mW mQ mC mt ma mn (nI nN) mf mg x13.2.1 x13.2.2.1 x13.2.2.2 (fQ x13.1) (lC x13.1) (rpF (fS (6 + gg)) (gX fS gg) (gY fS gg) (gG fS gg) fQ (fun j => (lC j).toInt) x13.1) ((lC x13.1).toInt) (by omega) (hI13.2.2) ((Int64.ofInt_toInt _).symm)) (cwV 2 S.2.2.2.2 gX7_step_X7_adds rfl rfl rfl (by decide +kernel) ⟨Nat.le_of_ble_eq_true rfl, Nat.le_of_ble_eq_true rfl⟩) ⟨wPre_blind, va_recv C.1 w.1 (ci := 7) (q0 := 0) rfl rfl, wPre_at C w [0, 4, 5] rfl rfl⟩ rfl rfl hl.1 rfl (lv_room (Nat.le_of_ble_eq_true rfl)) dX7_step_45 ⟨Nat.le_of_ble_eq_true rfl, Nat.le_of_ble_eq_true rfl⟩) (fun u45 H locs h45 w => ?_)
      have w : Wd G _ s [(mO, .inr (7, [.ref mS, .ref mD, .ref mR, .ref mT, .int mt, .int ma, .int mn, .ref mW, .ref mQ, .ref mC, .int (nI nN), .ref mU, .ref mV, .int (nI u45.1), .int mf, .int mg])), (mS, .inl (G.2.1 2, 49, .inl fS)), (mQ, .inl (G.2.1 2, 200, .inl fQ)), (mC, .inl (G.2.1 3, 200, .inr (.inl lC))), (mU, .inl (G.2.1 2, 200, .inl u45.2.1)), (mV, .inl (G.2.1 3, 200, .inr (.inl u45.2.2)))] H locs := w
      refine lv_goto (tgt := 72) S.1 S.2.1 dX7_step_48 (by decide) ?_
      refine lv_iinc (v := (nI (x13.1 + 1))) (lv' := [(3, .int (nI (x13.1 + 1))), (2, .int (gG fS gg)), (0, .ref mO), (1, .int (nI gg))]) S.1 S.2.1 dX7_step_72 hl (k := 0) rfl (nI_1 _) (by decide) rfl (fun ls hl => ?_)
      refine lv_goto (tgt := 13) S.1 S.2.1 dX7_step_75 (by decide) ?_
      have hlt_jj : x13.1 < nN := by have h := c18; rw [nI_leI (by omega) (by omega)] at h; omega
      exact ih13 (x13.1 + 1, u45.1, u45.2.1, u45.2.2) ls _ _ (by first | exact ⟨hlt_jj, (by have := (h45).2.1; dsimp only; omega), (h45).2.2.cong (fun t => congrFun (rpF_1 c29) t)⟩ | exact ⟨hlt_jj, (by have := (@h69).2.1; dsimp only; omega), (@h69).2.2.cong (fun t => congrFun (rpF_4 c29) t)⟩) (by dsimp only; omega) w (lv_sub hl [0, 1, 2, 3] rfl)
set_option maxHeartbeats 4000000 in
set_option maxRecDepth 100000 in
theorem k_X7_comes (l : Launch) (G : GT) (mO mS mQ mC mU mV : Nat) (sz : Nat) (mD mR mT mW : Nat) (mt ma mn my mm mf mg : Int32) (fS fQ fU : Nat → Int32) (lC lV : Nat → Int64) (iN gN oN pN qN kN : Nat) (hg : fS 1 = nI gN) (hgN : gN ≤ 12) (ho : fS 2 = nI oN) (hoN : oN ≤ 7) (hp : fS 4 = nI pN) (hpN : pN ≤ 6) (hq : fS 5 = nI qN) (hqN : qN ≤ 6) (hwf : WF fS iN gN) (hwo : WO fS iN gN oN) (hkd : KD fS gN) (hk : kN ≤ gN) : Met l yX7_comes wsX7_comes ({ frames := 3, cells := 0, slots := 0, locals := 81 }) (va_Pc [.ref mO, .int (nI kN)] (wPre G [(mO, .inr (7, [.ref mS, .ref mD, .ref mR, .ref mT, .int mt, .int ma, .int mn, .ref mW, .ref mQ, .ref mC, .int my, .ref mU, .ref mV, .int mm, .int mf, .int mg])), (mS, .inl (G.2.1 2, 49, .inl fS)), (mQ, .inl (G.2.1 2, 200, .inl fQ)), (mC, .inl (G.2.1 3, 200, .inr (.inl lC))), (mU, .inl (G.2.1 2, 200, .inl fU)), (mV, .inl (G.2.1 3, 200, .inr (.inl lV)))] sz)) (va_Qi (fun (r : Int32) (u : Nat × (Nat → Int32) × (Nat → Int64) × (Nat → Int32) × (Nat → Int64) × Nat) => u.1 ≤ 200 ∧ CI fS gN oN pN qN kN r u.1 u.2.2.2.2.2 u.2.1 u.2.2.1) (bW G (va_A [(mO, .inr (7, [.ref mS, .ref mD, .ref mR, .ref mT, .int mt, .int ma, .int mn, .ref mW, .ref mQ, .ref mC, .int my, .ref mU, .ref mV, .int mm, .int mf, .int mg])), (mS, .inl (G.2.1 2, 49, .inl fS)), (mQ, .inl (G.2.1 2, 200, .inl fQ)), (mC, .inl (G.2.1 3, 200, .inr (.inl lC))), (mU, .inl (G.2.1 2, 200, .inl fU)), (mV, .inl (G.2.1 3, 200, .inr (.inl lV)))] sz) (fun u : Nat × (Nat → Int32) × (Nat → Int64) × (Nat → Int32) × (Nat → Int64) × Nat => [(mO, .inr (7, [.ref mS, .ref mD, .ref mR, .ref mT, .int mt, .int ma, .int mn, .ref mW, .ref mQ, .ref mC, .int (nI u.1), .ref mU, .ref mV, .int 0, .int mf, .int (nI u.2.2.2.2.2)])), (mS, .inl (G.2.1 2, 49, .inl fS)), (mQ, .inl (G.2.1 2, 200, .inl u.2.1)), (mC, .inl (G.2.1 3, 200, .inr (.inl u.2.2.1))), (mU, .inl (G.2.1 2, 200, .inl u.2.2.2.1)), (mV, .inl (G.2.1 3, 200, .inr (.inl u.2.2.2.2.1)))])) (va_A [(mO, .inr (7, [.ref mS, .ref mD, .ref mR, .ref mT, .int mt, .int ma, .int mn, .ref mW, .ref mQ, .ref mC, .int my, .ref mU, .ref mV, .int mm, .int mf, .int mg])), (mS, .inl (G.2.1 2, 49, .inl fS)), (mQ, .inl (G.2.1 2, 200, .inl fQ)), (mC, .inl (G.2.1 3, 200, .inr (.inl lC))), (mU, .inl (G.2.1 2, 200, .inl fU)), (mV, .inl (G.2.1 3, 200, .inr (.inl lV)))] sz)) 0 0 (va_A [(mO, .inr (7, [.ref mS, .ref mD, .ref mR, .ref mT, .int mt, .int ma, .int mn, .ref mW, .ref mQ, .ref mC, .int my, .ref mU, .ref mV, .int mm, .int mf, .int mg])), (mS, .inl (G.2.1 2, 49, .inl fS)), (mQ, .inl (G.2.1 2, 200, .inl fQ)), (mC, .inl (G.2.1 3, 200, .inr (.inl lC))), (mU, .inl (G.2.1 2, 200, .inl fU)), (mV, .inl (G.2.1 3, 200, .inr (.inl lV)))] sz) := by
  refine met_go (cc := cX7_comes) (maxL := 4) (ret := (some .boolean)) (own := RX7) (by decide) rfl rfl (Nat.le_of_ble_eq_true rfl) ?_
  intro p e s m below meth c ls S hr hlocks hname hsz C w hl
  have hl : lv_has ls 4 [(0, .ref mO), (1, .int (nI kN))] := hl
  refine lv_aload_n S.1 S.2.1 dX7_comes_0 rfl (lv_at hl 0 rfl) ?_
  refine cq_i C w [0, 1, 2, 3, 4, 5] [] [0, 1, 2, 3, 4, 5] (wr := []) (w' := fun u : Nat × (Nat → Int32) × (Nat → Int64) × (Nat → Int32) × (Nat → Int64) => [(mO, .inr (7, [.ref mS, .ref mD, .ref mR, .ref mT, .int mt, .int ma, .int mn, .ref mW, .ref mQ, .ref mC, .int (nI u.1), .ref mU, .ref mV, .int 0, .int mf, .int mg])), (mS, .inl (G.2.1 2, 49, .inl fS)), (mQ, .inl (G.2.1 2, 200, .inl u.2.1)), (mC, .inl (G.2.1 3, 200, .inr (.inl u.2.2.1))), (mU, .inl (G.2.1 2, 200, .inl u.2.2.2.1)), (mV, .inl (G.2.1 3, 200, .inr (.inl u.2.2.2.2)))]) (ws2 := fun u : Nat × (Nat → Int32) × (Nat → Int64) × (Nat → Int32) × (Nat → Int64) => [(mO, .inr (7, [.ref mS, .ref mD, .ref mR, .ref mT, .int mt, .int ma, .int mn, .ref mW, .ref mQ, .ref mC, .int (nI u.1), .ref mU, .ref mV, .int 0, .int mf, .int mg])), (mS, .inl (G.2.1 2, 49, .inl fS)), (mQ, .inl (G.2.1 2, 200, .inl u.2.1)), (mC, .inl (G.2.1 3, 200, .inr (.inl u.2.2.1))), (mU, .inl (G.2.1 2, 200, .inl u.2.2.2.1)), (mV, .inl (G.2.1 3, 200, .inr (.inl u.2.2.2.2)))]) rfl rfl rfl (by decide) rfl (fun _ => rfl) (va_runV (As := []) (rest := []) S (k_X7_begin l G mO mS mQ mC mU mV _ mD mR mT mW mt ma mn my mm mf mg fS fQ fU lC lV oN pN qN (ho) (hoN) (hp) (hpN) (hq) (hqN) (hkd.2)) (cwV 0 S.2.2.2.2 gX7_comes_X7_begin rfl rfl rfl (by decide +kernel) ⟨Nat.le_of_ble_eq_true rfl, Nat.le_of_ble_eq_true rfl⟩) ⟨wPre_blind, va_recv C.1 w.1 (ci := 7) (q0 := 0) rfl rfl, wPre_at C w [0, 1, 2, 3, 4, 5] rfl rfl⟩ rfl rfl hl.1 rfl (lv_room (Nat.le_of_ble_eq_true rfl)) dX7_comes_1 ⟨Nat.le_of_ble_eq_true rfl, Nat.le_of_ble_eq_true rfl⟩) (fun r1 u1 H locs h1 w => ?_)
  have w : Wd G _ s [(mO, .inr (7, [.ref mS, .ref mD, .ref mR, .ref mT, .int mt, .int ma, .int mn, .ref mW, .ref mQ, .ref mC, .int (nI u1.1), .ref mU, .ref mV, .int 0, .int mf, .int mg])), (mS, .inl (G.2.1 2, 49, .inl fS)), (mQ, .inl (G.2.1 2, 200, .inl u1.2.1)), (mC, .inl (G.2.1 3, 200, .inr (.inl u1.2.2.1))), (mU, .inl (G.2.1 2, 200, .inl u1.2.2.2.1)), (mV, .inl (G.2.1 3, 200, .inr (.inl u1.2.2.2.2)))] H locs := w
  refine lv_istore_n (lv' := [(2, .int r1), (0, .ref mO), (1, .int (nI kN))]) S.1 S.2.1 dX7_comes_4 rfl hl (by decide) rfl (fun ls hl => ?_)
  refine lv_aload_n S.1 S.2.1 dX7_comes_5 rfl (lv_at hl 1 rfl) ?_
  refine lv_aload_n S.1 S.2.1 dX7_comes_6 rfl (lv_at hl 1 rfl) ?_
  refine w_get S C w (CC := RX7) (T := TX7) (N := 16) (ref := "GateSumsModel") im_X7_comes_X7 0 rfl rfl 10 (by decide) (List.mem_of_getElem? (i := 1) rfl) (fun _ h => h) rfl dX7_comes_7 ?_
  refine w_put S C w (CC := RX7) (T := TX7) (N := 16) (ref := "GateSumsModel") im_X7_comes_X7 tyX7 tyX7_ok nmX7 0 rfl rfl 15 (by decide) (List.mem_of_getElem? (i := 2) rfl) (fun _ h => h) rfl (ws2 := [(mO, .inr (7, [.ref mS, .ref mD, .ref mR, .ref mT, .int mt, .int ma, .int mn, .ref mW, .ref mQ, .ref mC, .int (nI u1.1), .ref mU, .ref mV, .int 0, .int mf, .int (nI u1.1)])), (mS, .inl (G.2.1 2, 49, .inl fS)), (mQ, .inl (G.2.1 2, 200, .inl u1.2.1)), (mC, .inl (G.2.1 3, 200, .inr (.inl u1.2.2.1))), (mU, .inl (G.2.1 2, 200, .inl u1.2.2.2.1)), (mV, .inl (G.2.1 3, 200, .inr (.inl u1.2.2.2.2)))]) (rfl) (rfl) (Nat.le_of_ble_eq_true rfl) rfl dX7_comes_10 (fun H locs w => ?_)
  refine lv_iconst (v := 0) S.1 S.2.1 dX7_comes_13 (by decide) ?_
  refine lv_istore_n (lv' := [(3, .int 0), (2, .int r1), (0, .ref mO), (1, .int (nI kN))]) S.1 S.2.1 dX7_comes_14 rfl hl (by decide) rfl (fun ls hl => ?_)
  refine w_loop (G := G) (σ := Nat × Int32 × Nat × Nat × (Nat → Int32) × (Nat → Int64) × (Nat → Int32) × (Nat → Int64)) (nL := 4) 15 (fun x15 => kN - x15.1) (fun x15 => x15.1 ≤ kN ∧ x15.2.2.1 ≤ 200 ∧ CI fS gN oN pN qN x15.1 x15.2.1 x15.2.2.1 x15.2.2.2.1 x15.2.2.2.2.1 x15.2.2.2.2.2.1 ∧ x15.2.2.2.1 ≤ 200) (fun x15 => [(mO, .inr (7, [.ref mS, .ref mD, .ref mR, .ref mT, .int mt, .int ma, .int mn, .ref mW, .ref mQ, .ref mC, .int (nI x15.2.2.1), .ref mU, .ref mV, .int 0, .int mf, .int (nI x15.2.2.2.1)])), (mS, .inl (G.2.1 2, 49, .inl fS)), (mQ, .inl (G.2.1 2, 200, .inl x15.2.2.2.2.1)), (mC, .inl (G.2.1 3, 200, .inr (.inl x15.2.2.2.2.2.1))), (mU, .inl (G.2.1 2, 200, .inl x15.2.2.2.2.2.2.1)), (mV, .inl (G.2.1 3, 200, .inr (.inl x15.2.2.2.2.2.2.2)))]) (fun x15 => [(3, .int (nI x15.1)), (2, .int x15.2.1), (0, .ref mO), (1, .int (nI kN))]) (fun _ => []) ?_ (0, r1, u1.1, u1.1, u1.2.1, u1.2.2.1, u1.2.2.2.1, u1.2.2.2.2) ls _ _ (⟨Nat.zero_le _, (h1).1, CI.start (h1).2.1 (h1).2.2, (h1).1⟩) w (lv_sub hl [0, 1, 2, 3] rfl)
  intro x15 ls H locs hI15 w hl ih15
  have w : Wd G _ s [(mO, .inr (7, [.ref mS, .ref mD, .ref mR, .ref mT, .int mt, .int ma, .int mn, .ref mW, .ref mQ, .ref mC, .int (nI x15.2.2.1), .ref mU, .ref mV, .int 0, .int mf, .int (nI x15.2.2.2.1)])), (mS, .inl (G.2.1 2, 49, .inl fS)), (mQ, .inl (G.2.1 2, 200, .inl x15.2.2.2.2.1)), (mC, .inl (G.2.1 3, 200, .inr (.inl x15.2.2.2.2.2.1))), (mU, .inl (G.2.1 2, 200, .inl x15.2.2.2.2.2.2.1)), (mV, .inl (G.2.1 3, 200, .inr (.inl x15.2.2.2.2.2.2.2)))] H locs := w
  have hl : lv_has ls 4 [(3, .int (nI x15.1)), (2, .int x15.2.1), (0, .ref mO), (1, .int (nI kN))] := hl
  have hJ1 := hI15.1
  have hJ4 := hI15.2.2.2
  refine lv_iload_n S.1 S.2.1 dX7_comes_15 rfl (lv_at hl 0 rfl) ?_
  refine lv_iload_n S.1 S.2.1 dX7_comes_16 rfl (lv_at hl 3 rfl) ?_
  refine lv_icmp_ge (tgt := 71) S.1 S.2.1 dX7_comes_17 (by decide) (fun c17 => ?_) (fun c17 => ?_)
  · refine lv_iload_n S.1 S.2.1 dX7_comes_71 rfl (lv_at hl 1 rfl) ?_
    exact W.zret (v := x15.2.1) S.1 S.2.1 hr (z01_nar hI15.2.2.1.z) (fun t ht _ => ⟨⟨x15.2.1, (x15.2.2.1, x15.2.2.2.2.1, x15.2.2.2.2.2.1, x15.2.2.2.2.2.2.1, x15.2.2.2.2.2.2.2, x15.2.2.2.1), rfl, ⟨hI15.2.1, hI15.2.2.1.fin hI15.1 (by first | exact Or.inl (by have h := c17; rw [nI_leI (by omega) (by omega)] at h; omega) | exact Or.inr @c21)⟩, by rw [ht]; exact w.1, w.2.1⟩, w.2.2.F ht⟩) w.2.2.2.2 dX7_comes_72
  · refine lv_iload_n S.1 S.2.1 dX7_comes_20 rfl (lv_at hl 1 rfl) ?_
    refine lv_if_eq (tgt := 71) S.1 S.2.1 dX7_comes_21 (by decide) (fun c21 => ?_) (fun c21 => ?_)
    · refine lv_iload_n S.1 S.2.1 dX7_comes_71 rfl (lv_at hl 1 rfl) ?_
      exact W.zret (v := x15.2.1) S.1 S.2.1 hr (z01_nar hI15.2.2.1.z) (fun t ht _ => ⟨⟨x15.2.1, (x15.2.2.1, x15.2.2.2.2.1, x15.2.2.2.2.2.1, x15.2.2.2.2.2.2.1, x15.2.2.2.2.2.2.2, x15.2.2.2.1), rfl, ⟨hI15.2.1, hI15.2.2.1.fin hI15.1 (by first | exact Or.inl (by have h := c17; rw [nI_leI (by omega) (by omega)] at h; omega) | exact Or.inr c21)⟩, by rw [ht]; exact w.1, w.2.1⟩, w.2.2.F ht⟩) w.2.2.2.2 dX7_comes_72
    · have hlt : x15.1 < kN := by have h := c17; rw [nI_leI (by omega) (by omega)] at h; omega
      have hcs := hI15.2.2.1.has c21
      refine lv_aload_n S.1 S.2.1 dX7_comes_24 rfl (lv_at hl 2 rfl) ?_
      refine lv_aload_n S.1 S.2.1 dX7_comes_25 rfl (lv_at hl 2 rfl) ?_
      refine w_get S C w (CC := RX7) (T := TX7) (N := 16) (ref := "GateSumsModel") im_X7_comes_X7 0 rfl rfl 0 (by decide) (List.mem_of_getElem? (i := 3) rfl) (fun _ h => h) rfl dX7_comes_26 ?_
      refine lv_iconst (v := 1) S.1 S.2.1 dX7_comes_29 (by decide) ?_
      refine w_iald S C w 1 rfl (by unfold vp_in; decide) dX7_comes_30 ?_
      refine lv_iconst (v := 1) S.1 S.2.1 dX7_comes_31 (by decide) ?_
      refine lv_isub S.1 S.2.1 dX7_comes_32 ?_
      refine lv_iload_n S.1 S.2.1 dX7_comes_33 rfl (lv_at hl 0 rfl) ?_
      refine lv_isub S.1 S.2.1 dX7_comes_34 ?_
      refine w_topi (y := (nI (gN - 1 - x15.1))) (by rw [show fS (1 : Int32).toNatClampNeg = nI gN from hg]; exact sub2 (by omega)) ?_
      refine cq_i C w [0, 1, 2, 3, 4, 5] [] [0, 1, 2, 3, 4, 5] (wr := []) (w' := fun u : Nat × (Nat → Int32) × (Nat → Int64) × (Nat → Int32) × (Nat → Int64) => [(mO, .inr (7, [.ref mS, .ref mD, .ref mR, .ref mT, .int mt, .int ma, .int mn, .ref mW, .ref mQ, .ref mC, .int (nI u.1), .ref mU, .ref mV, .int 0, .int mf, .int (nI x15.2.2.2.1)])), (mS, .inl (G.2.1 2, 49, .inl fS)), (mQ, .inl (G.2.1 2, 200, .inl u.2.1)), (mC, .inl (G.2.1 3, 200, .inr (.inl u.2.2.1))), (mU, .inl (G.2.1 2, 200, .inl u.2.2.2.1)), (mV, .inl (G.2.1 3, 200, .inr (.inl u.2.2.2.2)))]) (ws2 := fun u : Nat × (Nat → Int32) × (Nat → Int64) × (Nat → Int32) × (Nat → Int64) => [(mO, .inr (7, [.ref mS, .ref mD, .ref mR, .ref mT, .int mt, .int ma, .int mn, .ref mW, .ref mQ, .ref mC, .int (nI u.1), .ref mU, .ref mV, .int 0, .int mf, .int (nI x15.2.2.2.1)])), (mS, .inl (G.2.1 2, 49, .inl fS)), (mQ, .inl (G.2.1 2, 200, .inl u.2.1)), (mC, .inl (G.2.1 3, 200, .inr (.inl u.2.2.1))), (mU, .inl (G.2.1 2, 200, .inl u.2.2.2.1)), (mV, .inl (G.2.1 3, 200, .inr (.inl u.2.2.2.2)))]) rfl rfl rfl (by decide) rfl (fun _ => rfl) (va_runV (As := [.int (nI (gN - 1 - x15.1))]) (rest := []) S (k_X7_step l G mO mS mQ mC mU mV _ mD mR mT mW mt ma mn mf (nI x15.2.2.2.1) x15.2.2.1 (gN - 1 - x15.1) fS x15.2.2.2.2.1 x15.2.2.2.2.2.2.1 x15.2.2.2.2.2.1 x15.2.2.2.2.2.2.2 (by omega) (hcs.1) (hkd.1 _ (by omega))) (cwV 1 S.2.2.2.2 gX7_comes_X7_step rfl rfl rfl (by decide +kernel) ⟨Nat.le_of_ble_eq_true rfl, Nat.le_of_ble_eq_true rfl⟩) ⟨wPre_blind, va_recv C.1 w.1 (ci := 7) (q0 := 0) rfl rfl, wPre_at C w [0, 1, 2, 3, 4, 5] rfl rfl⟩ rfl rfl hl.1 rfl (lv_room (Nat.le_of_ble_eq_true rfl)) dX7_comes_35 ⟨Nat.le_of_ble_eq_true rfl, Nat.le_of_ble_eq_true rfl⟩) (fun r35 u35 H locs h35 w => ?_)
      have w : Wd G _ s [(mO, .inr (7, [.ref mS, .ref mD, .ref mR, .ref mT, .int mt, .int ma, .int mn, .ref mW, .ref mQ, .ref mC, .int (nI u35.1), .ref mU, .ref mV, .int 0, .int mf, .int (nI x15.2.2.2.1)])), (mS, .inl (G.2.1 2, 49, .inl fS)), (mQ, .inl (G.2.1 2, 200, .inl u35.2.1)), (mC, .inl (G.2.1 3, 200, .inr (.inl u35.2.2.1))), (mU, .inl (G.2.1 2, 200, .inl u35.2.2.2.1)), (mV, .inl (G.2.1 3, 200, .inr (.inl u35.2.2.2.2)))] H locs := w
      refine lv_istore_n (lv' := [(2, .int r35), (3, .int (nI x15.1)), (0, .ref mO), (1, .int (nI kN))]) S.1 S.2.1 dX7_comes_38 rfl hl (by decide) rfl (fun ls hl => ?_)
      refine lv_aload_n S.1 S.2.1 dX7_comes_39 rfl (lv_at hl 2 rfl) ?_
      refine w_joini 62 [.ref mO] (fun z62 => z62 = nI (if u35.1 ≤ x15.2.2.2.1 then x15.2.2.2.1 else u35.1)) (fun z62 hz62 => ?_) (fun J62 => ?_)
      · refine w_topi (y := (nI (if u35.1 ≤ x15.2.2.2.1 then x15.2.2.2.1 else u35.1))) (hz62) ?_
        refine w_put S C w (CC := RX7) (T := TX7) (N := 16) (ref := "GateSumsModel") im_X7_comes_X7 tyX7 tyX7_ok nmX7 0 rfl rfl 15 (by decide) (List.mem_of_getElem? (i := 2) rfl) (fun _ h => h) rfl (ws2 := [(mO, .inr (7, [.ref mS, .ref mD, .ref mR, .ref mT, .int mt, .int ma, .int mn, .ref mW, .ref mQ, .ref mC, .int (nI u35.1), .ref mU, .ref mV, .int 0, .int mf, .int (nI (if u35.1 ≤ x15.2.2.2.1 then x15.2.2.2.1 else u35.1))])), (mS, .inl (G.2.1 2, 49, .inl fS)), (mQ, .inl (G.2.1 2, 200, .inl u35.2.1)), (mC, .inl (G.2.1 3, 200, .inr (.inl u35.2.2.1))), (mU, .inl (G.2.1 2, 200, .inl u35.2.2.2.1)), (mV, .inl (G.2.1 3, 200, .inr (.inl u35.2.2.2.2)))]) (rfl) (rfl) (Nat.le_of_ble_eq_true rfl) rfl dX7_comes_62 (fun H locs w => ?_)
        refine lv_iinc (v := (nI (x15.1 + 1))) (lv' := [(3, .int (nI (x15.1 + 1))), (2, .int r35), (0, .ref mO), (1, .int (nI kN))]) S.1 S.2.1 dX7_comes_65 hl (k := 1) rfl (nI_1 _) (by decide) rfl (fun ls hl => ?_)
        refine lv_goto (tgt := 15) S.1 S.2.1 dX7_comes_68 (by decide) ?_
        have hlt : x15.1 < kN := by have h := c17; rw [nI_leI (by omega) (by omega)] at h; omega
        have hnx : R64 u35.1 u35.2.1 u35.2.2.1 (PK fS gN oN pN qN (x15.1 + 1)) := by have h := (h35).2.1; rw [rpF_PK64 (PK_Bd hwf hoN hpN hqN hwo hkd (by omega)) (hI15.2.2.1.has c21).2] at h; exact h
        have hg200 : (if u35.1 ≤ x15.2.2.2.1 then x15.2.2.2.1 else u35.1) ≤ 200 := by have := (h35).1; split <;> omega
        exact ih15 (x15.1 + 1, r35, u35.1, (if u35.1 ≤ x15.2.2.2.1 then x15.2.2.2.1 else u35.1), u35.2.1, u35.2.2.1, u35.2.2.2.1, u35.2.2.2.2) ls _ _ (⟨hlt, (h35).1, CI.step hI15.2.2.1 c21 hnx (h35).2.2, hg200⟩) (by dsimp only; omega) w (lv_sub hl [0, 1, 2, 3] rfl)
      · refine lv_aload_n S.1 S.2.1 dX7_comes_40 rfl (lv_at hl 2 rfl) ?_
        refine w_get S C w (CC := RX7) (T := TX7) (N := 16) (ref := "GateSumsModel") im_X7_comes_X7 0 rfl rfl 10 (by decide) (List.mem_of_getElem? (i := 1) rfl) (fun _ h => h) rfl dX7_comes_41 ?_
        refine lv_aload_n S.1 S.2.1 dX7_comes_44 rfl (lv_at hl 2 rfl) ?_
        refine w_get S C w (CC := RX7) (T := TX7) (N := 16) (ref := "GateSumsModel") im_X7_comes_X7 0 rfl rfl 15 (by decide) (List.mem_of_getElem? (i := 2) rfl) (fun _ h => h) rfl dX7_comes_45 ?_
        refine lv_icmp_le (tgt := 58) S.1 S.2.1 dX7_comes_48 (by decide) (fun c48 => ?_) (fun c48 => ?_)
        · refine lv_aload_n S.1 S.2.1 dX7_comes_58 rfl (lv_at hl 2 rfl) ?_
          refine w_get S C w (CC := RX7) (T := TX7) (N := 16) (ref := "GateSumsModel") im_X7_comes_X7 0 rfl rfl 15 (by decide) (List.mem_of_getElem? (i := 2) rfl) (fun _ h => h) rfl dX7_comes_59 ?_
          exact J62 (nI x15.2.2.2.1) (by first | (rw [if_pos (by have h := c48; rw [nI_leI (by have := (h35).1; omega) (by omega)] at h; exact h)]; done) | (rw [if_neg (by have h := c48; rw [nI_leI (by have := (h35).1; omega) (by omega)] at h; exact h)]; done))
        · refine lv_aload_n S.1 S.2.1 dX7_comes_51 rfl (lv_at hl 2 rfl) ?_
          refine w_get S C w (CC := RX7) (T := TX7) (N := 16) (ref := "GateSumsModel") im_X7_comes_X7 0 rfl rfl 10 (by decide) (List.mem_of_getElem? (i := 1) rfl) (fun _ h => h) rfl dX7_comes_52 ?_
          refine lv_goto (tgt := 62) S.1 S.2.1 dX7_comes_55 (by decide) ?_
          exact J62 (nI u35.1) (by first | (rw [if_pos (by have h := c48; rw [nI_leI (by have := (h35).1; omega) (by omega)] at h; exact h)]; done) | (rw [if_neg (by have h := c48; rw [nI_leI (by have := (h35).1; omega) (by omega)] at h; exact h)]; done))
