set_option maxHeartbeats 4000000 in
set_option maxRecDepth 100000 in
theorem x_X7_skips (l : Launch) (G : GT) (mO mT : Nat) (sz : Nat) (mS mD mR mW mQ mC mU mV : Nat) (mn my mm mf mg : Int32) (tN aN : Nat) (fT : Nat → Int32) (htN : tN ≤ 120) (haN : aN ≤ tN) : Met l yX7_skips wsX7_skips ({ frames := 1, cells := 0, slots := 0, locals := 21 }) (va_Pc [.ref mO] (wPre G [(mO, .inr (7, [.ref mS, .ref mD, .ref mR, .ref mT, .int (nI tN), .int (nI aN), .int mn, .ref mW, .ref mQ, .ref mC, .int my, .ref mU, .ref mV, .int mm, .int mf, .int mg])), (mT, .inl (G.2.1 2, 120, .inl fT))] sz)) (va_Qv (fun u : Unit => True) (bW G (va_A [(mO, .inr (7, [.ref mS, .ref mD, .ref mR, .ref mT, .int (nI tN), .int (nI aN), .int mn, .ref mW, .ref mQ, .ref mC, .int my, .ref mU, .ref mV, .int mm, .int mf, .int mg])), (mT, .inl (G.2.1 2, 120, .inl fT))] sz) (fun u : Unit => [(mO, .inr (7, [.ref mS, .ref mD, .ref mR, .ref mT, .int (nI tN), .int (nI (sk tN fT aN)), .int mn, .ref mW, .ref mQ, .ref mC, .int my, .ref mU, .ref mV, .int mm, .int mf, .int mg])), (mT, .inl (G.2.1 2, 120, .inl fT))])) (va_A [(mO, .inr (7, [.ref mS, .ref mD, .ref mR, .ref mT, .int (nI tN), .int (nI aN), .int mn, .ref mW, .ref mQ, .ref mC, .int my, .ref mU, .ref mV, .int mm, .int mf, .int mg])), (mT, .inl (G.2.1 2, 120, .inl fT))] sz)) 0 0 (va_A [(mO, .inr (7, [.ref mS, .ref mD, .ref mR, .ref mT, .int (nI tN), .int (nI aN), .int mn, .ref mW, .ref mQ, .ref mC, .int my, .ref mU, .ref mV, .int mm, .int mf, .int mg])), (mT, .inl (G.2.1 2, 120, .inl fT))] sz) := by
  refine met_go (cc := cX7_skips) (maxL := 1) (ret := none) (own := RX7) (by decide) rfl rfl (Nat.le_of_ble_eq_true rfl) ?_
  intro p e s m below meth c ls S hr hlocks hname hsz C w hl
  have hl : lv_has ls 1 [(0, .ref mO)] := hl
  refine w_loop (G := G) (σ := Nat) (nL := 1) 0 (fun x0 => tN - x0) (fun x0 => aN ≤ x0 ∧ x0 ≤ tN ∧ ∀ j, aN ≤ j → j < x0 → bA tN fT j = 32) (fun x0 => [(mO, .inr (7, [.ref mS, .ref mD, .ref mR, .ref mT, .int (nI tN), .int (nI x0), .int mn, .ref mW, .ref mQ, .ref mC, .int my, .ref mU, .ref mV, .int mm, .int mf, .int mg])), (mT, .inl (G.2.1 2, 120, .inl fT))]) (fun x0 => [(0, .ref mO)]) (fun _ => []) ?_ aN ls _ _ (⟨Nat.le_refl _, haN, fun j h1 h2 => absurd h2 (by omega)⟩) w (lv_sub hl [0] rfl)
  intro x0 ls H locs hI0 w hl ih0
  have w : Wd G _ s [(mO, .inr (7, [.ref mS, .ref mD, .ref mR, .ref mT, .int (nI tN), .int (nI x0), .int mn, .ref mW, .ref mQ, .ref mC, .int my, .ref mU, .ref mV, .int mm, .int mf, .int mg])), (mT, .inl (G.2.1 2, 120, .inl fT))] H locs := w
  have hl : lv_has ls 1 [(0, .ref mO)] := hl
  have hA1 := hI0.1
  have hA2 := hI0.2.1
  refine lv_aload_n S.1 S.2.1 dX7_skips_0 rfl (lv_at hl 0 rfl) ?_
  refine lv_aload_n S.1 S.2.1 dX7_skips_1 rfl (lv_at hl 0 rfl) ?_
  refine w_get S C w (CC := RX7) (T := TX7) (N := 16) (ref := "GateSumsModel") im_X7_skips_X7 0 rfl rfl 5 (by decide) (List.mem_of_getElem? (i := 1) rfl) (fun _ h => h) rfl dX7_skips_2 ?_
  refine cs_i (va_runV (As := [.int (nI x0)]) (rest := []) S (c_X7_byteAt l G mO mT _ mS mD mR mW mQ mC mU mV (nI tN) (nI x0) mn my mm mf mg fT (nI x0) (fun h => bt_ok htN (by omega) h)) (cwV 1 S.2.2.2.2 gX7_skips_X7_byteAt rfl rfl rfl (by decide +kernel) ⟨Nat.le_of_ble_eq_true rfl, Nat.le_of_ble_eq_true rfl⟩) ⟨wPre_blind, va_recv C.1 w.1 (ci := 7) (q0 := 0) rfl rfl, wPre_at C w [0, 1] rfl rfl⟩ rfl rfl hl.1 rfl (lv_room (Nat.le_of_ble_eq_true rfl)) dX7_skips_5 ⟨Nat.le_of_ble_eq_true rfl, Nat.le_of_ble_eq_true rfl⟩) (fun r5 h5 => ?_)
  refine w_topi (y := (byteAtM (nI tN) fT (nI x0))) h5 ?_
  refine w_topi (y := (bA tN fT x0)) (byteAt_bA htN (by omega)) ?_
  refine lv_bipush (v := 32) S.1 S.2.1 dX7_skips_8 (by decide) ?_
  refine lv_icmp_ne (tgt := 26) S.1 S.2.1 dX7_skips_10 (by decide) (fun c10 => ?_) (fun c10 => ?_)
  · have w : Wd G (va_A [(mO, .inr (7, [.ref mS, .ref mD, .ref mR, .ref mT, .int (nI tN), .int (nI aN), .int mn, .ref mW, .ref mQ, .ref mC, .int my, .ref mU, .ref mV, .int mm, .int mf, .int mg])), (mT, .inl (G.2.1 2, 120, .inl fT))] sz) s [(mO, .inr (7, [.ref mS, .ref mD, .ref mR, .ref mT, .int (nI tN), .int (nI (sk tN fT aN)), .int mn, .ref mW, .ref mQ, .ref mC, .int my, .ref mU, .ref mV, .int mm, .int mf, .int mg])), (mT, .inl (G.2.1 2, 120, .inl fT))] H locs := by have e : x0 = (sk tN fT aN) := sk_uniq hI0.1 c10 hI0.2.2; rw [← e]; exact w
    exact W.vret S.1 S.2.1 hr (fun t ht _ => ⟨⟨(), rfl, trivial, by rw [ht]; exact w.1, w.2.1⟩, w.2.2.F ht⟩) w.2.2.2.2 dX7_skips_26
  · refine lv_aload_n S.1 S.2.1 dX7_skips_13 rfl (lv_at hl 0 rfl) ?_
    refine lv_dup S.1 S.2.1 dX7_skips_14 rfl ?_
    refine w_get S C w (CC := RX7) (T := TX7) (N := 16) (ref := "GateSumsModel") im_X7_skips_X7 0 rfl rfl 5 (by decide) (List.mem_of_getElem? (i := 1) rfl) (fun _ h => h) rfl dX7_skips_15 ?_
    refine lv_iconst (v := 1) S.1 S.2.1 dX7_skips_18 (by decide) ?_
    refine lv_iadd S.1 S.2.1 dX7_skips_19 ?_
    refine w_topi (y := (nI (x0 + 1))) (nI_1 _) ?_
    refine w_put S C w (CC := RX7) (T := TX7) (N := 16) (ref := "GateSumsModel") im_X7_skips_X7 tyX7 tyX7_ok nmX7 0 rfl rfl 5 (by decide) (List.mem_of_getElem? (i := 1) rfl) (fun _ h => h) rfl (ws2 := [(mO, .inr (7, [.ref mS, .ref mD, .ref mR, .ref mT, .int (nI tN), .int (nI (x0 + 1)), .int mn, .ref mW, .ref mQ, .ref mC, .int my, .ref mU, .ref mV, .int mm, .int mf, .int mg])), (mT, .inl (G.2.1 2, 120, .inl fT))]) (rfl) (rfl) (Nat.le_of_ble_eq_true rfl) rfl dX7_skips_20 (fun H locs w => ?_)
    refine lv_goto (tgt := 0) S.1 S.2.1 dX7_skips_23 (by decide) ?_
    have hlt : x0 < tN := bA_lt c10 (by decide)
    exact ih0 (x0 + 1) ls _ _ (⟨by omega, hlt, sp_step hI0.2.2 c10⟩) (by omega) w (lv_sub hl [0] rfl)
set_option maxHeartbeats 4000000 in
set_option maxRecDepth 100000 in
theorem x_X7_isNumber (l : Launch) (G : GT) (mO mT : Nat) (sz : Nat) (mS mD mR mW mQ mC mU mV : Nat) (mn my mm mf mg : Int32) (tN aN : Nat) (fT : Nat → Int32) (lo hi : Int32) (htN : tN ≤ 120) (haN : aN ≤ tN) : Met l yX7_isNumber wsX7_isNumber ({ frames := 2, cells := 0, slots := 0, locals := 42 }) (va_Pc [.ref mO, .int lo, .int hi] (wPre G [(mO, .inr (7, [.ref mS, .ref mD, .ref mR, .ref mT, .int (nI tN), .int (nI aN), .int mn, .ref mW, .ref mQ, .ref mC, .int my, .ref mU, .ref mV, .int mm, .int mf, .int mg])), (mT, .inl (G.2.1 2, 120, .inl fT))] sz)) (va_Qi (fun (r : Int32) (u : Nat × Int32) => ((r = 1 ∧ tkN tN fT lo hi aN = some (u.2, u.1)) ∨ (r = 0 ∧ tkN tN fT lo hi aN = none)) ∧ u.1 ≤ tN) (bW G (va_A [(mO, .inr (7, [.ref mS, .ref mD, .ref mR, .ref mT, .int (nI tN), .int (nI aN), .int mn, .ref mW, .ref mQ, .ref mC, .int my, .ref mU, .ref mV, .int mm, .int mf, .int mg])), (mT, .inl (G.2.1 2, 120, .inl fT))] sz) (fun u : Nat × Int32 => [(mO, .inr (7, [.ref mS, .ref mD, .ref mR, .ref mT, .int (nI tN), .int (nI u.1), .int u.2, .ref mW, .ref mQ, .ref mC, .int my, .ref mU, .ref mV, .int mm, .int mf, .int mg])), (mT, .inl (G.2.1 2, 120, .inl fT))])) (va_A [(mO, .inr (7, [.ref mS, .ref mD, .ref mR, .ref mT, .int (nI tN), .int (nI aN), .int mn, .ref mW, .ref mQ, .ref mC, .int my, .ref mU, .ref mV, .int mm, .int mf, .int mg])), (mT, .inl (G.2.1 2, 120, .inl fT))] sz)) 0 0 (va_A [(mO, .inr (7, [.ref mS, .ref mD, .ref mR, .ref mT, .int (nI tN), .int (nI aN), .int mn, .ref mW, .ref mQ, .ref mC, .int my, .ref mU, .ref mV, .int mm, .int mf, .int mg])), (mT, .inl (G.2.1 2, 120, .inl fT))] sz) := by
  refine met_go (cc := cX7_isNumber) (maxL := 6) (ret := (some .boolean)) (own := RX7) (by decide) rfl rfl (Nat.le_of_ble_eq_true rfl) ?_
  intro p e s m below meth c ls S hr hlocks hname hsz C w hl
  have hl : lv_has ls 6 [(0, .ref mO), (1, .int lo), (2, .int hi)] := hl
  refine lv_aload_n S.1 S.2.1 dX7_isNumber_0 rfl (lv_at hl 0 rfl) ?_
  refine cq_v C w [0, 1] [] [0, 1] (wr := []) (w' := fun u : Unit => [(mO, .inr (7, [.ref mS, .ref mD, .ref mR, .ref mT, .int (nI tN), .int (nI (sk tN fT aN)), .int mn, .ref mW, .ref mQ, .ref mC, .int my, .ref mU, .ref mV, .int mm, .int mf, .int mg])), (mT, .inl (G.2.1 2, 120, .inl fT))]) (ws2 := fun u : Unit => [(mO, .inr (7, [.ref mS, .ref mD, .ref mR, .ref mT, .int (nI tN), .int (nI (sk tN fT aN)), .int mn, .ref mW, .ref mQ, .ref mC, .int my, .ref mU, .ref mV, .int mm, .int mf, .int mg])), (mT, .inl (G.2.1 2, 120, .inl fT))]) rfl rfl rfl (by decide) rfl (fun _ => rfl) (va_runV (As := []) (rest := []) S (x_X7_skips l G mO mT _ mS mD mR mW mQ mC mU mV mn my mm mf mg tN aN fT (htN) (haN)) (cwV 0 S.2.2.2.2 gX7_isNumber_X7_skips rfl rfl rfl (by decide +kernel) ⟨Nat.le_of_ble_eq_true rfl, Nat.le_of_ble_eq_true rfl⟩) ⟨wPre_blind, va_recv C.1 w.1 (ci := 7) (q0 := 0) rfl rfl, wPre_at C w [0, 1] rfl rfl⟩ rfl rfl hl.1 rfl (lv_room (Nat.le_of_ble_eq_true rfl)) dX7_isNumber_1 ⟨Nat.le_of_ble_eq_true rfl, Nat.le_of_ble_eq_true rfl⟩) (fun u1 H locs h1 w => ?_)
  have w : Wd G _ s [(mO, .inr (7, [.ref mS, .ref mD, .ref mR, .ref mT, .int (nI tN), .int (nI (sk tN fT aN)), .int mn, .ref mW, .ref mQ, .ref mC, .int my, .ref mU, .ref mV, .int mm, .int mf, .int mg])), (mT, .inl (G.2.1 2, 120, .inl fT))] H locs := w
  have hB := sk_le (f := fT) haN
  refine lv_aload_n S.1 S.2.1 dX7_isNumber_4 rfl (lv_at hl 0 rfl) ?_
  refine w_get S C w (CC := RX7) (T := TX7) (N := 16) (ref := "GateSumsModel") im_X7_isNumber_X7 0 rfl rfl 5 (by decide) (List.mem_of_getElem? (i := 1) rfl) (fun _ h => h) rfl dX7_isNumber_5 ?_
  refine lv_istore_n (lv' := [(3, .int (nI (sk tN fT aN))), (0, .ref mO), (1, .int lo), (2, .int hi)]) S.1 S.2.1 dX7_isNumber_8 rfl hl (by decide) rfl (fun ls hl => ?_)
  refine lv_iconst (v := 0) S.1 S.2.1 dX7_isNumber_9 (by decide) ?_
  refine lv_istore (lv' := [(4, .int 0), (3, .int (nI (sk tN fT aN))), (0, .ref mO), (1, .int lo), (2, .int hi)]) S.1 S.2.1 dX7_isNumber_10 hl (by decide) rfl (fun ls hl => ?_)
  refine w_loopS (σ := Nat × Int32) (nL := 6) 12 (fun x12 => (sk tN fT aN) + 3 - x12.1) (fun x12 => (sk tN fT aN) ≤ x12.1 ∧ x12.1 ≤ (sk tN fT aN) + 3 ∧ x12.1 ≤ tN ∧ x12.2 = nv fT (sk tN fT aN) (x12.1 - (sk tN fT aN)) ∧ ∀ j, (sk tN fT aN) ≤ j → j < x12.1 → sortF (bA tN fT j) = 2) (fun x12 => [(4, .int x12.2), (3, .int (nI x12.1)), (0, .ref mO), (1, .int lo), (2, .int hi)]) (fun _ => []) ?_ ((sk tN fT aN), 0) ls (⟨Nat.le_refl _, by dsimp only; omega, hB, by dsimp only; rw [Nat.sub_self]; rfl, fun j h1 h2 => absurd h2 (by dsimp only; omega)⟩) (lv_sub hl [0, 1, 2, 3, 4] rfl)
  intro x12 ls hI12 hl ih12
  have hl : lv_has ls 6 [(4, .int x12.2), (3, .int (nI x12.1)), (0, .ref mO), (1, .int lo), (2, .int hi)] := hl
  have hA1 := hI12.1
  have hA2 := hI12.2.1
  have hA3 := hI12.2.2.1
  refine lv_aload_n S.1 S.2.1 dX7_isNumber_12 rfl (lv_at hl 2 rfl) ?_
  refine w_join0 56 [] (x12.1 = (sk tN fT aN) + 3 ∨ ¬ sortF (bA tN fT x12.1) = 2) (fun hz56 => ?_) (fun J56 => ?_)
  · refine lv_iload_n S.1 S.2.1 dX7_isNumber_56 rfl (lv_at hl 1 rfl) ?_
    refine w_joini 89 [] (fun z89 => (z89 = 1 ∧ ((sk tN fT aN) < x12.1 ∧ x12.1 - (sk tN fT aN) < 3 ∧ ¬ inF x12.2 lo hi = 0)) ∨ (z89 = 0 ∧ ¬ ((sk tN fT aN) < x12.1 ∧ x12.1 - (sk tN fT aN) < 3 ∧ ¬ inF x12.2 lo hi = 0))) (fun z89 hz89 => ?_) (fun J89 => ?_)
    · refine lv_istore (lv' := [(5, .int z89), (4, .int x12.2), (3, .int (nI x12.1)), (0, .ref mO), (1, .int lo), (2, .int hi)]) S.1 S.2.1 dX7_isNumber_89 hl (by decide) rfl (fun ls hl => ?_)
      refine lv_aload_n S.1 S.2.1 dX7_isNumber_91 rfl (lv_at hl 3 rfl) ?_
      refine lv_iload S.1 S.2.1 dX7_isNumber_92 (lv_at hl 1 rfl) ?_
      refine w_put S C w (CC := RX7) (T := TX7) (N := 16) (ref := "GateSumsModel") im_X7_isNumber_X7 tyX7 tyX7_ok nmX7 0 rfl rfl 6 (by decide) (List.mem_of_getElem? (i := 3) rfl) (fun _ h => h) rfl (ws2 := [(mO, .inr (7, [.ref mS, .ref mD, .ref mR, .ref mT, .int (nI tN), .int (nI (sk tN fT aN)), .int x12.2, .ref mW, .ref mQ, .ref mC, .int my, .ref mU, .ref mV, .int mm, .int mf, .int mg])), (mT, .inl (G.2.1 2, 120, .inl fT))]) (rfl) (rfl) (Nat.le_of_ble_eq_true rfl) rfl dX7_isNumber_94 (fun H locs w => ?_)
      refine lv_aload_n S.1 S.2.1 dX7_isNumber_97 rfl (lv_at hl 3 rfl) ?_
      refine lv_iload S.1 S.2.1 dX7_isNumber_98 (lv_at hl 0 rfl) ?_
      refine lv_if_eq (tgt := 107) S.1 S.2.1 dX7_isNumber_100 (by decide) (fun c100 => ?_) (fun c100 => ?_)
      · refine lv_aload_n S.1 S.2.1 dX7_isNumber_107 rfl (lv_at hl 3 rfl) ?_
        refine w_get S C w (CC := RX7) (T := TX7) (N := 16) (ref := "GateSumsModel") im_X7_isNumber_X7 0 rfl rfl 5 (by decide) (List.mem_of_getElem? (i := 1) rfl) (fun _ h => h) rfl dX7_isNumber_108 ?_
        refine w_put S C w (CC := RX7) (T := TX7) (N := 16) (ref := "GateSumsModel") im_X7_isNumber_X7 tyX7 tyX7_ok nmX7 0 rfl rfl 5 (by decide) (List.mem_of_getElem? (i := 1) rfl) (fun _ h => h) rfl (ws2 := [(mO, .inr (7, [.ref mS, .ref mD, .ref mR, .ref mT, .int (nI tN), .int (nI (sk tN fT aN)), .int x12.2, .ref mW, .ref mQ, .ref mC, .int my, .ref mU, .ref mV, .int mm, .int mf, .int mg])), (mT, .inl (G.2.1 2, 120, .inl fT))]) (rfl) (rfl) (Nat.le_of_ble_eq_true rfl) rfl dX7_isNumber_111 (fun H locs w => ?_)
        refine lv_iload S.1 S.2.1 dX7_isNumber_114 (lv_at hl 0 rfl) ?_
        exact W.zret (v := z89) S.1 S.2.1 hr (z01_nar (or_01 hz89)) (fun t ht _ => ⟨⟨z89, ((sk tN fT aN), x12.2), rfl, by first | exact ⟨or_of hz89 c100 (num_yes hI12.1 hI12.2.1 hI12.2.2.2.2 hz56 hI12.2.2.2.1), hA3⟩ | exact ⟨or_no hz89 c100 (num_no hI12.1 hI12.2.1 hI12.2.2.2.2 hz56 hI12.2.2.2.1), hB⟩, by rw [ht]; exact w.1, w.2.1⟩, w.2.2.F ht⟩) w.2.2.2.2 dX7_isNumber_116
      · refine lv_iload_n S.1 S.2.1 dX7_isNumber_103 rfl (lv_at hl 2 rfl) ?_
        refine lv_goto (tgt := 111) S.1 S.2.1 dX7_isNumber_104 (by decide) ?_
        refine w_put S C w (CC := RX7) (T := TX7) (N := 16) (ref := "GateSumsModel") im_X7_isNumber_X7 tyX7 tyX7_ok nmX7 0 rfl rfl 5 (by decide) (List.mem_of_getElem? (i := 1) rfl) (fun _ h => h) rfl (ws2 := [(mO, .inr (7, [.ref mS, .ref mD, .ref mR, .ref mT, .int (nI tN), .int (nI x12.1), .int x12.2, .ref mW, .ref mQ, .ref mC, .int my, .ref mU, .ref mV, .int mm, .int mf, .int mg])), (mT, .inl (G.2.1 2, 120, .inl fT))]) (rfl) (rfl) (Nat.le_of_ble_eq_true rfl) rfl dX7_isNumber_111 (fun H locs w => ?_)
        refine lv_iload S.1 S.2.1 dX7_isNumber_114 (lv_at hl 0 rfl) ?_
        exact W.zret (v := z89) S.1 S.2.1 hr (z01_nar (or_01 hz89)) (fun t ht _ => ⟨⟨z89, (x12.1, x12.2), rfl, by first | exact ⟨or_of hz89 c100 (num_yes hI12.1 hI12.2.1 hI12.2.2.2.2 hz56 hI12.2.2.2.1), hA3⟩ | exact ⟨or_no hz89 c100 (num_no hI12.1 hI12.2.1 hI12.2.2.2.2 hz56 hI12.2.2.2.1), hB⟩, by rw [ht]; exact w.1, w.2.1⟩, w.2.2.F ht⟩) w.2.2.2.2 dX7_isNumber_116
    · refine lv_aload_n S.1 S.2.1 dX7_isNumber_57 rfl (lv_at hl 2 rfl) ?_
      refine w_get S C w (CC := RX7) (T := TX7) (N := 16) (ref := "GateSumsModel") im_X7_isNumber_X7 0 rfl rfl 5 (by decide) (List.mem_of_getElem? (i := 1) rfl) (fun _ h => h) rfl dX7_isNumber_58 ?_
      refine lv_icmp_le (tgt := 88) S.1 S.2.1 dX7_isNumber_61 (by decide) (fun c61 => ?_) (fun c61 => ?_)
      · refine lv_iconst (v := 0) S.1 S.2.1 dX7_isNumber_88 (by decide) ?_
        exact J89 0 (by first | exact Or.inl ⟨rfl, (by have h := c61; rw [nI_leI (by omega) (by omega)] at h; omega), (by have h := @c71; rw [show (3 : Int32) = nI 3 from rfl, nI_leI (by decide) (by omega)] at h; omega), @c81⟩ | exact Or.inr ⟨rfl, fun q => q.2.2 @c81⟩ | exact Or.inr ⟨rfl, fun q => (by have h := @c71; rw [show (3 : Int32) = nI 3 from rfl, nI_leI (by decide) (by omega)] at h; omega)⟩ | exact Or.inr ⟨rfl, fun q => (by have h := c61; rw [nI_leI (by omega) (by omega)] at h; omega)⟩)
      · refine lv_iload_n S.1 S.2.1 dX7_isNumber_64 rfl (lv_at hl 1 rfl) ?_
        refine lv_aload_n S.1 S.2.1 dX7_isNumber_65 rfl (lv_at hl 2 rfl) ?_
        refine w_get S C w (CC := RX7) (T := TX7) (N := 16) (ref := "GateSumsModel") im_X7_isNumber_X7 0 rfl rfl 5 (by decide) (List.mem_of_getElem? (i := 1) rfl) (fun _ h => h) rfl dX7_isNumber_66 ?_
        refine lv_isub S.1 S.2.1 dX7_isNumber_69 ?_
        refine w_topi (y := (nI (x12.1 - (sk tN fT aN)))) (pk_sub hA1) ?_
        refine lv_iconst (v := 3) S.1 S.2.1 dX7_isNumber_70 (by decide) ?_
        refine lv_icmp_ge (tgt := 88) S.1 S.2.1 dX7_isNumber_71 (by decide) (fun c71 => ?_) (fun c71 => ?_)
        · refine lv_iconst (v := 0) S.1 S.2.1 dX7_isNumber_88 (by decide) ?_
          exact J89 0 (by first | exact Or.inl ⟨rfl, (by have h := c61; rw [nI_leI (by omega) (by omega)] at h; omega), (by have h := c71; rw [show (3 : Int32) = nI 3 from rfl, nI_leI (by decide) (by omega)] at h; omega), @c81⟩ | exact Or.inr ⟨rfl, fun q => q.2.2 @c81⟩ | exact Or.inr ⟨rfl, fun q => (by have h := c71; rw [show (3 : Int32) = nI 3 from rfl, nI_leI (by decide) (by omega)] at h; omega)⟩ | exact Or.inr ⟨rfl, fun q => (by have h := c61; rw [nI_leI (by omega) (by omega)] at h; omega)⟩)
        · refine lv_iload S.1 S.2.1 dX7_isNumber_74 (lv_at hl 0 rfl) ?_
          refine lv_iload_n S.1 S.2.1 dX7_isNumber_76 rfl (lv_at hl 3 rfl) ?_
          refine lv_iload_n S.1 S.2.1 dX7_isNumber_77 rfl (lv_at hl 4 rfl) ?_
          refine cs_i (va_runS (As := [.int x12.2, .int lo, .int hi]) (rest := []) S (c_X7_in l G _ x12.2 lo hi) (va_cwS 3 S.2.2.2.2 gX7_isNumber_X7_in rfl rfl rfl (by decide +kernel) ⟨Nat.le_of_ble_eq_true rfl, Nat.le_of_ble_eq_true rfl⟩) ⟨wPre_blind, wPre_at C w [] rfl rfl⟩ rfl rfl hl.1 rfl (lv_room (Nat.le_of_ble_eq_true rfl)) dX7_isNumber_78 ⟨Nat.le_of_ble_eq_true rfl, Nat.le_of_ble_eq_true rfl⟩) (fun r78 h78 => ?_)
          refine w_topi (y := (inF x12.2 lo hi)) h78 ?_
          refine lv_if_eq (tgt := 88) S.1 S.2.1 dX7_isNumber_81 (by decide) (fun c81 => ?_) (fun c81 => ?_)
          · refine lv_iconst (v := 0) S.1 S.2.1 dX7_isNumber_88 (by decide) ?_
            exact J89 0 (by first | exact Or.inl ⟨rfl, (by have h := c61; rw [nI_leI (by omega) (by omega)] at h; omega), (by have h := c71; rw [show (3 : Int32) = nI 3 from rfl, nI_leI (by decide) (by omega)] at h; omega), c81⟩ | exact Or.inr ⟨rfl, fun q => q.2.2 c81⟩ | exact Or.inr ⟨rfl, fun q => (by have h := c71; rw [show (3 : Int32) = nI 3 from rfl, nI_leI (by decide) (by omega)] at h; omega)⟩ | exact Or.inr ⟨rfl, fun q => (by have h := c61; rw [nI_leI (by omega) (by omega)] at h; omega)⟩)
          · refine lv_iconst (v := 1) S.1 S.2.1 dX7_isNumber_84 (by decide) ?_
            refine lv_goto (tgt := 89) S.1 S.2.1 dX7_isNumber_85 (by decide) ?_
            exact J89 1 (by first | exact Or.inl ⟨rfl, (by have h := c61; rw [nI_leI (by omega) (by omega)] at h; omega), (by have h := c71; rw [show (3 : Int32) = nI 3 from rfl, nI_leI (by decide) (by omega)] at h; omega), c81⟩ | exact Or.inr ⟨rfl, fun q => q.2.2 c81⟩ | exact Or.inr ⟨rfl, fun q => (by have h := c71; rw [show (3 : Int32) = nI 3 from rfl, nI_leI (by decide) (by omega)] at h; omega)⟩ | exact Or.inr ⟨rfl, fun q => (by have h := c61; rw [nI_leI (by omega) (by omega)] at h; omega)⟩)
  · refine lv_iload_n S.1 S.2.1 dX7_isNumber_13 rfl (lv_at hl 1 rfl) ?_
    refine cs_i (va_runV (As := [.int (nI x12.1)]) (rest := []) S (c_X7_byteAt l G mO mT _ mS mD mR mW mQ mC mU mV (nI tN) (nI (sk tN fT aN)) mn my mm mf mg fT (nI x12.1) (fun h => bt_ok htN (by omega) h)) (cwV 1 S.2.2.2.2 gX7_isNumber_X7_byteAt rfl rfl rfl (by decide +kernel) ⟨Nat.le_of_ble_eq_true rfl, Nat.le_of_ble_eq_true rfl⟩) ⟨wPre_blind, va_recv C.1 w.1 (ci := 7) (q0 := 0) rfl rfl, wPre_at C w [0, 1] rfl rfl⟩ rfl rfl hl.1 rfl (lv_room (Nat.le_of_ble_eq_true rfl)) dX7_isNumber_14 ⟨Nat.le_of_ble_eq_true rfl, Nat.le_of_ble_eq_true rfl⟩) (fun r14 h14 => ?_)
    refine w_topi (y := (byteAtM (nI tN) fT (nI x12.1))) h14 ?_
    refine w_topi (y := (bA tN fT x12.1)) (byteAt_bA htN (by omega)) ?_
    refine cs_i (va_runS (As := [.int (bA tN fT x12.1)]) (rest := []) S (c_X7_isDigit l G _ (bA tN fT x12.1)) (va_cwS 1 S.2.2.2.2 gX7_isNumber_X7_isDigit rfl rfl rfl (by decide +kernel) ⟨Nat.le_of_ble_eq_true rfl, Nat.le_of_ble_eq_true rfl⟩) ⟨wPre_blind, wPre_at C w [] rfl rfl⟩ rfl rfl hl.1 rfl (lv_room (Nat.le_of_ble_eq_true rfl)) dX7_isNumber_17 ⟨Nat.le_of_ble_eq_true rfl, Nat.le_of_ble_eq_true rfl⟩) (fun r17 h17 => ?_)
    refine w_topi (y := (inF (bA tN fT x12.1) 48 57)) h17 ?_
    refine lv_if_eq (tgt := 56) S.1 S.2.1 dX7_isNumber_20 (by decide) (fun c20 => ?_) (fun c20 => ?_)
    · exact J56 (by first | exact Or.inr (fun q => (dig_sort _).mp q c20) | exact Or.inl (by have h := @c30; rw [show (3 : Int32) = nI 3 from rfl, nI_leI (by decide) (by omega)] at h; omega))
    · refine lv_iload_n S.1 S.2.1 dX7_isNumber_23 rfl (lv_at hl 1 rfl) ?_
      refine lv_aload_n S.1 S.2.1 dX7_isNumber_24 rfl (lv_at hl 2 rfl) ?_
      refine w_get S C w (CC := RX7) (T := TX7) (N := 16) (ref := "GateSumsModel") im_X7_isNumber_X7 0 rfl rfl 5 (by decide) (List.mem_of_getElem? (i := 1) rfl) (fun _ h => h) rfl dX7_isNumber_25 ?_
      refine lv_isub S.1 S.2.1 dX7_isNumber_28 ?_
      refine w_topi (y := (nI (x12.1 - (sk tN fT aN)))) (pk_sub hA1) ?_
      refine lv_iconst (v := 3) S.1 S.2.1 dX7_isNumber_29 (by decide) ?_
      refine lv_icmp_ge (tgt := 56) S.1 S.2.1 dX7_isNumber_30 (by decide) (fun c30 => ?_) (fun c30 => ?_)
      · exact J56 (by first | exact Or.inr (fun q => (dig_sort _).mp q c20) | exact Or.inl (by have h := c30; rw [show (3 : Int32) = nI 3 from rfl, nI_leI (by decide) (by omega)] at h; omega))
      · refine lv_bipush (v := 10) S.1 S.2.1 dX7_isNumber_33 (by decide) ?_
        refine lv_iload S.1 S.2.1 dX7_isNumber_35 (lv_at hl 0 rfl) ?_
        refine lv_imul S.1 S.2.1 dX7_isNumber_37 ?_
        refine lv_aload_n S.1 S.2.1 dX7_isNumber_38 rfl (lv_at hl 2 rfl) ?_
        refine w_get S C w (CC := RX7) (T := TX7) (N := 16) (ref := "GateSumsModel") im_X7_isNumber_X7 0 rfl rfl 3 (by decide) (List.mem_of_getElem? (i := 2) rfl) (fun _ h => h) rfl dX7_isNumber_39 ?_
        refine lv_iload_n S.1 S.2.1 dX7_isNumber_42 rfl (lv_at hl 1 rfl) ?_
        refine w_iald S C w 1 rfl (nIin (by have := (sort_bA (by decide) ((dig_sort _).mpr c20)).1; omega) (by decide)) dX7_isNumber_43 ?_
        refine lv_iadd S.1 S.2.1 dX7_isNumber_44 ?_
        refine lv_bipush (v := 48) S.1 S.2.1 dX7_isNumber_45 (by decide) ?_
        refine lv_isub S.1 S.2.1 dX7_isNumber_47 ?_
        refine lv_istore (lv' := [(4, .int (((10 * x12.2) + (fT (nI x12.1).toNatClampNeg)) - 48)), (3, .int (nI x12.1)), (0, .ref mO), (1, .int lo), (2, .int hi)]) S.1 S.2.1 dX7_isNumber_48 hl (by decide) rfl (fun ls hl => ?_)
        refine lv_iinc (v := (nI (x12.1 + 1))) (lv' := [(3, .int (nI (x12.1 + 1))), (4, .int (((10 * x12.2) + (fT (nI x12.1).toNatClampNeg)) - 48)), (0, .ref mO), (1, .int lo), (2, .int hi)]) S.1 S.2.1 dX7_isNumber_50 hl (k := 1) rfl (nI_1 _) (by decide) rfl (fun ls hl => ?_)
        refine lv_goto (tgt := 12) S.1 S.2.1 dX7_isNumber_53 (by decide) ?_
        have hd : sortF (bA tN fT x12.1) = 2 := (dig_sort _).mpr c20
        have hlt : x12.1 < tN := (sort_bA (by decide) hd).1
        have h3 : x12.1 - (sk tN fT aN) < 3 := by have h := c30; rw [show (3 : Int32) = nI 3 from rfl, nI_leI (by decide) (by omega)] at h; omega
        exact ih12 (x12.1 + 1, (((10 * x12.2) + (fT (nI x12.1).toNatClampNeg)) - 48)) ls (⟨by dsimp only; omega, by dsimp only; omega, hlt, (by dsimp only; rw [nIc (by omega), hI12.2.2.2.1]; exact nv_step hA1), dg_step hI12.2.2.2.2 hd⟩) (by dsimp only; omega) (lv_sub hl [1, 0, 2, 3, 4] rfl)
set_option maxHeartbeats 4000000 in
set_option maxRecDepth 100000 in
theorem x_X7_isWord (l : Launch) (G : GT) (mO mT mW : Nat) (sz : Nat) (mS mD mR mQ mC mU mV : Nat) (mn my mm mf mg : Int32) (tN aN : Nat) (fN nN : Nat) (fT : Nat → Int32) (htN : tN ≤ 120) (haN : aN ≤ tN) (hfn : fN + nN ≤ 73) : Met l yX7_isWord wsX7_isWord ({ frames := 1, cells := 0, slots := 0, locals := 22 }) (va_Pc [.ref mO, .int (nI fN), .int (nI nN)] (wPre G [(mO, .inr (7, [.ref mS, .ref mD, .ref mR, .ref mT, .int (nI tN), .int (nI aN), .int mn, .ref mW, .ref mQ, .ref mC, .int my, .ref mU, .ref mV, .int mm, .int mf, .int mg])), (mT, .inl (G.2.1 2, 120, .inl fT)), (mW, .inl (G.2.1 1, 73, .inl (wdF 73)))] sz)) (vp_Si (fun r : Int32 => (r = 1 ∧ wmM tN fT aN fN nN) ∨ (r = 0 ∧ ¬ wmM tN fT aN fN nN))) 0 0 (fun _ => False) := by
  refine met_go (cc := cX7_isWord) (maxL := 5) (ret := (some .boolean)) (own := RX7) (by decide) rfl rfl (Nat.le_of_ble_eq_true rfl) ?_
  intro p e s m below meth c ls S hr hlocks hname hsz C w hl
  have hl : lv_has ls 5 [(0, .ref mO), (1, .int (nI fN)), (2, .int (nI nN))] := hl
  refine lv_iconst (v := 1) S.1 S.2.1 dX7_isWord_0 (by decide) ?_
  refine lv_istore_n (lv' := [(3, .int 1), (0, .ref mO), (1, .int (nI fN)), (2, .int (nI nN))]) S.1 S.2.1 dX7_isWord_1 rfl hl (by decide) rfl (fun ls hl => ?_)
  refine lv_iconst (v := 0) S.1 S.2.1 dX7_isWord_2 (by decide) ?_
  refine lv_istore (lv' := [(4, .int 0), (3, .int 1), (0, .ref mO), (1, .int (nI fN)), (2, .int (nI nN))]) S.1 S.2.1 dX7_isWord_3 hl (by decide) rfl (fun ls hl => ?_)
  refine w_loopS (σ := Nat × Int32) (nL := 5) 5 (fun x5 => nN - x5.1) (fun x5 => x5.1 ≤ nN ∧ ((x5.2 = 1 ∧ ∀ i, i < x5.1 → bA tN fT (aN + i) = wdF 73 (fN + i)) ∨ (x5.2 = 0 ∧ ¬ ∀ i, i < nN → bA tN fT (aN + i) = wdF 73 (fN + i)))) (fun x5 => [(4, .int (nI x5.1)), (3, .int x5.2), (0, .ref mO), (1, .int (nI fN)), (2, .int (nI nN))]) (fun _ => []) ?_ (0, 1) ls (⟨Nat.zero_le _, Or.inl ⟨rfl, fun i h => absurd h (Nat.not_lt_zero i)⟩⟩) (lv_sub hl [0, 1, 2, 3, 4] rfl)
  intro x5 ls hI5 hl ih5
  have hl : lv_has ls 5 [(4, .int (nI x5.1)), (3, .int x5.2), (0, .ref mO), (1, .int (nI fN)), (2, .int (nI nN))] := hl
  have hj5 := hI5.1
  refine lv_iload S.1 S.2.1 dX7_isWord_5 (lv_at hl 0 rfl) ?_
  refine lv_iload_n S.1 S.2.1 dX7_isWord_7 rfl (lv_at hl 4 rfl) ?_
  refine lv_icmp_ge (tgt := 50) S.1 S.2.1 dX7_isWord_8 (by decide) (fun c8 => ?_) (fun c8 => ?_)
  · refine w_joini 79 [] (fun z79 => (z79 = 1 ∧ wmM tN fT aN fN nN) ∨ (z79 = 0 ∧ ¬ wmM tN fT aN fN nN)) (fun z79 hz79 => ?_) (fun J79 => ?_)
    · exact W.zret (v := z79) S.1 S.2.1 hr (z01_nar (or_01 hz79)) (fun t ht _ => ⟨z79, rfl, hz79, ht⟩) (fun q h => absurd h List.not_mem_nil) dX7_isWord_79
    · have hjn : x5.1 = nN := by have h := c8; rw [nI_leI (by omega) (by omega)] at h; omega
      refine lv_iload_n S.1 S.2.1 dX7_isWord_50 rfl (lv_at hl 1 rfl) ?_
      refine lv_if_eq (tgt := 78) S.1 S.2.1 dX7_isWord_51 (by decide) (fun c51 => ?_) (fun c51 => ?_)
      · refine lv_iconst (v := 0) S.1 S.2.1 dX7_isWord_78 (by decide) ?_
        exact J79 0 (by first | exact Or.inl ⟨rfl, wm_yes hI5.2 hjn c51 @c71⟩ | exact Or.inr ⟨rfl, fun q => @c71 q.2⟩ | exact Or.inr ⟨rfl, wm_no hI5.2 c51⟩)
      · refine lv_aload_n S.1 S.2.1 dX7_isWord_54 rfl (lv_at hl 2 rfl) ?_
        refine lv_aload_n S.1 S.2.1 dX7_isWord_55 rfl (lv_at hl 2 rfl) ?_
        refine w_get S C w (CC := RX7) (T := TX7) (N := 16) (ref := "GateSumsModel") im_X7_isWord_X7 0 rfl rfl 5 (by decide) (List.mem_of_getElem? (i := 1) rfl) (fun _ h => h) rfl dX7_isWord_56 ?_
        refine lv_iload_n S.1 S.2.1 dX7_isWord_59 rfl (lv_at hl 4 rfl) ?_
        refine lv_iadd S.1 S.2.1 dX7_isWord_60 ?_
        refine w_topi (y := (nI (aN + nN))) (nI_add _ _) ?_
        refine cs_i (va_runV (As := [.int (nI (aN + nN))]) (rest := []) S (c_X7_byteAt l G mO mT _ mS mD mR mW mQ mC mU mV (nI tN) (nI aN) mn my mm mf mg fT (nI (aN + nN)) (fun h => bt_ok htN (by omega) h)) (cwV 1 S.2.2.2.2 gX7_isWord_X7_byteAt rfl rfl rfl (by decide +kernel) ⟨Nat.le_of_ble_eq_true rfl, Nat.le_of_ble_eq_true rfl⟩) ⟨wPre_blind, va_recv C.1 w.1 (ci := 7) (q0 := 0) rfl rfl, wPre_at C w [0, 1] rfl rfl⟩ rfl rfl hl.1 rfl (lv_room (Nat.le_of_ble_eq_true rfl)) dX7_isWord_61 ⟨Nat.le_of_ble_eq_true rfl, Nat.le_of_ble_eq_true rfl⟩) (fun r61 h61 => ?_)
        refine w_topi (y := (byteAtM (nI tN) fT (nI (aN + nN)))) h61 ?_
        refine w_topi (y := (bA tN fT (aN + nN))) (byteAt_bA htN (by omega)) ?_
        refine lv_bipush (v := 97) S.1 S.2.1 dX7_isWord_64 (by decide) ?_
        refine lv_bipush (v := 122) S.1 S.2.1 dX7_isWord_66 (by decide) ?_
        refine cs_i (va_runS (As := [.int (bA tN fT (aN + nN)), .int 97, .int 122]) (rest := []) S (c_X7_in l G _ (bA tN fT (aN + nN)) 97 122) (va_cwS 3 S.2.2.2.2 gX7_isWord_X7_in rfl rfl rfl (by decide +kernel) ⟨Nat.le_of_ble_eq_true rfl, Nat.le_of_ble_eq_true rfl⟩) ⟨wPre_blind, wPre_at C w [] rfl rfl⟩ rfl rfl hl.1 rfl (lv_room (Nat.le_of_ble_eq_true rfl)) dX7_isWord_68 ⟨Nat.le_of_ble_eq_true rfl, Nat.le_of_ble_eq_true rfl⟩) (fun r68 h68 => ?_)
        refine w_topi (y := (inF (bA tN fT (aN + nN)) 97 122)) h68 ?_
        refine lv_if_ne (tgt := 78) S.1 S.2.1 dX7_isWord_71 (by decide) (fun c71 => ?_) (fun c71 => ?_)
        · refine lv_iconst (v := 0) S.1 S.2.1 dX7_isWord_78 (by decide) ?_
          exact J79 0 (by first | exact Or.inl ⟨rfl, wm_yes hI5.2 hjn c51 c71⟩ | exact Or.inr ⟨rfl, fun q => c71 q.2⟩ | exact Or.inr ⟨rfl, wm_no hI5.2 c51⟩)
        · refine lv_iconst (v := 1) S.1 S.2.1 dX7_isWord_74 (by decide) ?_
          refine lv_goto (tgt := 79) S.1 S.2.1 dX7_isWord_75 (by decide) ?_
          exact J79 1 (by first | exact Or.inl ⟨rfl, wm_yes hI5.2 hjn c51 c71⟩ | exact Or.inr ⟨rfl, fun q => c71 q.2⟩ | exact Or.inr ⟨rfl, wm_no hI5.2 c51⟩)
  · refine w_joini 43 [] (fun z43 => (z43 = 1 ∧ ¬ x5.2 = 0 ∧ bA tN fT (aN + x5.1) = wdF 73 (fN + x5.1)) ∨ (z43 = 0 ∧ (x5.2 = 0 ∨ ¬ bA tN fT (aN + x5.1) = wdF 73 (fN + x5.1)))) (fun z43 hz43 => ?_) (fun J43 => ?_)
    · refine lv_istore_n (lv' := [(3, .int z43), (4, .int (nI x5.1)), (0, .ref mO), (1, .int (nI fN)), (2, .int (nI nN))]) S.1 S.2.1 dX7_isWord_43 rfl hl (by decide) rfl (fun ls hl => ?_)
      refine lv_iinc (v := (nI (x5.1 + 1))) (lv' := [(4, .int (nI (x5.1 + 1))), (3, .int z43), (0, .ref mO), (1, .int (nI fN)), (2, .int (nI nN))]) S.1 S.2.1 dX7_isWord_44 hl (k := 1) rfl (nI_1 _) (by decide) rfl (fun ls hl => ?_)
      refine lv_goto (tgt := 5) S.1 S.2.1 dX7_isWord_47 (by decide) ?_
      have hlt : x5.1 < nN := by have h := c8; rw [nI_leI (by omega) (by omega)] at h; omega
      exact ih5 (x5.1 + 1, z43) ls (⟨hlt, wm_step (E := fun i => bA tN fT (aN + i) = wdF 73 (fN + i)) hlt hI5.2 hz43⟩) (by dsimp only; omega) (lv_sub hl [0, 1, 2, 3, 4] rfl)
    · refine lv_iload_n S.1 S.2.1 dX7_isWord_11 rfl (lv_at hl 1 rfl) ?_
      refine lv_if_eq (tgt := 42) S.1 S.2.1 dX7_isWord_12 (by decide) (fun c12 => ?_) (fun c12 => ?_)
      · refine lv_iconst (v := 0) S.1 S.2.1 dX7_isWord_42 (by decide) ?_
        exact J43 0 (by first | exact Or.inl ⟨rfl, c12, @c35⟩ | exact Or.inr ⟨rfl, Or.inr @c35⟩ | exact Or.inr ⟨rfl, Or.inl c12⟩)
      · refine lv_aload_n S.1 S.2.1 dX7_isWord_15 rfl (lv_at hl 2 rfl) ?_
        refine lv_aload_n S.1 S.2.1 dX7_isWord_16 rfl (lv_at hl 2 rfl) ?_
        refine w_get S C w (CC := RX7) (T := TX7) (N := 16) (ref := "GateSumsModel") im_X7_isWord_X7 0 rfl rfl 5 (by decide) (List.mem_of_getElem? (i := 1) rfl) (fun _ h => h) rfl dX7_isWord_17 ?_
        refine lv_iload S.1 S.2.1 dX7_isWord_20 (lv_at hl 0 rfl) ?_
        refine lv_iadd S.1 S.2.1 dX7_isWord_22 ?_
        refine w_topi (y := (nI (aN + x5.1))) (nI_add _ _) ?_
        refine cs_i (va_runV (As := [.int (nI (aN + x5.1))]) (rest := []) S (c_X7_byteAt l G mO mT _ mS mD mR mW mQ mC mU mV (nI tN) (nI aN) mn my mm mf mg fT (nI (aN + x5.1)) (fun h => bt_ok htN (by omega) h)) (cwV 1 S.2.2.2.2 gX7_isWord_X7_byteAt rfl rfl rfl (by decide +kernel) ⟨Nat.le_of_ble_eq_true rfl, Nat.le_of_ble_eq_true rfl⟩) ⟨wPre_blind, va_recv C.1 w.1 (ci := 7) (q0 := 0) rfl rfl, wPre_at C w [0, 1] rfl rfl⟩ rfl rfl hl.1 rfl (lv_room (Nat.le_of_ble_eq_true rfl)) dX7_isWord_23 ⟨Nat.le_of_ble_eq_true rfl, Nat.le_of_ble_eq_true rfl⟩) (fun r23 h23 => ?_)
        refine w_topi (y := (byteAtM (nI tN) fT (nI (aN + x5.1)))) h23 ?_
        refine w_topi (y := (bA tN fT (aN + x5.1))) (byteAt_bA htN (by omega)) ?_
        refine lv_aload_n S.1 S.2.1 dX7_isWord_26 rfl (lv_at hl 2 rfl) ?_
        refine w_get S C w (CC := RX7) (T := TX7) (N := 16) (ref := "GateSumsModel") im_X7_isWord_X7 0 rfl rfl 7 (by decide) (List.mem_of_getElem? (i := 2) rfl) (fun _ h => h) rfl dX7_isWord_27 ?_
        refine lv_iload_n S.1 S.2.1 dX7_isWord_30 rfl (lv_at hl 3 rfl) ?_
        refine lv_iload S.1 S.2.1 dX7_isWord_31 (lv_at hl 0 rfl) ?_
        refine lv_iadd S.1 S.2.1 dX7_isWord_33 ?_
        refine w_topi (y := (nI (fN + x5.1))) (nI_add _ _) ?_
        refine w_cald S C w 2 rfl (nIin (by have h := c8; rw [nI_leI (by omega) (by omega)] at h; omega) (by decide)) dX7_isWord_34 ?_
        refine w_topi (y := (wdF 73 (fN + x5.1))) (congrArg (wdF 73) (nIc (by omega))) ?_
        refine lv_icmp_ne (tgt := 42) S.1 S.2.1 dX7_isWord_35 (by decide) (fun c35 => ?_) (fun c35 => ?_)
        · refine lv_iconst (v := 0) S.1 S.2.1 dX7_isWord_42 (by decide) ?_
          exact J43 0 (by first | exact Or.inl ⟨rfl, c12, c35⟩ | exact Or.inr ⟨rfl, Or.inr c35⟩ | exact Or.inr ⟨rfl, Or.inl c12⟩)
        · refine lv_iconst (v := 1) S.1 S.2.1 dX7_isWord_38 (by decide) ?_
          refine lv_goto (tgt := 43) S.1 S.2.1 dX7_isWord_39 (by decide) ?_
          exact J43 1 (by first | exact Or.inl ⟨rfl, c12, c35⟩ | exact Or.inr ⟨rfl, Or.inr c35⟩ | exact Or.inr ⟨rfl, Or.inl c12⟩)
set_option maxHeartbeats 4000000 in
set_option maxRecDepth 100000 in
theorem x_X7_word (l : Launch) (G : GT) (mO mT mW : Nat) (sz : Nat) (mS mD mR mQ mC mU mV : Nat) (mn my mm mf mg : Int32) (tN aN : Nat) (fT : Nat → Int32) (lo hi : Int32) (htN : tN ≤ 120) (haN : aN ≤ tN) : Met l yX7_word wsX7_word ({ frames := 2, cells := 0, slots := 0, locals := 46 }) (va_Pc [.ref mO, .int lo, .int hi] (wPre G [(mO, .inr (7, [.ref mS, .ref mD, .ref mR, .ref mT, .int (nI tN), .int (nI aN), .int mn, .ref mW, .ref mQ, .ref mC, .int my, .ref mU, .ref mV, .int mm, .int mf, .int mg])), (mT, .inl (G.2.1 2, 120, .inl fT)), (mW, .inl (G.2.1 1, 73, .inl (wdF 73)))] sz)) (va_Qi (fun (r : Int32) (u : Nat) => WR tN fT lo hi aN r u ∧ u ≤ tN) (bW G (va_A [(mO, .inr (7, [.ref mS, .ref mD, .ref mR, .ref mT, .int (nI tN), .int (nI aN), .int mn, .ref mW, .ref mQ, .ref mC, .int my, .ref mU, .ref mV, .int mm, .int mf, .int mg])), (mT, .inl (G.2.1 2, 120, .inl fT)), (mW, .inl (G.2.1 1, 73, .inl (wdF 73)))] sz) (fun u : Nat => [(mO, .inr (7, [.ref mS, .ref mD, .ref mR, .ref mT, .int (nI tN), .int (nI u), .int mn, .ref mW, .ref mQ, .ref mC, .int my, .ref mU, .ref mV, .int mm, .int mf, .int mg])), (mT, .inl (G.2.1 2, 120, .inl fT)), (mW, .inl (G.2.1 1, 73, .inl (wdF 73)))])) (va_A [(mO, .inr (7, [.ref mS, .ref mD, .ref mR, .ref mT, .int (nI tN), .int (nI aN), .int mn, .ref mW, .ref mQ, .ref mC, .int my, .ref mU, .ref mV, .int mm, .int mf, .int mg])), (mT, .inl (G.2.1 2, 120, .inl fT)), (mW, .inl (G.2.1 1, 73, .inl (wdF 73)))] sz)) 0 0 (va_A [(mO, .inr (7, [.ref mS, .ref mD, .ref mR, .ref mT, .int (nI tN), .int (nI aN), .int mn, .ref mW, .ref mQ, .ref mC, .int my, .ref mU, .ref mV, .int mm, .int mf, .int mg])), (mT, .inl (G.2.1 2, 120, .inl fT)), (mW, .inl (G.2.1 1, 73, .inl (wdF 73)))] sz) := by
  refine met_go (cc := cX7_word) (maxL := 6) (ret := (some .int)) (own := RX7) (by decide) rfl rfl (Nat.le_of_ble_eq_true rfl) ?_
  intro p e s m below meth c ls S hr hlocks hname hsz C w hl
  have hl : lv_has ls 6 [(0, .ref mO), (1, .int lo), (2, .int hi)] := hl
  refine lv_aload_n S.1 S.2.1 dX7_word_0 rfl (lv_at hl 0 rfl) ?_
  refine cq_v C w [0, 1] [2] [1, 2, 0] (wr := [(mW, .inl (G.2.1 1, 73, .inl (wdF 73)))]) (w' := fun u : Unit => [(mO, .inr (7, [.ref mS, .ref mD, .ref mR, .ref mT, .int (nI tN), .int (nI (sk tN fT aN)), .int mn, .ref mW, .ref mQ, .ref mC, .int my, .ref mU, .ref mV, .int mm, .int mf, .int mg])), (mT, .inl (G.2.1 2, 120, .inl fT))]) (ws2 := fun u : Unit => [(mO, .inr (7, [.ref mS, .ref mD, .ref mR, .ref mT, .int (nI tN), .int (nI (sk tN fT aN)), .int mn, .ref mW, .ref mQ, .ref mC, .int my, .ref mU, .ref mV, .int mm, .int mf, .int mg])), (mT, .inl (G.2.1 2, 120, .inl fT)), (mW, .inl (G.2.1 1, 73, .inl (wdF 73)))]) rfl rfl rfl (by decide) rfl (fun _ => rfl) (va_runV (As := []) (rest := []) S (x_X7_skips l G mO mT _ mS mD mR mW mQ mC mU mV mn my mm mf mg tN aN fT (htN) (haN)) (cwV 0 S.2.2.2.2 gX7_word_X7_skips rfl rfl rfl (by decide +kernel) ⟨Nat.le_of_ble_eq_true rfl, Nat.le_of_ble_eq_true rfl⟩) ⟨wPre_blind, va_recv C.1 w.1 (ci := 7) (q0 := 0) rfl rfl, wPre_at C w [0, 1] rfl rfl⟩ rfl rfl hl.1 rfl (lv_room (Nat.le_of_ble_eq_true rfl)) dX7_word_1 ⟨Nat.le_of_ble_eq_true rfl, Nat.le_of_ble_eq_true rfl⟩) (fun u1 H locs h1 w => ?_)
  have w : Wd G _ s [(mO, .inr (7, [.ref mS, .ref mD, .ref mR, .ref mT, .int (nI tN), .int (nI (sk tN fT aN)), .int mn, .ref mW, .ref mQ, .ref mC, .int my, .ref mU, .ref mV, .int mm, .int mf, .int mg])), (mT, .inl (G.2.1 2, 120, .inl fT)), (mW, .inl (G.2.1 1, 73, .inl (wdF 73)))] H locs := w
  have hB := sk_le (f := fT) haN
  have hall : ∀ j, j < 0 → ¬ inF (nI j) lo hi = 0 → ¬ MW tN fT j (sk tN fT aN) := fun j h => absurd h (Nat.not_lt_zero j)
  refine lv_iconst (v := 0) S.1 S.2.1 dX7_word_4 (by decide) ?_
  refine lv_istore_n (lv' := [(3, .int 0), (0, .ref mO), (1, .int lo), (2, .int hi)]) S.1 S.2.1 dX7_word_5 rfl hl (by decide) rfl (fun ls hl => ?_)
  refine lv_iconst (v := 0) S.1 S.2.1 dX7_word_6 (by decide) ?_
  refine lv_istore (lv' := [(4, .int 0), (3, .int 0), (0, .ref mO), (1, .int lo), (2, .int hi)]) S.1 S.2.1 dX7_word_7 hl (by decide) rfl (fun ls hl => ?_)
  refine lv_iload S.1 S.2.1 dX7_word_9 (lv_at hl 0 rfl) ?_
  refine lv_aload_n S.1 S.2.1 dX7_word_11 rfl (lv_at hl 2 rfl) ?_
  refine w_get S C w (CC := RX7) (T := TX7) (N := 16) (ref := "GateSumsModel") im_X7_word_X7 0 rfl rfl 7 (by decide) (List.mem_of_getElem? (i := 1) rfl) (fun _ h => h) rfl dX7_word_12 ?_
  refine w_alen S C w 2 1 rfl rfl (v := 73) rfl dX7_word_15 ?_
  refine lv_icmp_ge (tgt := 93) S.1 S.2.1 dX7_word_16 (by decide) (fun c16 => ?_) (fun c16 => ?_)
  · exact absurd c16 (by decide)
  · refine lv_iconst (v := 0) S.1 S.2.1 dX7_word_19 (by decide) ?_
    refine lv_istore (lv' := [(5, .int 0), (4, .int 0), (3, .int 0), (0, .ref mO), (1, .int lo), (2, .int hi)]) S.1 S.2.1 dX7_word_20 hl (by decide) rfl (fun ls hl => ?_)
    refine lv_aload_n S.1 S.2.1 dX7_word_22 rfl (lv_at hl 3 rfl) ?_
    refine w_get S C w (CC := RX7) (T := TX7) (N := 16) (ref := "GateSumsModel") im_X7_word_X7 0 rfl rfl 7 (by decide) (List.mem_of_getElem? (i := 1) rfl) (fun _ h => h) rfl dX7_word_23 ?_
    refine lv_iload S.1 S.2.1 dX7_word_26 (lv_at hl 1 rfl) ?_
    refine lv_iload S.1 S.2.1 dX7_word_28 (lv_at hl 0 rfl) ?_
    refine lv_iadd S.1 S.2.1 dX7_word_30 ?_
    refine w_topi (y := 0) (by decide) ?_
    refine w_cald S C w 2 rfl (by unfold vp_in; decide) dX7_word_31 ?_
    refine w_topi (y := 110) (by decide) ?_
    refine lv_bipush (v := 32) S.1 S.2.1 dX7_word_32 (by decide) ?_
    refine lv_icmp_eq (tgt := 43) S.1 S.2.1 dX7_word_34 (by decide) (fun c34 => ?_) (fun c34 => ?_)
    · exact absurd c34 (by decide)
    · refine lv_iinc (v := 1) (lv' := [(5, .int 1), (4, .int 0), (3, .int 0), (0, .ref mO), (1, .int lo), (2, .int hi)]) S.1 S.2.1 dX7_word_37 hl (k := 0) rfl (by decide) (by decide) rfl (fun ls hl => ?_)
      refine lv_goto (tgt := 22) S.1 S.2.1 dX7_word_40 (by decide) ?_
      refine lv_aload_n S.1 S.2.1 dX7_word_22 rfl (lv_at hl 3 rfl) ?_
      refine w_get S C w (CC := RX7) (T := TX7) (N := 16) (ref := "GateSumsModel") im_X7_word_X7 0 rfl rfl 7 (by decide) (List.mem_of_getElem? (i := 1) rfl) (fun _ h => h) rfl dX7_word_23 ?_
      refine lv_iload S.1 S.2.1 dX7_word_26 (lv_at hl 1 rfl) ?_
      refine lv_iload S.1 S.2.1 dX7_word_28 (lv_at hl 0 rfl) ?_
      refine lv_iadd S.1 S.2.1 dX7_word_30 ?_
      refine w_topi (y := 1) (by decide) ?_
      refine w_cald S C w 2 rfl (by unfold vp_in; decide) dX7_word_31 ?_
      refine w_topi (y := 111) (by decide) ?_
      refine lv_bipush (v := 32) S.1 S.2.1 dX7_word_32 (by decide) ?_
      refine lv_icmp_eq (tgt := 43) S.1 S.2.1 dX7_word_34 (by decide) (fun c34_1 => ?_) (fun c34_1 => ?_)
      · exact absurd c34_1 (by decide)
      · refine lv_iinc (v := 2) (lv' := [(5, .int 2), (4, .int 0), (3, .int 0), (0, .ref mO), (1, .int lo), (2, .int hi)]) S.1 S.2.1 dX7_word_37 hl (k := 0) rfl (by decide) (by decide) rfl (fun ls hl => ?_)
        refine lv_goto (tgt := 22) S.1 S.2.1 dX7_word_40 (by decide) ?_
        refine lv_aload_n S.1 S.2.1 dX7_word_22 rfl (lv_at hl 3 rfl) ?_
        refine w_get S C w (CC := RX7) (T := TX7) (N := 16) (ref := "GateSumsModel") im_X7_word_X7 0 rfl rfl 7 (by decide) (List.mem_of_getElem? (i := 1) rfl) (fun _ h => h) rfl dX7_word_23 ?_
        refine lv_iload S.1 S.2.1 dX7_word_26 (lv_at hl 1 rfl) ?_
        refine lv_iload S.1 S.2.1 dX7_word_28 (lv_at hl 0 rfl) ?_
        refine lv_iadd S.1 S.2.1 dX7_word_30 ?_
        refine w_topi (y := 2) (by decide) ?_
        refine w_cald S C w 2 rfl (by unfold vp_in; decide) dX7_word_31 ?_
        refine w_topi (y := 116) (by decide) ?_
        refine lv_bipush (v := 32) S.1 S.2.1 dX7_word_32 (by decide) ?_
        refine lv_icmp_eq (tgt := 43) S.1 S.2.1 dX7_word_34 (by decide) (fun c34_2 => ?_) (fun c34_2 => ?_)
        · exact absurd c34_2 (by decide)
        · refine lv_iinc (v := 3) (lv' := [(5, .int 3), (4, .int 0), (3, .int 0), (0, .ref mO), (1, .int lo), (2, .int hi)]) S.1 S.2.1 dX7_word_37 hl (k := 0) rfl (by decide) (by decide) rfl (fun ls hl => ?_)
          refine lv_goto (tgt := 22) S.1 S.2.1 dX7_word_40 (by decide) ?_
          refine lv_aload_n S.1 S.2.1 dX7_word_22 rfl (lv_at hl 3 rfl) ?_
          refine w_get S C w (CC := RX7) (T := TX7) (N := 16) (ref := "GateSumsModel") im_X7_word_X7 0 rfl rfl 7 (by decide) (List.mem_of_getElem? (i := 1) rfl) (fun _ h => h) rfl dX7_word_23 ?_
          refine lv_iload S.1 S.2.1 dX7_word_26 (lv_at hl 1 rfl) ?_
          refine lv_iload S.1 S.2.1 dX7_word_28 (lv_at hl 0 rfl) ?_
          refine lv_iadd S.1 S.2.1 dX7_word_30 ?_
          refine w_topi (y := 3) (by decide) ?_
          refine w_cald S C w 2 rfl (by unfold vp_in; decide) dX7_word_31 ?_
          refine w_topi (y := 32) (by decide) ?_
          refine lv_bipush (v := 32) S.1 S.2.1 dX7_word_32 (by decide) ?_
          refine lv_icmp_eq (tgt := 43) S.1 S.2.1 dX7_word_34 (by decide) (fun c34_3 => ?_) (fun c34_3 => ?_)
          · refine w_join0 78 [] (¬ inF 0 lo hi = 0 → ¬ MW tN fT 0 (sk tN fT aN)) (fun hz78 => ?_) (fun J78 => ?_)
            · have hall := wd_step (P := fun j => ¬ inF (nI j) lo hi = 0 → ¬ MW tN fT j (sk tN fT aN)) hall hz78
              refine lv_iinc (v := 1) (lv' := [(3, .int 1), (5, .int 3), (4, .int 0), (0, .ref mO), (1, .int lo), (2, .int hi)]) S.1 S.2.1 dX7_word_78 hl (k := 2) rfl (by decide) (by decide) rfl (fun ls hl => ?_)
              refine lv_iload S.1 S.2.1 dX7_word_81 (lv_at hl 2 rfl) ?_
              refine lv_iload S.1 S.2.1 dX7_word_83 (lv_at hl 1 rfl) ?_
              refine lv_iconst (v := 1) S.1 S.2.1 dX7_word_85 (by decide) ?_
              refine lv_iadd S.1 S.2.1 dX7_word_86 ?_
              refine w_topi (y := 4) (by decide) ?_
              refine lv_iadd S.1 S.2.1 dX7_word_87 ?_
              refine w_topi (y := 4) (by decide) ?_
              refine lv_istore (lv' := [(4, .int 4), (3, .int 1), (5, .int 3), (0, .ref mO), (1, .int lo), (2, .int hi)]) S.1 S.2.1 dX7_word_88 hl (by decide) rfl (fun ls hl => ?_)
              refine lv_goto (tgt := 9) S.1 S.2.1 dX7_word_90 (by decide) ?_
              refine lv_iload S.1 S.2.1 dX7_word_9 (lv_at hl 0 rfl) ?_
              refine lv_aload_n S.1 S.2.1 dX7_word_11 rfl (lv_at hl 3 rfl) ?_
              refine w_get S C w (CC := RX7) (T := TX7) (N := 16) (ref := "GateSumsModel") im_X7_word_X7 0 rfl rfl 7 (by decide) (List.mem_of_getElem? (i := 1) rfl) (fun _ h => h) rfl dX7_word_12 ?_
              refine w_alen S C w 2 1 rfl rfl (v := 73) rfl dX7_word_15 ?_
              refine lv_icmp_ge (tgt := 93) S.1 S.2.1 dX7_word_16 (by decide) (fun c16_1 => ?_) (fun c16_1 => ?_)
              · exact absurd c16_1 (by decide)
              · refine lv_iconst (v := 0) S.1 S.2.1 dX7_word_19 (by decide) ?_
                refine lv_istore (lv' := [(5, .int 0), (4, .int 4), (3, .int 1), (0, .ref mO), (1, .int lo), (2, .int hi)]) S.1 S.2.1 dX7_word_20 hl (by decide) rfl (fun ls hl => ?_)
                refine lv_aload_n S.1 S.2.1 dX7_word_22 rfl (lv_at hl 3 rfl) ?_
                refine w_get S C w (CC := RX7) (T := TX7) (N := 16) (ref := "GateSumsModel") im_X7_word_X7 0 rfl rfl 7 (by decide) (List.mem_of_getElem? (i := 1) rfl) (fun _ h => h) rfl dX7_word_23 ?_
                refine lv_iload S.1 S.2.1 dX7_word_26 (lv_at hl 1 rfl) ?_
                refine lv_iload S.1 S.2.1 dX7_word_28 (lv_at hl 0 rfl) ?_
                refine lv_iadd S.1 S.2.1 dX7_word_30 ?_
                refine w_topi (y := 4) (by decide) ?_
                refine w_cald S C w 2 rfl (by unfold vp_in; decide) dX7_word_31 ?_
                refine w_topi (y := 97) (by decide) ?_
                refine lv_bipush (v := 32) S.1 S.2.1 dX7_word_32 (by decide) ?_
                refine lv_icmp_eq (tgt := 43) S.1 S.2.1 dX7_word_34 (by decide) (fun c34_4 => ?_) (fun c34_4 => ?_)
                · exact absurd c34_4 (by decide)
                · refine lv_iinc (v := 1) (lv' := [(5, .int 1), (4, .int 4), (3, .int 1), (0, .ref mO), (1, .int lo), (2, .int hi)]) S.1 S.2.1 dX7_word_37 hl (k := 0) rfl (by decide) (by decide) rfl (fun ls hl => ?_)
                  refine lv_goto (tgt := 22) S.1 S.2.1 dX7_word_40 (by decide) ?_
                  refine lv_aload_n S.1 S.2.1 dX7_word_22 rfl (lv_at hl 3 rfl) ?_
                  refine w_get S C w (CC := RX7) (T := TX7) (N := 16) (ref := "GateSumsModel") im_X7_word_X7 0 rfl rfl 7 (by decide) (List.mem_of_getElem? (i := 1) rfl) (fun _ h => h) rfl dX7_word_23 ?_
                  refine lv_iload S.1 S.2.1 dX7_word_26 (lv_at hl 1 rfl) ?_
                  refine lv_iload S.1 S.2.1 dX7_word_28 (lv_at hl 0 rfl) ?_
                  refine lv_iadd S.1 S.2.1 dX7_word_30 ?_
                  refine w_topi (y := 5) (by decide) ?_
                  refine w_cald S C w 2 rfl (by unfold vp_in; decide) dX7_word_31 ?_
                  refine w_topi (y := 110) (by decide) ?_
                  refine lv_bipush (v := 32) S.1 S.2.1 dX7_word_32 (by decide) ?_
                  refine lv_icmp_eq (tgt := 43) S.1 S.2.1 dX7_word_34 (by decide) (fun c34_5 => ?_) (fun c34_5 => ?_)
                  · exact absurd c34_5 (by decide)
                  · refine lv_iinc (v := 2) (lv' := [(5, .int 2), (4, .int 4), (3, .int 1), (0, .ref mO), (1, .int lo), (2, .int hi)]) S.1 S.2.1 dX7_word_37 hl (k := 0) rfl (by decide) (by decide) rfl (fun ls hl => ?_)
                    refine lv_goto (tgt := 22) S.1 S.2.1 dX7_word_40 (by decide) ?_
                    refine lv_aload_n S.1 S.2.1 dX7_word_22 rfl (lv_at hl 3 rfl) ?_
                    refine w_get S C w (CC := RX7) (T := TX7) (N := 16) (ref := "GateSumsModel") im_X7_word_X7 0 rfl rfl 7 (by decide) (List.mem_of_getElem? (i := 1) rfl) (fun _ h => h) rfl dX7_word_23 ?_
                    refine lv_iload S.1 S.2.1 dX7_word_26 (lv_at hl 1 rfl) ?_
                    refine lv_iload S.1 S.2.1 dX7_word_28 (lv_at hl 0 rfl) ?_
                    refine lv_iadd S.1 S.2.1 dX7_word_30 ?_
                    refine w_topi (y := 6) (by decide) ?_
                    refine w_cald S C w 2 rfl (by unfold vp_in; decide) dX7_word_31 ?_
                    refine w_topi (y := 100) (by decide) ?_
                    refine lv_bipush (v := 32) S.1 S.2.1 dX7_word_32 (by decide) ?_
                    refine lv_icmp_eq (tgt := 43) S.1 S.2.1 dX7_word_34 (by decide) (fun c34_6 => ?_) (fun c34_6 => ?_)
                    · exact absurd c34_6 (by decide)
                    · refine lv_iinc (v := 3) (lv' := [(5, .int 3), (4, .int 4), (3, .int 1), (0, .ref mO), (1, .int lo), (2, .int hi)]) S.1 S.2.1 dX7_word_37 hl (k := 0) rfl (by decide) (by decide) rfl (fun ls hl => ?_)
                      refine lv_goto (tgt := 22) S.1 S.2.1 dX7_word_40 (by decide) ?_
                      refine lv_aload_n S.1 S.2.1 dX7_word_22 rfl (lv_at hl 3 rfl) ?_
                      refine w_get S C w (CC := RX7) (T := TX7) (N := 16) (ref := "GateSumsModel") im_X7_word_X7 0 rfl rfl 7 (by decide) (List.mem_of_getElem? (i := 1) rfl) (fun _ h => h) rfl dX7_word_23 ?_
                      refine lv_iload S.1 S.2.1 dX7_word_26 (lv_at hl 1 rfl) ?_
                      refine lv_iload S.1 S.2.1 dX7_word_28 (lv_at hl 0 rfl) ?_
                      refine lv_iadd S.1 S.2.1 dX7_word_30 ?_
                      refine w_topi (y := 7) (by decide) ?_
                      refine w_cald S C w 2 rfl (by unfold vp_in; decide) dX7_word_31 ?_
                      refine w_topi (y := 32) (by decide) ?_
                      refine lv_bipush (v := 32) S.1 S.2.1 dX7_word_32 (by decide) ?_
                      refine lv_icmp_eq (tgt := 43) S.1 S.2.1 dX7_word_34 (by decide) (fun c34_7 => ?_) (fun c34_7 => ?_)
                      · refine w_join0 78 [] (¬ inF 1 lo hi = 0 → ¬ MW tN fT 1 (sk tN fT aN)) (fun hz78 => ?_) (fun J78 => ?_)
                        · have hall := wd_step (P := fun j => ¬ inF (nI j) lo hi = 0 → ¬ MW tN fT j (sk tN fT aN)) hall hz78
                          refine lv_iinc (v := 2) (lv' := [(3, .int 2), (5, .int 3), (4, .int 4), (0, .ref mO), (1, .int lo), (2, .int hi)]) S.1 S.2.1 dX7_word_78 hl (k := 2) rfl (by decide) (by decide) rfl (fun ls hl => ?_)
                          refine lv_iload S.1 S.2.1 dX7_word_81 (lv_at hl 2 rfl) ?_
                          refine lv_iload S.1 S.2.1 dX7_word_83 (lv_at hl 1 rfl) ?_
                          refine lv_iconst (v := 1) S.1 S.2.1 dX7_word_85 (by decide) ?_
                          refine lv_iadd S.1 S.2.1 dX7_word_86 ?_
                          refine w_topi (y := 4) (by decide) ?_
                          refine lv_iadd S.1 S.2.1 dX7_word_87 ?_
                          refine w_topi (y := 8) (by decide) ?_
                          refine lv_istore (lv' := [(4, .int 8), (3, .int 2), (5, .int 3), (0, .ref mO), (1, .int lo), (2, .int hi)]) S.1 S.2.1 dX7_word_88 hl (by decide) rfl (fun ls hl => ?_)
                          refine lv_goto (tgt := 9) S.1 S.2.1 dX7_word_90 (by decide) ?_
                          refine lv_iload S.1 S.2.1 dX7_word_9 (lv_at hl 0 rfl) ?_
                          refine lv_aload_n S.1 S.2.1 dX7_word_11 rfl (lv_at hl 3 rfl) ?_
                          refine w_get S C w (CC := RX7) (T := TX7) (N := 16) (ref := "GateSumsModel") im_X7_word_X7 0 rfl rfl 7 (by decide) (List.mem_of_getElem? (i := 1) rfl) (fun _ h => h) rfl dX7_word_12 ?_
                          refine w_alen S C w 2 1 rfl rfl (v := 73) rfl dX7_word_15 ?_
                          refine lv_icmp_ge (tgt := 93) S.1 S.2.1 dX7_word_16 (by decide) (fun c16_2 => ?_) (fun c16_2 => ?_)
                          · exact absurd c16_2 (by decide)
                          · refine lv_iconst (v := 0) S.1 S.2.1 dX7_word_19 (by decide) ?_
                            refine lv_istore (lv' := [(5, .int 0), (4, .int 8), (3, .int 2), (0, .ref mO), (1, .int lo), (2, .int hi)]) S.1 S.2.1 dX7_word_20 hl (by decide) rfl (fun ls hl => ?_)
                            refine lv_aload_n S.1 S.2.1 dX7_word_22 rfl (lv_at hl 3 rfl) ?_
                            refine w_get S C w (CC := RX7) (T := TX7) (N := 16) (ref := "GateSumsModel") im_X7_word_X7 0 rfl rfl 7 (by decide) (List.mem_of_getElem? (i := 1) rfl) (fun _ h => h) rfl dX7_word_23 ?_
                            refine lv_iload S.1 S.2.1 dX7_word_26 (lv_at hl 1 rfl) ?_
                            refine lv_iload S.1 S.2.1 dX7_word_28 (lv_at hl 0 rfl) ?_
                            refine lv_iadd S.1 S.2.1 dX7_word_30 ?_
                            refine w_topi (y := 8) (by decide) ?_
                            refine w_cald S C w 2 rfl (by unfold vp_in; decide) dX7_word_31 ?_
                            refine w_topi (y := 111) (by decide) ?_
                            refine lv_bipush (v := 32) S.1 S.2.1 dX7_word_32 (by decide) ?_
                            refine lv_icmp_eq (tgt := 43) S.1 S.2.1 dX7_word_34 (by decide) (fun c34_8 => ?_) (fun c34_8 => ?_)
                            · exact absurd c34_8 (by decide)
                            · refine lv_iinc (v := 1) (lv' := [(5, .int 1), (4, .int 8), (3, .int 2), (0, .ref mO), (1, .int lo), (2, .int hi)]) S.1 S.2.1 dX7_word_37 hl (k := 0) rfl (by decide) (by decide) rfl (fun ls hl => ?_)
                              refine lv_goto (tgt := 22) S.1 S.2.1 dX7_word_40 (by decide) ?_
                              refine lv_aload_n S.1 S.2.1 dX7_word_22 rfl (lv_at hl 3 rfl) ?_
                              refine w_get S C w (CC := RX7) (T := TX7) (N := 16) (ref := "GateSumsModel") im_X7_word_X7 0 rfl rfl 7 (by decide) (List.mem_of_getElem? (i := 1) rfl) (fun _ h => h) rfl dX7_word_23 ?_
                              refine lv_iload S.1 S.2.1 dX7_word_26 (lv_at hl 1 rfl) ?_
                              refine lv_iload S.1 S.2.1 dX7_word_28 (lv_at hl 0 rfl) ?_
                              refine lv_iadd S.1 S.2.1 dX7_word_30 ?_
                              refine w_topi (y := 9) (by decide) ?_
                              refine w_cald S C w 2 rfl (by unfold vp_in; decide) dX7_word_31 ?_
                              refine w_topi (y := 114) (by decide) ?_
                              refine lv_bipush (v := 32) S.1 S.2.1 dX7_word_32 (by decide) ?_
                              refine lv_icmp_eq (tgt := 43) S.1 S.2.1 dX7_word_34 (by decide) (fun c34_9 => ?_) (fun c34_9 => ?_)
                              · exact absurd c34_9 (by decide)
                              · refine lv_iinc (v := 2) (lv' := [(5, .int 2), (4, .int 8), (3, .int 2), (0, .ref mO), (1, .int lo), (2, .int hi)]) S.1 S.2.1 dX7_word_37 hl (k := 0) rfl (by decide) (by decide) rfl (fun ls hl => ?_)
                                refine lv_goto (tgt := 22) S.1 S.2.1 dX7_word_40 (by decide) ?_
                                refine lv_aload_n S.1 S.2.1 dX7_word_22 rfl (lv_at hl 3 rfl) ?_
                                refine w_get S C w (CC := RX7) (T := TX7) (N := 16) (ref := "GateSumsModel") im_X7_word_X7 0 rfl rfl 7 (by decide) (List.mem_of_getElem? (i := 1) rfl) (fun _ h => h) rfl dX7_word_23 ?_
                                refine lv_iload S.1 S.2.1 dX7_word_26 (lv_at hl 1 rfl) ?_
                                refine lv_iload S.1 S.2.1 dX7_word_28 (lv_at hl 0 rfl) ?_
                                refine lv_iadd S.1 S.2.1 dX7_word_30 ?_
                                refine w_topi (y := 10) (by decide) ?_
                                refine w_cald S C w 2 rfl (by unfold vp_in; decide) dX7_word_31 ?_
                                refine w_topi (y := 32) (by decide) ?_
                                refine lv_bipush (v := 32) S.1 S.2.1 dX7_word_32 (by decide) ?_
                                refine lv_icmp_eq (tgt := 43) S.1 S.2.1 dX7_word_34 (by decide) (fun c34_10 => ?_) (fun c34_10 => ?_)
                                · refine w_join0 78 [] (¬ inF 2 lo hi = 0 → ¬ MW tN fT 2 (sk tN fT aN)) (fun hz78 => ?_) (fun J78 => ?_)
                                  · have hall := wd_step (P := fun j => ¬ inF (nI j) lo hi = 0 → ¬ MW tN fT j (sk tN fT aN)) hall hz78
                                    refine lv_iinc (v := 3) (lv' := [(3, .int 3), (5, .int 2), (4, .int 8), (0, .ref mO), (1, .int lo), (2, .int hi)]) S.1 S.2.1 dX7_word_78 hl (k := 2) rfl (by decide) (by decide) rfl (fun ls hl => ?_)
                                    refine lv_iload S.1 S.2.1 dX7_word_81 (lv_at hl 2 rfl) ?_
                                    refine lv_iload S.1 S.2.1 dX7_word_83 (lv_at hl 1 rfl) ?_
                                    refine lv_iconst (v := 1) S.1 S.2.1 dX7_word_85 (by decide) ?_
                                    refine lv_iadd S.1 S.2.1 dX7_word_86 ?_
                                    refine w_topi (y := 3) (by decide) ?_
                                    refine lv_iadd S.1 S.2.1 dX7_word_87 ?_
                                    refine w_topi (y := 11) (by decide) ?_
                                    refine lv_istore (lv' := [(4, .int 11), (3, .int 3), (5, .int 2), (0, .ref mO), (1, .int lo), (2, .int hi)]) S.1 S.2.1 dX7_word_88 hl (by decide) rfl (fun ls hl => ?_)
                                    refine lv_goto (tgt := 9) S.1 S.2.1 dX7_word_90 (by decide) ?_
                                    refine lv_iload S.1 S.2.1 dX7_word_9 (lv_at hl 0 rfl) ?_
                                    refine lv_aload_n S.1 S.2.1 dX7_word_11 rfl (lv_at hl 3 rfl) ?_
                                    refine w_get S C w (CC := RX7) (T := TX7) (N := 16) (ref := "GateSumsModel") im_X7_word_X7 0 rfl rfl 7 (by decide) (List.mem_of_getElem? (i := 1) rfl) (fun _ h => h) rfl dX7_word_12 ?_
                                    refine w_alen S C w 2 1 rfl rfl (v := 73) rfl dX7_word_15 ?_
                                    refine lv_icmp_ge (tgt := 93) S.1 S.2.1 dX7_word_16 (by decide) (fun c16_3 => ?_) (fun c16_3 => ?_)
                                    · exact absurd c16_3 (by decide)
                                    · refine lv_iconst (v := 0) S.1 S.2.1 dX7_word_19 (by decide) ?_
                                      refine lv_istore (lv' := [(5, .int 0), (4, .int 11), (3, .int 3), (0, .ref mO), (1, .int lo), (2, .int hi)]) S.1 S.2.1 dX7_word_20 hl (by decide) rfl (fun ls hl => ?_)
                                      refine lv_aload_n S.1 S.2.1 dX7_word_22 rfl (lv_at hl 3 rfl) ?_
                                      refine w_get S C w (CC := RX7) (T := TX7) (N := 16) (ref := "GateSumsModel") im_X7_word_X7 0 rfl rfl 7 (by decide) (List.mem_of_getElem? (i := 1) rfl) (fun _ h => h) rfl dX7_word_23 ?_
                                      refine lv_iload S.1 S.2.1 dX7_word_26 (lv_at hl 1 rfl) ?_
                                      refine lv_iload S.1 S.2.1 dX7_word_28 (lv_at hl 0 rfl) ?_
                                      refine lv_iadd S.1 S.2.1 dX7_word_30 ?_
                                      refine w_topi (y := 11) (by decide) ?_
                                      refine w_cald S C w 2 rfl (by unfold vp_in; decide) dX7_word_31 ?_
                                      refine w_topi (y := 120) (by decide) ?_
                                      refine lv_bipush (v := 32) S.1 S.2.1 dX7_word_32 (by decide) ?_
                                      refine lv_icmp_eq (tgt := 43) S.1 S.2.1 dX7_word_34 (by decide) (fun c34_11 => ?_) (fun c34_11 => ?_)
                                      · exact absurd c34_11 (by decide)
                                      · refine lv_iinc (v := 1) (lv' := [(5, .int 1), (4, .int 11), (3, .int 3), (0, .ref mO), (1, .int lo), (2, .int hi)]) S.1 S.2.1 dX7_word_37 hl (k := 0) rfl (by decide) (by decide) rfl (fun ls hl => ?_)
                                        refine lv_goto (tgt := 22) S.1 S.2.1 dX7_word_40 (by decide) ?_
                                        refine lv_aload_n S.1 S.2.1 dX7_word_22 rfl (lv_at hl 3 rfl) ?_
                                        refine w_get S C w (CC := RX7) (T := TX7) (N := 16) (ref := "GateSumsModel") im_X7_word_X7 0 rfl rfl 7 (by decide) (List.mem_of_getElem? (i := 1) rfl) (fun _ h => h) rfl dX7_word_23 ?_
                                        refine lv_iload S.1 S.2.1 dX7_word_26 (lv_at hl 1 rfl) ?_
                                        refine lv_iload S.1 S.2.1 dX7_word_28 (lv_at hl 0 rfl) ?_
                                        refine lv_iadd S.1 S.2.1 dX7_word_30 ?_
                                        refine w_topi (y := 12) (by decide) ?_
                                        refine w_cald S C w 2 rfl (by unfold vp_in; decide) dX7_word_31 ?_
                                        refine w_topi (y := 111) (by decide) ?_
                                        refine lv_bipush (v := 32) S.1 S.2.1 dX7_word_32 (by decide) ?_
                                        refine lv_icmp_eq (tgt := 43) S.1 S.2.1 dX7_word_34 (by decide) (fun c34_12 => ?_) (fun c34_12 => ?_)
                                        · exact absurd c34_12 (by decide)
                                        · refine lv_iinc (v := 2) (lv' := [(5, .int 2), (4, .int 11), (3, .int 3), (0, .ref mO), (1, .int lo), (2, .int hi)]) S.1 S.2.1 dX7_word_37 hl (k := 0) rfl (by decide) (by decide) rfl (fun ls hl => ?_)
                                          refine lv_goto (tgt := 22) S.1 S.2.1 dX7_word_40 (by decide) ?_
                                          refine lv_aload_n S.1 S.2.1 dX7_word_22 rfl (lv_at hl 3 rfl) ?_
                                          refine w_get S C w (CC := RX7) (T := TX7) (N := 16) (ref := "GateSumsModel") im_X7_word_X7 0 rfl rfl 7 (by decide) (List.mem_of_getElem? (i := 1) rfl) (fun _ h => h) rfl dX7_word_23 ?_
                                          refine lv_iload S.1 S.2.1 dX7_word_26 (lv_at hl 1 rfl) ?_
                                          refine lv_iload S.1 S.2.1 dX7_word_28 (lv_at hl 0 rfl) ?_
                                          refine lv_iadd S.1 S.2.1 dX7_word_30 ?_
                                          refine w_topi (y := 13) (by decide) ?_
                                          refine w_cald S C w 2 rfl (by unfold vp_in; decide) dX7_word_31 ?_
                                          refine w_topi (y := 114) (by decide) ?_
                                          refine lv_bipush (v := 32) S.1 S.2.1 dX7_word_32 (by decide) ?_
                                          refine lv_icmp_eq (tgt := 43) S.1 S.2.1 dX7_word_34 (by decide) (fun c34_13 => ?_) (fun c34_13 => ?_)
                                          · exact absurd c34_13 (by decide)
                                          · refine lv_iinc (v := 3) (lv' := [(5, .int 3), (4, .int 11), (3, .int 3), (0, .ref mO), (1, .int lo), (2, .int hi)]) S.1 S.2.1 dX7_word_37 hl (k := 0) rfl (by decide) (by decide) rfl (fun ls hl => ?_)
                                            refine lv_goto (tgt := 22) S.1 S.2.1 dX7_word_40 (by decide) ?_
                                            refine lv_aload_n S.1 S.2.1 dX7_word_22 rfl (lv_at hl 3 rfl) ?_
                                            refine w_get S C w (CC := RX7) (T := TX7) (N := 16) (ref := "GateSumsModel") im_X7_word_X7 0 rfl rfl 7 (by decide) (List.mem_of_getElem? (i := 1) rfl) (fun _ h => h) rfl dX7_word_23 ?_
                                            refine lv_iload S.1 S.2.1 dX7_word_26 (lv_at hl 1 rfl) ?_
                                            refine lv_iload S.1 S.2.1 dX7_word_28 (lv_at hl 0 rfl) ?_
                                            refine lv_iadd S.1 S.2.1 dX7_word_30 ?_
                                            refine w_topi (y := 14) (by decide) ?_
                                            refine w_cald S C w 2 rfl (by unfold vp_in; decide) dX7_word_31 ?_
                                            refine w_topi (y := 32) (by decide) ?_
                                            refine lv_bipush (v := 32) S.1 S.2.1 dX7_word_32 (by decide) ?_
                                            refine lv_icmp_eq (tgt := 43) S.1 S.2.1 dX7_word_34 (by decide) (fun c34_14 => ?_) (fun c34_14 => ?_)
                                            · refine w_join0 78 [] (¬ inF 3 lo hi = 0 → ¬ MW tN fT 3 (sk tN fT aN)) (fun hz78 => ?_) (fun J78 => ?_)
                                              · have hall := wd_step (P := fun j => ¬ inF (nI j) lo hi = 0 → ¬ MW tN fT j (sk tN fT aN)) hall hz78
                                                refine lv_iinc (v := 4) (lv' := [(3, .int 4), (5, .int 3), (4, .int 11), (0, .ref mO), (1, .int lo), (2, .int hi)]) S.1 S.2.1 dX7_word_78 hl (k := 2) rfl (by decide) (by decide) rfl (fun ls hl => ?_)
                                                refine lv_iload S.1 S.2.1 dX7_word_81 (lv_at hl 2 rfl) ?_
                                                refine lv_iload S.1 S.2.1 dX7_word_83 (lv_at hl 1 rfl) ?_
                                                refine lv_iconst (v := 1) S.1 S.2.1 dX7_word_85 (by decide) ?_
                                                refine lv_iadd S.1 S.2.1 dX7_word_86 ?_
                                                refine w_topi (y := 4) (by decide) ?_
                                                refine lv_iadd S.1 S.2.1 dX7_word_87 ?_
                                                refine w_topi (y := 15) (by decide) ?_
                                                refine lv_istore (lv' := [(4, .int 15), (3, .int 4), (5, .int 3), (0, .ref mO), (1, .int lo), (2, .int hi)]) S.1 S.2.1 dX7_word_88 hl (by decide) rfl (fun ls hl => ?_)
                                                refine lv_goto (tgt := 9) S.1 S.2.1 dX7_word_90 (by decide) ?_
                                                refine lv_iload S.1 S.2.1 dX7_word_9 (lv_at hl 0 rfl) ?_
                                                refine lv_aload_n S.1 S.2.1 dX7_word_11 rfl (lv_at hl 3 rfl) ?_
                                                refine w_get S C w (CC := RX7) (T := TX7) (N := 16) (ref := "GateSumsModel") im_X7_word_X7 0 rfl rfl 7 (by decide) (List.mem_of_getElem? (i := 1) rfl) (fun _ h => h) rfl dX7_word_12 ?_
                                                refine w_alen S C w 2 1 rfl rfl (v := 73) rfl dX7_word_15 ?_
                                                refine lv_icmp_ge (tgt := 93) S.1 S.2.1 dX7_word_16 (by decide) (fun c16_4 => ?_) (fun c16_4 => ?_)
                                                · exact absurd c16_4 (by decide)
                                                · refine lv_iconst (v := 0) S.1 S.2.1 dX7_word_19 (by decide) ?_
                                                  refine lv_istore (lv' := [(5, .int 0), (4, .int 15), (3, .int 4), (0, .ref mO), (1, .int lo), (2, .int hi)]) S.1 S.2.1 dX7_word_20 hl (by decide) rfl (fun ls hl => ?_)
                                                  refine lv_aload_n S.1 S.2.1 dX7_word_22 rfl (lv_at hl 3 rfl) ?_
                                                  refine w_get S C w (CC := RX7) (T := TX7) (N := 16) (ref := "GateSumsModel") im_X7_word_X7 0 rfl rfl 7 (by decide) (List.mem_of_getElem? (i := 1) rfl) (fun _ h => h) rfl dX7_word_23 ?_
                                                  refine lv_iload S.1 S.2.1 dX7_word_26 (lv_at hl 1 rfl) ?_
                                                  refine lv_iload S.1 S.2.1 dX7_word_28 (lv_at hl 0 rfl) ?_
                                                  refine lv_iadd S.1 S.2.1 dX7_word_30 ?_
                                                  refine w_topi (y := 15) (by decide) ?_
                                                  refine w_cald S C w 2 rfl (by unfold vp_in; decide) dX7_word_31 ?_
                                                  refine w_topi (y := 110) (by decide) ?_
                                                  refine lv_bipush (v := 32) S.1 S.2.1 dX7_word_32 (by decide) ?_
                                                  refine lv_icmp_eq (tgt := 43) S.1 S.2.1 dX7_word_34 (by decide) (fun c34_15 => ?_) (fun c34_15 => ?_)
                                                  · exact absurd c34_15 (by decide)
                                                  · refine lv_iinc (v := 1) (lv' := [(5, .int 1), (4, .int 15), (3, .int 4), (0, .ref mO), (1, .int lo), (2, .int hi)]) S.1 S.2.1 dX7_word_37 hl (k := 0) rfl (by decide) (by decide) rfl (fun ls hl => ?_)
                                                    refine lv_goto (tgt := 22) S.1 S.2.1 dX7_word_40 (by decide) ?_
                                                    refine lv_aload_n S.1 S.2.1 dX7_word_22 rfl (lv_at hl 3 rfl) ?_
                                                    refine w_get S C w (CC := RX7) (T := TX7) (N := 16) (ref := "GateSumsModel") im_X7_word_X7 0 rfl rfl 7 (by decide) (List.mem_of_getElem? (i := 1) rfl) (fun _ h => h) rfl dX7_word_23 ?_
                                                    refine lv_iload S.1 S.2.1 dX7_word_26 (lv_at hl 1 rfl) ?_
                                                    refine lv_iload S.1 S.2.1 dX7_word_28 (lv_at hl 0 rfl) ?_
                                                    refine lv_iadd S.1 S.2.1 dX7_word_30 ?_
                                                    refine w_topi (y := 16) (by decide) ?_
                                                    refine w_cald S C w 2 rfl (by unfold vp_in; decide) dX7_word_31 ?_
                                                    refine w_topi (y := 97) (by decide) ?_
                                                    refine lv_bipush (v := 32) S.1 S.2.1 dX7_word_32 (by decide) ?_
                                                    refine lv_icmp_eq (tgt := 43) S.1 S.2.1 dX7_word_34 (by decide) (fun c34_16 => ?_) (fun c34_16 => ?_)
                                                    · exact absurd c34_16 (by decide)
                                                    · refine lv_iinc (v := 2) (lv' := [(5, .int 2), (4, .int 15), (3, .int 4), (0, .ref mO), (1, .int lo), (2, .int hi)]) S.1 S.2.1 dX7_word_37 hl (k := 0) rfl (by decide) (by decide) rfl (fun ls hl => ?_)
                                                      refine lv_goto (tgt := 22) S.1 S.2.1 dX7_word_40 (by decide) ?_
                                                      refine lv_aload_n S.1 S.2.1 dX7_word_22 rfl (lv_at hl 3 rfl) ?_
                                                      refine w_get S C w (CC := RX7) (T := TX7) (N := 16) (ref := "GateSumsModel") im_X7_word_X7 0 rfl rfl 7 (by decide) (List.mem_of_getElem? (i := 1) rfl) (fun _ h => h) rfl dX7_word_23 ?_
                                                      refine lv_iload S.1 S.2.1 dX7_word_26 (lv_at hl 1 rfl) ?_
                                                      refine lv_iload S.1 S.2.1 dX7_word_28 (lv_at hl 0 rfl) ?_
                                                      refine lv_iadd S.1 S.2.1 dX7_word_30 ?_
                                                      refine w_topi (y := 17) (by decide) ?_
                                                      refine w_cald S C w 2 rfl (by unfold vp_in; decide) dX7_word_31 ?_
                                                      refine w_topi (y := 110) (by decide) ?_
                                                      refine lv_bipush (v := 32) S.1 S.2.1 dX7_word_32 (by decide) ?_
                                                      refine lv_icmp_eq (tgt := 43) S.1 S.2.1 dX7_word_34 (by decide) (fun c34_17 => ?_) (fun c34_17 => ?_)
                                                      · exact absurd c34_17 (by decide)
                                                      · refine lv_iinc (v := 3) (lv' := [(5, .int 3), (4, .int 15), (3, .int 4), (0, .ref mO), (1, .int lo), (2, .int hi)]) S.1 S.2.1 dX7_word_37 hl (k := 0) rfl (by decide) (by decide) rfl (fun ls hl => ?_)
                                                        refine lv_goto (tgt := 22) S.1 S.2.1 dX7_word_40 (by decide) ?_
                                                        refine lv_aload_n S.1 S.2.1 dX7_word_22 rfl (lv_at hl 3 rfl) ?_
                                                        refine w_get S C w (CC := RX7) (T := TX7) (N := 16) (ref := "GateSumsModel") im_X7_word_X7 0 rfl rfl 7 (by decide) (List.mem_of_getElem? (i := 1) rfl) (fun _ h => h) rfl dX7_word_23 ?_
                                                        refine lv_iload S.1 S.2.1 dX7_word_26 (lv_at hl 1 rfl) ?_
                                                        refine lv_iload S.1 S.2.1 dX7_word_28 (lv_at hl 0 rfl) ?_
                                                        refine lv_iadd S.1 S.2.1 dX7_word_30 ?_
                                                        refine w_topi (y := 18) (by decide) ?_
                                                        refine w_cald S C w 2 rfl (by unfold vp_in; decide) dX7_word_31 ?_
                                                        refine w_topi (y := 100) (by decide) ?_
                                                        refine lv_bipush (v := 32) S.1 S.2.1 dX7_word_32 (by decide) ?_
                                                        refine lv_icmp_eq (tgt := 43) S.1 S.2.1 dX7_word_34 (by decide) (fun c34_18 => ?_) (fun c34_18 => ?_)
                                                        · exact absurd c34_18 (by decide)
                                                        · refine lv_iinc (v := 4) (lv' := [(5, .int 4), (4, .int 15), (3, .int 4), (0, .ref mO), (1, .int lo), (2, .int hi)]) S.1 S.2.1 dX7_word_37 hl (k := 0) rfl (by decide) (by decide) rfl (fun ls hl => ?_)
                                                          refine lv_goto (tgt := 22) S.1 S.2.1 dX7_word_40 (by decide) ?_
                                                          refine lv_aload_n S.1 S.2.1 dX7_word_22 rfl (lv_at hl 3 rfl) ?_
                                                          refine w_get S C w (CC := RX7) (T := TX7) (N := 16) (ref := "GateSumsModel") im_X7_word_X7 0 rfl rfl 7 (by decide) (List.mem_of_getElem? (i := 1) rfl) (fun _ h => h) rfl dX7_word_23 ?_
                                                          refine lv_iload S.1 S.2.1 dX7_word_26 (lv_at hl 1 rfl) ?_
                                                          refine lv_iload S.1 S.2.1 dX7_word_28 (lv_at hl 0 rfl) ?_
                                                          refine lv_iadd S.1 S.2.1 dX7_word_30 ?_
                                                          refine w_topi (y := 19) (by decide) ?_
                                                          refine w_cald S C w 2 rfl (by unfold vp_in; decide) dX7_word_31 ?_
                                                          refine w_topi (y := 32) (by decide) ?_
                                                          refine lv_bipush (v := 32) S.1 S.2.1 dX7_word_32 (by decide) ?_
                                                          refine lv_icmp_eq (tgt := 43) S.1 S.2.1 dX7_word_34 (by decide) (fun c34_19 => ?_) (fun c34_19 => ?_)
                                                          · refine w_join0 78 [] (¬ inF 4 lo hi = 0 → ¬ MW tN fT 4 (sk tN fT aN)) (fun hz78 => ?_) (fun J78 => ?_)
                                                            · have hall := wd_step (P := fun j => ¬ inF (nI j) lo hi = 0 → ¬ MW tN fT j (sk tN fT aN)) hall hz78
                                                              refine lv_iinc (v := 5) (lv' := [(3, .int 5), (5, .int 4), (4, .int 15), (0, .ref mO), (1, .int lo), (2, .int hi)]) S.1 S.2.1 dX7_word_78 hl (k := 2) rfl (by decide) (by decide) rfl (fun ls hl => ?_)
                                                              refine lv_iload S.1 S.2.1 dX7_word_81 (lv_at hl 2 rfl) ?_
                                                              refine lv_iload S.1 S.2.1 dX7_word_83 (lv_at hl 1 rfl) ?_
                                                              refine lv_iconst (v := 1) S.1 S.2.1 dX7_word_85 (by decide) ?_
                                                              refine lv_iadd S.1 S.2.1 dX7_word_86 ?_
                                                              refine w_topi (y := 5) (by decide) ?_
                                                              refine lv_iadd S.1 S.2.1 dX7_word_87 ?_
                                                              refine w_topi (y := 20) (by decide) ?_
                                                              refine lv_istore (lv' := [(4, .int 20), (3, .int 5), (5, .int 4), (0, .ref mO), (1, .int lo), (2, .int hi)]) S.1 S.2.1 dX7_word_88 hl (by decide) rfl (fun ls hl => ?_)
                                                              refine lv_goto (tgt := 9) S.1 S.2.1 dX7_word_90 (by decide) ?_
                                                              refine lv_iload S.1 S.2.1 dX7_word_9 (lv_at hl 0 rfl) ?_
                                                              refine lv_aload_n S.1 S.2.1 dX7_word_11 rfl (lv_at hl 3 rfl) ?_
                                                              refine w_get S C w (CC := RX7) (T := TX7) (N := 16) (ref := "GateSumsModel") im_X7_word_X7 0 rfl rfl 7 (by decide) (List.mem_of_getElem? (i := 1) rfl) (fun _ h => h) rfl dX7_word_12 ?_
                                                              refine w_alen S C w 2 1 rfl rfl (v := 73) rfl dX7_word_15 ?_
                                                              refine lv_icmp_ge (tgt := 93) S.1 S.2.1 dX7_word_16 (by decide) (fun c16_5 => ?_) (fun c16_5 => ?_)
                                                              · exact absurd c16_5 (by decide)
                                                              · refine lv_iconst (v := 0) S.1 S.2.1 dX7_word_19 (by decide) ?_
                                                                refine lv_istore (lv' := [(5, .int 0), (4, .int 20), (3, .int 5), (0, .ref mO), (1, .int lo), (2, .int hi)]) S.1 S.2.1 dX7_word_20 hl (by decide) rfl (fun ls hl => ?_)
                                                                refine lv_aload_n S.1 S.2.1 dX7_word_22 rfl (lv_at hl 3 rfl) ?_
                                                                refine w_get S C w (CC := RX7) (T := TX7) (N := 16) (ref := "GateSumsModel") im_X7_word_X7 0 rfl rfl 7 (by decide) (List.mem_of_getElem? (i := 1) rfl) (fun _ h => h) rfl dX7_word_23 ?_
                                                                refine lv_iload S.1 S.2.1 dX7_word_26 (lv_at hl 1 rfl) ?_
                                                                refine lv_iload S.1 S.2.1 dX7_word_28 (lv_at hl 0 rfl) ?_
                                                                refine lv_iadd S.1 S.2.1 dX7_word_30 ?_
                                                                refine w_topi (y := 20) (by decide) ?_
                                                                refine w_cald S C w 2 rfl (by unfold vp_in; decide) dX7_word_31 ?_
                                                                refine w_topi (y := 110) (by decide) ?_
                                                                refine lv_bipush (v := 32) S.1 S.2.1 dX7_word_32 (by decide) ?_
                                                                refine lv_icmp_eq (tgt := 43) S.1 S.2.1 dX7_word_34 (by decide) (fun c34_20 => ?_) (fun c34_20 => ?_)
                                                                · exact absurd c34_20 (by decide)
                                                                · refine lv_iinc (v := 1) (lv' := [(5, .int 1), (4, .int 20), (3, .int 5), (0, .ref mO), (1, .int lo), (2, .int hi)]) S.1 S.2.1 dX7_word_37 hl (k := 0) rfl (by decide) (by decide) rfl (fun ls hl => ?_)
                                                                  refine lv_goto (tgt := 22) S.1 S.2.1 dX7_word_40 (by decide) ?_
                                                                  refine lv_aload_n S.1 S.2.1 dX7_word_22 rfl (lv_at hl 3 rfl) ?_
                                                                  refine w_get S C w (CC := RX7) (T := TX7) (N := 16) (ref := "GateSumsModel") im_X7_word_X7 0 rfl rfl 7 (by decide) (List.mem_of_getElem? (i := 1) rfl) (fun _ h => h) rfl dX7_word_23 ?_
                                                                  refine lv_iload S.1 S.2.1 dX7_word_26 (lv_at hl 1 rfl) ?_
                                                                  refine lv_iload S.1 S.2.1 dX7_word_28 (lv_at hl 0 rfl) ?_
                                                                  refine lv_iadd S.1 S.2.1 dX7_word_30 ?_
                                                                  refine w_topi (y := 21) (by decide) ?_
                                                                  refine w_cald S C w 2 rfl (by unfold vp_in; decide) dX7_word_31 ?_
                                                                  refine w_topi (y := 111) (by decide) ?_
                                                                  refine lv_bipush (v := 32) S.1 S.2.1 dX7_word_32 (by decide) ?_
                                                                  refine lv_icmp_eq (tgt := 43) S.1 S.2.1 dX7_word_34 (by decide) (fun c34_21 => ?_) (fun c34_21 => ?_)
                                                                  · exact absurd c34_21 (by decide)
                                                                  · refine lv_iinc (v := 2) (lv' := [(5, .int 2), (4, .int 20), (3, .int 5), (0, .ref mO), (1, .int lo), (2, .int hi)]) S.1 S.2.1 dX7_word_37 hl (k := 0) rfl (by decide) (by decide) rfl (fun ls hl => ?_)
                                                                    refine lv_goto (tgt := 22) S.1 S.2.1 dX7_word_40 (by decide) ?_
                                                                    refine lv_aload_n S.1 S.2.1 dX7_word_22 rfl (lv_at hl 3 rfl) ?_
                                                                    refine w_get S C w (CC := RX7) (T := TX7) (N := 16) (ref := "GateSumsModel") im_X7_word_X7 0 rfl rfl 7 (by decide) (List.mem_of_getElem? (i := 1) rfl) (fun _ h => h) rfl dX7_word_23 ?_
                                                                    refine lv_iload S.1 S.2.1 dX7_word_26 (lv_at hl 1 rfl) ?_
                                                                    refine lv_iload S.1 S.2.1 dX7_word_28 (lv_at hl 0 rfl) ?_
                                                                    refine lv_iadd S.1 S.2.1 dX7_word_30 ?_
                                                                    refine w_topi (y := 22) (by decide) ?_
                                                                    refine w_cald S C w 2 rfl (by unfold vp_in; decide) dX7_word_31 ?_
                                                                    refine w_topi (y := 114) (by decide) ?_
                                                                    refine lv_bipush (v := 32) S.1 S.2.1 dX7_word_32 (by decide) ?_
                                                                    refine lv_icmp_eq (tgt := 43) S.1 S.2.1 dX7_word_34 (by decide) (fun c34_22 => ?_) (fun c34_22 => ?_)
                                                                    · exact absurd c34_22 (by decide)
                                                                    · refine lv_iinc (v := 3) (lv' := [(5, .int 3), (4, .int 20), (3, .int 5), (0, .ref mO), (1, .int lo), (2, .int hi)]) S.1 S.2.1 dX7_word_37 hl (k := 0) rfl (by decide) (by decide) rfl (fun ls hl => ?_)
                                                                      refine lv_goto (tgt := 22) S.1 S.2.1 dX7_word_40 (by decide) ?_
                                                                      refine lv_aload_n S.1 S.2.1 dX7_word_22 rfl (lv_at hl 3 rfl) ?_
                                                                      refine w_get S C w (CC := RX7) (T := TX7) (N := 16) (ref := "GateSumsModel") im_X7_word_X7 0 rfl rfl 7 (by decide) (List.mem_of_getElem? (i := 1) rfl) (fun _ h => h) rfl dX7_word_23 ?_
                                                                      refine lv_iload S.1 S.2.1 dX7_word_26 (lv_at hl 1 rfl) ?_
                                                                      refine lv_iload S.1 S.2.1 dX7_word_28 (lv_at hl 0 rfl) ?_
                                                                      refine lv_iadd S.1 S.2.1 dX7_word_30 ?_
                                                                      refine w_topi (y := 23) (by decide) ?_
                                                                      refine w_cald S C w 2 rfl (by unfold vp_in; decide) dX7_word_31 ?_
                                                                      refine w_topi (y := 32) (by decide) ?_
                                                                      refine lv_bipush (v := 32) S.1 S.2.1 dX7_word_32 (by decide) ?_
                                                                      refine lv_icmp_eq (tgt := 43) S.1 S.2.1 dX7_word_34 (by decide) (fun c34_23 => ?_) (fun c34_23 => ?_)
                                                                      · refine w_join0 78 [] (¬ inF 5 lo hi = 0 → ¬ MW tN fT 5 (sk tN fT aN)) (fun hz78 => ?_) (fun J78 => ?_)
                                                                        · have hall := wd_step (P := fun j => ¬ inF (nI j) lo hi = 0 → ¬ MW tN fT j (sk tN fT aN)) hall hz78
                                                                          refine lv_iinc (v := 6) (lv' := [(3, .int 6), (5, .int 3), (4, .int 20), (0, .ref mO), (1, .int lo), (2, .int hi)]) S.1 S.2.1 dX7_word_78 hl (k := 2) rfl (by decide) (by decide) rfl (fun ls hl => ?_)
                                                                          refine lv_iload S.1 S.2.1 dX7_word_81 (lv_at hl 2 rfl) ?_
                                                                          refine lv_iload S.1 S.2.1 dX7_word_83 (lv_at hl 1 rfl) ?_
                                                                          refine lv_iconst (v := 1) S.1 S.2.1 dX7_word_85 (by decide) ?_
                                                                          refine lv_iadd S.1 S.2.1 dX7_word_86 ?_
                                                                          refine w_topi (y := 4) (by decide) ?_
                                                                          refine lv_iadd S.1 S.2.1 dX7_word_87 ?_
                                                                          refine w_topi (y := 24) (by decide) ?_
                                                                          refine lv_istore (lv' := [(4, .int 24), (3, .int 6), (5, .int 3), (0, .ref mO), (1, .int lo), (2, .int hi)]) S.1 S.2.1 dX7_word_88 hl (by decide) rfl (fun ls hl => ?_)
                                                                          refine lv_goto (tgt := 9) S.1 S.2.1 dX7_word_90 (by decide) ?_
                                                                          refine lv_iload S.1 S.2.1 dX7_word_9 (lv_at hl 0 rfl) ?_
                                                                          refine lv_aload_n S.1 S.2.1 dX7_word_11 rfl (lv_at hl 3 rfl) ?_
                                                                          refine w_get S C w (CC := RX7) (T := TX7) (N := 16) (ref := "GateSumsModel") im_X7_word_X7 0 rfl rfl 7 (by decide) (List.mem_of_getElem? (i := 1) rfl) (fun _ h => h) rfl dX7_word_12 ?_
                                                                          refine w_alen S C w 2 1 rfl rfl (v := 73) rfl dX7_word_15 ?_
                                                                          refine lv_icmp_ge (tgt := 93) S.1 S.2.1 dX7_word_16 (by decide) (fun c16_6 => ?_) (fun c16_6 => ?_)
                                                                          · exact absurd c16_6 (by decide)
                                                                          · refine lv_iconst (v := 0) S.1 S.2.1 dX7_word_19 (by decide) ?_
                                                                            refine lv_istore (lv' := [(5, .int 0), (4, .int 24), (3, .int 6), (0, .ref mO), (1, .int lo), (2, .int hi)]) S.1 S.2.1 dX7_word_20 hl (by decide) rfl (fun ls hl => ?_)
                                                                            refine lv_aload_n S.1 S.2.1 dX7_word_22 rfl (lv_at hl 3 rfl) ?_
                                                                            refine w_get S C w (CC := RX7) (T := TX7) (N := 16) (ref := "GateSumsModel") im_X7_word_X7 0 rfl rfl 7 (by decide) (List.mem_of_getElem? (i := 1) rfl) (fun _ h => h) rfl dX7_word_23 ?_
                                                                            refine lv_iload S.1 S.2.1 dX7_word_26 (lv_at hl 1 rfl) ?_
                                                                            refine lv_iload S.1 S.2.1 dX7_word_28 (lv_at hl 0 rfl) ?_
                                                                            refine lv_iadd S.1 S.2.1 dX7_word_30 ?_
                                                                            refine w_topi (y := 24) (by decide) ?_
                                                                            refine w_cald S C w 2 rfl (by unfold vp_in; decide) dX7_word_31 ?_
                                                                            refine w_topi (y := 120) (by decide) ?_
                                                                            refine lv_bipush (v := 32) S.1 S.2.1 dX7_word_32 (by decide) ?_
                                                                            refine lv_icmp_eq (tgt := 43) S.1 S.2.1 dX7_word_34 (by decide) (fun c34_24 => ?_) (fun c34_24 => ?_)
                                                                            · exact absurd c34_24 (by decide)
                                                                            · refine lv_iinc (v := 1) (lv' := [(5, .int 1), (4, .int 24), (3, .int 6), (0, .ref mO), (1, .int lo), (2, .int hi)]) S.1 S.2.1 dX7_word_37 hl (k := 0) rfl (by decide) (by decide) rfl (fun ls hl => ?_)
                                                                              refine lv_goto (tgt := 22) S.1 S.2.1 dX7_word_40 (by decide) ?_
                                                                              refine lv_aload_n S.1 S.2.1 dX7_word_22 rfl (lv_at hl 3 rfl) ?_
                                                                              refine w_get S C w (CC := RX7) (T := TX7) (N := 16) (ref := "GateSumsModel") im_X7_word_X7 0 rfl rfl 7 (by decide) (List.mem_of_getElem? (i := 1) rfl) (fun _ h => h) rfl dX7_word_23 ?_
                                                                              refine lv_iload S.1 S.2.1 dX7_word_26 (lv_at hl 1 rfl) ?_
                                                                              refine lv_iload S.1 S.2.1 dX7_word_28 (lv_at hl 0 rfl) ?_
                                                                              refine lv_iadd S.1 S.2.1 dX7_word_30 ?_
                                                                              refine w_topi (y := 25) (by decide) ?_
                                                                              refine w_cald S C w 2 rfl (by unfold vp_in; decide) dX7_word_31 ?_
                                                                              refine w_topi (y := 110) (by decide) ?_
                                                                              refine lv_bipush (v := 32) S.1 S.2.1 dX7_word_32 (by decide) ?_
                                                                              refine lv_icmp_eq (tgt := 43) S.1 S.2.1 dX7_word_34 (by decide) (fun c34_25 => ?_) (fun c34_25 => ?_)
                                                                              · exact absurd c34_25 (by decide)
                                                                              · refine lv_iinc (v := 2) (lv' := [(5, .int 2), (4, .int 24), (3, .int 6), (0, .ref mO), (1, .int lo), (2, .int hi)]) S.1 S.2.1 dX7_word_37 hl (k := 0) rfl (by decide) (by decide) rfl (fun ls hl => ?_)
                                                                                refine lv_goto (tgt := 22) S.1 S.2.1 dX7_word_40 (by decide) ?_
                                                                                refine lv_aload_n S.1 S.2.1 dX7_word_22 rfl (lv_at hl 3 rfl) ?_
                                                                                refine w_get S C w (CC := RX7) (T := TX7) (N := 16) (ref := "GateSumsModel") im_X7_word_X7 0 rfl rfl 7 (by decide) (List.mem_of_getElem? (i := 1) rfl) (fun _ h => h) rfl dX7_word_23 ?_
                                                                                refine lv_iload S.1 S.2.1 dX7_word_26 (lv_at hl 1 rfl) ?_
                                                                                refine lv_iload S.1 S.2.1 dX7_word_28 (lv_at hl 0 rfl) ?_
                                                                                refine lv_iadd S.1 S.2.1 dX7_word_30 ?_
                                                                                refine w_topi (y := 26) (by decide) ?_
                                                                                refine w_cald S C w 2 rfl (by unfold vp_in; decide) dX7_word_31 ?_
                                                                                refine w_topi (y := 111) (by decide) ?_
                                                                                refine lv_bipush (v := 32) S.1 S.2.1 dX7_word_32 (by decide) ?_
                                                                                refine lv_icmp_eq (tgt := 43) S.1 S.2.1 dX7_word_34 (by decide) (fun c34_26 => ?_) (fun c34_26 => ?_)
                                                                                · exact absurd c34_26 (by decide)
                                                                                · refine lv_iinc (v := 3) (lv' := [(5, .int 3), (4, .int 24), (3, .int 6), (0, .ref mO), (1, .int lo), (2, .int hi)]) S.1 S.2.1 dX7_word_37 hl (k := 0) rfl (by decide) (by decide) rfl (fun ls hl => ?_)
                                                                                  refine lv_goto (tgt := 22) S.1 S.2.1 dX7_word_40 (by decide) ?_
                                                                                  refine lv_aload_n S.1 S.2.1 dX7_word_22 rfl (lv_at hl 3 rfl) ?_
                                                                                  refine w_get S C w (CC := RX7) (T := TX7) (N := 16) (ref := "GateSumsModel") im_X7_word_X7 0 rfl rfl 7 (by decide) (List.mem_of_getElem? (i := 1) rfl) (fun _ h => h) rfl dX7_word_23 ?_
                                                                                  refine lv_iload S.1 S.2.1 dX7_word_26 (lv_at hl 1 rfl) ?_
                                                                                  refine lv_iload S.1 S.2.1 dX7_word_28 (lv_at hl 0 rfl) ?_
                                                                                  refine lv_iadd S.1 S.2.1 dX7_word_30 ?_
                                                                                  refine w_topi (y := 27) (by decide) ?_
                                                                                  refine w_cald S C w 2 rfl (by unfold vp_in; decide) dX7_word_31 ?_
                                                                                  refine w_topi (y := 114) (by decide) ?_
                                                                                  refine lv_bipush (v := 32) S.1 S.2.1 dX7_word_32 (by decide) ?_
                                                                                  refine lv_icmp_eq (tgt := 43) S.1 S.2.1 dX7_word_34 (by decide) (fun c34_27 => ?_) (fun c34_27 => ?_)
                                                                                  · exact absurd c34_27 (by decide)
                                                                                  · refine lv_iinc (v := 4) (lv' := [(5, .int 4), (4, .int 24), (3, .int 6), (0, .ref mO), (1, .int lo), (2, .int hi)]) S.1 S.2.1 dX7_word_37 hl (k := 0) rfl (by decide) (by decide) rfl (fun ls hl => ?_)
                                                                                    refine lv_goto (tgt := 22) S.1 S.2.1 dX7_word_40 (by decide) ?_
                                                                                    refine lv_aload_n S.1 S.2.1 dX7_word_22 rfl (lv_at hl 3 rfl) ?_
                                                                                    refine w_get S C w (CC := RX7) (T := TX7) (N := 16) (ref := "GateSumsModel") im_X7_word_X7 0 rfl rfl 7 (by decide) (List.mem_of_getElem? (i := 1) rfl) (fun _ h => h) rfl dX7_word_23 ?_
                                                                                    refine lv_iload S.1 S.2.1 dX7_word_26 (lv_at hl 1 rfl) ?_
                                                                                    refine lv_iload S.1 S.2.1 dX7_word_28 (lv_at hl 0 rfl) ?_
                                                                                    refine lv_iadd S.1 S.2.1 dX7_word_30 ?_
                                                                                    refine w_topi (y := 28) (by decide) ?_
                                                                                    refine w_cald S C w 2 rfl (by unfold vp_in; decide) dX7_word_31 ?_
                                                                                    refine w_topi (y := 32) (by decide) ?_
                                                                                    refine lv_bipush (v := 32) S.1 S.2.1 dX7_word_32 (by decide) ?_
                                                                                    refine lv_icmp_eq (tgt := 43) S.1 S.2.1 dX7_word_34 (by decide) (fun c34_28 => ?_) (fun c34_28 => ?_)
                                                                                    · refine w_join0 78 [] (¬ inF 6 lo hi = 0 → ¬ MW tN fT 6 (sk tN fT aN)) (fun hz78 => ?_) (fun J78 => ?_)
                                                                                      · have hall := wd_step (P := fun j => ¬ inF (nI j) lo hi = 0 → ¬ MW tN fT j (sk tN fT aN)) hall hz78
                                                                                        refine lv_iinc (v := 7) (lv' := [(3, .int 7), (5, .int 4), (4, .int 24), (0, .ref mO), (1, .int lo), (2, .int hi)]) S.1 S.2.1 dX7_word_78 hl (k := 2) rfl (by decide) (by decide) rfl (fun ls hl => ?_)
                                                                                        refine lv_iload S.1 S.2.1 dX7_word_81 (lv_at hl 2 rfl) ?_
                                                                                        refine lv_iload S.1 S.2.1 dX7_word_83 (lv_at hl 1 rfl) ?_
                                                                                        refine lv_iconst (v := 1) S.1 S.2.1 dX7_word_85 (by decide) ?_
                                                                                        refine lv_iadd S.1 S.2.1 dX7_word_86 ?_
                                                                                        refine w_topi (y := 5) (by decide) ?_
                                                                                        refine lv_iadd S.1 S.2.1 dX7_word_87 ?_
                                                                                        refine w_topi (y := 29) (by decide) ?_
                                                                                        refine lv_istore (lv' := [(4, .int 29), (3, .int 7), (5, .int 4), (0, .ref mO), (1, .int lo), (2, .int hi)]) S.1 S.2.1 dX7_word_88 hl (by decide) rfl (fun ls hl => ?_)
                                                                                        refine lv_goto (tgt := 9) S.1 S.2.1 dX7_word_90 (by decide) ?_
                                                                                        refine lv_iload S.1 S.2.1 dX7_word_9 (lv_at hl 0 rfl) ?_
                                                                                        refine lv_aload_n S.1 S.2.1 dX7_word_11 rfl (lv_at hl 3 rfl) ?_
                                                                                        refine w_get S C w (CC := RX7) (T := TX7) (N := 16) (ref := "GateSumsModel") im_X7_word_X7 0 rfl rfl 7 (by decide) (List.mem_of_getElem? (i := 1) rfl) (fun _ h => h) rfl dX7_word_12 ?_
                                                                                        refine w_alen S C w 2 1 rfl rfl (v := 73) rfl dX7_word_15 ?_
                                                                                        refine lv_icmp_ge (tgt := 93) S.1 S.2.1 dX7_word_16 (by decide) (fun c16_7 => ?_) (fun c16_7 => ?_)
                                                                                        · exact absurd c16_7 (by decide)
                                                                                        · refine lv_iconst (v := 0) S.1 S.2.1 dX7_word_19 (by decide) ?_
                                                                                          refine lv_istore (lv' := [(5, .int 0), (4, .int 29), (3, .int 7), (0, .ref mO), (1, .int lo), (2, .int hi)]) S.1 S.2.1 dX7_word_20 hl (by decide) rfl (fun ls hl => ?_)
                                                                                          refine lv_aload_n S.1 S.2.1 dX7_word_22 rfl (lv_at hl 3 rfl) ?_
                                                                                          refine w_get S C w (CC := RX7) (T := TX7) (N := 16) (ref := "GateSumsModel") im_X7_word_X7 0 rfl rfl 7 (by decide) (List.mem_of_getElem? (i := 1) rfl) (fun _ h => h) rfl dX7_word_23 ?_
                                                                                          refine lv_iload S.1 S.2.1 dX7_word_26 (lv_at hl 1 rfl) ?_
                                                                                          refine lv_iload S.1 S.2.1 dX7_word_28 (lv_at hl 0 rfl) ?_
                                                                                          refine lv_iadd S.1 S.2.1 dX7_word_30 ?_
                                                                                          refine w_topi (y := 29) (by decide) ?_
                                                                                          refine w_cald S C w 2 rfl (by unfold vp_in; decide) dX7_word_31 ?_
                                                                                          refine w_topi (y := 98) (by decide) ?_
                                                                                          refine lv_bipush (v := 32) S.1 S.2.1 dX7_word_32 (by decide) ?_
                                                                                          refine lv_icmp_eq (tgt := 43) S.1 S.2.1 dX7_word_34 (by decide) (fun c34_29 => ?_) (fun c34_29 => ?_)
                                                                                          · exact absurd c34_29 (by decide)
                                                                                          · refine lv_iinc (v := 1) (lv' := [(5, .int 1), (4, .int 29), (3, .int 7), (0, .ref mO), (1, .int lo), (2, .int hi)]) S.1 S.2.1 dX7_word_37 hl (k := 0) rfl (by decide) (by decide) rfl (fun ls hl => ?_)
                                                                                            refine lv_goto (tgt := 22) S.1 S.2.1 dX7_word_40 (by decide) ?_
                                                                                            refine lv_aload_n S.1 S.2.1 dX7_word_22 rfl (lv_at hl 3 rfl) ?_
                                                                                            refine w_get S C w (CC := RX7) (T := TX7) (N := 16) (ref := "GateSumsModel") im_X7_word_X7 0 rfl rfl 7 (by decide) (List.mem_of_getElem? (i := 1) rfl) (fun _ h => h) rfl dX7_word_23 ?_
                                                                                            refine lv_iload S.1 S.2.1 dX7_word_26 (lv_at hl 1 rfl) ?_
                                                                                            refine lv_iload S.1 S.2.1 dX7_word_28 (lv_at hl 0 rfl) ?_
                                                                                            refine lv_iadd S.1 S.2.1 dX7_word_30 ?_
                                                                                            refine w_topi (y := 30) (by decide) ?_
                                                                                            refine w_cald S C w 2 rfl (by unfold vp_in; decide) dX7_word_31 ?_
                                                                                            refine w_topi (y := 117) (by decide) ?_
                                                                                            refine lv_bipush (v := 32) S.1 S.2.1 dX7_word_32 (by decide) ?_
                                                                                            refine lv_icmp_eq (tgt := 43) S.1 S.2.1 dX7_word_34 (by decide) (fun c34_30 => ?_) (fun c34_30 => ?_)
                                                                                            · exact absurd c34_30 (by decide)
                                                                                            · refine lv_iinc (v := 2) (lv' := [(5, .int 2), (4, .int 29), (3, .int 7), (0, .ref mO), (1, .int lo), (2, .int hi)]) S.1 S.2.1 dX7_word_37 hl (k := 0) rfl (by decide) (by decide) rfl (fun ls hl => ?_)
                                                                                              refine lv_goto (tgt := 22) S.1 S.2.1 dX7_word_40 (by decide) ?_
                                                                                              refine lv_aload_n S.1 S.2.1 dX7_word_22 rfl (lv_at hl 3 rfl) ?_
                                                                                              refine w_get S C w (CC := RX7) (T := TX7) (N := 16) (ref := "GateSumsModel") im_X7_word_X7 0 rfl rfl 7 (by decide) (List.mem_of_getElem? (i := 1) rfl) (fun _ h => h) rfl dX7_word_23 ?_
                                                                                              refine lv_iload S.1 S.2.1 dX7_word_26 (lv_at hl 1 rfl) ?_
                                                                                              refine lv_iload S.1 S.2.1 dX7_word_28 (lv_at hl 0 rfl) ?_
                                                                                              refine lv_iadd S.1 S.2.1 dX7_word_30 ?_
                                                                                              refine w_topi (y := 31) (by decide) ?_
                                                                                              refine w_cald S C w 2 rfl (by unfold vp_in; decide) dX7_word_31 ?_
                                                                                              refine w_topi (y := 116) (by decide) ?_
                                                                                              refine lv_bipush (v := 32) S.1 S.2.1 dX7_word_32 (by decide) ?_
                                                                                              refine lv_icmp_eq (tgt := 43) S.1 S.2.1 dX7_word_34 (by decide) (fun c34_31 => ?_) (fun c34_31 => ?_)
                                                                                              · exact absurd c34_31 (by decide)
                                                                                              · refine lv_iinc (v := 3) (lv' := [(5, .int 3), (4, .int 29), (3, .int 7), (0, .ref mO), (1, .int lo), (2, .int hi)]) S.1 S.2.1 dX7_word_37 hl (k := 0) rfl (by decide) (by decide) rfl (fun ls hl => ?_)
                                                                                                refine lv_goto (tgt := 22) S.1 S.2.1 dX7_word_40 (by decide) ?_
                                                                                                refine lv_aload_n S.1 S.2.1 dX7_word_22 rfl (lv_at hl 3 rfl) ?_
                                                                                                refine w_get S C w (CC := RX7) (T := TX7) (N := 16) (ref := "GateSumsModel") im_X7_word_X7 0 rfl rfl 7 (by decide) (List.mem_of_getElem? (i := 1) rfl) (fun _ h => h) rfl dX7_word_23 ?_
                                                                                                refine lv_iload S.1 S.2.1 dX7_word_26 (lv_at hl 1 rfl) ?_
                                                                                                refine lv_iload S.1 S.2.1 dX7_word_28 (lv_at hl 0 rfl) ?_
                                                                                                refine lv_iadd S.1 S.2.1 dX7_word_30 ?_
                                                                                                refine w_topi (y := 32) (by decide) ?_
                                                                                                refine w_cald S C w 2 rfl (by unfold vp_in; decide) dX7_word_31 ?_
                                                                                                refine w_topi (y := 32) (by decide) ?_
                                                                                                refine lv_bipush (v := 32) S.1 S.2.1 dX7_word_32 (by decide) ?_
                                                                                                refine lv_icmp_eq (tgt := 43) S.1 S.2.1 dX7_word_34 (by decide) (fun c34_32 => ?_) (fun c34_32 => ?_)
                                                                                                · refine w_join0 78 [] (¬ inF 7 lo hi = 0 → ¬ MW tN fT 7 (sk tN fT aN)) (fun hz78 => ?_) (fun J78 => ?_)
                                                                                                  · have hall := wd_step (P := fun j => ¬ inF (nI j) lo hi = 0 → ¬ MW tN fT j (sk tN fT aN)) hall hz78
                                                                                                    refine lv_iinc (v := 8) (lv' := [(3, .int 8), (5, .int 3), (4, .int 29), (0, .ref mO), (1, .int lo), (2, .int hi)]) S.1 S.2.1 dX7_word_78 hl (k := 2) rfl (by decide) (by decide) rfl (fun ls hl => ?_)
                                                                                                    refine lv_iload S.1 S.2.1 dX7_word_81 (lv_at hl 2 rfl) ?_
                                                                                                    refine lv_iload S.1 S.2.1 dX7_word_83 (lv_at hl 1 rfl) ?_
                                                                                                    refine lv_iconst (v := 1) S.1 S.2.1 dX7_word_85 (by decide) ?_
                                                                                                    refine lv_iadd S.1 S.2.1 dX7_word_86 ?_
                                                                                                    refine w_topi (y := 4) (by decide) ?_
                                                                                                    refine lv_iadd S.1 S.2.1 dX7_word_87 ?_
                                                                                                    refine w_topi (y := 33) (by decide) ?_
                                                                                                    refine lv_istore (lv' := [(4, .int 33), (3, .int 8), (5, .int 3), (0, .ref mO), (1, .int lo), (2, .int hi)]) S.1 S.2.1 dX7_word_88 hl (by decide) rfl (fun ls hl => ?_)
                                                                                                    refine lv_goto (tgt := 9) S.1 S.2.1 dX7_word_90 (by decide) ?_
                                                                                                    refine lv_iload S.1 S.2.1 dX7_word_9 (lv_at hl 0 rfl) ?_
                                                                                                    refine lv_aload_n S.1 S.2.1 dX7_word_11 rfl (lv_at hl 3 rfl) ?_
                                                                                                    refine w_get S C w (CC := RX7) (T := TX7) (N := 16) (ref := "GateSumsModel") im_X7_word_X7 0 rfl rfl 7 (by decide) (List.mem_of_getElem? (i := 1) rfl) (fun _ h => h) rfl dX7_word_12 ?_
                                                                                                    refine w_alen S C w 2 1 rfl rfl (v := 73) rfl dX7_word_15 ?_
                                                                                                    refine lv_icmp_ge (tgt := 93) S.1 S.2.1 dX7_word_16 (by decide) (fun c16_8 => ?_) (fun c16_8 => ?_)
                                                                                                    · exact absurd c16_8 (by decide)
                                                                                                    · refine lv_iconst (v := 0) S.1 S.2.1 dX7_word_19 (by decide) ?_
                                                                                                      refine lv_istore (lv' := [(5, .int 0), (4, .int 33), (3, .int 8), (0, .ref mO), (1, .int lo), (2, .int hi)]) S.1 S.2.1 dX7_word_20 hl (by decide) rfl (fun ls hl => ?_)
                                                                                                      refine lv_aload_n S.1 S.2.1 dX7_word_22 rfl (lv_at hl 3 rfl) ?_
                                                                                                      refine w_get S C w (CC := RX7) (T := TX7) (N := 16) (ref := "GateSumsModel") im_X7_word_X7 0 rfl rfl 7 (by decide) (List.mem_of_getElem? (i := 1) rfl) (fun _ h => h) rfl dX7_word_23 ?_
                                                                                                      refine lv_iload S.1 S.2.1 dX7_word_26 (lv_at hl 1 rfl) ?_
                                                                                                      refine lv_iload S.1 S.2.1 dX7_word_28 (lv_at hl 0 rfl) ?_
                                                                                                      refine lv_iadd S.1 S.2.1 dX7_word_30 ?_
                                                                                                      refine w_topi (y := 33) (by decide) ?_
                                                                                                      refine w_cald S C w 2 rfl (by unfold vp_in; decide) dX7_word_31 ?_
                                                                                                      refine w_topi (y := 115) (by decide) ?_
                                                                                                      refine lv_bipush (v := 32) S.1 S.2.1 dX7_word_32 (by decide) ?_
                                                                                                      refine lv_icmp_eq (tgt := 43) S.1 S.2.1 dX7_word_34 (by decide) (fun c34_33 => ?_) (fun c34_33 => ?_)
                                                                                                      · exact absurd c34_33 (by decide)
                                                                                                      · refine lv_iinc (v := 1) (lv' := [(5, .int 1), (4, .int 33), (3, .int 8), (0, .ref mO), (1, .int lo), (2, .int hi)]) S.1 S.2.1 dX7_word_37 hl (k := 0) rfl (by decide) (by decide) rfl (fun ls hl => ?_)
                                                                                                        refine lv_goto (tgt := 22) S.1 S.2.1 dX7_word_40 (by decide) ?_
                                                                                                        refine lv_aload_n S.1 S.2.1 dX7_word_22 rfl (lv_at hl 3 rfl) ?_
                                                                                                        refine w_get S C w (CC := RX7) (T := TX7) (N := 16) (ref := "GateSumsModel") im_X7_word_X7 0 rfl rfl 7 (by decide) (List.mem_of_getElem? (i := 1) rfl) (fun _ h => h) rfl dX7_word_23 ?_
                                                                                                        refine lv_iload S.1 S.2.1 dX7_word_26 (lv_at hl 1 rfl) ?_
                                                                                                        refine lv_iload S.1 S.2.1 dX7_word_28 (lv_at hl 0 rfl) ?_
                                                                                                        refine lv_iadd S.1 S.2.1 dX7_word_30 ?_
                                                                                                        refine w_topi (y := 34) (by decide) ?_
                                                                                                        refine w_cald S C w 2 rfl (by unfold vp_in; decide) dX7_word_31 ?_
                                                                                                        refine w_topi (y := 117) (by decide) ?_
                                                                                                        refine lv_bipush (v := 32) S.1 S.2.1 dX7_word_32 (by decide) ?_
                                                                                                        refine lv_icmp_eq (tgt := 43) S.1 S.2.1 dX7_word_34 (by decide) (fun c34_34 => ?_) (fun c34_34 => ?_)
                                                                                                        · exact absurd c34_34 (by decide)
                                                                                                        · refine lv_iinc (v := 2) (lv' := [(5, .int 2), (4, .int 33), (3, .int 8), (0, .ref mO), (1, .int lo), (2, .int hi)]) S.1 S.2.1 dX7_word_37 hl (k := 0) rfl (by decide) (by decide) rfl (fun ls hl => ?_)
                                                                                                          refine lv_goto (tgt := 22) S.1 S.2.1 dX7_word_40 (by decide) ?_
                                                                                                          refine lv_aload_n S.1 S.2.1 dX7_word_22 rfl (lv_at hl 3 rfl) ?_
                                                                                                          refine w_get S C w (CC := RX7) (T := TX7) (N := 16) (ref := "GateSumsModel") im_X7_word_X7 0 rfl rfl 7 (by decide) (List.mem_of_getElem? (i := 1) rfl) (fun _ h => h) rfl dX7_word_23 ?_
                                                                                                          refine lv_iload S.1 S.2.1 dX7_word_26 (lv_at hl 1 rfl) ?_
                                                                                                          refine lv_iload S.1 S.2.1 dX7_word_28 (lv_at hl 0 rfl) ?_
                                                                                                          refine lv_iadd S.1 S.2.1 dX7_word_30 ?_
                                                                                                          refine w_topi (y := 35) (by decide) ?_
                                                                                                          refine w_cald S C w 2 rfl (by unfold vp_in; decide) dX7_word_31 ?_
                                                                                                          refine w_topi (y := 109) (by decide) ?_
                                                                                                          refine lv_bipush (v := 32) S.1 S.2.1 dX7_word_32 (by decide) ?_
                                                                                                          refine lv_icmp_eq (tgt := 43) S.1 S.2.1 dX7_word_34 (by decide) (fun c34_35 => ?_) (fun c34_35 => ?_)
                                                                                                          · exact absurd c34_35 (by decide)
                                                                                                          · refine lv_iinc (v := 3) (lv' := [(5, .int 3), (4, .int 33), (3, .int 8), (0, .ref mO), (1, .int lo), (2, .int hi)]) S.1 S.2.1 dX7_word_37 hl (k := 0) rfl (by decide) (by decide) rfl (fun ls hl => ?_)
                                                                                                            refine lv_goto (tgt := 22) S.1 S.2.1 dX7_word_40 (by decide) ?_
                                                                                                            refine lv_aload_n S.1 S.2.1 dX7_word_22 rfl (lv_at hl 3 rfl) ?_
                                                                                                            refine w_get S C w (CC := RX7) (T := TX7) (N := 16) (ref := "GateSumsModel") im_X7_word_X7 0 rfl rfl 7 (by decide) (List.mem_of_getElem? (i := 1) rfl) (fun _ h => h) rfl dX7_word_23 ?_
                                                                                                            refine lv_iload S.1 S.2.1 dX7_word_26 (lv_at hl 1 rfl) ?_
                                                                                                            refine lv_iload S.1 S.2.1 dX7_word_28 (lv_at hl 0 rfl) ?_
                                                                                                            refine lv_iadd S.1 S.2.1 dX7_word_30 ?_
                                                                                                            refine w_topi (y := 36) (by decide) ?_
                                                                                                            refine w_cald S C w 2 rfl (by unfold vp_in; decide) dX7_word_31 ?_
                                                                                                            refine w_topi (y := 32) (by decide) ?_
                                                                                                            refine lv_bipush (v := 32) S.1 S.2.1 dX7_word_32 (by decide) ?_
                                                                                                            refine lv_icmp_eq (tgt := 43) S.1 S.2.1 dX7_word_34 (by decide) (fun c34_36 => ?_) (fun c34_36 => ?_)
                                                                                                            · refine w_join0 78 [] (¬ inF 8 lo hi = 0 → ¬ MW tN fT 8 (sk tN fT aN)) (fun hz78 => ?_) (fun J78 => ?_)
                                                                                                              · have hall := wd_step (P := fun j => ¬ inF (nI j) lo hi = 0 → ¬ MW tN fT j (sk tN fT aN)) hall hz78
                                                                                                                refine lv_iinc (v := 9) (lv' := [(3, .int 9), (5, .int 3), (4, .int 33), (0, .ref mO), (1, .int lo), (2, .int hi)]) S.1 S.2.1 dX7_word_78 hl (k := 2) rfl (by decide) (by decide) rfl (fun ls hl => ?_)
                                                                                                                refine lv_iload S.1 S.2.1 dX7_word_81 (lv_at hl 2 rfl) ?_
                                                                                                                refine lv_iload S.1 S.2.1 dX7_word_83 (lv_at hl 1 rfl) ?_
                                                                                                                refine lv_iconst (v := 1) S.1 S.2.1 dX7_word_85 (by decide) ?_
                                                                                                                refine lv_iadd S.1 S.2.1 dX7_word_86 ?_
                                                                                                                refine w_topi (y := 4) (by decide) ?_
                                                                                                                refine lv_iadd S.1 S.2.1 dX7_word_87 ?_
                                                                                                                refine w_topi (y := 37) (by decide) ?_
                                                                                                                refine lv_istore (lv' := [(4, .int 37), (3, .int 9), (5, .int 3), (0, .ref mO), (1, .int lo), (2, .int hi)]) S.1 S.2.1 dX7_word_88 hl (by decide) rfl (fun ls hl => ?_)
                                                                                                                refine lv_goto (tgt := 9) S.1 S.2.1 dX7_word_90 (by decide) ?_
                                                                                                                refine lv_iload S.1 S.2.1 dX7_word_9 (lv_at hl 0 rfl) ?_
                                                                                                                refine lv_aload_n S.1 S.2.1 dX7_word_11 rfl (lv_at hl 3 rfl) ?_
                                                                                                                refine w_get S C w (CC := RX7) (T := TX7) (N := 16) (ref := "GateSumsModel") im_X7_word_X7 0 rfl rfl 7 (by decide) (List.mem_of_getElem? (i := 1) rfl) (fun _ h => h) rfl dX7_word_12 ?_
                                                                                                                refine w_alen S C w 2 1 rfl rfl (v := 73) rfl dX7_word_15 ?_
                                                                                                                refine lv_icmp_ge (tgt := 93) S.1 S.2.1 dX7_word_16 (by decide) (fun c16_9 => ?_) (fun c16_9 => ?_)
                                                                                                                · exact absurd c16_9 (by decide)
                                                                                                                · refine lv_iconst (v := 0) S.1 S.2.1 dX7_word_19 (by decide) ?_
                                                                                                                  refine lv_istore (lv' := [(5, .int 0), (4, .int 37), (3, .int 9), (0, .ref mO), (1, .int lo), (2, .int hi)]) S.1 S.2.1 dX7_word_20 hl (by decide) rfl (fun ls hl => ?_)
                                                                                                                  refine lv_aload_n S.1 S.2.1 dX7_word_22 rfl (lv_at hl 3 rfl) ?_
                                                                                                                  refine w_get S C w (CC := RX7) (T := TX7) (N := 16) (ref := "GateSumsModel") im_X7_word_X7 0 rfl rfl 7 (by decide) (List.mem_of_getElem? (i := 1) rfl) (fun _ h => h) rfl dX7_word_23 ?_
                                                                                                                  refine lv_iload S.1 S.2.1 dX7_word_26 (lv_at hl 1 rfl) ?_
                                                                                                                  refine lv_iload S.1 S.2.1 dX7_word_28 (lv_at hl 0 rfl) ?_
                                                                                                                  refine lv_iadd S.1 S.2.1 dX7_word_30 ?_
                                                                                                                  refine w_topi (y := 37) (by decide) ?_
                                                                                                                  refine w_cald S C w 2 rfl (by unfold vp_in; decide) dX7_word_31 ?_
                                                                                                                  refine w_topi (y := 112) (by decide) ?_
                                                                                                                  refine lv_bipush (v := 32) S.1 S.2.1 dX7_word_32 (by decide) ?_
                                                                                                                  refine lv_icmp_eq (tgt := 43) S.1 S.2.1 dX7_word_34 (by decide) (fun c34_37 => ?_) (fun c34_37 => ?_)
                                                                                                                  · exact absurd c34_37 (by decide)
                                                                                                                  · refine lv_iinc (v := 1) (lv' := [(5, .int 1), (4, .int 37), (3, .int 9), (0, .ref mO), (1, .int lo), (2, .int hi)]) S.1 S.2.1 dX7_word_37 hl (k := 0) rfl (by decide) (by decide) rfl (fun ls hl => ?_)
                                                                                                                    refine lv_goto (tgt := 22) S.1 S.2.1 dX7_word_40 (by decide) ?_
                                                                                                                    refine lv_aload_n S.1 S.2.1 dX7_word_22 rfl (lv_at hl 3 rfl) ?_
                                                                                                                    refine w_get S C w (CC := RX7) (T := TX7) (N := 16) (ref := "GateSumsModel") im_X7_word_X7 0 rfl rfl 7 (by decide) (List.mem_of_getElem? (i := 1) rfl) (fun _ h => h) rfl dX7_word_23 ?_
                                                                                                                    refine lv_iload S.1 S.2.1 dX7_word_26 (lv_at hl 1 rfl) ?_
                                                                                                                    refine lv_iload S.1 S.2.1 dX7_word_28 (lv_at hl 0 rfl) ?_
                                                                                                                    refine lv_iadd S.1 S.2.1 dX7_word_30 ?_
                                                                                                                    refine w_topi (y := 38) (by decide) ?_
                                                                                                                    refine w_cald S C w 2 rfl (by unfold vp_in; decide) dX7_word_31 ?_
                                                                                                                    refine w_topi (y := 114) (by decide) ?_
                                                                                                                    refine lv_bipush (v := 32) S.1 S.2.1 dX7_word_32 (by decide) ?_
                                                                                                                    refine lv_icmp_eq (tgt := 43) S.1 S.2.1 dX7_word_34 (by decide) (fun c34_38 => ?_) (fun c34_38 => ?_)
                                                                                                                    · exact absurd c34_38 (by decide)
                                                                                                                    · refine lv_iinc (v := 2) (lv' := [(5, .int 2), (4, .int 37), (3, .int 9), (0, .ref mO), (1, .int lo), (2, .int hi)]) S.1 S.2.1 dX7_word_37 hl (k := 0) rfl (by decide) (by decide) rfl (fun ls hl => ?_)
                                                                                                                      refine lv_goto (tgt := 22) S.1 S.2.1 dX7_word_40 (by decide) ?_
                                                                                                                      refine lv_aload_n S.1 S.2.1 dX7_word_22 rfl (lv_at hl 3 rfl) ?_
                                                                                                                      refine w_get S C w (CC := RX7) (T := TX7) (N := 16) (ref := "GateSumsModel") im_X7_word_X7 0 rfl rfl 7 (by decide) (List.mem_of_getElem? (i := 1) rfl) (fun _ h => h) rfl dX7_word_23 ?_
                                                                                                                      refine lv_iload S.1 S.2.1 dX7_word_26 (lv_at hl 1 rfl) ?_
                                                                                                                      refine lv_iload S.1 S.2.1 dX7_word_28 (lv_at hl 0 rfl) ?_
                                                                                                                      refine lv_iadd S.1 S.2.1 dX7_word_30 ?_
                                                                                                                      refine w_topi (y := 39) (by decide) ?_
                                                                                                                      refine w_cald S C w 2 rfl (by unfold vp_in; decide) dX7_word_31 ?_
                                                                                                                      refine w_topi (y := 111) (by decide) ?_
                                                                                                                      refine lv_bipush (v := 32) S.1 S.2.1 dX7_word_32 (by decide) ?_
                                                                                                                      refine lv_icmp_eq (tgt := 43) S.1 S.2.1 dX7_word_34 (by decide) (fun c34_39 => ?_) (fun c34_39 => ?_)
                                                                                                                      · exact absurd c34_39 (by decide)
                                                                                                                      · refine lv_iinc (v := 3) (lv' := [(5, .int 3), (4, .int 37), (3, .int 9), (0, .ref mO), (1, .int lo), (2, .int hi)]) S.1 S.2.1 dX7_word_37 hl (k := 0) rfl (by decide) (by decide) rfl (fun ls hl => ?_)
                                                                                                                        refine lv_goto (tgt := 22) S.1 S.2.1 dX7_word_40 (by decide) ?_
                                                                                                                        refine lv_aload_n S.1 S.2.1 dX7_word_22 rfl (lv_at hl 3 rfl) ?_
                                                                                                                        refine w_get S C w (CC := RX7) (T := TX7) (N := 16) (ref := "GateSumsModel") im_X7_word_X7 0 rfl rfl 7 (by decide) (List.mem_of_getElem? (i := 1) rfl) (fun _ h => h) rfl dX7_word_23 ?_
                                                                                                                        refine lv_iload S.1 S.2.1 dX7_word_26 (lv_at hl 1 rfl) ?_
                                                                                                                        refine lv_iload S.1 S.2.1 dX7_word_28 (lv_at hl 0 rfl) ?_
                                                                                                                        refine lv_iadd S.1 S.2.1 dX7_word_30 ?_
                                                                                                                        refine w_topi (y := 40) (by decide) ?_
                                                                                                                        refine w_cald S C w 2 rfl (by unfold vp_in; decide) dX7_word_31 ?_
                                                                                                                        refine w_topi (y := 100) (by decide) ?_
                                                                                                                        refine lv_bipush (v := 32) S.1 S.2.1 dX7_word_32 (by decide) ?_
                                                                                                                        refine lv_icmp_eq (tgt := 43) S.1 S.2.1 dX7_word_34 (by decide) (fun c34_40 => ?_) (fun c34_40 => ?_)
                                                                                                                        · exact absurd c34_40 (by decide)
                                                                                                                        · refine lv_iinc (v := 4) (lv' := [(5, .int 4), (4, .int 37), (3, .int 9), (0, .ref mO), (1, .int lo), (2, .int hi)]) S.1 S.2.1 dX7_word_37 hl (k := 0) rfl (by decide) (by decide) rfl (fun ls hl => ?_)
                                                                                                                          refine lv_goto (tgt := 22) S.1 S.2.1 dX7_word_40 (by decide) ?_
                                                                                                                          refine lv_aload_n S.1 S.2.1 dX7_word_22 rfl (lv_at hl 3 rfl) ?_
                                                                                                                          refine w_get S C w (CC := RX7) (T := TX7) (N := 16) (ref := "GateSumsModel") im_X7_word_X7 0 rfl rfl 7 (by decide) (List.mem_of_getElem? (i := 1) rfl) (fun _ h => h) rfl dX7_word_23 ?_
                                                                                                                          refine lv_iload S.1 S.2.1 dX7_word_26 (lv_at hl 1 rfl) ?_
                                                                                                                          refine lv_iload S.1 S.2.1 dX7_word_28 (lv_at hl 0 rfl) ?_
                                                                                                                          refine lv_iadd S.1 S.2.1 dX7_word_30 ?_
                                                                                                                          refine w_topi (y := 41) (by decide) ?_
                                                                                                                          refine w_cald S C w 2 rfl (by unfold vp_in; decide) dX7_word_31 ?_
                                                                                                                          refine w_topi (y := 117) (by decide) ?_
                                                                                                                          refine lv_bipush (v := 32) S.1 S.2.1 dX7_word_32 (by decide) ?_
                                                                                                                          refine lv_icmp_eq (tgt := 43) S.1 S.2.1 dX7_word_34 (by decide) (fun c34_41 => ?_) (fun c34_41 => ?_)
                                                                                                                          · exact absurd c34_41 (by decide)
                                                                                                                          · refine lv_iinc (v := 5) (lv' := [(5, .int 5), (4, .int 37), (3, .int 9), (0, .ref mO), (1, .int lo), (2, .int hi)]) S.1 S.2.1 dX7_word_37 hl (k := 0) rfl (by decide) (by decide) rfl (fun ls hl => ?_)
                                                                                                                            refine lv_goto (tgt := 22) S.1 S.2.1 dX7_word_40 (by decide) ?_
                                                                                                                            refine lv_aload_n S.1 S.2.1 dX7_word_22 rfl (lv_at hl 3 rfl) ?_
                                                                                                                            refine w_get S C w (CC := RX7) (T := TX7) (N := 16) (ref := "GateSumsModel") im_X7_word_X7 0 rfl rfl 7 (by decide) (List.mem_of_getElem? (i := 1) rfl) (fun _ h => h) rfl dX7_word_23 ?_
                                                                                                                            refine lv_iload S.1 S.2.1 dX7_word_26 (lv_at hl 1 rfl) ?_
                                                                                                                            refine lv_iload S.1 S.2.1 dX7_word_28 (lv_at hl 0 rfl) ?_
                                                                                                                            refine lv_iadd S.1 S.2.1 dX7_word_30 ?_
                                                                                                                            refine w_topi (y := 42) (by decide) ?_
                                                                                                                            refine w_cald S C w 2 rfl (by unfold vp_in; decide) dX7_word_31 ?_
                                                                                                                            refine w_topi (y := 99) (by decide) ?_
                                                                                                                            refine lv_bipush (v := 32) S.1 S.2.1 dX7_word_32 (by decide) ?_
                                                                                                                            refine lv_icmp_eq (tgt := 43) S.1 S.2.1 dX7_word_34 (by decide) (fun c34_42 => ?_) (fun c34_42 => ?_)
                                                                                                                            · exact absurd c34_42 (by decide)
                                                                                                                            · refine lv_iinc (v := 6) (lv' := [(5, .int 6), (4, .int 37), (3, .int 9), (0, .ref mO), (1, .int lo), (2, .int hi)]) S.1 S.2.1 dX7_word_37 hl (k := 0) rfl (by decide) (by decide) rfl (fun ls hl => ?_)
                                                                                                                              refine lv_goto (tgt := 22) S.1 S.2.1 dX7_word_40 (by decide) ?_
                                                                                                                              refine lv_aload_n S.1 S.2.1 dX7_word_22 rfl (lv_at hl 3 rfl) ?_
                                                                                                                              refine w_get S C w (CC := RX7) (T := TX7) (N := 16) (ref := "GateSumsModel") im_X7_word_X7 0 rfl rfl 7 (by decide) (List.mem_of_getElem? (i := 1) rfl) (fun _ h => h) rfl dX7_word_23 ?_
                                                                                                                              refine lv_iload S.1 S.2.1 dX7_word_26 (lv_at hl 1 rfl) ?_
                                                                                                                              refine lv_iload S.1 S.2.1 dX7_word_28 (lv_at hl 0 rfl) ?_
                                                                                                                              refine lv_iadd S.1 S.2.1 dX7_word_30 ?_
                                                                                                                              refine w_topi (y := 43) (by decide) ?_
                                                                                                                              refine w_cald S C w 2 rfl (by unfold vp_in; decide) dX7_word_31 ?_
                                                                                                                              refine w_topi (y := 116) (by decide) ?_
                                                                                                                              refine lv_bipush (v := 32) S.1 S.2.1 dX7_word_32 (by decide) ?_
                                                                                                                              refine lv_icmp_eq (tgt := 43) S.1 S.2.1 dX7_word_34 (by decide) (fun c34_43 => ?_) (fun c34_43 => ?_)
                                                                                                                              · exact absurd c34_43 (by decide)
                                                                                                                              · refine lv_iinc (v := 7) (lv' := [(5, .int 7), (4, .int 37), (3, .int 9), (0, .ref mO), (1, .int lo), (2, .int hi)]) S.1 S.2.1 dX7_word_37 hl (k := 0) rfl (by decide) (by decide) rfl (fun ls hl => ?_)
                                                                                                                                refine lv_goto (tgt := 22) S.1 S.2.1 dX7_word_40 (by decide) ?_
                                                                                                                                refine lv_aload_n S.1 S.2.1 dX7_word_22 rfl (lv_at hl 3 rfl) ?_
                                                                                                                                refine w_get S C w (CC := RX7) (T := TX7) (N := 16) (ref := "GateSumsModel") im_X7_word_X7 0 rfl rfl 7 (by decide) (List.mem_of_getElem? (i := 1) rfl) (fun _ h => h) rfl dX7_word_23 ?_
                                                                                                                                refine lv_iload S.1 S.2.1 dX7_word_26 (lv_at hl 1 rfl) ?_
                                                                                                                                refine lv_iload S.1 S.2.1 dX7_word_28 (lv_at hl 0 rfl) ?_
                                                                                                                                refine lv_iadd S.1 S.2.1 dX7_word_30 ?_
                                                                                                                                refine w_topi (y := 44) (by decide) ?_
                                                                                                                                refine w_cald S C w 2 rfl (by unfold vp_in; decide) dX7_word_31 ?_
                                                                                                                                refine w_topi (y := 32) (by decide) ?_
                                                                                                                                refine lv_bipush (v := 32) S.1 S.2.1 dX7_word_32 (by decide) ?_
                                                                                                                                refine lv_icmp_eq (tgt := 43) S.1 S.2.1 dX7_word_34 (by decide) (fun c34_44 => ?_) (fun c34_44 => ?_)
                                                                                                                                · refine w_join0 78 [] (¬ inF 9 lo hi = 0 → ¬ MW tN fT 9 (sk tN fT aN)) (fun hz78 => ?_) (fun J78 => ?_)
                                                                                                                                  · have hall := wd_step (P := fun j => ¬ inF (nI j) lo hi = 0 → ¬ MW tN fT j (sk tN fT aN)) hall hz78
                                                                                                                                    refine lv_iinc (v := 10) (lv' := [(3, .int 10), (5, .int 7), (4, .int 37), (0, .ref mO), (1, .int lo), (2, .int hi)]) S.1 S.2.1 dX7_word_78 hl (k := 2) rfl (by decide) (by decide) rfl (fun ls hl => ?_)
                                                                                                                                    refine lv_iload S.1 S.2.1 dX7_word_81 (lv_at hl 2 rfl) ?_
                                                                                                                                    refine lv_iload S.1 S.2.1 dX7_word_83 (lv_at hl 1 rfl) ?_
                                                                                                                                    refine lv_iconst (v := 1) S.1 S.2.1 dX7_word_85 (by decide) ?_
                                                                                                                                    refine lv_iadd S.1 S.2.1 dX7_word_86 ?_
                                                                                                                                    refine w_topi (y := 8) (by decide) ?_
                                                                                                                                    refine lv_iadd S.1 S.2.1 dX7_word_87 ?_
                                                                                                                                    refine w_topi (y := 45) (by decide) ?_
                                                                                                                                    refine lv_istore (lv' := [(4, .int 45), (3, .int 10), (5, .int 7), (0, .ref mO), (1, .int lo), (2, .int hi)]) S.1 S.2.1 dX7_word_88 hl (by decide) rfl (fun ls hl => ?_)
                                                                                                                                    refine lv_goto (tgt := 9) S.1 S.2.1 dX7_word_90 (by decide) ?_
                                                                                                                                    refine lv_iload S.1 S.2.1 dX7_word_9 (lv_at hl 0 rfl) ?_
                                                                                                                                    refine lv_aload_n S.1 S.2.1 dX7_word_11 rfl (lv_at hl 3 rfl) ?_
                                                                                                                                    refine w_get S C w (CC := RX7) (T := TX7) (N := 16) (ref := "GateSumsModel") im_X7_word_X7 0 rfl rfl 7 (by decide) (List.mem_of_getElem? (i := 1) rfl) (fun _ h => h) rfl dX7_word_12 ?_
                                                                                                                                    refine w_alen S C w 2 1 rfl rfl (v := 73) rfl dX7_word_15 ?_
                                                                                                                                    refine lv_icmp_ge (tgt := 93) S.1 S.2.1 dX7_word_16 (by decide) (fun c16_10 => ?_) (fun c16_10 => ?_)
                                                                                                                                    · exact absurd c16_10 (by decide)
                                                                                                                                    · refine lv_iconst (v := 0) S.1 S.2.1 dX7_word_19 (by decide) ?_
                                                                                                                                      refine lv_istore (lv' := [(5, .int 0), (4, .int 45), (3, .int 10), (0, .ref mO), (1, .int lo), (2, .int hi)]) S.1 S.2.1 dX7_word_20 hl (by decide) rfl (fun ls hl => ?_)
                                                                                                                                      refine lv_aload_n S.1 S.2.1 dX7_word_22 rfl (lv_at hl 3 rfl) ?_
                                                                                                                                      refine w_get S C w (CC := RX7) (T := TX7) (N := 16) (ref := "GateSumsModel") im_X7_word_X7 0 rfl rfl 7 (by decide) (List.mem_of_getElem? (i := 1) rfl) (fun _ h => h) rfl dX7_word_23 ?_
                                                                                                                                      refine lv_iload S.1 S.2.1 dX7_word_26 (lv_at hl 1 rfl) ?_
                                                                                                                                      refine lv_iload S.1 S.2.1 dX7_word_28 (lv_at hl 0 rfl) ?_
                                                                                                                                      refine lv_iadd S.1 S.2.1 dX7_word_30 ?_
                                                                                                                                      refine w_topi (y := 45) (by decide) ?_
                                                                                                                                      refine w_cald S C w 2 rfl (by unfold vp_in; decide) dX7_word_31 ?_
                                                                                                                                      refine w_topi (y := 115) (by decide) ?_
                                                                                                                                      refine lv_bipush (v := 32) S.1 S.2.1 dX7_word_32 (by decide) ?_
                                                                                                                                      refine lv_icmp_eq (tgt := 43) S.1 S.2.1 dX7_word_34 (by decide) (fun c34_45 => ?_) (fun c34_45 => ?_)
                                                                                                                                      · exact absurd c34_45 (by decide)
                                                                                                                                      · refine lv_iinc (v := 1) (lv' := [(5, .int 1), (4, .int 45), (3, .int 10), (0, .ref mO), (1, .int lo), (2, .int hi)]) S.1 S.2.1 dX7_word_37 hl (k := 0) rfl (by decide) (by decide) rfl (fun ls hl => ?_)
                                                                                                                                        refine lv_goto (tgt := 22) S.1 S.2.1 dX7_word_40 (by decide) ?_
                                                                                                                                        refine lv_aload_n S.1 S.2.1 dX7_word_22 rfl (lv_at hl 3 rfl) ?_
                                                                                                                                        refine w_get S C w (CC := RX7) (T := TX7) (N := 16) (ref := "GateSumsModel") im_X7_word_X7 0 rfl rfl 7 (by decide) (List.mem_of_getElem? (i := 1) rfl) (fun _ h => h) rfl dX7_word_23 ?_
                                                                                                                                        refine lv_iload S.1 S.2.1 dX7_word_26 (lv_at hl 1 rfl) ?_
                                                                                                                                        refine lv_iload S.1 S.2.1 dX7_word_28 (lv_at hl 0 rfl) ?_
                                                                                                                                        refine lv_iadd S.1 S.2.1 dX7_word_30 ?_
                                                                                                                                        refine w_topi (y := 46) (by decide) ?_
                                                                                                                                        refine w_cald S C w 2 rfl (by unfold vp_in; decide) dX7_word_31 ?_
                                                                                                                                        refine w_topi (y := 113) (by decide) ?_
                                                                                                                                        refine lv_bipush (v := 32) S.1 S.2.1 dX7_word_32 (by decide) ?_
                                                                                                                                        refine lv_icmp_eq (tgt := 43) S.1 S.2.1 dX7_word_34 (by decide) (fun c34_46 => ?_) (fun c34_46 => ?_)
                                                                                                                                        · exact absurd c34_46 (by decide)
                                                                                                                                        · refine lv_iinc (v := 2) (lv' := [(5, .int 2), (4, .int 45), (3, .int 10), (0, .ref mO), (1, .int lo), (2, .int hi)]) S.1 S.2.1 dX7_word_37 hl (k := 0) rfl (by decide) (by decide) rfl (fun ls hl => ?_)
                                                                                                                                          refine lv_goto (tgt := 22) S.1 S.2.1 dX7_word_40 (by decide) ?_
                                                                                                                                          refine lv_aload_n S.1 S.2.1 dX7_word_22 rfl (lv_at hl 3 rfl) ?_
                                                                                                                                          refine w_get S C w (CC := RX7) (T := TX7) (N := 16) (ref := "GateSumsModel") im_X7_word_X7 0 rfl rfl 7 (by decide) (List.mem_of_getElem? (i := 1) rfl) (fun _ h => h) rfl dX7_word_23 ?_
                                                                                                                                          refine lv_iload S.1 S.2.1 dX7_word_26 (lv_at hl 1 rfl) ?_
                                                                                                                                          refine lv_iload S.1 S.2.1 dX7_word_28 (lv_at hl 0 rfl) ?_
                                                                                                                                          refine lv_iadd S.1 S.2.1 dX7_word_30 ?_
                                                                                                                                          refine w_topi (y := 47) (by decide) ?_
                                                                                                                                          refine w_cald S C w 2 rfl (by unfold vp_in; decide) dX7_word_31 ?_
                                                                                                                                          refine w_topi (y := 117) (by decide) ?_
                                                                                                                                          refine lv_bipush (v := 32) S.1 S.2.1 dX7_word_32 (by decide) ?_
                                                                                                                                          refine lv_icmp_eq (tgt := 43) S.1 S.2.1 dX7_word_34 (by decide) (fun c34_47 => ?_) (fun c34_47 => ?_)
                                                                                                                                          · exact absurd c34_47 (by decide)
                                                                                                                                          · refine lv_iinc (v := 3) (lv' := [(5, .int 3), (4, .int 45), (3, .int 10), (0, .ref mO), (1, .int lo), (2, .int hi)]) S.1 S.2.1 dX7_word_37 hl (k := 0) rfl (by decide) (by decide) rfl (fun ls hl => ?_)
                                                                                                                                            refine lv_goto (tgt := 22) S.1 S.2.1 dX7_word_40 (by decide) ?_
                                                                                                                                            refine lv_aload_n S.1 S.2.1 dX7_word_22 rfl (lv_at hl 3 rfl) ?_
                                                                                                                                            refine w_get S C w (CC := RX7) (T := TX7) (N := 16) (ref := "GateSumsModel") im_X7_word_X7 0 rfl rfl 7 (by decide) (List.mem_of_getElem? (i := 1) rfl) (fun _ h => h) rfl dX7_word_23 ?_
                                                                                                                                            refine lv_iload S.1 S.2.1 dX7_word_26 (lv_at hl 1 rfl) ?_
                                                                                                                                            refine lv_iload S.1 S.2.1 dX7_word_28 (lv_at hl 0 rfl) ?_
                                                                                                                                            refine lv_iadd S.1 S.2.1 dX7_word_30 ?_
                                                                                                                                            refine w_topi (y := 48) (by decide) ?_
                                                                                                                                            refine w_cald S C w 2 rfl (by unfold vp_in; decide) dX7_word_31 ?_
                                                                                                                                            refine w_topi (y := 97) (by decide) ?_
                                                                                                                                            refine lv_bipush (v := 32) S.1 S.2.1 dX7_word_32 (by decide) ?_
                                                                                                                                            refine lv_icmp_eq (tgt := 43) S.1 S.2.1 dX7_word_34 (by decide) (fun c34_48 => ?_) (fun c34_48 => ?_)
                                                                                                                                            · exact absurd c34_48 (by decide)
                                                                                                                                            · refine lv_iinc (v := 4) (lv' := [(5, .int 4), (4, .int 45), (3, .int 10), (0, .ref mO), (1, .int lo), (2, .int hi)]) S.1 S.2.1 dX7_word_37 hl (k := 0) rfl (by decide) (by decide) rfl (fun ls hl => ?_)
                                                                                                                                              refine lv_goto (tgt := 22) S.1 S.2.1 dX7_word_40 (by decide) ?_
                                                                                                                                              refine lv_aload_n S.1 S.2.1 dX7_word_22 rfl (lv_at hl 3 rfl) ?_
                                                                                                                                              refine w_get S C w (CC := RX7) (T := TX7) (N := 16) (ref := "GateSumsModel") im_X7_word_X7 0 rfl rfl 7 (by decide) (List.mem_of_getElem? (i := 1) rfl) (fun _ h => h) rfl dX7_word_23 ?_
                                                                                                                                              refine lv_iload S.1 S.2.1 dX7_word_26 (lv_at hl 1 rfl) ?_
                                                                                                                                              refine lv_iload S.1 S.2.1 dX7_word_28 (lv_at hl 0 rfl) ?_
                                                                                                                                              refine lv_iadd S.1 S.2.1 dX7_word_30 ?_
                                                                                                                                              refine w_topi (y := 49) (by decide) ?_
                                                                                                                                              refine w_cald S C w 2 rfl (by unfold vp_in; decide) dX7_word_31 ?_
                                                                                                                                              refine w_topi (y := 114) (by decide) ?_
                                                                                                                                              refine lv_bipush (v := 32) S.1 S.2.1 dX7_word_32 (by decide) ?_
                                                                                                                                              refine lv_icmp_eq (tgt := 43) S.1 S.2.1 dX7_word_34 (by decide) (fun c34_49 => ?_) (fun c34_49 => ?_)
                                                                                                                                              · exact absurd c34_49 (by decide)
                                                                                                                                              · refine lv_iinc (v := 5) (lv' := [(5, .int 5), (4, .int 45), (3, .int 10), (0, .ref mO), (1, .int lo), (2, .int hi)]) S.1 S.2.1 dX7_word_37 hl (k := 0) rfl (by decide) (by decide) rfl (fun ls hl => ?_)
                                                                                                                                                refine lv_goto (tgt := 22) S.1 S.2.1 dX7_word_40 (by decide) ?_
                                                                                                                                                refine lv_aload_n S.1 S.2.1 dX7_word_22 rfl (lv_at hl 3 rfl) ?_
                                                                                                                                                refine w_get S C w (CC := RX7) (T := TX7) (N := 16) (ref := "GateSumsModel") im_X7_word_X7 0 rfl rfl 7 (by decide) (List.mem_of_getElem? (i := 1) rfl) (fun _ h => h) rfl dX7_word_23 ?_
                                                                                                                                                refine lv_iload S.1 S.2.1 dX7_word_26 (lv_at hl 1 rfl) ?_
                                                                                                                                                refine lv_iload S.1 S.2.1 dX7_word_28 (lv_at hl 0 rfl) ?_
                                                                                                                                                refine lv_iadd S.1 S.2.1 dX7_word_30 ?_
                                                                                                                                                refine w_topi (y := 50) (by decide) ?_
                                                                                                                                                refine w_cald S C w 2 rfl (by unfold vp_in; decide) dX7_word_31 ?_
                                                                                                                                                refine w_topi (y := 101) (by decide) ?_
                                                                                                                                                refine lv_bipush (v := 32) S.1 S.2.1 dX7_word_32 (by decide) ?_
                                                                                                                                                refine lv_icmp_eq (tgt := 43) S.1 S.2.1 dX7_word_34 (by decide) (fun c34_50 => ?_) (fun c34_50 => ?_)
                                                                                                                                                · exact absurd c34_50 (by decide)
                                                                                                                                                · refine lv_iinc (v := 6) (lv' := [(5, .int 6), (4, .int 45), (3, .int 10), (0, .ref mO), (1, .int lo), (2, .int hi)]) S.1 S.2.1 dX7_word_37 hl (k := 0) rfl (by decide) (by decide) rfl (fun ls hl => ?_)
                                                                                                                                                  refine lv_goto (tgt := 22) S.1 S.2.1 dX7_word_40 (by decide) ?_
                                                                                                                                                  refine lv_aload_n S.1 S.2.1 dX7_word_22 rfl (lv_at hl 3 rfl) ?_
                                                                                                                                                  refine w_get S C w (CC := RX7) (T := TX7) (N := 16) (ref := "GateSumsModel") im_X7_word_X7 0 rfl rfl 7 (by decide) (List.mem_of_getElem? (i := 1) rfl) (fun _ h => h) rfl dX7_word_23 ?_
                                                                                                                                                  refine lv_iload S.1 S.2.1 dX7_word_26 (lv_at hl 1 rfl) ?_
                                                                                                                                                  refine lv_iload S.1 S.2.1 dX7_word_28 (lv_at hl 0 rfl) ?_
                                                                                                                                                  refine lv_iadd S.1 S.2.1 dX7_word_30 ?_
                                                                                                                                                  refine w_topi (y := 51) (by decide) ?_
                                                                                                                                                  refine w_cald S C w 2 rfl (by unfold vp_in; decide) dX7_word_31 ?_
                                                                                                                                                  refine w_topi (y := 32) (by decide) ?_
                                                                                                                                                  refine lv_bipush (v := 32) S.1 S.2.1 dX7_word_32 (by decide) ?_
                                                                                                                                                  refine lv_icmp_eq (tgt := 43) S.1 S.2.1 dX7_word_34 (by decide) (fun c34_51 => ?_) (fun c34_51 => ?_)
                                                                                                                                                  · refine w_join0 78 [] (¬ inF 10 lo hi = 0 → ¬ MW tN fT 10 (sk tN fT aN)) (fun hz78 => ?_) (fun J78 => ?_)
                                                                                                                                                    · have hall := wd_step (P := fun j => ¬ inF (nI j) lo hi = 0 → ¬ MW tN fT j (sk tN fT aN)) hall hz78
                                                                                                                                                      refine lv_iinc (v := 11) (lv' := [(3, .int 11), (5, .int 6), (4, .int 45), (0, .ref mO), (1, .int lo), (2, .int hi)]) S.1 S.2.1 dX7_word_78 hl (k := 2) rfl (by decide) (by decide) rfl (fun ls hl => ?_)
                                                                                                                                                      refine lv_iload S.1 S.2.1 dX7_word_81 (lv_at hl 2 rfl) ?_
                                                                                                                                                      refine lv_iload S.1 S.2.1 dX7_word_83 (lv_at hl 1 rfl) ?_
                                                                                                                                                      refine lv_iconst (v := 1) S.1 S.2.1 dX7_word_85 (by decide) ?_
                                                                                                                                                      refine lv_iadd S.1 S.2.1 dX7_word_86 ?_
                                                                                                                                                      refine w_topi (y := 7) (by decide) ?_
                                                                                                                                                      refine lv_iadd S.1 S.2.1 dX7_word_87 ?_
                                                                                                                                                      refine w_topi (y := 52) (by decide) ?_
                                                                                                                                                      refine lv_istore (lv' := [(4, .int 52), (3, .int 11), (5, .int 6), (0, .ref mO), (1, .int lo), (2, .int hi)]) S.1 S.2.1 dX7_word_88 hl (by decide) rfl (fun ls hl => ?_)
                                                                                                                                                      refine lv_goto (tgt := 9) S.1 S.2.1 dX7_word_90 (by decide) ?_
                                                                                                                                                      refine lv_iload S.1 S.2.1 dX7_word_9 (lv_at hl 0 rfl) ?_
                                                                                                                                                      refine lv_aload_n S.1 S.2.1 dX7_word_11 rfl (lv_at hl 3 rfl) ?_
                                                                                                                                                      refine w_get S C w (CC := RX7) (T := TX7) (N := 16) (ref := "GateSumsModel") im_X7_word_X7 0 rfl rfl 7 (by decide) (List.mem_of_getElem? (i := 1) rfl) (fun _ h => h) rfl dX7_word_12 ?_
                                                                                                                                                      refine w_alen S C w 2 1 rfl rfl (v := 73) rfl dX7_word_15 ?_
                                                                                                                                                      refine lv_icmp_ge (tgt := 93) S.1 S.2.1 dX7_word_16 (by decide) (fun c16_11 => ?_) (fun c16_11 => ?_)
                                                                                                                                                      · exact absurd c16_11 (by decide)
                                                                                                                                                      · refine lv_iconst (v := 0) S.1 S.2.1 dX7_word_19 (by decide) ?_
                                                                                                                                                        refine lv_istore (lv' := [(5, .int 0), (4, .int 52), (3, .int 11), (0, .ref mO), (1, .int lo), (2, .int hi)]) S.1 S.2.1 dX7_word_20 hl (by decide) rfl (fun ls hl => ?_)
                                                                                                                                                        refine lv_aload_n S.1 S.2.1 dX7_word_22 rfl (lv_at hl 3 rfl) ?_
                                                                                                                                                        refine w_get S C w (CC := RX7) (T := TX7) (N := 16) (ref := "GateSumsModel") im_X7_word_X7 0 rfl rfl 7 (by decide) (List.mem_of_getElem? (i := 1) rfl) (fun _ h => h) rfl dX7_word_23 ?_
                                                                                                                                                        refine lv_iload S.1 S.2.1 dX7_word_26 (lv_at hl 1 rfl) ?_
                                                                                                                                                        refine lv_iload S.1 S.2.1 dX7_word_28 (lv_at hl 0 rfl) ?_
                                                                                                                                                        refine lv_iadd S.1 S.2.1 dX7_word_30 ?_
                                                                                                                                                        refine w_topi (y := 52) (by decide) ?_
                                                                                                                                                        refine w_cald S C w 2 rfl (by unfold vp_in; decide) dX7_word_31 ?_
                                                                                                                                                        refine w_topi (y := 116) (by decide) ?_
                                                                                                                                                        refine lv_bipush (v := 32) S.1 S.2.1 dX7_word_32 (by decide) ?_
                                                                                                                                                        refine lv_icmp_eq (tgt := 43) S.1 S.2.1 dX7_word_34 (by decide) (fun c34_52 => ?_) (fun c34_52 => ?_)
                                                                                                                                                        · exact absurd c34_52 (by decide)
                                                                                                                                                        · refine lv_iinc (v := 1) (lv' := [(5, .int 1), (4, .int 52), (3, .int 11), (0, .ref mO), (1, .int lo), (2, .int hi)]) S.1 S.2.1 dX7_word_37 hl (k := 0) rfl (by decide) (by decide) rfl (fun ls hl => ?_)
                                                                                                                                                          refine lv_goto (tgt := 22) S.1 S.2.1 dX7_word_40 (by decide) ?_
                                                                                                                                                          refine lv_aload_n S.1 S.2.1 dX7_word_22 rfl (lv_at hl 3 rfl) ?_
                                                                                                                                                          refine w_get S C w (CC := RX7) (T := TX7) (N := 16) (ref := "GateSumsModel") im_X7_word_X7 0 rfl rfl 7 (by decide) (List.mem_of_getElem? (i := 1) rfl) (fun _ h => h) rfl dX7_word_23 ?_
                                                                                                                                                          refine lv_iload S.1 S.2.1 dX7_word_26 (lv_at hl 1 rfl) ?_
                                                                                                                                                          refine lv_iload S.1 S.2.1 dX7_word_28 (lv_at hl 0 rfl) ?_
                                                                                                                                                          refine lv_iadd S.1 S.2.1 dX7_word_30 ?_
                                                                                                                                                          refine w_topi (y := 53) (by decide) ?_
                                                                                                                                                          refine w_cald S C w 2 rfl (by unfold vp_in; decide) dX7_word_31 ?_
                                                                                                                                                          refine w_topi (y := 114) (by decide) ?_
                                                                                                                                                          refine lv_bipush (v := 32) S.1 S.2.1 dX7_word_32 (by decide) ?_
                                                                                                                                                          refine lv_icmp_eq (tgt := 43) S.1 S.2.1 dX7_word_34 (by decide) (fun c34_53 => ?_) (fun c34_53 => ?_)
                                                                                                                                                          · exact absurd c34_53 (by decide)
                                                                                                                                                          · refine lv_iinc (v := 2) (lv' := [(5, .int 2), (4, .int 52), (3, .int 11), (0, .ref mO), (1, .int lo), (2, .int hi)]) S.1 S.2.1 dX7_word_37 hl (k := 0) rfl (by decide) (by decide) rfl (fun ls hl => ?_)
                                                                                                                                                            refine lv_goto (tgt := 22) S.1 S.2.1 dX7_word_40 (by decide) ?_
                                                                                                                                                            refine lv_aload_n S.1 S.2.1 dX7_word_22 rfl (lv_at hl 3 rfl) ?_
                                                                                                                                                            refine w_get S C w (CC := RX7) (T := TX7) (N := 16) (ref := "GateSumsModel") im_X7_word_X7 0 rfl rfl 7 (by decide) (List.mem_of_getElem? (i := 1) rfl) (fun _ h => h) rfl dX7_word_23 ?_
                                                                                                                                                            refine lv_iload S.1 S.2.1 dX7_word_26 (lv_at hl 1 rfl) ?_
                                                                                                                                                            refine lv_iload S.1 S.2.1 dX7_word_28 (lv_at hl 0 rfl) ?_
                                                                                                                                                            refine lv_iadd S.1 S.2.1 dX7_word_30 ?_
                                                                                                                                                            refine w_topi (y := 54) (by decide) ?_
                                                                                                                                                            refine w_cald S C w 2 rfl (by unfold vp_in; decide) dX7_word_31 ?_
                                                                                                                                                            refine w_topi (y := 105) (by decide) ?_
                                                                                                                                                            refine lv_bipush (v := 32) S.1 S.2.1 dX7_word_32 (by decide) ?_
                                                                                                                                                            refine lv_icmp_eq (tgt := 43) S.1 S.2.1 dX7_word_34 (by decide) (fun c34_54 => ?_) (fun c34_54 => ?_)
                                                                                                                                                            · exact absurd c34_54 (by decide)
                                                                                                                                                            · refine lv_iinc (v := 3) (lv' := [(5, .int 3), (4, .int 52), (3, .int 11), (0, .ref mO), (1, .int lo), (2, .int hi)]) S.1 S.2.1 dX7_word_37 hl (k := 0) rfl (by decide) (by decide) rfl (fun ls hl => ?_)
                                                                                                                                                              refine lv_goto (tgt := 22) S.1 S.2.1 dX7_word_40 (by decide) ?_
                                                                                                                                                              refine lv_aload_n S.1 S.2.1 dX7_word_22 rfl (lv_at hl 3 rfl) ?_
                                                                                                                                                              refine w_get S C w (CC := RX7) (T := TX7) (N := 16) (ref := "GateSumsModel") im_X7_word_X7 0 rfl rfl 7 (by decide) (List.mem_of_getElem? (i := 1) rfl) (fun _ h => h) rfl dX7_word_23 ?_
                                                                                                                                                              refine lv_iload S.1 S.2.1 dX7_word_26 (lv_at hl 1 rfl) ?_
                                                                                                                                                              refine lv_iload S.1 S.2.1 dX7_word_28 (lv_at hl 0 rfl) ?_
                                                                                                                                                              refine lv_iadd S.1 S.2.1 dX7_word_30 ?_
                                                                                                                                                              refine w_topi (y := 55) (by decide) ?_
                                                                                                                                                              refine w_cald S C w 2 rfl (by unfold vp_in; decide) dX7_word_31 ?_
                                                                                                                                                              refine w_topi (y := 112) (by decide) ?_
                                                                                                                                                              refine lv_bipush (v := 32) S.1 S.2.1 dX7_word_32 (by decide) ?_
                                                                                                                                                              refine lv_icmp_eq (tgt := 43) S.1 S.2.1 dX7_word_34 (by decide) (fun c34_55 => ?_) (fun c34_55 => ?_)
                                                                                                                                                              · exact absurd c34_55 (by decide)
                                                                                                                                                              · refine lv_iinc (v := 4) (lv' := [(5, .int 4), (4, .int 52), (3, .int 11), (0, .ref mO), (1, .int lo), (2, .int hi)]) S.1 S.2.1 dX7_word_37 hl (k := 0) rfl (by decide) (by decide) rfl (fun ls hl => ?_)
                                                                                                                                                                refine lv_goto (tgt := 22) S.1 S.2.1 dX7_word_40 (by decide) ?_
                                                                                                                                                                refine lv_aload_n S.1 S.2.1 dX7_word_22 rfl (lv_at hl 3 rfl) ?_
                                                                                                                                                                refine w_get S C w (CC := RX7) (T := TX7) (N := 16) (ref := "GateSumsModel") im_X7_word_X7 0 rfl rfl 7 (by decide) (List.mem_of_getElem? (i := 1) rfl) (fun _ h => h) rfl dX7_word_23 ?_
                                                                                                                                                                refine lv_iload S.1 S.2.1 dX7_word_26 (lv_at hl 1 rfl) ?_
                                                                                                                                                                refine lv_iload S.1 S.2.1 dX7_word_28 (lv_at hl 0 rfl) ?_
                                                                                                                                                                refine lv_iadd S.1 S.2.1 dX7_word_30 ?_
                                                                                                                                                                refine w_topi (y := 56) (by decide) ?_
                                                                                                                                                                refine w_cald S C w 2 rfl (by unfold vp_in; decide) dX7_word_31 ?_
                                                                                                                                                                refine w_topi (y := 108) (by decide) ?_
                                                                                                                                                                refine lv_bipush (v := 32) S.1 S.2.1 dX7_word_32 (by decide) ?_
                                                                                                                                                                refine lv_icmp_eq (tgt := 43) S.1 S.2.1 dX7_word_34 (by decide) (fun c34_56 => ?_) (fun c34_56 => ?_)
                                                                                                                                                                · exact absurd c34_56 (by decide)
                                                                                                                                                                · refine lv_iinc (v := 5) (lv' := [(5, .int 5), (4, .int 52), (3, .int 11), (0, .ref mO), (1, .int lo), (2, .int hi)]) S.1 S.2.1 dX7_word_37 hl (k := 0) rfl (by decide) (by decide) rfl (fun ls hl => ?_)
                                                                                                                                                                  refine lv_goto (tgt := 22) S.1 S.2.1 dX7_word_40 (by decide) ?_
                                                                                                                                                                  refine lv_aload_n S.1 S.2.1 dX7_word_22 rfl (lv_at hl 3 rfl) ?_
                                                                                                                                                                  refine w_get S C w (CC := RX7) (T := TX7) (N := 16) (ref := "GateSumsModel") im_X7_word_X7 0 rfl rfl 7 (by decide) (List.mem_of_getElem? (i := 1) rfl) (fun _ h => h) rfl dX7_word_23 ?_
                                                                                                                                                                  refine lv_iload S.1 S.2.1 dX7_word_26 (lv_at hl 1 rfl) ?_
                                                                                                                                                                  refine lv_iload S.1 S.2.1 dX7_word_28 (lv_at hl 0 rfl) ?_
                                                                                                                                                                  refine lv_iadd S.1 S.2.1 dX7_word_30 ?_
                                                                                                                                                                  refine w_topi (y := 57) (by decide) ?_
                                                                                                                                                                  refine w_cald S C w 2 rfl (by unfold vp_in; decide) dX7_word_31 ?_
                                                                                                                                                                  refine w_topi (y := 101) (by decide) ?_
                                                                                                                                                                  refine lv_bipush (v := 32) S.1 S.2.1 dX7_word_32 (by decide) ?_
                                                                                                                                                                  refine lv_icmp_eq (tgt := 43) S.1 S.2.1 dX7_word_34 (by decide) (fun c34_57 => ?_) (fun c34_57 => ?_)
                                                                                                                                                                  · exact absurd c34_57 (by decide)
                                                                                                                                                                  · refine lv_iinc (v := 6) (lv' := [(5, .int 6), (4, .int 52), (3, .int 11), (0, .ref mO), (1, .int lo), (2, .int hi)]) S.1 S.2.1 dX7_word_37 hl (k := 0) rfl (by decide) (by decide) rfl (fun ls hl => ?_)
                                                                                                                                                                    refine lv_goto (tgt := 22) S.1 S.2.1 dX7_word_40 (by decide) ?_
                                                                                                                                                                    refine lv_aload_n S.1 S.2.1 dX7_word_22 rfl (lv_at hl 3 rfl) ?_
                                                                                                                                                                    refine w_get S C w (CC := RX7) (T := TX7) (N := 16) (ref := "GateSumsModel") im_X7_word_X7 0 rfl rfl 7 (by decide) (List.mem_of_getElem? (i := 1) rfl) (fun _ h => h) rfl dX7_word_23 ?_
                                                                                                                                                                    refine lv_iload S.1 S.2.1 dX7_word_26 (lv_at hl 1 rfl) ?_
                                                                                                                                                                    refine lv_iload S.1 S.2.1 dX7_word_28 (lv_at hl 0 rfl) ?_
                                                                                                                                                                    refine lv_iadd S.1 S.2.1 dX7_word_30 ?_
                                                                                                                                                                    refine w_topi (y := 58) (by decide) ?_
                                                                                                                                                                    refine w_cald S C w 2 rfl (by unfold vp_in; decide) dX7_word_31 ?_
                                                                                                                                                                    refine w_topi (y := 32) (by decide) ?_
                                                                                                                                                                    refine lv_bipush (v := 32) S.1 S.2.1 dX7_word_32 (by decide) ?_
                                                                                                                                                                    refine lv_icmp_eq (tgt := 43) S.1 S.2.1 dX7_word_34 (by decide) (fun c34_58 => ?_) (fun c34_58 => ?_)
                                                                                                                                                                    · refine w_join0 78 [] (¬ inF 11 lo hi = 0 → ¬ MW tN fT 11 (sk tN fT aN)) (fun hz78 => ?_) (fun J78 => ?_)
                                                                                                                                                                      · have hall := wd_step (P := fun j => ¬ inF (nI j) lo hi = 0 → ¬ MW tN fT j (sk tN fT aN)) hall hz78
                                                                                                                                                                        refine lv_iinc (v := 12) (lv' := [(3, .int 12), (5, .int 6), (4, .int 52), (0, .ref mO), (1, .int lo), (2, .int hi)]) S.1 S.2.1 dX7_word_78 hl (k := 2) rfl (by decide) (by decide) rfl (fun ls hl => ?_)
                                                                                                                                                                        refine lv_iload S.1 S.2.1 dX7_word_81 (lv_at hl 2 rfl) ?_
                                                                                                                                                                        refine lv_iload S.1 S.2.1 dX7_word_83 (lv_at hl 1 rfl) ?_
                                                                                                                                                                        refine lv_iconst (v := 1) S.1 S.2.1 dX7_word_85 (by decide) ?_
                                                                                                                                                                        refine lv_iadd S.1 S.2.1 dX7_word_86 ?_
                                                                                                                                                                        refine w_topi (y := 7) (by decide) ?_
                                                                                                                                                                        refine lv_iadd S.1 S.2.1 dX7_word_87 ?_
                                                                                                                                                                        refine w_topi (y := 59) (by decide) ?_
                                                                                                                                                                        refine lv_istore (lv' := [(4, .int 59), (3, .int 12), (5, .int 6), (0, .ref mO), (1, .int lo), (2, .int hi)]) S.1 S.2.1 dX7_word_88 hl (by decide) rfl (fun ls hl => ?_)
                                                                                                                                                                        refine lv_goto (tgt := 9) S.1 S.2.1 dX7_word_90 (by decide) ?_
                                                                                                                                                                        refine lv_iload S.1 S.2.1 dX7_word_9 (lv_at hl 0 rfl) ?_
                                                                                                                                                                        refine lv_aload_n S.1 S.2.1 dX7_word_11 rfl (lv_at hl 3 rfl) ?_
                                                                                                                                                                        refine w_get S C w (CC := RX7) (T := TX7) (N := 16) (ref := "GateSumsModel") im_X7_word_X7 0 rfl rfl 7 (by decide) (List.mem_of_getElem? (i := 1) rfl) (fun _ h => h) rfl dX7_word_12 ?_
                                                                                                                                                                        refine w_alen S C w 2 1 rfl rfl (v := 73) rfl dX7_word_15 ?_
                                                                                                                                                                        refine lv_icmp_ge (tgt := 93) S.1 S.2.1 dX7_word_16 (by decide) (fun c16_12 => ?_) (fun c16_12 => ?_)
                                                                                                                                                                        · exact absurd c16_12 (by decide)
                                                                                                                                                                        · refine lv_iconst (v := 0) S.1 S.2.1 dX7_word_19 (by decide) ?_
                                                                                                                                                                          refine lv_istore (lv' := [(5, .int 0), (4, .int 59), (3, .int 12), (0, .ref mO), (1, .int lo), (2, .int hi)]) S.1 S.2.1 dX7_word_20 hl (by decide) rfl (fun ls hl => ?_)
                                                                                                                                                                          refine lv_aload_n S.1 S.2.1 dX7_word_22 rfl (lv_at hl 3 rfl) ?_
                                                                                                                                                                          refine w_get S C w (CC := RX7) (T := TX7) (N := 16) (ref := "GateSumsModel") im_X7_word_X7 0 rfl rfl 7 (by decide) (List.mem_of_getElem? (i := 1) rfl) (fun _ h => h) rfl dX7_word_23 ?_
                                                                                                                                                                          refine lv_iload S.1 S.2.1 dX7_word_26 (lv_at hl 1 rfl) ?_
                                                                                                                                                                          refine lv_iload S.1 S.2.1 dX7_word_28 (lv_at hl 0 rfl) ?_
                                                                                                                                                                          refine lv_iadd S.1 S.2.1 dX7_word_30 ?_
                                                                                                                                                                          refine w_topi (y := 59) (by decide) ?_
                                                                                                                                                                          refine w_cald S C w 2 rfl (by unfold vp_in; decide) dX7_word_31 ?_
                                                                                                                                                                          refine w_topi (y := 105) (by decide) ?_
                                                                                                                                                                          refine lv_bipush (v := 32) S.1 S.2.1 dX7_word_32 (by decide) ?_
                                                                                                                                                                          refine lv_icmp_eq (tgt := 43) S.1 S.2.1 dX7_word_34 (by decide) (fun c34_59 => ?_) (fun c34_59 => ?_)
                                                                                                                                                                          · exact absurd c34_59 (by decide)
                                                                                                                                                                          · refine lv_iinc (v := 1) (lv' := [(5, .int 1), (4, .int 59), (3, .int 12), (0, .ref mO), (1, .int lo), (2, .int hi)]) S.1 S.2.1 dX7_word_37 hl (k := 0) rfl (by decide) (by decide) rfl (fun ls hl => ?_)
                                                                                                                                                                            refine lv_goto (tgt := 22) S.1 S.2.1 dX7_word_40 (by decide) ?_
                                                                                                                                                                            refine lv_aload_n S.1 S.2.1 dX7_word_22 rfl (lv_at hl 3 rfl) ?_
                                                                                                                                                                            refine w_get S C w (CC := RX7) (T := TX7) (N := 16) (ref := "GateSumsModel") im_X7_word_X7 0 rfl rfl 7 (by decide) (List.mem_of_getElem? (i := 1) rfl) (fun _ h => h) rfl dX7_word_23 ?_
                                                                                                                                                                            refine lv_iload S.1 S.2.1 dX7_word_26 (lv_at hl 1 rfl) ?_
                                                                                                                                                                            refine lv_iload S.1 S.2.1 dX7_word_28 (lv_at hl 0 rfl) ?_
                                                                                                                                                                            refine lv_iadd S.1 S.2.1 dX7_word_30 ?_
                                                                                                                                                                            refine w_topi (y := 60) (by decide) ?_
                                                                                                                                                                            refine w_cald S C w 2 rfl (by unfold vp_in; decide) dX7_word_31 ?_
                                                                                                                                                                            refine w_topi (y := 110) (by decide) ?_
                                                                                                                                                                            refine lv_bipush (v := 32) S.1 S.2.1 dX7_word_32 (by decide) ?_
                                                                                                                                                                            refine lv_icmp_eq (tgt := 43) S.1 S.2.1 dX7_word_34 (by decide) (fun c34_60 => ?_) (fun c34_60 => ?_)
                                                                                                                                                                            · exact absurd c34_60 (by decide)
                                                                                                                                                                            · refine lv_iinc (v := 2) (lv' := [(5, .int 2), (4, .int 59), (3, .int 12), (0, .ref mO), (1, .int lo), (2, .int hi)]) S.1 S.2.1 dX7_word_37 hl (k := 0) rfl (by decide) (by decide) rfl (fun ls hl => ?_)
                                                                                                                                                                              refine lv_goto (tgt := 22) S.1 S.2.1 dX7_word_40 (by decide) ?_
                                                                                                                                                                              refine lv_aload_n S.1 S.2.1 dX7_word_22 rfl (lv_at hl 3 rfl) ?_
                                                                                                                                                                              refine w_get S C w (CC := RX7) (T := TX7) (N := 16) (ref := "GateSumsModel") im_X7_word_X7 0 rfl rfl 7 (by decide) (List.mem_of_getElem? (i := 1) rfl) (fun _ h => h) rfl dX7_word_23 ?_
                                                                                                                                                                              refine lv_iload S.1 S.2.1 dX7_word_26 (lv_at hl 1 rfl) ?_
                                                                                                                                                                              refine lv_iload S.1 S.2.1 dX7_word_28 (lv_at hl 0 rfl) ?_
                                                                                                                                                                              refine lv_iadd S.1 S.2.1 dX7_word_30 ?_
                                                                                                                                                                              refine w_topi (y := 61) (by decide) ?_
                                                                                                                                                                              refine w_cald S C w 2 rfl (by unfold vp_in; decide) dX7_word_31 ?_
                                                                                                                                                                              refine w_topi (y := 32) (by decide) ?_
                                                                                                                                                                              refine lv_bipush (v := 32) S.1 S.2.1 dX7_word_32 (by decide) ?_
                                                                                                                                                                              refine lv_icmp_eq (tgt := 43) S.1 S.2.1 dX7_word_34 (by decide) (fun c34_61 => ?_) (fun c34_61 => ?_)
                                                                                                                                                                              · refine w_join0 78 [] (¬ inF 12 lo hi = 0 → ¬ MW tN fT 12 (sk tN fT aN)) (fun hz78 => ?_) (fun J78 => ?_)
                                                                                                                                                                                · have hall := wd_step (P := fun j => ¬ inF (nI j) lo hi = 0 → ¬ MW tN fT j (sk tN fT aN)) hall hz78
                                                                                                                                                                                  refine lv_iinc (v := 13) (lv' := [(3, .int 13), (5, .int 2), (4, .int 59), (0, .ref mO), (1, .int lo), (2, .int hi)]) S.1 S.2.1 dX7_word_78 hl (k := 2) rfl (by decide) (by decide) rfl (fun ls hl => ?_)
                                                                                                                                                                                  refine lv_iload S.1 S.2.1 dX7_word_81 (lv_at hl 2 rfl) ?_
                                                                                                                                                                                  refine lv_iload S.1 S.2.1 dX7_word_83 (lv_at hl 1 rfl) ?_
                                                                                                                                                                                  refine lv_iconst (v := 1) S.1 S.2.1 dX7_word_85 (by decide) ?_
                                                                                                                                                                                  refine lv_iadd S.1 S.2.1 dX7_word_86 ?_
                                                                                                                                                                                  refine w_topi (y := 3) (by decide) ?_
                                                                                                                                                                                  refine lv_iadd S.1 S.2.1 dX7_word_87 ?_
                                                                                                                                                                                  refine w_topi (y := 62) (by decide) ?_
                                                                                                                                                                                  refine lv_istore (lv' := [(4, .int 62), (3, .int 13), (5, .int 2), (0, .ref mO), (1, .int lo), (2, .int hi)]) S.1 S.2.1 dX7_word_88 hl (by decide) rfl (fun ls hl => ?_)
                                                                                                                                                                                  refine lv_goto (tgt := 9) S.1 S.2.1 dX7_word_90 (by decide) ?_
                                                                                                                                                                                  refine lv_iload S.1 S.2.1 dX7_word_9 (lv_at hl 0 rfl) ?_
                                                                                                                                                                                  refine lv_aload_n S.1 S.2.1 dX7_word_11 rfl (lv_at hl 3 rfl) ?_
                                                                                                                                                                                  refine w_get S C w (CC := RX7) (T := TX7) (N := 16) (ref := "GateSumsModel") im_X7_word_X7 0 rfl rfl 7 (by decide) (List.mem_of_getElem? (i := 1) rfl) (fun _ h => h) rfl dX7_word_12 ?_
                                                                                                                                                                                  refine w_alen S C w 2 1 rfl rfl (v := 73) rfl dX7_word_15 ?_
                                                                                                                                                                                  refine lv_icmp_ge (tgt := 93) S.1 S.2.1 dX7_word_16 (by decide) (fun c16_13 => ?_) (fun c16_13 => ?_)
                                                                                                                                                                                  · exact absurd c16_13 (by decide)
                                                                                                                                                                                  · refine lv_iconst (v := 0) S.1 S.2.1 dX7_word_19 (by decide) ?_
                                                                                                                                                                                    refine lv_istore (lv' := [(5, .int 0), (4, .int 62), (3, .int 13), (0, .ref mO), (1, .int lo), (2, .int hi)]) S.1 S.2.1 dX7_word_20 hl (by decide) rfl (fun ls hl => ?_)
                                                                                                                                                                                    refine lv_aload_n S.1 S.2.1 dX7_word_22 rfl (lv_at hl 3 rfl) ?_
                                                                                                                                                                                    refine w_get S C w (CC := RX7) (T := TX7) (N := 16) (ref := "GateSumsModel") im_X7_word_X7 0 rfl rfl 7 (by decide) (List.mem_of_getElem? (i := 1) rfl) (fun _ h => h) rfl dX7_word_23 ?_
                                                                                                                                                                                    refine lv_iload S.1 S.2.1 dX7_word_26 (lv_at hl 1 rfl) ?_
                                                                                                                                                                                    refine lv_iload S.1 S.2.1 dX7_word_28 (lv_at hl 0 rfl) ?_
                                                                                                                                                                                    refine lv_iadd S.1 S.2.1 dX7_word_30 ?_
                                                                                                                                                                                    refine w_topi (y := 62) (by decide) ?_
                                                                                                                                                                                    refine w_cald S C w 2 rfl (by unfold vp_in; decide) dX7_word_31 ?_
                                                                                                                                                                                    refine w_topi (y := 103) (by decide) ?_
                                                                                                                                                                                    refine lv_bipush (v := 32) S.1 S.2.1 dX7_word_32 (by decide) ?_
                                                                                                                                                                                    refine lv_icmp_eq (tgt := 43) S.1 S.2.1 dX7_word_34 (by decide) (fun c34_62 => ?_) (fun c34_62 => ?_)
                                                                                                                                                                                    · exact absurd c34_62 (by decide)
                                                                                                                                                                                    · refine lv_iinc (v := 1) (lv' := [(5, .int 1), (4, .int 62), (3, .int 13), (0, .ref mO), (1, .int lo), (2, .int hi)]) S.1 S.2.1 dX7_word_37 hl (k := 0) rfl (by decide) (by decide) rfl (fun ls hl => ?_)
                                                                                                                                                                                      refine lv_goto (tgt := 22) S.1 S.2.1 dX7_word_40 (by decide) ?_
                                                                                                                                                                                      refine lv_aload_n S.1 S.2.1 dX7_word_22 rfl (lv_at hl 3 rfl) ?_
                                                                                                                                                                                      refine w_get S C w (CC := RX7) (T := TX7) (N := 16) (ref := "GateSumsModel") im_X7_word_X7 0 rfl rfl 7 (by decide) (List.mem_of_getElem? (i := 1) rfl) (fun _ h => h) rfl dX7_word_23 ?_
                                                                                                                                                                                      refine lv_iload S.1 S.2.1 dX7_word_26 (lv_at hl 1 rfl) ?_
                                                                                                                                                                                      refine lv_iload S.1 S.2.1 dX7_word_28 (lv_at hl 0 rfl) ?_
                                                                                                                                                                                      refine lv_iadd S.1 S.2.1 dX7_word_30 ?_
                                                                                                                                                                                      refine w_topi (y := 63) (by decide) ?_
                                                                                                                                                                                      refine w_cald S C w 2 rfl (by unfold vp_in; decide) dX7_word_31 ?_
                                                                                                                                                                                      refine w_topi (y := 32) (by decide) ?_
                                                                                                                                                                                      refine lv_bipush (v := 32) S.1 S.2.1 dX7_word_32 (by decide) ?_
                                                                                                                                                                                      refine lv_icmp_eq (tgt := 43) S.1 S.2.1 dX7_word_34 (by decide) (fun c34_63 => ?_) (fun c34_63 => ?_)
                                                                                                                                                                                      · refine w_join0 78 [] (¬ inF 13 lo hi = 0 → ¬ MW tN fT 13 (sk tN fT aN)) (fun hz78 => ?_) (fun J78 => ?_)
                                                                                                                                                                                        · have hall := wd_step (P := fun j => ¬ inF (nI j) lo hi = 0 → ¬ MW tN fT j (sk tN fT aN)) hall hz78
                                                                                                                                                                                          refine lv_iinc (v := 14) (lv' := [(3, .int 14), (5, .int 1), (4, .int 62), (0, .ref mO), (1, .int lo), (2, .int hi)]) S.1 S.2.1 dX7_word_78 hl (k := 2) rfl (by decide) (by decide) rfl (fun ls hl => ?_)
                                                                                                                                                                                          refine lv_iload S.1 S.2.1 dX7_word_81 (lv_at hl 2 rfl) ?_
                                                                                                                                                                                          refine lv_iload S.1 S.2.1 dX7_word_83 (lv_at hl 1 rfl) ?_
                                                                                                                                                                                          refine lv_iconst (v := 1) S.1 S.2.1 dX7_word_85 (by decide) ?_
                                                                                                                                                                                          refine lv_iadd S.1 S.2.1 dX7_word_86 ?_
                                                                                                                                                                                          refine w_topi (y := 2) (by decide) ?_
                                                                                                                                                                                          refine lv_iadd S.1 S.2.1 dX7_word_87 ?_
                                                                                                                                                                                          refine w_topi (y := 64) (by decide) ?_
                                                                                                                                                                                          refine lv_istore (lv' := [(4, .int 64), (3, .int 14), (5, .int 1), (0, .ref mO), (1, .int lo), (2, .int hi)]) S.1 S.2.1 dX7_word_88 hl (by decide) rfl (fun ls hl => ?_)
                                                                                                                                                                                          refine lv_goto (tgt := 9) S.1 S.2.1 dX7_word_90 (by decide) ?_
                                                                                                                                                                                          refine lv_iload S.1 S.2.1 dX7_word_9 (lv_at hl 0 rfl) ?_
                                                                                                                                                                                          refine lv_aload_n S.1 S.2.1 dX7_word_11 rfl (lv_at hl 3 rfl) ?_
                                                                                                                                                                                          refine w_get S C w (CC := RX7) (T := TX7) (N := 16) (ref := "GateSumsModel") im_X7_word_X7 0 rfl rfl 7 (by decide) (List.mem_of_getElem? (i := 1) rfl) (fun _ h => h) rfl dX7_word_12 ?_
                                                                                                                                                                                          refine w_alen S C w 2 1 rfl rfl (v := 73) rfl dX7_word_15 ?_
                                                                                                                                                                                          refine lv_icmp_ge (tgt := 93) S.1 S.2.1 dX7_word_16 (by decide) (fun c16_14 => ?_) (fun c16_14 => ?_)
                                                                                                                                                                                          · exact absurd c16_14 (by decide)
                                                                                                                                                                                          · refine lv_iconst (v := 0) S.1 S.2.1 dX7_word_19 (by decide) ?_
                                                                                                                                                                                            refine lv_istore (lv' := [(5, .int 0), (4, .int 64), (3, .int 14), (0, .ref mO), (1, .int lo), (2, .int hi)]) S.1 S.2.1 dX7_word_20 hl (by decide) rfl (fun ls hl => ?_)
                                                                                                                                                                                            refine lv_aload_n S.1 S.2.1 dX7_word_22 rfl (lv_at hl 3 rfl) ?_
                                                                                                                                                                                            refine w_get S C w (CC := RX7) (T := TX7) (N := 16) (ref := "GateSumsModel") im_X7_word_X7 0 rfl rfl 7 (by decide) (List.mem_of_getElem? (i := 1) rfl) (fun _ h => h) rfl dX7_word_23 ?_
                                                                                                                                                                                            refine lv_iload S.1 S.2.1 dX7_word_26 (lv_at hl 1 rfl) ?_
                                                                                                                                                                                            refine lv_iload S.1 S.2.1 dX7_word_28 (lv_at hl 0 rfl) ?_
                                                                                                                                                                                            refine lv_iadd S.1 S.2.1 dX7_word_30 ?_
                                                                                                                                                                                            refine w_topi (y := 64) (by decide) ?_
                                                                                                                                                                                            refine w_cald S C w 2 rfl (by unfold vp_in; decide) dX7_word_31 ?_
                                                                                                                                                                                            refine w_topi (y := 111) (by decide) ?_
                                                                                                                                                                                            refine lv_bipush (v := 32) S.1 S.2.1 dX7_word_32 (by decide) ?_
                                                                                                                                                                                            refine lv_icmp_eq (tgt := 43) S.1 S.2.1 dX7_word_34 (by decide) (fun c34_64 => ?_) (fun c34_64 => ?_)
                                                                                                                                                                                            · exact absurd c34_64 (by decide)
                                                                                                                                                                                            · refine lv_iinc (v := 1) (lv' := [(5, .int 1), (4, .int 64), (3, .int 14), (0, .ref mO), (1, .int lo), (2, .int hi)]) S.1 S.2.1 dX7_word_37 hl (k := 0) rfl (by decide) (by decide) rfl (fun ls hl => ?_)
                                                                                                                                                                                              refine lv_goto (tgt := 22) S.1 S.2.1 dX7_word_40 (by decide) ?_
                                                                                                                                                                                              refine lv_aload_n S.1 S.2.1 dX7_word_22 rfl (lv_at hl 3 rfl) ?_
                                                                                                                                                                                              refine w_get S C w (CC := RX7) (T := TX7) (N := 16) (ref := "GateSumsModel") im_X7_word_X7 0 rfl rfl 7 (by decide) (List.mem_of_getElem? (i := 1) rfl) (fun _ h => h) rfl dX7_word_23 ?_
                                                                                                                                                                                              refine lv_iload S.1 S.2.1 dX7_word_26 (lv_at hl 1 rfl) ?_
                                                                                                                                                                                              refine lv_iload S.1 S.2.1 dX7_word_28 (lv_at hl 0 rfl) ?_
                                                                                                                                                                                              refine lv_iadd S.1 S.2.1 dX7_word_30 ?_
                                                                                                                                                                                              refine w_topi (y := 65) (by decide) ?_
                                                                                                                                                                                              refine w_cald S C w 2 rfl (by unfold vp_in; decide) dX7_word_31 ?_
                                                                                                                                                                                              refine w_topi (y := 117) (by decide) ?_
                                                                                                                                                                                              refine lv_bipush (v := 32) S.1 S.2.1 dX7_word_32 (by decide) ?_
                                                                                                                                                                                              refine lv_icmp_eq (tgt := 43) S.1 S.2.1 dX7_word_34 (by decide) (fun c34_65 => ?_) (fun c34_65 => ?_)
                                                                                                                                                                                              · exact absurd c34_65 (by decide)
                                                                                                                                                                                              · refine lv_iinc (v := 2) (lv' := [(5, .int 2), (4, .int 64), (3, .int 14), (0, .ref mO), (1, .int lo), (2, .int hi)]) S.1 S.2.1 dX7_word_37 hl (k := 0) rfl (by decide) (by decide) rfl (fun ls hl => ?_)
                                                                                                                                                                                                refine lv_goto (tgt := 22) S.1 S.2.1 dX7_word_40 (by decide) ?_
                                                                                                                                                                                                refine lv_aload_n S.1 S.2.1 dX7_word_22 rfl (lv_at hl 3 rfl) ?_
                                                                                                                                                                                                refine w_get S C w (CC := RX7) (T := TX7) (N := 16) (ref := "GateSumsModel") im_X7_word_X7 0 rfl rfl 7 (by decide) (List.mem_of_getElem? (i := 1) rfl) (fun _ h => h) rfl dX7_word_23 ?_
                                                                                                                                                                                                refine lv_iload S.1 S.2.1 dX7_word_26 (lv_at hl 1 rfl) ?_
                                                                                                                                                                                                refine lv_iload S.1 S.2.1 dX7_word_28 (lv_at hl 0 rfl) ?_
                                                                                                                                                                                                refine lv_iadd S.1 S.2.1 dX7_word_30 ?_
                                                                                                                                                                                                refine w_topi (y := 66) (by decide) ?_
                                                                                                                                                                                                refine w_cald S C w 2 rfl (by unfold vp_in; decide) dX7_word_31 ?_
                                                                                                                                                                                                refine w_topi (y := 116) (by decide) ?_
                                                                                                                                                                                                refine lv_bipush (v := 32) S.1 S.2.1 dX7_word_32 (by decide) ?_
                                                                                                                                                                                                refine lv_icmp_eq (tgt := 43) S.1 S.2.1 dX7_word_34 (by decide) (fun c34_66 => ?_) (fun c34_66 => ?_)
                                                                                                                                                                                                · exact absurd c34_66 (by decide)
                                                                                                                                                                                                · refine lv_iinc (v := 3) (lv' := [(5, .int 3), (4, .int 64), (3, .int 14), (0, .ref mO), (1, .int lo), (2, .int hi)]) S.1 S.2.1 dX7_word_37 hl (k := 0) rfl (by decide) (by decide) rfl (fun ls hl => ?_)
                                                                                                                                                                                                  refine lv_goto (tgt := 22) S.1 S.2.1 dX7_word_40 (by decide) ?_
                                                                                                                                                                                                  refine lv_aload_n S.1 S.2.1 dX7_word_22 rfl (lv_at hl 3 rfl) ?_
                                                                                                                                                                                                  refine w_get S C w (CC := RX7) (T := TX7) (N := 16) (ref := "GateSumsModel") im_X7_word_X7 0 rfl rfl 7 (by decide) (List.mem_of_getElem? (i := 1) rfl) (fun _ h => h) rfl dX7_word_23 ?_
                                                                                                                                                                                                  refine lv_iload S.1 S.2.1 dX7_word_26 (lv_at hl 1 rfl) ?_
                                                                                                                                                                                                  refine lv_iload S.1 S.2.1 dX7_word_28 (lv_at hl 0 rfl) ?_
                                                                                                                                                                                                  refine lv_iadd S.1 S.2.1 dX7_word_30 ?_
                                                                                                                                                                                                  refine w_topi (y := 67) (by decide) ?_
                                                                                                                                                                                                  refine w_cald S C w 2 rfl (by unfold vp_in; decide) dX7_word_31 ?_
                                                                                                                                                                                                  refine w_topi (y := 32) (by decide) ?_
                                                                                                                                                                                                  refine lv_bipush (v := 32) S.1 S.2.1 dX7_word_32 (by decide) ?_
                                                                                                                                                                                                  refine lv_icmp_eq (tgt := 43) S.1 S.2.1 dX7_word_34 (by decide) (fun c34_67 => ?_) (fun c34_67 => ?_)
                                                                                                                                                                                                  · refine w_join0 78 [] (¬ inF 14 lo hi = 0 → ¬ MW tN fT 14 (sk tN fT aN)) (fun hz78 => ?_) (fun J78 => ?_)
                                                                                                                                                                                                    · have hall := wd_step (P := fun j => ¬ inF (nI j) lo hi = 0 → ¬ MW tN fT j (sk tN fT aN)) hall hz78
                                                                                                                                                                                                      refine lv_iinc (v := 15) (lv' := [(3, .int 15), (5, .int 3), (4, .int 64), (0, .ref mO), (1, .int lo), (2, .int hi)]) S.1 S.2.1 dX7_word_78 hl (k := 2) rfl (by decide) (by decide) rfl (fun ls hl => ?_)
                                                                                                                                                                                                      refine lv_iload S.1 S.2.1 dX7_word_81 (lv_at hl 2 rfl) ?_
                                                                                                                                                                                                      refine lv_iload S.1 S.2.1 dX7_word_83 (lv_at hl 1 rfl) ?_
                                                                                                                                                                                                      refine lv_iconst (v := 1) S.1 S.2.1 dX7_word_85 (by decide) ?_
                                                                                                                                                                                                      refine lv_iadd S.1 S.2.1 dX7_word_86 ?_
                                                                                                                                                                                                      refine w_topi (y := 4) (by decide) ?_
                                                                                                                                                                                                      refine lv_iadd S.1 S.2.1 dX7_word_87 ?_
                                                                                                                                                                                                      refine w_topi (y := 68) (by decide) ?_
                                                                                                                                                                                                      refine lv_istore (lv' := [(4, .int 68), (3, .int 15), (5, .int 3), (0, .ref mO), (1, .int lo), (2, .int hi)]) S.1 S.2.1 dX7_word_88 hl (by decide) rfl (fun ls hl => ?_)
                                                                                                                                                                                                      refine lv_goto (tgt := 9) S.1 S.2.1 dX7_word_90 (by decide) ?_
                                                                                                                                                                                                      refine lv_iload S.1 S.2.1 dX7_word_9 (lv_at hl 0 rfl) ?_
                                                                                                                                                                                                      refine lv_aload_n S.1 S.2.1 dX7_word_11 rfl (lv_at hl 3 rfl) ?_
                                                                                                                                                                                                      refine w_get S C w (CC := RX7) (T := TX7) (N := 16) (ref := "GateSumsModel") im_X7_word_X7 0 rfl rfl 7 (by decide) (List.mem_of_getElem? (i := 1) rfl) (fun _ h => h) rfl dX7_word_12 ?_
                                                                                                                                                                                                      refine w_alen S C w 2 1 rfl rfl (v := 73) rfl dX7_word_15 ?_
                                                                                                                                                                                                      refine lv_icmp_ge (tgt := 93) S.1 S.2.1 dX7_word_16 (by decide) (fun c16_15 => ?_) (fun c16_15 => ?_)
                                                                                                                                                                                                      · exact absurd c16_15 (by decide)
                                                                                                                                                                                                      · refine lv_iconst (v := 0) S.1 S.2.1 dX7_word_19 (by decide) ?_
                                                                                                                                                                                                        refine lv_istore (lv' := [(5, .int 0), (4, .int 68), (3, .int 15), (0, .ref mO), (1, .int lo), (2, .int hi)]) S.1 S.2.1 dX7_word_20 hl (by decide) rfl (fun ls hl => ?_)
                                                                                                                                                                                                        refine lv_aload_n S.1 S.2.1 dX7_word_22 rfl (lv_at hl 3 rfl) ?_
                                                                                                                                                                                                        refine w_get S C w (CC := RX7) (T := TX7) (N := 16) (ref := "GateSumsModel") im_X7_word_X7 0 rfl rfl 7 (by decide) (List.mem_of_getElem? (i := 1) rfl) (fun _ h => h) rfl dX7_word_23 ?_
                                                                                                                                                                                                        refine lv_iload S.1 S.2.1 dX7_word_26 (lv_at hl 1 rfl) ?_
                                                                                                                                                                                                        refine lv_iload S.1 S.2.1 dX7_word_28 (lv_at hl 0 rfl) ?_
                                                                                                                                                                                                        refine lv_iadd S.1 S.2.1 dX7_word_30 ?_
                                                                                                                                                                                                        refine w_topi (y := 68) (by decide) ?_
                                                                                                                                                                                                        refine w_cald S C w 2 rfl (by unfold vp_in; decide) dX7_word_31 ?_
                                                                                                                                                                                                        refine w_topi (y := 116) (by decide) ?_
                                                                                                                                                                                                        refine lv_bipush (v := 32) S.1 S.2.1 dX7_word_32 (by decide) ?_
                                                                                                                                                                                                        refine lv_icmp_eq (tgt := 43) S.1 S.2.1 dX7_word_34 (by decide) (fun c34_68 => ?_) (fun c34_68 => ?_)
                                                                                                                                                                                                        · exact absurd c34_68 (by decide)
                                                                                                                                                                                                        · refine lv_iinc (v := 1) (lv' := [(5, .int 1), (4, .int 68), (3, .int 15), (0, .ref mO), (1, .int lo), (2, .int hi)]) S.1 S.2.1 dX7_word_37 hl (k := 0) rfl (by decide) (by decide) rfl (fun ls hl => ?_)
                                                                                                                                                                                                          refine lv_goto (tgt := 22) S.1 S.2.1 dX7_word_40 (by decide) ?_
                                                                                                                                                                                                          refine lv_aload_n S.1 S.2.1 dX7_word_22 rfl (lv_at hl 3 rfl) ?_
                                                                                                                                                                                                          refine w_get S C w (CC := RX7) (T := TX7) (N := 16) (ref := "GateSumsModel") im_X7_word_X7 0 rfl rfl 7 (by decide) (List.mem_of_getElem? (i := 1) rfl) (fun _ h => h) rfl dX7_word_23 ?_
                                                                                                                                                                                                          refine lv_iload S.1 S.2.1 dX7_word_26 (lv_at hl 1 rfl) ?_
                                                                                                                                                                                                          refine lv_iload S.1 S.2.1 dX7_word_28 (lv_at hl 0 rfl) ?_
                                                                                                                                                                                                          refine lv_iadd S.1 S.2.1 dX7_word_30 ?_
                                                                                                                                                                                                          refine w_topi (y := 69) (by decide) ?_
                                                                                                                                                                                                          refine w_cald S C w 2 rfl (by unfold vp_in; decide) dX7_word_31 ?_
                                                                                                                                                                                                          refine w_topi (y := 97) (by decide) ?_
                                                                                                                                                                                                          refine lv_bipush (v := 32) S.1 S.2.1 dX7_word_32 (by decide) ?_
                                                                                                                                                                                                          refine lv_icmp_eq (tgt := 43) S.1 S.2.1 dX7_word_34 (by decide) (fun c34_69 => ?_) (fun c34_69 => ?_)
                                                                                                                                                                                                          · exact absurd c34_69 (by decide)
                                                                                                                                                                                                          · refine lv_iinc (v := 2) (lv' := [(5, .int 2), (4, .int 68), (3, .int 15), (0, .ref mO), (1, .int lo), (2, .int hi)]) S.1 S.2.1 dX7_word_37 hl (k := 0) rfl (by decide) (by decide) rfl (fun ls hl => ?_)
                                                                                                                                                                                                            refine lv_goto (tgt := 22) S.1 S.2.1 dX7_word_40 (by decide) ?_
                                                                                                                                                                                                            refine lv_aload_n S.1 S.2.1 dX7_word_22 rfl (lv_at hl 3 rfl) ?_
                                                                                                                                                                                                            refine w_get S C w (CC := RX7) (T := TX7) (N := 16) (ref := "GateSumsModel") im_X7_word_X7 0 rfl rfl 7 (by decide) (List.mem_of_getElem? (i := 1) rfl) (fun _ h => h) rfl dX7_word_23 ?_
                                                                                                                                                                                                            refine lv_iload S.1 S.2.1 dX7_word_26 (lv_at hl 1 rfl) ?_
                                                                                                                                                                                                            refine lv_iload S.1 S.2.1 dX7_word_28 (lv_at hl 0 rfl) ?_
                                                                                                                                                                                                            refine lv_iadd S.1 S.2.1 dX7_word_30 ?_
                                                                                                                                                                                                            refine w_topi (y := 70) (by decide) ?_
                                                                                                                                                                                                            refine w_cald S C w 2 rfl (by unfold vp_in; decide) dX7_word_31 ?_
                                                                                                                                                                                                            refine w_topi (y := 115) (by decide) ?_
                                                                                                                                                                                                            refine lv_bipush (v := 32) S.1 S.2.1 dX7_word_32 (by decide) ?_
                                                                                                                                                                                                            refine lv_icmp_eq (tgt := 43) S.1 S.2.1 dX7_word_34 (by decide) (fun c34_70 => ?_) (fun c34_70 => ?_)
                                                                                                                                                                                                            · exact absurd c34_70 (by decide)
                                                                                                                                                                                                            · refine lv_iinc (v := 3) (lv' := [(5, .int 3), (4, .int 68), (3, .int 15), (0, .ref mO), (1, .int lo), (2, .int hi)]) S.1 S.2.1 dX7_word_37 hl (k := 0) rfl (by decide) (by decide) rfl (fun ls hl => ?_)
                                                                                                                                                                                                              refine lv_goto (tgt := 22) S.1 S.2.1 dX7_word_40 (by decide) ?_
                                                                                                                                                                                                              refine lv_aload_n S.1 S.2.1 dX7_word_22 rfl (lv_at hl 3 rfl) ?_
                                                                                                                                                                                                              refine w_get S C w (CC := RX7) (T := TX7) (N := 16) (ref := "GateSumsModel") im_X7_word_X7 0 rfl rfl 7 (by decide) (List.mem_of_getElem? (i := 1) rfl) (fun _ h => h) rfl dX7_word_23 ?_
                                                                                                                                                                                                              refine lv_iload S.1 S.2.1 dX7_word_26 (lv_at hl 1 rfl) ?_
                                                                                                                                                                                                              refine lv_iload S.1 S.2.1 dX7_word_28 (lv_at hl 0 rfl) ?_
                                                                                                                                                                                                              refine lv_iadd S.1 S.2.1 dX7_word_30 ?_
                                                                                                                                                                                                              refine w_topi (y := 71) (by decide) ?_
                                                                                                                                                                                                              refine w_cald S C w 2 rfl (by unfold vp_in; decide) dX7_word_31 ?_
                                                                                                                                                                                                              refine w_topi (y := 107) (by decide) ?_
                                                                                                                                                                                                              refine lv_bipush (v := 32) S.1 S.2.1 dX7_word_32 (by decide) ?_
                                                                                                                                                                                                              refine lv_icmp_eq (tgt := 43) S.1 S.2.1 dX7_word_34 (by decide) (fun c34_71 => ?_) (fun c34_71 => ?_)
                                                                                                                                                                                                              · exact absurd c34_71 (by decide)
                                                                                                                                                                                                              · refine lv_iinc (v := 4) (lv' := [(5, .int 4), (4, .int 68), (3, .int 15), (0, .ref mO), (1, .int lo), (2, .int hi)]) S.1 S.2.1 dX7_word_37 hl (k := 0) rfl (by decide) (by decide) rfl (fun ls hl => ?_)
                                                                                                                                                                                                                refine lv_goto (tgt := 22) S.1 S.2.1 dX7_word_40 (by decide) ?_
                                                                                                                                                                                                                refine lv_aload_n S.1 S.2.1 dX7_word_22 rfl (lv_at hl 3 rfl) ?_
                                                                                                                                                                                                                refine w_get S C w (CC := RX7) (T := TX7) (N := 16) (ref := "GateSumsModel") im_X7_word_X7 0 rfl rfl 7 (by decide) (List.mem_of_getElem? (i := 1) rfl) (fun _ h => h) rfl dX7_word_23 ?_
                                                                                                                                                                                                                refine lv_iload S.1 S.2.1 dX7_word_26 (lv_at hl 1 rfl) ?_
                                                                                                                                                                                                                refine lv_iload S.1 S.2.1 dX7_word_28 (lv_at hl 0 rfl) ?_
                                                                                                                                                                                                                refine lv_iadd S.1 S.2.1 dX7_word_30 ?_
                                                                                                                                                                                                                refine w_topi (y := 72) (by decide) ?_
                                                                                                                                                                                                                refine w_cald S C w 2 rfl (by unfold vp_in; decide) dX7_word_31 ?_
                                                                                                                                                                                                                refine w_topi (y := 32) (by decide) ?_
                                                                                                                                                                                                                refine lv_bipush (v := 32) S.1 S.2.1 dX7_word_32 (by decide) ?_
                                                                                                                                                                                                                refine lv_icmp_eq (tgt := 43) S.1 S.2.1 dX7_word_34 (by decide) (fun c34_72 => ?_) (fun c34_72 => ?_)
                                                                                                                                                                                                                · refine w_join0 78 [] (¬ inF 15 lo hi = 0 → ¬ MW tN fT 15 (sk tN fT aN)) (fun hz78 => ?_) (fun J78 => ?_)
                                                                                                                                                                                                                  · have hall := wd_step (P := fun j => ¬ inF (nI j) lo hi = 0 → ¬ MW tN fT j (sk tN fT aN)) hall hz78
                                                                                                                                                                                                                    refine lv_iinc (v := 16) (lv' := [(3, .int 16), (5, .int 4), (4, .int 68), (0, .ref mO), (1, .int lo), (2, .int hi)]) S.1 S.2.1 dX7_word_78 hl (k := 2) rfl (by decide) (by decide) rfl (fun ls hl => ?_)
                                                                                                                                                                                                                    refine lv_iload S.1 S.2.1 dX7_word_81 (lv_at hl 2 rfl) ?_
                                                                                                                                                                                                                    refine lv_iload S.1 S.2.1 dX7_word_83 (lv_at hl 1 rfl) ?_
                                                                                                                                                                                                                    refine lv_iconst (v := 1) S.1 S.2.1 dX7_word_85 (by decide) ?_
                                                                                                                                                                                                                    refine lv_iadd S.1 S.2.1 dX7_word_86 ?_
                                                                                                                                                                                                                    refine w_topi (y := 5) (by decide) ?_
                                                                                                                                                                                                                    refine lv_iadd S.1 S.2.1 dX7_word_87 ?_
                                                                                                                                                                                                                    refine w_topi (y := 73) (by decide) ?_
                                                                                                                                                                                                                    refine lv_istore (lv' := [(4, .int 73), (3, .int 16), (5, .int 4), (0, .ref mO), (1, .int lo), (2, .int hi)]) S.1 S.2.1 dX7_word_88 hl (by decide) rfl (fun ls hl => ?_)
                                                                                                                                                                                                                    refine lv_goto (tgt := 9) S.1 S.2.1 dX7_word_90 (by decide) ?_
                                                                                                                                                                                                                    refine lv_iload S.1 S.2.1 dX7_word_9 (lv_at hl 0 rfl) ?_
                                                                                                                                                                                                                    refine lv_aload_n S.1 S.2.1 dX7_word_11 rfl (lv_at hl 3 rfl) ?_
                                                                                                                                                                                                                    refine w_get S C w (CC := RX7) (T := TX7) (N := 16) (ref := "GateSumsModel") im_X7_word_X7 0 rfl rfl 7 (by decide) (List.mem_of_getElem? (i := 1) rfl) (fun _ h => h) rfl dX7_word_12 ?_
                                                                                                                                                                                                                    refine w_alen S C w 2 1 rfl rfl (v := 73) rfl dX7_word_15 ?_
                                                                                                                                                                                                                    refine lv_icmp_ge (tgt := 93) S.1 S.2.1 dX7_word_16 (by decide) (fun c16_16 => ?_) (fun c16_16 => ?_)
                                                                                                                                                                                                                    · refine lv_iconst (v := (-1)) S.1 S.2.1 dX7_word_93 (by decide) ?_
                                                                                                                                                                                                                      exact W.iret (v := (-1)) S.1 S.2.1 hr (fun t ht _ => ⟨⟨(-1), (sk tN fT aN), rfl, ⟨Or.inl ⟨rfl, rfl, hall⟩, hB⟩, by rw [ht]; exact w.1, w.2.1⟩, w.2.2.F ht⟩) w.2.2.2.2 dX7_word_94
                                                                                                                                                                                                                    · exact absurd c16_16 (by decide)
                                                                                                                                                                                                                  · refine lv_iload_n S.1 S.2.1 dX7_word_43 rfl (lv_at hl 2 rfl) ?_
                                                                                                                                                                                                                    refine lv_iload_n S.1 S.2.1 dX7_word_44 rfl (lv_at hl 4 rfl) ?_
                                                                                                                                                                                                                    refine lv_iload_n S.1 S.2.1 dX7_word_45 rfl (lv_at hl 5 rfl) ?_
                                                                                                                                                                                                                    refine cs_i (va_runS (As := [.int 15, .int lo, .int hi]) (rest := []) S (c_X7_in l G _ 15 lo hi) (va_cwS 3 S.2.2.2.2 gX7_word_X7_in rfl rfl rfl (by decide +kernel) ⟨Nat.le_of_ble_eq_true rfl, Nat.le_of_ble_eq_true rfl⟩) ⟨wPre_blind, wPre_at C w [] rfl rfl⟩ rfl rfl hl.1 rfl (lv_room (Nat.le_of_ble_eq_true rfl)) dX7_word_46 ⟨Nat.le_of_ble_eq_true rfl, Nat.le_of_ble_eq_true rfl⟩) (fun r46 h46 => ?_)
                                                                                                                                                                                                                    refine w_topi (y := (inF 15 lo hi)) h46 ?_
                                                                                                                                                                                                                    refine lv_if_eq (tgt := 78) S.1 S.2.1 dX7_word_49 (by decide) (fun c49 => ?_) (fun c49 => ?_)
                                                                                                                                                                                                                    · exact J78 (by first | exact fun q => absurd c49 q | exact fun _ => or_not @h57 @c60)
                                                                                                                                                                                                                    · refine lv_aload_n S.1 S.2.1 dX7_word_52 rfl (lv_at hl 3 rfl) ?_
                                                                                                                                                                                                                      refine lv_iload S.1 S.2.1 dX7_word_53 (lv_at hl 1 rfl) ?_
                                                                                                                                                                                                                      refine lv_iload S.1 S.2.1 dX7_word_55 (lv_at hl 0 rfl) ?_
                                                                                                                                                                                                                      refine cs_i (va_runV (As := [.int 68, .int 4]) (rest := []) S (x_X7_isWord l G mO mT mW _ mS mD mR mQ mC mU mV mn my mm mf mg tN (sk tN fT aN) 68 4 fT (htN) (hB) (by decide)) (cwV 2 S.2.2.2.2 gX7_word_X7_isWord rfl rfl rfl (by decide +kernel) ⟨Nat.le_of_ble_eq_true rfl, Nat.le_of_ble_eq_true rfl⟩) ⟨wPre_blind, va_recv C.1 w.1 (ci := 7) (q0 := 0) rfl rfl, wPre_at C w [0, 1, 2] rfl rfl⟩ rfl rfl hl.1 rfl (lv_room (Nat.le_of_ble_eq_true rfl)) dX7_word_57 ⟨Nat.le_of_ble_eq_true rfl, Nat.le_of_ble_eq_true rfl⟩) (fun r57 h57 => ?_)
                                                                                                                                                                                                                      refine lv_if_eq (tgt := 78) S.1 S.2.1 dX7_word_60 (by decide) (fun c60 => ?_) (fun c60 => ?_)
                                                                                                                                                                                                                      · exact J78 (by first | exact fun q => absurd c49 q | exact fun _ => or_not h57 c60)
                                                                                                                                                                                                                      · refine lv_aload_n S.1 S.2.1 dX7_word_63 rfl (lv_at hl 3 rfl) ?_
                                                                                                                                                                                                                        refine lv_dup S.1 S.2.1 dX7_word_64 rfl ?_
                                                                                                                                                                                                                        refine w_get S C w (CC := RX7) (T := TX7) (N := 16) (ref := "GateSumsModel") im_X7_word_X7 0 rfl rfl 5 (by decide) (List.mem_of_getElem? (i := 2) rfl) (fun _ h => h) rfl dX7_word_65 ?_
                                                                                                                                                                                                                        refine lv_iload S.1 S.2.1 dX7_word_68 (lv_at hl 0 rfl) ?_
                                                                                                                                                                                                                        refine lv_iadd S.1 S.2.1 dX7_word_70 ?_
                                                                                                                                                                                                                        refine w_topi (y := (nI ((sk tN fT aN) + 4))) (nI_add _ _) ?_
                                                                                                                                                                                                                        refine w_put S C w (CC := RX7) (T := TX7) (N := 16) (ref := "GateSumsModel") im_X7_word_X7 tyX7 tyX7_ok nmX7 0 rfl rfl 5 (by decide) (List.mem_of_getElem? (i := 2) rfl) (fun _ h => h) rfl (ws2 := [(mO, .inr (7, [.ref mS, .ref mD, .ref mR, .ref mT, .int (nI tN), .int (nI ((sk tN fT aN) + 4)), .int mn, .ref mW, .ref mQ, .ref mC, .int my, .ref mU, .ref mV, .int mm, .int mf, .int mg])), (mT, .inl (G.2.1 2, 120, .inl fT)), (mW, .inl (G.2.1 1, 73, .inl (wdF 73)))]) (rfl) (rfl) (Nat.le_of_ble_eq_true rfl) rfl dX7_word_71 (fun H locs w => ?_)
                                                                                                                                                                                                                        refine lv_iload_n S.1 S.2.1 dX7_word_74 rfl (lv_at hl 2 rfl) ?_
                                                                                                                                                                                                                        refine lv_iload_n S.1 S.2.1 dX7_word_75 rfl (lv_at hl 4 rfl) ?_
                                                                                                                                                                                                                        refine lv_isub S.1 S.2.1 dX7_word_76 ?_
                                                                                                                                                                                                                        exact W.iret (v := (15 - lo)) S.1 S.2.1 hr (fun t ht _ => ⟨⟨(15 - lo), ((sk tN fT aN) + 4), rfl, ⟨Or.inr ⟨15, by decide, c49, or_yes h57 c60, rfl, rfl⟩, mat_lt (j := 15) (by decide) (or_yes h57 c60).1⟩, by rw [ht]; exact w.1, w.2.1⟩, w.2.2.F ht⟩) w.2.2.2.2 dX7_word_77
                                                                                                                                                                                                                · exact absurd c34_72 (by decide)
                                                                                                                                                                                                    · refine lv_iload_n S.1 S.2.1 dX7_word_43 rfl (lv_at hl 2 rfl) ?_
                                                                                                                                                                                                      refine lv_iload_n S.1 S.2.1 dX7_word_44 rfl (lv_at hl 4 rfl) ?_
                                                                                                                                                                                                      refine lv_iload_n S.1 S.2.1 dX7_word_45 rfl (lv_at hl 5 rfl) ?_
                                                                                                                                                                                                      refine cs_i (va_runS (As := [.int 14, .int lo, .int hi]) (rest := []) S (c_X7_in l G _ 14 lo hi) (va_cwS 3 S.2.2.2.2 gX7_word_X7_in rfl rfl rfl (by decide +kernel) ⟨Nat.le_of_ble_eq_true rfl, Nat.le_of_ble_eq_true rfl⟩) ⟨wPre_blind, wPre_at C w [] rfl rfl⟩ rfl rfl hl.1 rfl (lv_room (Nat.le_of_ble_eq_true rfl)) dX7_word_46 ⟨Nat.le_of_ble_eq_true rfl, Nat.le_of_ble_eq_true rfl⟩) (fun r46_1 h46_1 => ?_)
                                                                                                                                                                                                      refine w_topi (y := (inF 14 lo hi)) h46_1 ?_
                                                                                                                                                                                                      refine lv_if_eq (tgt := 78) S.1 S.2.1 dX7_word_49 (by decide) (fun c49_1 => ?_) (fun c49_1 => ?_)
                                                                                                                                                                                                      · exact J78 (by first | exact fun q => absurd c49_1 q | exact fun _ => or_not @h57 @c60)
                                                                                                                                                                                                      · refine lv_aload_n S.1 S.2.1 dX7_word_52 rfl (lv_at hl 3 rfl) ?_
                                                                                                                                                                                                        refine lv_iload S.1 S.2.1 dX7_word_53 (lv_at hl 1 rfl) ?_
                                                                                                                                                                                                        refine lv_iload S.1 S.2.1 dX7_word_55 (lv_at hl 0 rfl) ?_
                                                                                                                                                                                                        refine cs_i (va_runV (As := [.int 64, .int 3]) (rest := []) S (x_X7_isWord l G mO mT mW _ mS mD mR mQ mC mU mV mn my mm mf mg tN (sk tN fT aN) 64 3 fT (htN) (hB) (by decide)) (cwV 2 S.2.2.2.2 gX7_word_X7_isWord rfl rfl rfl (by decide +kernel) ⟨Nat.le_of_ble_eq_true rfl, Nat.le_of_ble_eq_true rfl⟩) ⟨wPre_blind, va_recv C.1 w.1 (ci := 7) (q0 := 0) rfl rfl, wPre_at C w [0, 1, 2] rfl rfl⟩ rfl rfl hl.1 rfl (lv_room (Nat.le_of_ble_eq_true rfl)) dX7_word_57 ⟨Nat.le_of_ble_eq_true rfl, Nat.le_of_ble_eq_true rfl⟩) (fun r57_1 h57_1 => ?_)
                                                                                                                                                                                                        refine lv_if_eq (tgt := 78) S.1 S.2.1 dX7_word_60 (by decide) (fun c60_1 => ?_) (fun c60_1 => ?_)
                                                                                                                                                                                                        · exact J78 (by first | exact fun q => absurd c49_1 q | exact fun _ => or_not h57_1 c60_1)
                                                                                                                                                                                                        · refine lv_aload_n S.1 S.2.1 dX7_word_63 rfl (lv_at hl 3 rfl) ?_
                                                                                                                                                                                                          refine lv_dup S.1 S.2.1 dX7_word_64 rfl ?_
                                                                                                                                                                                                          refine w_get S C w (CC := RX7) (T := TX7) (N := 16) (ref := "GateSumsModel") im_X7_word_X7 0 rfl rfl 5 (by decide) (List.mem_of_getElem? (i := 2) rfl) (fun _ h => h) rfl dX7_word_65 ?_
                                                                                                                                                                                                          refine lv_iload S.1 S.2.1 dX7_word_68 (lv_at hl 0 rfl) ?_
                                                                                                                                                                                                          refine lv_iadd S.1 S.2.1 dX7_word_70 ?_
                                                                                                                                                                                                          refine w_topi (y := (nI ((sk tN fT aN) + 3))) (nI_add _ _) ?_
                                                                                                                                                                                                          refine w_put S C w (CC := RX7) (T := TX7) (N := 16) (ref := "GateSumsModel") im_X7_word_X7 tyX7 tyX7_ok nmX7 0 rfl rfl 5 (by decide) (List.mem_of_getElem? (i := 2) rfl) (fun _ h => h) rfl (ws2 := [(mO, .inr (7, [.ref mS, .ref mD, .ref mR, .ref mT, .int (nI tN), .int (nI ((sk tN fT aN) + 3)), .int mn, .ref mW, .ref mQ, .ref mC, .int my, .ref mU, .ref mV, .int mm, .int mf, .int mg])), (mT, .inl (G.2.1 2, 120, .inl fT)), (mW, .inl (G.2.1 1, 73, .inl (wdF 73)))]) (rfl) (rfl) (Nat.le_of_ble_eq_true rfl) rfl dX7_word_71 (fun H locs w => ?_)
                                                                                                                                                                                                          refine lv_iload_n S.1 S.2.1 dX7_word_74 rfl (lv_at hl 2 rfl) ?_
                                                                                                                                                                                                          refine lv_iload_n S.1 S.2.1 dX7_word_75 rfl (lv_at hl 4 rfl) ?_
                                                                                                                                                                                                          refine lv_isub S.1 S.2.1 dX7_word_76 ?_
                                                                                                                                                                                                          exact W.iret (v := (14 - lo)) S.1 S.2.1 hr (fun t ht _ => ⟨⟨(14 - lo), ((sk tN fT aN) + 3), rfl, ⟨Or.inr ⟨14, by decide, c49_1, or_yes h57_1 c60_1, rfl, rfl⟩, mat_lt (j := 14) (by decide) (or_yes h57_1 c60_1).1⟩, by rw [ht]; exact w.1, w.2.1⟩, w.2.2.F ht⟩) w.2.2.2.2 dX7_word_77
                                                                                                                                                                                                  · exact absurd c34_67 (by decide)
                                                                                                                                                                                        · refine lv_iload_n S.1 S.2.1 dX7_word_43 rfl (lv_at hl 2 rfl) ?_
                                                                                                                                                                                          refine lv_iload_n S.1 S.2.1 dX7_word_44 rfl (lv_at hl 4 rfl) ?_
                                                                                                                                                                                          refine lv_iload_n S.1 S.2.1 dX7_word_45 rfl (lv_at hl 5 rfl) ?_
                                                                                                                                                                                          refine cs_i (va_runS (As := [.int 13, .int lo, .int hi]) (rest := []) S (c_X7_in l G _ 13 lo hi) (va_cwS 3 S.2.2.2.2 gX7_word_X7_in rfl rfl rfl (by decide +kernel) ⟨Nat.le_of_ble_eq_true rfl, Nat.le_of_ble_eq_true rfl⟩) ⟨wPre_blind, wPre_at C w [] rfl rfl⟩ rfl rfl hl.1 rfl (lv_room (Nat.le_of_ble_eq_true rfl)) dX7_word_46 ⟨Nat.le_of_ble_eq_true rfl, Nat.le_of_ble_eq_true rfl⟩) (fun r46_2 h46_2 => ?_)
                                                                                                                                                                                          refine w_topi (y := (inF 13 lo hi)) h46_2 ?_
                                                                                                                                                                                          refine lv_if_eq (tgt := 78) S.1 S.2.1 dX7_word_49 (by decide) (fun c49_2 => ?_) (fun c49_2 => ?_)
                                                                                                                                                                                          · exact J78 (by first | exact fun q => absurd c49_2 q | exact fun _ => or_not @h57 @c60)
                                                                                                                                                                                          · refine lv_aload_n S.1 S.2.1 dX7_word_52 rfl (lv_at hl 3 rfl) ?_
                                                                                                                                                                                            refine lv_iload S.1 S.2.1 dX7_word_53 (lv_at hl 1 rfl) ?_
                                                                                                                                                                                            refine lv_iload S.1 S.2.1 dX7_word_55 (lv_at hl 0 rfl) ?_
                                                                                                                                                                                            refine cs_i (va_runV (As := [.int 62, .int 1]) (rest := []) S (x_X7_isWord l G mO mT mW _ mS mD mR mQ mC mU mV mn my mm mf mg tN (sk tN fT aN) 62 1 fT (htN) (hB) (by decide)) (cwV 2 S.2.2.2.2 gX7_word_X7_isWord rfl rfl rfl (by decide +kernel) ⟨Nat.le_of_ble_eq_true rfl, Nat.le_of_ble_eq_true rfl⟩) ⟨wPre_blind, va_recv C.1 w.1 (ci := 7) (q0 := 0) rfl rfl, wPre_at C w [0, 1, 2] rfl rfl⟩ rfl rfl hl.1 rfl (lv_room (Nat.le_of_ble_eq_true rfl)) dX7_word_57 ⟨Nat.le_of_ble_eq_true rfl, Nat.le_of_ble_eq_true rfl⟩) (fun r57_2 h57_2 => ?_)
                                                                                                                                                                                            refine lv_if_eq (tgt := 78) S.1 S.2.1 dX7_word_60 (by decide) (fun c60_2 => ?_) (fun c60_2 => ?_)
                                                                                                                                                                                            · exact J78 (by first | exact fun q => absurd c49_2 q | exact fun _ => or_not h57_2 c60_2)
                                                                                                                                                                                            · refine lv_aload_n S.1 S.2.1 dX7_word_63 rfl (lv_at hl 3 rfl) ?_
                                                                                                                                                                                              refine lv_dup S.1 S.2.1 dX7_word_64 rfl ?_
                                                                                                                                                                                              refine w_get S C w (CC := RX7) (T := TX7) (N := 16) (ref := "GateSumsModel") im_X7_word_X7 0 rfl rfl 5 (by decide) (List.mem_of_getElem? (i := 2) rfl) (fun _ h => h) rfl dX7_word_65 ?_
                                                                                                                                                                                              refine lv_iload S.1 S.2.1 dX7_word_68 (lv_at hl 0 rfl) ?_
                                                                                                                                                                                              refine lv_iadd S.1 S.2.1 dX7_word_70 ?_
                                                                                                                                                                                              refine w_topi (y := (nI ((sk tN fT aN) + 1))) (nI_add _ _) ?_
                                                                                                                                                                                              refine w_put S C w (CC := RX7) (T := TX7) (N := 16) (ref := "GateSumsModel") im_X7_word_X7 tyX7 tyX7_ok nmX7 0 rfl rfl 5 (by decide) (List.mem_of_getElem? (i := 2) rfl) (fun _ h => h) rfl (ws2 := [(mO, .inr (7, [.ref mS, .ref mD, .ref mR, .ref mT, .int (nI tN), .int (nI ((sk tN fT aN) + 1)), .int mn, .ref mW, .ref mQ, .ref mC, .int my, .ref mU, .ref mV, .int mm, .int mf, .int mg])), (mT, .inl (G.2.1 2, 120, .inl fT)), (mW, .inl (G.2.1 1, 73, .inl (wdF 73)))]) (rfl) (rfl) (Nat.le_of_ble_eq_true rfl) rfl dX7_word_71 (fun H locs w => ?_)
                                                                                                                                                                                              refine lv_iload_n S.1 S.2.1 dX7_word_74 rfl (lv_at hl 2 rfl) ?_
                                                                                                                                                                                              refine lv_iload_n S.1 S.2.1 dX7_word_75 rfl (lv_at hl 4 rfl) ?_
                                                                                                                                                                                              refine lv_isub S.1 S.2.1 dX7_word_76 ?_
                                                                                                                                                                                              exact W.iret (v := (13 - lo)) S.1 S.2.1 hr (fun t ht _ => ⟨⟨(13 - lo), ((sk tN fT aN) + 1), rfl, ⟨Or.inr ⟨13, by decide, c49_2, or_yes h57_2 c60_2, rfl, rfl⟩, mat_lt (j := 13) (by decide) (or_yes h57_2 c60_2).1⟩, by rw [ht]; exact w.1, w.2.1⟩, w.2.2.F ht⟩) w.2.2.2.2 dX7_word_77
                                                                                                                                                                                      · exact absurd c34_63 (by decide)
                                                                                                                                                                                · refine lv_iload_n S.1 S.2.1 dX7_word_43 rfl (lv_at hl 2 rfl) ?_
                                                                                                                                                                                  refine lv_iload_n S.1 S.2.1 dX7_word_44 rfl (lv_at hl 4 rfl) ?_
                                                                                                                                                                                  refine lv_iload_n S.1 S.2.1 dX7_word_45 rfl (lv_at hl 5 rfl) ?_
                                                                                                                                                                                  refine cs_i (va_runS (As := [.int 12, .int lo, .int hi]) (rest := []) S (c_X7_in l G _ 12 lo hi) (va_cwS 3 S.2.2.2.2 gX7_word_X7_in rfl rfl rfl (by decide +kernel) ⟨Nat.le_of_ble_eq_true rfl, Nat.le_of_ble_eq_true rfl⟩) ⟨wPre_blind, wPre_at C w [] rfl rfl⟩ rfl rfl hl.1 rfl (lv_room (Nat.le_of_ble_eq_true rfl)) dX7_word_46 ⟨Nat.le_of_ble_eq_true rfl, Nat.le_of_ble_eq_true rfl⟩) (fun r46_3 h46_3 => ?_)
                                                                                                                                                                                  refine w_topi (y := (inF 12 lo hi)) h46_3 ?_
                                                                                                                                                                                  refine lv_if_eq (tgt := 78) S.1 S.2.1 dX7_word_49 (by decide) (fun c49_3 => ?_) (fun c49_3 => ?_)
                                                                                                                                                                                  · exact J78 (by first | exact fun q => absurd c49_3 q | exact fun _ => or_not @h57 @c60)
                                                                                                                                                                                  · refine lv_aload_n S.1 S.2.1 dX7_word_52 rfl (lv_at hl 3 rfl) ?_
                                                                                                                                                                                    refine lv_iload S.1 S.2.1 dX7_word_53 (lv_at hl 1 rfl) ?_
                                                                                                                                                                                    refine lv_iload S.1 S.2.1 dX7_word_55 (lv_at hl 0 rfl) ?_
                                                                                                                                                                                    refine cs_i (va_runV (As := [.int 59, .int 2]) (rest := []) S (x_X7_isWord l G mO mT mW _ mS mD mR mQ mC mU mV mn my mm mf mg tN (sk tN fT aN) 59 2 fT (htN) (hB) (by decide)) (cwV 2 S.2.2.2.2 gX7_word_X7_isWord rfl rfl rfl (by decide +kernel) ⟨Nat.le_of_ble_eq_true rfl, Nat.le_of_ble_eq_true rfl⟩) ⟨wPre_blind, va_recv C.1 w.1 (ci := 7) (q0 := 0) rfl rfl, wPre_at C w [0, 1, 2] rfl rfl⟩ rfl rfl hl.1 rfl (lv_room (Nat.le_of_ble_eq_true rfl)) dX7_word_57 ⟨Nat.le_of_ble_eq_true rfl, Nat.le_of_ble_eq_true rfl⟩) (fun r57_3 h57_3 => ?_)
                                                                                                                                                                                    refine lv_if_eq (tgt := 78) S.1 S.2.1 dX7_word_60 (by decide) (fun c60_3 => ?_) (fun c60_3 => ?_)
                                                                                                                                                                                    · exact J78 (by first | exact fun q => absurd c49_3 q | exact fun _ => or_not h57_3 c60_3)
                                                                                                                                                                                    · refine lv_aload_n S.1 S.2.1 dX7_word_63 rfl (lv_at hl 3 rfl) ?_
                                                                                                                                                                                      refine lv_dup S.1 S.2.1 dX7_word_64 rfl ?_
                                                                                                                                                                                      refine w_get S C w (CC := RX7) (T := TX7) (N := 16) (ref := "GateSumsModel") im_X7_word_X7 0 rfl rfl 5 (by decide) (List.mem_of_getElem? (i := 2) rfl) (fun _ h => h) rfl dX7_word_65 ?_
                                                                                                                                                                                      refine lv_iload S.1 S.2.1 dX7_word_68 (lv_at hl 0 rfl) ?_
                                                                                                                                                                                      refine lv_iadd S.1 S.2.1 dX7_word_70 ?_
                                                                                                                                                                                      refine w_topi (y := (nI ((sk tN fT aN) + 2))) (nI_add _ _) ?_
                                                                                                                                                                                      refine w_put S C w (CC := RX7) (T := TX7) (N := 16) (ref := "GateSumsModel") im_X7_word_X7 tyX7 tyX7_ok nmX7 0 rfl rfl 5 (by decide) (List.mem_of_getElem? (i := 2) rfl) (fun _ h => h) rfl (ws2 := [(mO, .inr (7, [.ref mS, .ref mD, .ref mR, .ref mT, .int (nI tN), .int (nI ((sk tN fT aN) + 2)), .int mn, .ref mW, .ref mQ, .ref mC, .int my, .ref mU, .ref mV, .int mm, .int mf, .int mg])), (mT, .inl (G.2.1 2, 120, .inl fT)), (mW, .inl (G.2.1 1, 73, .inl (wdF 73)))]) (rfl) (rfl) (Nat.le_of_ble_eq_true rfl) rfl dX7_word_71 (fun H locs w => ?_)
                                                                                                                                                                                      refine lv_iload_n S.1 S.2.1 dX7_word_74 rfl (lv_at hl 2 rfl) ?_
                                                                                                                                                                                      refine lv_iload_n S.1 S.2.1 dX7_word_75 rfl (lv_at hl 4 rfl) ?_
                                                                                                                                                                                      refine lv_isub S.1 S.2.1 dX7_word_76 ?_
                                                                                                                                                                                      exact W.iret (v := (12 - lo)) S.1 S.2.1 hr (fun t ht _ => ⟨⟨(12 - lo), ((sk tN fT aN) + 2), rfl, ⟨Or.inr ⟨12, by decide, c49_3, or_yes h57_3 c60_3, rfl, rfl⟩, mat_lt (j := 12) (by decide) (or_yes h57_3 c60_3).1⟩, by rw [ht]; exact w.1, w.2.1⟩, w.2.2.F ht⟩) w.2.2.2.2 dX7_word_77
                                                                                                                                                                              · exact absurd c34_61 (by decide)
                                                                                                                                                                      · refine lv_iload_n S.1 S.2.1 dX7_word_43 rfl (lv_at hl 2 rfl) ?_
                                                                                                                                                                        refine lv_iload_n S.1 S.2.1 dX7_word_44 rfl (lv_at hl 4 rfl) ?_
                                                                                                                                                                        refine lv_iload_n S.1 S.2.1 dX7_word_45 rfl (lv_at hl 5 rfl) ?_
                                                                                                                                                                        refine cs_i (va_runS (As := [.int 11, .int lo, .int hi]) (rest := []) S (c_X7_in l G _ 11 lo hi) (va_cwS 3 S.2.2.2.2 gX7_word_X7_in rfl rfl rfl (by decide +kernel) ⟨Nat.le_of_ble_eq_true rfl, Nat.le_of_ble_eq_true rfl⟩) ⟨wPre_blind, wPre_at C w [] rfl rfl⟩ rfl rfl hl.1 rfl (lv_room (Nat.le_of_ble_eq_true rfl)) dX7_word_46 ⟨Nat.le_of_ble_eq_true rfl, Nat.le_of_ble_eq_true rfl⟩) (fun r46_4 h46_4 => ?_)
                                                                                                                                                                        refine w_topi (y := (inF 11 lo hi)) h46_4 ?_
                                                                                                                                                                        refine lv_if_eq (tgt := 78) S.1 S.2.1 dX7_word_49 (by decide) (fun c49_4 => ?_) (fun c49_4 => ?_)
                                                                                                                                                                        · exact J78 (by first | exact fun q => absurd c49_4 q | exact fun _ => or_not @h57 @c60)
                                                                                                                                                                        · refine lv_aload_n S.1 S.2.1 dX7_word_52 rfl (lv_at hl 3 rfl) ?_
                                                                                                                                                                          refine lv_iload S.1 S.2.1 dX7_word_53 (lv_at hl 1 rfl) ?_
                                                                                                                                                                          refine lv_iload S.1 S.2.1 dX7_word_55 (lv_at hl 0 rfl) ?_
                                                                                                                                                                          refine cs_i (va_runV (As := [.int 52, .int 6]) (rest := []) S (x_X7_isWord l G mO mT mW _ mS mD mR mQ mC mU mV mn my mm mf mg tN (sk tN fT aN) 52 6 fT (htN) (hB) (by decide)) (cwV 2 S.2.2.2.2 gX7_word_X7_isWord rfl rfl rfl (by decide +kernel) ⟨Nat.le_of_ble_eq_true rfl, Nat.le_of_ble_eq_true rfl⟩) ⟨wPre_blind, va_recv C.1 w.1 (ci := 7) (q0 := 0) rfl rfl, wPre_at C w [0, 1, 2] rfl rfl⟩ rfl rfl hl.1 rfl (lv_room (Nat.le_of_ble_eq_true rfl)) dX7_word_57 ⟨Nat.le_of_ble_eq_true rfl, Nat.le_of_ble_eq_true rfl⟩) (fun r57_4 h57_4 => ?_)
                                                                                                                                                                          refine lv_if_eq (tgt := 78) S.1 S.2.1 dX7_word_60 (by decide) (fun c60_4 => ?_) (fun c60_4 => ?_)
                                                                                                                                                                          · exact J78 (by first | exact fun q => absurd c49_4 q | exact fun _ => or_not h57_4 c60_4)
                                                                                                                                                                          · refine lv_aload_n S.1 S.2.1 dX7_word_63 rfl (lv_at hl 3 rfl) ?_
                                                                                                                                                                            refine lv_dup S.1 S.2.1 dX7_word_64 rfl ?_
                                                                                                                                                                            refine w_get S C w (CC := RX7) (T := TX7) (N := 16) (ref := "GateSumsModel") im_X7_word_X7 0 rfl rfl 5 (by decide) (List.mem_of_getElem? (i := 2) rfl) (fun _ h => h) rfl dX7_word_65 ?_
                                                                                                                                                                            refine lv_iload S.1 S.2.1 dX7_word_68 (lv_at hl 0 rfl) ?_
                                                                                                                                                                            refine lv_iadd S.1 S.2.1 dX7_word_70 ?_
                                                                                                                                                                            refine w_topi (y := (nI ((sk tN fT aN) + 6))) (nI_add _ _) ?_
                                                                                                                                                                            refine w_put S C w (CC := RX7) (T := TX7) (N := 16) (ref := "GateSumsModel") im_X7_word_X7 tyX7 tyX7_ok nmX7 0 rfl rfl 5 (by decide) (List.mem_of_getElem? (i := 2) rfl) (fun _ h => h) rfl (ws2 := [(mO, .inr (7, [.ref mS, .ref mD, .ref mR, .ref mT, .int (nI tN), .int (nI ((sk tN fT aN) + 6)), .int mn, .ref mW, .ref mQ, .ref mC, .int my, .ref mU, .ref mV, .int mm, .int mf, .int mg])), (mT, .inl (G.2.1 2, 120, .inl fT)), (mW, .inl (G.2.1 1, 73, .inl (wdF 73)))]) (rfl) (rfl) (Nat.le_of_ble_eq_true rfl) rfl dX7_word_71 (fun H locs w => ?_)
                                                                                                                                                                            refine lv_iload_n S.1 S.2.1 dX7_word_74 rfl (lv_at hl 2 rfl) ?_
                                                                                                                                                                            refine lv_iload_n S.1 S.2.1 dX7_word_75 rfl (lv_at hl 4 rfl) ?_
                                                                                                                                                                            refine lv_isub S.1 S.2.1 dX7_word_76 ?_
                                                                                                                                                                            exact W.iret (v := (11 - lo)) S.1 S.2.1 hr (fun t ht _ => ⟨⟨(11 - lo), ((sk tN fT aN) + 6), rfl, ⟨Or.inr ⟨11, by decide, c49_4, or_yes h57_4 c60_4, rfl, rfl⟩, mat_lt (j := 11) (by decide) (or_yes h57_4 c60_4).1⟩, by rw [ht]; exact w.1, w.2.1⟩, w.2.2.F ht⟩) w.2.2.2.2 dX7_word_77
                                                                                                                                                                    · exact absurd c34_58 (by decide)
                                                                                                                                                    · refine lv_iload_n S.1 S.2.1 dX7_word_43 rfl (lv_at hl 2 rfl) ?_
                                                                                                                                                      refine lv_iload_n S.1 S.2.1 dX7_word_44 rfl (lv_at hl 4 rfl) ?_
                                                                                                                                                      refine lv_iload_n S.1 S.2.1 dX7_word_45 rfl (lv_at hl 5 rfl) ?_
                                                                                                                                                      refine cs_i (va_runS (As := [.int 10, .int lo, .int hi]) (rest := []) S (c_X7_in l G _ 10 lo hi) (va_cwS 3 S.2.2.2.2 gX7_word_X7_in rfl rfl rfl (by decide +kernel) ⟨Nat.le_of_ble_eq_true rfl, Nat.le_of_ble_eq_true rfl⟩) ⟨wPre_blind, wPre_at C w [] rfl rfl⟩ rfl rfl hl.1 rfl (lv_room (Nat.le_of_ble_eq_true rfl)) dX7_word_46 ⟨Nat.le_of_ble_eq_true rfl, Nat.le_of_ble_eq_true rfl⟩) (fun r46_5 h46_5 => ?_)
                                                                                                                                                      refine w_topi (y := (inF 10 lo hi)) h46_5 ?_
                                                                                                                                                      refine lv_if_eq (tgt := 78) S.1 S.2.1 dX7_word_49 (by decide) (fun c49_5 => ?_) (fun c49_5 => ?_)
                                                                                                                                                      · exact J78 (by first | exact fun q => absurd c49_5 q | exact fun _ => or_not @h57 @c60)
                                                                                                                                                      · refine lv_aload_n S.1 S.2.1 dX7_word_52 rfl (lv_at hl 3 rfl) ?_
                                                                                                                                                        refine lv_iload S.1 S.2.1 dX7_word_53 (lv_at hl 1 rfl) ?_
                                                                                                                                                        refine lv_iload S.1 S.2.1 dX7_word_55 (lv_at hl 0 rfl) ?_
                                                                                                                                                        refine cs_i (va_runV (As := [.int 45, .int 6]) (rest := []) S (x_X7_isWord l G mO mT mW _ mS mD mR mQ mC mU mV mn my mm mf mg tN (sk tN fT aN) 45 6 fT (htN) (hB) (by decide)) (cwV 2 S.2.2.2.2 gX7_word_X7_isWord rfl rfl rfl (by decide +kernel) ⟨Nat.le_of_ble_eq_true rfl, Nat.le_of_ble_eq_true rfl⟩) ⟨wPre_blind, va_recv C.1 w.1 (ci := 7) (q0 := 0) rfl rfl, wPre_at C w [0, 1, 2] rfl rfl⟩ rfl rfl hl.1 rfl (lv_room (Nat.le_of_ble_eq_true rfl)) dX7_word_57 ⟨Nat.le_of_ble_eq_true rfl, Nat.le_of_ble_eq_true rfl⟩) (fun r57_5 h57_5 => ?_)
                                                                                                                                                        refine lv_if_eq (tgt := 78) S.1 S.2.1 dX7_word_60 (by decide) (fun c60_5 => ?_) (fun c60_5 => ?_)
                                                                                                                                                        · exact J78 (by first | exact fun q => absurd c49_5 q | exact fun _ => or_not h57_5 c60_5)
                                                                                                                                                        · refine lv_aload_n S.1 S.2.1 dX7_word_63 rfl (lv_at hl 3 rfl) ?_
                                                                                                                                                          refine lv_dup S.1 S.2.1 dX7_word_64 rfl ?_
                                                                                                                                                          refine w_get S C w (CC := RX7) (T := TX7) (N := 16) (ref := "GateSumsModel") im_X7_word_X7 0 rfl rfl 5 (by decide) (List.mem_of_getElem? (i := 2) rfl) (fun _ h => h) rfl dX7_word_65 ?_
                                                                                                                                                          refine lv_iload S.1 S.2.1 dX7_word_68 (lv_at hl 0 rfl) ?_
                                                                                                                                                          refine lv_iadd S.1 S.2.1 dX7_word_70 ?_
                                                                                                                                                          refine w_topi (y := (nI ((sk tN fT aN) + 6))) (nI_add _ _) ?_
                                                                                                                                                          refine w_put S C w (CC := RX7) (T := TX7) (N := 16) (ref := "GateSumsModel") im_X7_word_X7 tyX7 tyX7_ok nmX7 0 rfl rfl 5 (by decide) (List.mem_of_getElem? (i := 2) rfl) (fun _ h => h) rfl (ws2 := [(mO, .inr (7, [.ref mS, .ref mD, .ref mR, .ref mT, .int (nI tN), .int (nI ((sk tN fT aN) + 6)), .int mn, .ref mW, .ref mQ, .ref mC, .int my, .ref mU, .ref mV, .int mm, .int mf, .int mg])), (mT, .inl (G.2.1 2, 120, .inl fT)), (mW, .inl (G.2.1 1, 73, .inl (wdF 73)))]) (rfl) (rfl) (Nat.le_of_ble_eq_true rfl) rfl dX7_word_71 (fun H locs w => ?_)
                                                                                                                                                          refine lv_iload_n S.1 S.2.1 dX7_word_74 rfl (lv_at hl 2 rfl) ?_
                                                                                                                                                          refine lv_iload_n S.1 S.2.1 dX7_word_75 rfl (lv_at hl 4 rfl) ?_
                                                                                                                                                          refine lv_isub S.1 S.2.1 dX7_word_76 ?_
                                                                                                                                                          exact W.iret (v := (10 - lo)) S.1 S.2.1 hr (fun t ht _ => ⟨⟨(10 - lo), ((sk tN fT aN) + 6), rfl, ⟨Or.inr ⟨10, by decide, c49_5, or_yes h57_5 c60_5, rfl, rfl⟩, mat_lt (j := 10) (by decide) (or_yes h57_5 c60_5).1⟩, by rw [ht]; exact w.1, w.2.1⟩, w.2.2.F ht⟩) w.2.2.2.2 dX7_word_77
                                                                                                                                                  · exact absurd c34_51 (by decide)
                                                                                                                                  · refine lv_iload_n S.1 S.2.1 dX7_word_43 rfl (lv_at hl 2 rfl) ?_
                                                                                                                                    refine lv_iload_n S.1 S.2.1 dX7_word_44 rfl (lv_at hl 4 rfl) ?_
                                                                                                                                    refine lv_iload_n S.1 S.2.1 dX7_word_45 rfl (lv_at hl 5 rfl) ?_
                                                                                                                                    refine cs_i (va_runS (As := [.int 9, .int lo, .int hi]) (rest := []) S (c_X7_in l G _ 9 lo hi) (va_cwS 3 S.2.2.2.2 gX7_word_X7_in rfl rfl rfl (by decide +kernel) ⟨Nat.le_of_ble_eq_true rfl, Nat.le_of_ble_eq_true rfl⟩) ⟨wPre_blind, wPre_at C w [] rfl rfl⟩ rfl rfl hl.1 rfl (lv_room (Nat.le_of_ble_eq_true rfl)) dX7_word_46 ⟨Nat.le_of_ble_eq_true rfl, Nat.le_of_ble_eq_true rfl⟩) (fun r46_6 h46_6 => ?_)
                                                                                                                                    refine w_topi (y := (inF 9 lo hi)) h46_6 ?_
                                                                                                                                    refine lv_if_eq (tgt := 78) S.1 S.2.1 dX7_word_49 (by decide) (fun c49_6 => ?_) (fun c49_6 => ?_)
                                                                                                                                    · exact J78 (by first | exact fun q => absurd c49_6 q | exact fun _ => or_not @h57 @c60)
                                                                                                                                    · refine lv_aload_n S.1 S.2.1 dX7_word_52 rfl (lv_at hl 3 rfl) ?_
                                                                                                                                      refine lv_iload S.1 S.2.1 dX7_word_53 (lv_at hl 1 rfl) ?_
                                                                                                                                      refine lv_iload S.1 S.2.1 dX7_word_55 (lv_at hl 0 rfl) ?_
                                                                                                                                      refine cs_i (va_runV (As := [.int 37, .int 7]) (rest := []) S (x_X7_isWord l G mO mT mW _ mS mD mR mQ mC mU mV mn my mm mf mg tN (sk tN fT aN) 37 7 fT (htN) (hB) (by decide)) (cwV 2 S.2.2.2.2 gX7_word_X7_isWord rfl rfl rfl (by decide +kernel) ⟨Nat.le_of_ble_eq_true rfl, Nat.le_of_ble_eq_true rfl⟩) ⟨wPre_blind, va_recv C.1 w.1 (ci := 7) (q0 := 0) rfl rfl, wPre_at C w [0, 1, 2] rfl rfl⟩ rfl rfl hl.1 rfl (lv_room (Nat.le_of_ble_eq_true rfl)) dX7_word_57 ⟨Nat.le_of_ble_eq_true rfl, Nat.le_of_ble_eq_true rfl⟩) (fun r57_6 h57_6 => ?_)
                                                                                                                                      refine lv_if_eq (tgt := 78) S.1 S.2.1 dX7_word_60 (by decide) (fun c60_6 => ?_) (fun c60_6 => ?_)
                                                                                                                                      · exact J78 (by first | exact fun q => absurd c49_6 q | exact fun _ => or_not h57_6 c60_6)
                                                                                                                                      · refine lv_aload_n S.1 S.2.1 dX7_word_63 rfl (lv_at hl 3 rfl) ?_
                                                                                                                                        refine lv_dup S.1 S.2.1 dX7_word_64 rfl ?_
                                                                                                                                        refine w_get S C w (CC := RX7) (T := TX7) (N := 16) (ref := "GateSumsModel") im_X7_word_X7 0 rfl rfl 5 (by decide) (List.mem_of_getElem? (i := 2) rfl) (fun _ h => h) rfl dX7_word_65 ?_
                                                                                                                                        refine lv_iload S.1 S.2.1 dX7_word_68 (lv_at hl 0 rfl) ?_
                                                                                                                                        refine lv_iadd S.1 S.2.1 dX7_word_70 ?_
                                                                                                                                        refine w_topi (y := (nI ((sk tN fT aN) + 7))) (nI_add _ _) ?_
                                                                                                                                        refine w_put S C w (CC := RX7) (T := TX7) (N := 16) (ref := "GateSumsModel") im_X7_word_X7 tyX7 tyX7_ok nmX7 0 rfl rfl 5 (by decide) (List.mem_of_getElem? (i := 2) rfl) (fun _ h => h) rfl (ws2 := [(mO, .inr (7, [.ref mS, .ref mD, .ref mR, .ref mT, .int (nI tN), .int (nI ((sk tN fT aN) + 7)), .int mn, .ref mW, .ref mQ, .ref mC, .int my, .ref mU, .ref mV, .int mm, .int mf, .int mg])), (mT, .inl (G.2.1 2, 120, .inl fT)), (mW, .inl (G.2.1 1, 73, .inl (wdF 73)))]) (rfl) (rfl) (Nat.le_of_ble_eq_true rfl) rfl dX7_word_71 (fun H locs w => ?_)
                                                                                                                                        refine lv_iload_n S.1 S.2.1 dX7_word_74 rfl (lv_at hl 2 rfl) ?_
                                                                                                                                        refine lv_iload_n S.1 S.2.1 dX7_word_75 rfl (lv_at hl 4 rfl) ?_
                                                                                                                                        refine lv_isub S.1 S.2.1 dX7_word_76 ?_
                                                                                                                                        exact W.iret (v := (9 - lo)) S.1 S.2.1 hr (fun t ht _ => ⟨⟨(9 - lo), ((sk tN fT aN) + 7), rfl, ⟨Or.inr ⟨9, by decide, c49_6, or_yes h57_6 c60_6, rfl, rfl⟩, mat_lt (j := 9) (by decide) (or_yes h57_6 c60_6).1⟩, by rw [ht]; exact w.1, w.2.1⟩, w.2.2.F ht⟩) w.2.2.2.2 dX7_word_77
                                                                                                                                · exact absurd c34_44 (by decide)
                                                                                                              · refine lv_iload_n S.1 S.2.1 dX7_word_43 rfl (lv_at hl 2 rfl) ?_
                                                                                                                refine lv_iload_n S.1 S.2.1 dX7_word_44 rfl (lv_at hl 4 rfl) ?_
                                                                                                                refine lv_iload_n S.1 S.2.1 dX7_word_45 rfl (lv_at hl 5 rfl) ?_
                                                                                                                refine cs_i (va_runS (As := [.int 8, .int lo, .int hi]) (rest := []) S (c_X7_in l G _ 8 lo hi) (va_cwS 3 S.2.2.2.2 gX7_word_X7_in rfl rfl rfl (by decide +kernel) ⟨Nat.le_of_ble_eq_true rfl, Nat.le_of_ble_eq_true rfl⟩) ⟨wPre_blind, wPre_at C w [] rfl rfl⟩ rfl rfl hl.1 rfl (lv_room (Nat.le_of_ble_eq_true rfl)) dX7_word_46 ⟨Nat.le_of_ble_eq_true rfl, Nat.le_of_ble_eq_true rfl⟩) (fun r46_7 h46_7 => ?_)
                                                                                                                refine w_topi (y := (inF 8 lo hi)) h46_7 ?_
                                                                                                                refine lv_if_eq (tgt := 78) S.1 S.2.1 dX7_word_49 (by decide) (fun c49_7 => ?_) (fun c49_7 => ?_)
                                                                                                                · exact J78 (by first | exact fun q => absurd c49_7 q | exact fun _ => or_not @h57 @c60)
                                                                                                                · refine lv_aload_n S.1 S.2.1 dX7_word_52 rfl (lv_at hl 3 rfl) ?_
                                                                                                                  refine lv_iload S.1 S.2.1 dX7_word_53 (lv_at hl 1 rfl) ?_
                                                                                                                  refine lv_iload S.1 S.2.1 dX7_word_55 (lv_at hl 0 rfl) ?_
                                                                                                                  refine cs_i (va_runV (As := [.int 33, .int 3]) (rest := []) S (x_X7_isWord l G mO mT mW _ mS mD mR mQ mC mU mV mn my mm mf mg tN (sk tN fT aN) 33 3 fT (htN) (hB) (by decide)) (cwV 2 S.2.2.2.2 gX7_word_X7_isWord rfl rfl rfl (by decide +kernel) ⟨Nat.le_of_ble_eq_true rfl, Nat.le_of_ble_eq_true rfl⟩) ⟨wPre_blind, va_recv C.1 w.1 (ci := 7) (q0 := 0) rfl rfl, wPre_at C w [0, 1, 2] rfl rfl⟩ rfl rfl hl.1 rfl (lv_room (Nat.le_of_ble_eq_true rfl)) dX7_word_57 ⟨Nat.le_of_ble_eq_true rfl, Nat.le_of_ble_eq_true rfl⟩) (fun r57_7 h57_7 => ?_)
                                                                                                                  refine lv_if_eq (tgt := 78) S.1 S.2.1 dX7_word_60 (by decide) (fun c60_7 => ?_) (fun c60_7 => ?_)
                                                                                                                  · exact J78 (by first | exact fun q => absurd c49_7 q | exact fun _ => or_not h57_7 c60_7)
                                                                                                                  · refine lv_aload_n S.1 S.2.1 dX7_word_63 rfl (lv_at hl 3 rfl) ?_
                                                                                                                    refine lv_dup S.1 S.2.1 dX7_word_64 rfl ?_
                                                                                                                    refine w_get S C w (CC := RX7) (T := TX7) (N := 16) (ref := "GateSumsModel") im_X7_word_X7 0 rfl rfl 5 (by decide) (List.mem_of_getElem? (i := 2) rfl) (fun _ h => h) rfl dX7_word_65 ?_
                                                                                                                    refine lv_iload S.1 S.2.1 dX7_word_68 (lv_at hl 0 rfl) ?_
                                                                                                                    refine lv_iadd S.1 S.2.1 dX7_word_70 ?_
                                                                                                                    refine w_topi (y := (nI ((sk tN fT aN) + 3))) (nI_add _ _) ?_
                                                                                                                    refine w_put S C w (CC := RX7) (T := TX7) (N := 16) (ref := "GateSumsModel") im_X7_word_X7 tyX7 tyX7_ok nmX7 0 rfl rfl 5 (by decide) (List.mem_of_getElem? (i := 2) rfl) (fun _ h => h) rfl (ws2 := [(mO, .inr (7, [.ref mS, .ref mD, .ref mR, .ref mT, .int (nI tN), .int (nI ((sk tN fT aN) + 3)), .int mn, .ref mW, .ref mQ, .ref mC, .int my, .ref mU, .ref mV, .int mm, .int mf, .int mg])), (mT, .inl (G.2.1 2, 120, .inl fT)), (mW, .inl (G.2.1 1, 73, .inl (wdF 73)))]) (rfl) (rfl) (Nat.le_of_ble_eq_true rfl) rfl dX7_word_71 (fun H locs w => ?_)
                                                                                                                    refine lv_iload_n S.1 S.2.1 dX7_word_74 rfl (lv_at hl 2 rfl) ?_
                                                                                                                    refine lv_iload_n S.1 S.2.1 dX7_word_75 rfl (lv_at hl 4 rfl) ?_
                                                                                                                    refine lv_isub S.1 S.2.1 dX7_word_76 ?_
                                                                                                                    exact W.iret (v := (8 - lo)) S.1 S.2.1 hr (fun t ht _ => ⟨⟨(8 - lo), ((sk tN fT aN) + 3), rfl, ⟨Or.inr ⟨8, by decide, c49_7, or_yes h57_7 c60_7, rfl, rfl⟩, mat_lt (j := 8) (by decide) (or_yes h57_7 c60_7).1⟩, by rw [ht]; exact w.1, w.2.1⟩, w.2.2.F ht⟩) w.2.2.2.2 dX7_word_77
                                                                                                            · exact absurd c34_36 (by decide)
                                                                                                  · refine lv_iload_n S.1 S.2.1 dX7_word_43 rfl (lv_at hl 2 rfl) ?_
                                                                                                    refine lv_iload_n S.1 S.2.1 dX7_word_44 rfl (lv_at hl 4 rfl) ?_
                                                                                                    refine lv_iload_n S.1 S.2.1 dX7_word_45 rfl (lv_at hl 5 rfl) ?_
                                                                                                    refine cs_i (va_runS (As := [.int 7, .int lo, .int hi]) (rest := []) S (c_X7_in l G _ 7 lo hi) (va_cwS 3 S.2.2.2.2 gX7_word_X7_in rfl rfl rfl (by decide +kernel) ⟨Nat.le_of_ble_eq_true rfl, Nat.le_of_ble_eq_true rfl⟩) ⟨wPre_blind, wPre_at C w [] rfl rfl⟩ rfl rfl hl.1 rfl (lv_room (Nat.le_of_ble_eq_true rfl)) dX7_word_46 ⟨Nat.le_of_ble_eq_true rfl, Nat.le_of_ble_eq_true rfl⟩) (fun r46_8 h46_8 => ?_)
                                                                                                    refine w_topi (y := (inF 7 lo hi)) h46_8 ?_
                                                                                                    refine lv_if_eq (tgt := 78) S.1 S.2.1 dX7_word_49 (by decide) (fun c49_8 => ?_) (fun c49_8 => ?_)
                                                                                                    · exact J78 (by first | exact fun q => absurd c49_8 q | exact fun _ => or_not @h57 @c60)
                                                                                                    · refine lv_aload_n S.1 S.2.1 dX7_word_52 rfl (lv_at hl 3 rfl) ?_
                                                                                                      refine lv_iload S.1 S.2.1 dX7_word_53 (lv_at hl 1 rfl) ?_
                                                                                                      refine lv_iload S.1 S.2.1 dX7_word_55 (lv_at hl 0 rfl) ?_
                                                                                                      refine cs_i (va_runV (As := [.int 29, .int 3]) (rest := []) S (x_X7_isWord l G mO mT mW _ mS mD mR mQ mC mU mV mn my mm mf mg tN (sk tN fT aN) 29 3 fT (htN) (hB) (by decide)) (cwV 2 S.2.2.2.2 gX7_word_X7_isWord rfl rfl rfl (by decide +kernel) ⟨Nat.le_of_ble_eq_true rfl, Nat.le_of_ble_eq_true rfl⟩) ⟨wPre_blind, va_recv C.1 w.1 (ci := 7) (q0 := 0) rfl rfl, wPre_at C w [0, 1, 2] rfl rfl⟩ rfl rfl hl.1 rfl (lv_room (Nat.le_of_ble_eq_true rfl)) dX7_word_57 ⟨Nat.le_of_ble_eq_true rfl, Nat.le_of_ble_eq_true rfl⟩) (fun r57_8 h57_8 => ?_)
                                                                                                      refine lv_if_eq (tgt := 78) S.1 S.2.1 dX7_word_60 (by decide) (fun c60_8 => ?_) (fun c60_8 => ?_)
                                                                                                      · exact J78 (by first | exact fun q => absurd c49_8 q | exact fun _ => or_not h57_8 c60_8)
                                                                                                      · refine lv_aload_n S.1 S.2.1 dX7_word_63 rfl (lv_at hl 3 rfl) ?_
                                                                                                        refine lv_dup S.1 S.2.1 dX7_word_64 rfl ?_
                                                                                                        refine w_get S C w (CC := RX7) (T := TX7) (N := 16) (ref := "GateSumsModel") im_X7_word_X7 0 rfl rfl 5 (by decide) (List.mem_of_getElem? (i := 2) rfl) (fun _ h => h) rfl dX7_word_65 ?_
                                                                                                        refine lv_iload S.1 S.2.1 dX7_word_68 (lv_at hl 0 rfl) ?_
                                                                                                        refine lv_iadd S.1 S.2.1 dX7_word_70 ?_
                                                                                                        refine w_topi (y := (nI ((sk tN fT aN) + 3))) (nI_add _ _) ?_
                                                                                                        refine w_put S C w (CC := RX7) (T := TX7) (N := 16) (ref := "GateSumsModel") im_X7_word_X7 tyX7 tyX7_ok nmX7 0 rfl rfl 5 (by decide) (List.mem_of_getElem? (i := 2) rfl) (fun _ h => h) rfl (ws2 := [(mO, .inr (7, [.ref mS, .ref mD, .ref mR, .ref mT, .int (nI tN), .int (nI ((sk tN fT aN) + 3)), .int mn, .ref mW, .ref mQ, .ref mC, .int my, .ref mU, .ref mV, .int mm, .int mf, .int mg])), (mT, .inl (G.2.1 2, 120, .inl fT)), (mW, .inl (G.2.1 1, 73, .inl (wdF 73)))]) (rfl) (rfl) (Nat.le_of_ble_eq_true rfl) rfl dX7_word_71 (fun H locs w => ?_)
                                                                                                        refine lv_iload_n S.1 S.2.1 dX7_word_74 rfl (lv_at hl 2 rfl) ?_
                                                                                                        refine lv_iload_n S.1 S.2.1 dX7_word_75 rfl (lv_at hl 4 rfl) ?_
                                                                                                        refine lv_isub S.1 S.2.1 dX7_word_76 ?_
                                                                                                        exact W.iret (v := (7 - lo)) S.1 S.2.1 hr (fun t ht _ => ⟨⟨(7 - lo), ((sk tN fT aN) + 3), rfl, ⟨Or.inr ⟨7, by decide, c49_8, or_yes h57_8 c60_8, rfl, rfl⟩, mat_lt (j := 7) (by decide) (or_yes h57_8 c60_8).1⟩, by rw [ht]; exact w.1, w.2.1⟩, w.2.2.F ht⟩) w.2.2.2.2 dX7_word_77
                                                                                                · exact absurd c34_32 (by decide)
                                                                                      · refine lv_iload_n S.1 S.2.1 dX7_word_43 rfl (lv_at hl 2 rfl) ?_
                                                                                        refine lv_iload_n S.1 S.2.1 dX7_word_44 rfl (lv_at hl 4 rfl) ?_
                                                                                        refine lv_iload_n S.1 S.2.1 dX7_word_45 rfl (lv_at hl 5 rfl) ?_
                                                                                        refine cs_i (va_runS (As := [.int 6, .int lo, .int hi]) (rest := []) S (c_X7_in l G _ 6 lo hi) (va_cwS 3 S.2.2.2.2 gX7_word_X7_in rfl rfl rfl (by decide +kernel) ⟨Nat.le_of_ble_eq_true rfl, Nat.le_of_ble_eq_true rfl⟩) ⟨wPre_blind, wPre_at C w [] rfl rfl⟩ rfl rfl hl.1 rfl (lv_room (Nat.le_of_ble_eq_true rfl)) dX7_word_46 ⟨Nat.le_of_ble_eq_true rfl, Nat.le_of_ble_eq_true rfl⟩) (fun r46_9 h46_9 => ?_)
                                                                                        refine w_topi (y := (inF 6 lo hi)) h46_9 ?_
                                                                                        refine lv_if_eq (tgt := 78) S.1 S.2.1 dX7_word_49 (by decide) (fun c49_9 => ?_) (fun c49_9 => ?_)
                                                                                        · exact J78 (by first | exact fun q => absurd c49_9 q | exact fun _ => or_not @h57 @c60)
                                                                                        · refine lv_aload_n S.1 S.2.1 dX7_word_52 rfl (lv_at hl 3 rfl) ?_
                                                                                          refine lv_iload S.1 S.2.1 dX7_word_53 (lv_at hl 1 rfl) ?_
                                                                                          refine lv_iload S.1 S.2.1 dX7_word_55 (lv_at hl 0 rfl) ?_
                                                                                          refine cs_i (va_runV (As := [.int 24, .int 4]) (rest := []) S (x_X7_isWord l G mO mT mW _ mS mD mR mQ mC mU mV mn my mm mf mg tN (sk tN fT aN) 24 4 fT (htN) (hB) (by decide)) (cwV 2 S.2.2.2.2 gX7_word_X7_isWord rfl rfl rfl (by decide +kernel) ⟨Nat.le_of_ble_eq_true rfl, Nat.le_of_ble_eq_true rfl⟩) ⟨wPre_blind, va_recv C.1 w.1 (ci := 7) (q0 := 0) rfl rfl, wPre_at C w [0, 1, 2] rfl rfl⟩ rfl rfl hl.1 rfl (lv_room (Nat.le_of_ble_eq_true rfl)) dX7_word_57 ⟨Nat.le_of_ble_eq_true rfl, Nat.le_of_ble_eq_true rfl⟩) (fun r57_9 h57_9 => ?_)
                                                                                          refine lv_if_eq (tgt := 78) S.1 S.2.1 dX7_word_60 (by decide) (fun c60_9 => ?_) (fun c60_9 => ?_)
                                                                                          · exact J78 (by first | exact fun q => absurd c49_9 q | exact fun _ => or_not h57_9 c60_9)
                                                                                          · refine lv_aload_n S.1 S.2.1 dX7_word_63 rfl (lv_at hl 3 rfl) ?_
                                                                                            refine lv_dup S.1 S.2.1 dX7_word_64 rfl ?_
                                                                                            refine w_get S C w (CC := RX7) (T := TX7) (N := 16) (ref := "GateSumsModel") im_X7_word_X7 0 rfl rfl 5 (by decide) (List.mem_of_getElem? (i := 2) rfl) (fun _ h => h) rfl dX7_word_65 ?_
                                                                                            refine lv_iload S.1 S.2.1 dX7_word_68 (lv_at hl 0 rfl) ?_
                                                                                            refine lv_iadd S.1 S.2.1 dX7_word_70 ?_
                                                                                            refine w_topi (y := (nI ((sk tN fT aN) + 4))) (nI_add _ _) ?_
                                                                                            refine w_put S C w (CC := RX7) (T := TX7) (N := 16) (ref := "GateSumsModel") im_X7_word_X7 tyX7 tyX7_ok nmX7 0 rfl rfl 5 (by decide) (List.mem_of_getElem? (i := 2) rfl) (fun _ h => h) rfl (ws2 := [(mO, .inr (7, [.ref mS, .ref mD, .ref mR, .ref mT, .int (nI tN), .int (nI ((sk tN fT aN) + 4)), .int mn, .ref mW, .ref mQ, .ref mC, .int my, .ref mU, .ref mV, .int mm, .int mf, .int mg])), (mT, .inl (G.2.1 2, 120, .inl fT)), (mW, .inl (G.2.1 1, 73, .inl (wdF 73)))]) (rfl) (rfl) (Nat.le_of_ble_eq_true rfl) rfl dX7_word_71 (fun H locs w => ?_)
                                                                                            refine lv_iload_n S.1 S.2.1 dX7_word_74 rfl (lv_at hl 2 rfl) ?_
                                                                                            refine lv_iload_n S.1 S.2.1 dX7_word_75 rfl (lv_at hl 4 rfl) ?_
                                                                                            refine lv_isub S.1 S.2.1 dX7_word_76 ?_
                                                                                            exact W.iret (v := (6 - lo)) S.1 S.2.1 hr (fun t ht _ => ⟨⟨(6 - lo), ((sk tN fT aN) + 4), rfl, ⟨Or.inr ⟨6, by decide, c49_9, or_yes h57_9 c60_9, rfl, rfl⟩, mat_lt (j := 6) (by decide) (or_yes h57_9 c60_9).1⟩, by rw [ht]; exact w.1, w.2.1⟩, w.2.2.F ht⟩) w.2.2.2.2 dX7_word_77
                                                                                    · exact absurd c34_28 (by decide)
                                                                        · refine lv_iload_n S.1 S.2.1 dX7_word_43 rfl (lv_at hl 2 rfl) ?_
                                                                          refine lv_iload_n S.1 S.2.1 dX7_word_44 rfl (lv_at hl 4 rfl) ?_
                                                                          refine lv_iload_n S.1 S.2.1 dX7_word_45 rfl (lv_at hl 5 rfl) ?_
                                                                          refine cs_i (va_runS (As := [.int 5, .int lo, .int hi]) (rest := []) S (c_X7_in l G _ 5 lo hi) (va_cwS 3 S.2.2.2.2 gX7_word_X7_in rfl rfl rfl (by decide +kernel) ⟨Nat.le_of_ble_eq_true rfl, Nat.le_of_ble_eq_true rfl⟩) ⟨wPre_blind, wPre_at C w [] rfl rfl⟩ rfl rfl hl.1 rfl (lv_room (Nat.le_of_ble_eq_true rfl)) dX7_word_46 ⟨Nat.le_of_ble_eq_true rfl, Nat.le_of_ble_eq_true rfl⟩) (fun r46_10 h46_10 => ?_)
                                                                          refine w_topi (y := (inF 5 lo hi)) h46_10 ?_
                                                                          refine lv_if_eq (tgt := 78) S.1 S.2.1 dX7_word_49 (by decide) (fun c49_10 => ?_) (fun c49_10 => ?_)
                                                                          · exact J78 (by first | exact fun q => absurd c49_10 q | exact fun _ => or_not @h57 @c60)
                                                                          · refine lv_aload_n S.1 S.2.1 dX7_word_52 rfl (lv_at hl 3 rfl) ?_
                                                                            refine lv_iload S.1 S.2.1 dX7_word_53 (lv_at hl 1 rfl) ?_
                                                                            refine lv_iload S.1 S.2.1 dX7_word_55 (lv_at hl 0 rfl) ?_
                                                                            refine cs_i (va_runV (As := [.int 20, .int 3]) (rest := []) S (x_X7_isWord l G mO mT mW _ mS mD mR mQ mC mU mV mn my mm mf mg tN (sk tN fT aN) 20 3 fT (htN) (hB) (by decide)) (cwV 2 S.2.2.2.2 gX7_word_X7_isWord rfl rfl rfl (by decide +kernel) ⟨Nat.le_of_ble_eq_true rfl, Nat.le_of_ble_eq_true rfl⟩) ⟨wPre_blind, va_recv C.1 w.1 (ci := 7) (q0 := 0) rfl rfl, wPre_at C w [0, 1, 2] rfl rfl⟩ rfl rfl hl.1 rfl (lv_room (Nat.le_of_ble_eq_true rfl)) dX7_word_57 ⟨Nat.le_of_ble_eq_true rfl, Nat.le_of_ble_eq_true rfl⟩) (fun r57_10 h57_10 => ?_)
                                                                            refine lv_if_eq (tgt := 78) S.1 S.2.1 dX7_word_60 (by decide) (fun c60_10 => ?_) (fun c60_10 => ?_)
                                                                            · exact J78 (by first | exact fun q => absurd c49_10 q | exact fun _ => or_not h57_10 c60_10)
                                                                            · refine lv_aload_n S.1 S.2.1 dX7_word_63 rfl (lv_at hl 3 rfl) ?_
                                                                              refine lv_dup S.1 S.2.1 dX7_word_64 rfl ?_
                                                                              refine w_get S C w (CC := RX7) (T := TX7) (N := 16) (ref := "GateSumsModel") im_X7_word_X7 0 rfl rfl 5 (by decide) (List.mem_of_getElem? (i := 2) rfl) (fun _ h => h) rfl dX7_word_65 ?_
                                                                              refine lv_iload S.1 S.2.1 dX7_word_68 (lv_at hl 0 rfl) ?_
                                                                              refine lv_iadd S.1 S.2.1 dX7_word_70 ?_
                                                                              refine w_topi (y := (nI ((sk tN fT aN) + 3))) (nI_add _ _) ?_
                                                                              refine w_put S C w (CC := RX7) (T := TX7) (N := 16) (ref := "GateSumsModel") im_X7_word_X7 tyX7 tyX7_ok nmX7 0 rfl rfl 5 (by decide) (List.mem_of_getElem? (i := 2) rfl) (fun _ h => h) rfl (ws2 := [(mO, .inr (7, [.ref mS, .ref mD, .ref mR, .ref mT, .int (nI tN), .int (nI ((sk tN fT aN) + 3)), .int mn, .ref mW, .ref mQ, .ref mC, .int my, .ref mU, .ref mV, .int mm, .int mf, .int mg])), (mT, .inl (G.2.1 2, 120, .inl fT)), (mW, .inl (G.2.1 1, 73, .inl (wdF 73)))]) (rfl) (rfl) (Nat.le_of_ble_eq_true rfl) rfl dX7_word_71 (fun H locs w => ?_)
                                                                              refine lv_iload_n S.1 S.2.1 dX7_word_74 rfl (lv_at hl 2 rfl) ?_
                                                                              refine lv_iload_n S.1 S.2.1 dX7_word_75 rfl (lv_at hl 4 rfl) ?_
                                                                              refine lv_isub S.1 S.2.1 dX7_word_76 ?_
                                                                              exact W.iret (v := (5 - lo)) S.1 S.2.1 hr (fun t ht _ => ⟨⟨(5 - lo), ((sk tN fT aN) + 3), rfl, ⟨Or.inr ⟨5, by decide, c49_10, or_yes h57_10 c60_10, rfl, rfl⟩, mat_lt (j := 5) (by decide) (or_yes h57_10 c60_10).1⟩, by rw [ht]; exact w.1, w.2.1⟩, w.2.2.F ht⟩) w.2.2.2.2 dX7_word_77
                                                                      · exact absurd c34_23 (by decide)
                                                            · refine lv_iload_n S.1 S.2.1 dX7_word_43 rfl (lv_at hl 2 rfl) ?_
                                                              refine lv_iload_n S.1 S.2.1 dX7_word_44 rfl (lv_at hl 4 rfl) ?_
                                                              refine lv_iload_n S.1 S.2.1 dX7_word_45 rfl (lv_at hl 5 rfl) ?_
                                                              refine cs_i (va_runS (As := [.int 4, .int lo, .int hi]) (rest := []) S (c_X7_in l G _ 4 lo hi) (va_cwS 3 S.2.2.2.2 gX7_word_X7_in rfl rfl rfl (by decide +kernel) ⟨Nat.le_of_ble_eq_true rfl, Nat.le_of_ble_eq_true rfl⟩) ⟨wPre_blind, wPre_at C w [] rfl rfl⟩ rfl rfl hl.1 rfl (lv_room (Nat.le_of_ble_eq_true rfl)) dX7_word_46 ⟨Nat.le_of_ble_eq_true rfl, Nat.le_of_ble_eq_true rfl⟩) (fun r46_11 h46_11 => ?_)
                                                              refine w_topi (y := (inF 4 lo hi)) h46_11 ?_
                                                              refine lv_if_eq (tgt := 78) S.1 S.2.1 dX7_word_49 (by decide) (fun c49_11 => ?_) (fun c49_11 => ?_)
                                                              · exact J78 (by first | exact fun q => absurd c49_11 q | exact fun _ => or_not @h57 @c60)
                                                              · refine lv_aload_n S.1 S.2.1 dX7_word_52 rfl (lv_at hl 3 rfl) ?_
                                                                refine lv_iload S.1 S.2.1 dX7_word_53 (lv_at hl 1 rfl) ?_
                                                                refine lv_iload S.1 S.2.1 dX7_word_55 (lv_at hl 0 rfl) ?_
                                                                refine cs_i (va_runV (As := [.int 15, .int 4]) (rest := []) S (x_X7_isWord l G mO mT mW _ mS mD mR mQ mC mU mV mn my mm mf mg tN (sk tN fT aN) 15 4 fT (htN) (hB) (by decide)) (cwV 2 S.2.2.2.2 gX7_word_X7_isWord rfl rfl rfl (by decide +kernel) ⟨Nat.le_of_ble_eq_true rfl, Nat.le_of_ble_eq_true rfl⟩) ⟨wPre_blind, va_recv C.1 w.1 (ci := 7) (q0 := 0) rfl rfl, wPre_at C w [0, 1, 2] rfl rfl⟩ rfl rfl hl.1 rfl (lv_room (Nat.le_of_ble_eq_true rfl)) dX7_word_57 ⟨Nat.le_of_ble_eq_true rfl, Nat.le_of_ble_eq_true rfl⟩) (fun r57_11 h57_11 => ?_)
                                                                refine lv_if_eq (tgt := 78) S.1 S.2.1 dX7_word_60 (by decide) (fun c60_11 => ?_) (fun c60_11 => ?_)
                                                                · exact J78 (by first | exact fun q => absurd c49_11 q | exact fun _ => or_not h57_11 c60_11)
                                                                · refine lv_aload_n S.1 S.2.1 dX7_word_63 rfl (lv_at hl 3 rfl) ?_
                                                                  refine lv_dup S.1 S.2.1 dX7_word_64 rfl ?_
                                                                  refine w_get S C w (CC := RX7) (T := TX7) (N := 16) (ref := "GateSumsModel") im_X7_word_X7 0 rfl rfl 5 (by decide) (List.mem_of_getElem? (i := 2) rfl) (fun _ h => h) rfl dX7_word_65 ?_
                                                                  refine lv_iload S.1 S.2.1 dX7_word_68 (lv_at hl 0 rfl) ?_
                                                                  refine lv_iadd S.1 S.2.1 dX7_word_70 ?_
                                                                  refine w_topi (y := (nI ((sk tN fT aN) + 4))) (nI_add _ _) ?_
                                                                  refine w_put S C w (CC := RX7) (T := TX7) (N := 16) (ref := "GateSumsModel") im_X7_word_X7 tyX7 tyX7_ok nmX7 0 rfl rfl 5 (by decide) (List.mem_of_getElem? (i := 2) rfl) (fun _ h => h) rfl (ws2 := [(mO, .inr (7, [.ref mS, .ref mD, .ref mR, .ref mT, .int (nI tN), .int (nI ((sk tN fT aN) + 4)), .int mn, .ref mW, .ref mQ, .ref mC, .int my, .ref mU, .ref mV, .int mm, .int mf, .int mg])), (mT, .inl (G.2.1 2, 120, .inl fT)), (mW, .inl (G.2.1 1, 73, .inl (wdF 73)))]) (rfl) (rfl) (Nat.le_of_ble_eq_true rfl) rfl dX7_word_71 (fun H locs w => ?_)
                                                                  refine lv_iload_n S.1 S.2.1 dX7_word_74 rfl (lv_at hl 2 rfl) ?_
                                                                  refine lv_iload_n S.1 S.2.1 dX7_word_75 rfl (lv_at hl 4 rfl) ?_
                                                                  refine lv_isub S.1 S.2.1 dX7_word_76 ?_
                                                                  exact W.iret (v := (4 - lo)) S.1 S.2.1 hr (fun t ht _ => ⟨⟨(4 - lo), ((sk tN fT aN) + 4), rfl, ⟨Or.inr ⟨4, by decide, c49_11, or_yes h57_11 c60_11, rfl, rfl⟩, mat_lt (j := 4) (by decide) (or_yes h57_11 c60_11).1⟩, by rw [ht]; exact w.1, w.2.1⟩, w.2.2.F ht⟩) w.2.2.2.2 dX7_word_77
                                                          · exact absurd c34_19 (by decide)
                                              · refine lv_iload_n S.1 S.2.1 dX7_word_43 rfl (lv_at hl 2 rfl) ?_
                                                refine lv_iload_n S.1 S.2.1 dX7_word_44 rfl (lv_at hl 4 rfl) ?_
                                                refine lv_iload_n S.1 S.2.1 dX7_word_45 rfl (lv_at hl 5 rfl) ?_
                                                refine cs_i (va_runS (As := [.int 3, .int lo, .int hi]) (rest := []) S (c_X7_in l G _ 3 lo hi) (va_cwS 3 S.2.2.2.2 gX7_word_X7_in rfl rfl rfl (by decide +kernel) ⟨Nat.le_of_ble_eq_true rfl, Nat.le_of_ble_eq_true rfl⟩) ⟨wPre_blind, wPre_at C w [] rfl rfl⟩ rfl rfl hl.1 rfl (lv_room (Nat.le_of_ble_eq_true rfl)) dX7_word_46 ⟨Nat.le_of_ble_eq_true rfl, Nat.le_of_ble_eq_true rfl⟩) (fun r46_12 h46_12 => ?_)
                                                refine w_topi (y := (inF 3 lo hi)) h46_12 ?_
                                                refine lv_if_eq (tgt := 78) S.1 S.2.1 dX7_word_49 (by decide) (fun c49_12 => ?_) (fun c49_12 => ?_)
                                                · exact J78 (by first | exact fun q => absurd c49_12 q | exact fun _ => or_not @h57 @c60)
                                                · refine lv_aload_n S.1 S.2.1 dX7_word_52 rfl (lv_at hl 3 rfl) ?_
                                                  refine lv_iload S.1 S.2.1 dX7_word_53 (lv_at hl 1 rfl) ?_
                                                  refine lv_iload S.1 S.2.1 dX7_word_55 (lv_at hl 0 rfl) ?_
                                                  refine cs_i (va_runV (As := [.int 11, .int 3]) (rest := []) S (x_X7_isWord l G mO mT mW _ mS mD mR mQ mC mU mV mn my mm mf mg tN (sk tN fT aN) 11 3 fT (htN) (hB) (by decide)) (cwV 2 S.2.2.2.2 gX7_word_X7_isWord rfl rfl rfl (by decide +kernel) ⟨Nat.le_of_ble_eq_true rfl, Nat.le_of_ble_eq_true rfl⟩) ⟨wPre_blind, va_recv C.1 w.1 (ci := 7) (q0 := 0) rfl rfl, wPre_at C w [0, 1, 2] rfl rfl⟩ rfl rfl hl.1 rfl (lv_room (Nat.le_of_ble_eq_true rfl)) dX7_word_57 ⟨Nat.le_of_ble_eq_true rfl, Nat.le_of_ble_eq_true rfl⟩) (fun r57_12 h57_12 => ?_)
                                                  refine lv_if_eq (tgt := 78) S.1 S.2.1 dX7_word_60 (by decide) (fun c60_12 => ?_) (fun c60_12 => ?_)
                                                  · exact J78 (by first | exact fun q => absurd c49_12 q | exact fun _ => or_not h57_12 c60_12)
                                                  · refine lv_aload_n S.1 S.2.1 dX7_word_63 rfl (lv_at hl 3 rfl) ?_
                                                    refine lv_dup S.1 S.2.1 dX7_word_64 rfl ?_
                                                    refine w_get S C w (CC := RX7) (T := TX7) (N := 16) (ref := "GateSumsModel") im_X7_word_X7 0 rfl rfl 5 (by decide) (List.mem_of_getElem? (i := 2) rfl) (fun _ h => h) rfl dX7_word_65 ?_
                                                    refine lv_iload S.1 S.2.1 dX7_word_68 (lv_at hl 0 rfl) ?_
                                                    refine lv_iadd S.1 S.2.1 dX7_word_70 ?_
                                                    refine w_topi (y := (nI ((sk tN fT aN) + 3))) (nI_add _ _) ?_
                                                    refine w_put S C w (CC := RX7) (T := TX7) (N := 16) (ref := "GateSumsModel") im_X7_word_X7 tyX7 tyX7_ok nmX7 0 rfl rfl 5 (by decide) (List.mem_of_getElem? (i := 2) rfl) (fun _ h => h) rfl (ws2 := [(mO, .inr (7, [.ref mS, .ref mD, .ref mR, .ref mT, .int (nI tN), .int (nI ((sk tN fT aN) + 3)), .int mn, .ref mW, .ref mQ, .ref mC, .int my, .ref mU, .ref mV, .int mm, .int mf, .int mg])), (mT, .inl (G.2.1 2, 120, .inl fT)), (mW, .inl (G.2.1 1, 73, .inl (wdF 73)))]) (rfl) (rfl) (Nat.le_of_ble_eq_true rfl) rfl dX7_word_71 (fun H locs w => ?_)
                                                    refine lv_iload_n S.1 S.2.1 dX7_word_74 rfl (lv_at hl 2 rfl) ?_
                                                    refine lv_iload_n S.1 S.2.1 dX7_word_75 rfl (lv_at hl 4 rfl) ?_
                                                    refine lv_isub S.1 S.2.1 dX7_word_76 ?_
                                                    exact W.iret (v := (3 - lo)) S.1 S.2.1 hr (fun t ht _ => ⟨⟨(3 - lo), ((sk tN fT aN) + 3), rfl, ⟨Or.inr ⟨3, by decide, c49_12, or_yes h57_12 c60_12, rfl, rfl⟩, mat_lt (j := 3) (by decide) (or_yes h57_12 c60_12).1⟩, by rw [ht]; exact w.1, w.2.1⟩, w.2.2.F ht⟩) w.2.2.2.2 dX7_word_77
                                            · exact absurd c34_14 (by decide)
                                  · refine lv_iload_n S.1 S.2.1 dX7_word_43 rfl (lv_at hl 2 rfl) ?_
                                    refine lv_iload_n S.1 S.2.1 dX7_word_44 rfl (lv_at hl 4 rfl) ?_
                                    refine lv_iload_n S.1 S.2.1 dX7_word_45 rfl (lv_at hl 5 rfl) ?_
                                    refine cs_i (va_runS (As := [.int 2, .int lo, .int hi]) (rest := []) S (c_X7_in l G _ 2 lo hi) (va_cwS 3 S.2.2.2.2 gX7_word_X7_in rfl rfl rfl (by decide +kernel) ⟨Nat.le_of_ble_eq_true rfl, Nat.le_of_ble_eq_true rfl⟩) ⟨wPre_blind, wPre_at C w [] rfl rfl⟩ rfl rfl hl.1 rfl (lv_room (Nat.le_of_ble_eq_true rfl)) dX7_word_46 ⟨Nat.le_of_ble_eq_true rfl, Nat.le_of_ble_eq_true rfl⟩) (fun r46_13 h46_13 => ?_)
                                    refine w_topi (y := (inF 2 lo hi)) h46_13 ?_
                                    refine lv_if_eq (tgt := 78) S.1 S.2.1 dX7_word_49 (by decide) (fun c49_13 => ?_) (fun c49_13 => ?_)
                                    · exact J78 (by first | exact fun q => absurd c49_13 q | exact fun _ => or_not @h57 @c60)
                                    · refine lv_aload_n S.1 S.2.1 dX7_word_52 rfl (lv_at hl 3 rfl) ?_
                                      refine lv_iload S.1 S.2.1 dX7_word_53 (lv_at hl 1 rfl) ?_
                                      refine lv_iload S.1 S.2.1 dX7_word_55 (lv_at hl 0 rfl) ?_
                                      refine cs_i (va_runV (As := [.int 8, .int 2]) (rest := []) S (x_X7_isWord l G mO mT mW _ mS mD mR mQ mC mU mV mn my mm mf mg tN (sk tN fT aN) 8 2 fT (htN) (hB) (by decide)) (cwV 2 S.2.2.2.2 gX7_word_X7_isWord rfl rfl rfl (by decide +kernel) ⟨Nat.le_of_ble_eq_true rfl, Nat.le_of_ble_eq_true rfl⟩) ⟨wPre_blind, va_recv C.1 w.1 (ci := 7) (q0 := 0) rfl rfl, wPre_at C w [0, 1, 2] rfl rfl⟩ rfl rfl hl.1 rfl (lv_room (Nat.le_of_ble_eq_true rfl)) dX7_word_57 ⟨Nat.le_of_ble_eq_true rfl, Nat.le_of_ble_eq_true rfl⟩) (fun r57_13 h57_13 => ?_)
                                      refine lv_if_eq (tgt := 78) S.1 S.2.1 dX7_word_60 (by decide) (fun c60_13 => ?_) (fun c60_13 => ?_)
                                      · exact J78 (by first | exact fun q => absurd c49_13 q | exact fun _ => or_not h57_13 c60_13)
                                      · refine lv_aload_n S.1 S.2.1 dX7_word_63 rfl (lv_at hl 3 rfl) ?_
                                        refine lv_dup S.1 S.2.1 dX7_word_64 rfl ?_
                                        refine w_get S C w (CC := RX7) (T := TX7) (N := 16) (ref := "GateSumsModel") im_X7_word_X7 0 rfl rfl 5 (by decide) (List.mem_of_getElem? (i := 2) rfl) (fun _ h => h) rfl dX7_word_65 ?_
                                        refine lv_iload S.1 S.2.1 dX7_word_68 (lv_at hl 0 rfl) ?_
                                        refine lv_iadd S.1 S.2.1 dX7_word_70 ?_
                                        refine w_topi (y := (nI ((sk tN fT aN) + 2))) (nI_add _ _) ?_
                                        refine w_put S C w (CC := RX7) (T := TX7) (N := 16) (ref := "GateSumsModel") im_X7_word_X7 tyX7 tyX7_ok nmX7 0 rfl rfl 5 (by decide) (List.mem_of_getElem? (i := 2) rfl) (fun _ h => h) rfl (ws2 := [(mO, .inr (7, [.ref mS, .ref mD, .ref mR, .ref mT, .int (nI tN), .int (nI ((sk tN fT aN) + 2)), .int mn, .ref mW, .ref mQ, .ref mC, .int my, .ref mU, .ref mV, .int mm, .int mf, .int mg])), (mT, .inl (G.2.1 2, 120, .inl fT)), (mW, .inl (G.2.1 1, 73, .inl (wdF 73)))]) (rfl) (rfl) (Nat.le_of_ble_eq_true rfl) rfl dX7_word_71 (fun H locs w => ?_)
                                        refine lv_iload_n S.1 S.2.1 dX7_word_74 rfl (lv_at hl 2 rfl) ?_
                                        refine lv_iload_n S.1 S.2.1 dX7_word_75 rfl (lv_at hl 4 rfl) ?_
                                        refine lv_isub S.1 S.2.1 dX7_word_76 ?_
                                        exact W.iret (v := (2 - lo)) S.1 S.2.1 hr (fun t ht _ => ⟨⟨(2 - lo), ((sk tN fT aN) + 2), rfl, ⟨Or.inr ⟨2, by decide, c49_13, or_yes h57_13 c60_13, rfl, rfl⟩, mat_lt (j := 2) (by decide) (or_yes h57_13 c60_13).1⟩, by rw [ht]; exact w.1, w.2.1⟩, w.2.2.F ht⟩) w.2.2.2.2 dX7_word_77
                                · exact absurd c34_10 (by decide)
                        · refine lv_iload_n S.1 S.2.1 dX7_word_43 rfl (lv_at hl 2 rfl) ?_
                          refine lv_iload_n S.1 S.2.1 dX7_word_44 rfl (lv_at hl 4 rfl) ?_
                          refine lv_iload_n S.1 S.2.1 dX7_word_45 rfl (lv_at hl 5 rfl) ?_
                          refine cs_i (va_runS (As := [.int 1, .int lo, .int hi]) (rest := []) S (c_X7_in l G _ 1 lo hi) (va_cwS 3 S.2.2.2.2 gX7_word_X7_in rfl rfl rfl (by decide +kernel) ⟨Nat.le_of_ble_eq_true rfl, Nat.le_of_ble_eq_true rfl⟩) ⟨wPre_blind, wPre_at C w [] rfl rfl⟩ rfl rfl hl.1 rfl (lv_room (Nat.le_of_ble_eq_true rfl)) dX7_word_46 ⟨Nat.le_of_ble_eq_true rfl, Nat.le_of_ble_eq_true rfl⟩) (fun r46_14 h46_14 => ?_)
                          refine w_topi (y := (inF 1 lo hi)) h46_14 ?_
                          refine lv_if_eq (tgt := 78) S.1 S.2.1 dX7_word_49 (by decide) (fun c49_14 => ?_) (fun c49_14 => ?_)
                          · exact J78 (by first | exact fun q => absurd c49_14 q | exact fun _ => or_not @h57 @c60)
                          · refine lv_aload_n S.1 S.2.1 dX7_word_52 rfl (lv_at hl 3 rfl) ?_
                            refine lv_iload S.1 S.2.1 dX7_word_53 (lv_at hl 1 rfl) ?_
                            refine lv_iload S.1 S.2.1 dX7_word_55 (lv_at hl 0 rfl) ?_
                            refine cs_i (va_runV (As := [.int 4, .int 3]) (rest := []) S (x_X7_isWord l G mO mT mW _ mS mD mR mQ mC mU mV mn my mm mf mg tN (sk tN fT aN) 4 3 fT (htN) (hB) (by decide)) (cwV 2 S.2.2.2.2 gX7_word_X7_isWord rfl rfl rfl (by decide +kernel) ⟨Nat.le_of_ble_eq_true rfl, Nat.le_of_ble_eq_true rfl⟩) ⟨wPre_blind, va_recv C.1 w.1 (ci := 7) (q0 := 0) rfl rfl, wPre_at C w [0, 1, 2] rfl rfl⟩ rfl rfl hl.1 rfl (lv_room (Nat.le_of_ble_eq_true rfl)) dX7_word_57 ⟨Nat.le_of_ble_eq_true rfl, Nat.le_of_ble_eq_true rfl⟩) (fun r57_14 h57_14 => ?_)
                            refine lv_if_eq (tgt := 78) S.1 S.2.1 dX7_word_60 (by decide) (fun c60_14 => ?_) (fun c60_14 => ?_)
                            · exact J78 (by first | exact fun q => absurd c49_14 q | exact fun _ => or_not h57_14 c60_14)
                            · refine lv_aload_n S.1 S.2.1 dX7_word_63 rfl (lv_at hl 3 rfl) ?_
                              refine lv_dup S.1 S.2.1 dX7_word_64 rfl ?_
                              refine w_get S C w (CC := RX7) (T := TX7) (N := 16) (ref := "GateSumsModel") im_X7_word_X7 0 rfl rfl 5 (by decide) (List.mem_of_getElem? (i := 2) rfl) (fun _ h => h) rfl dX7_word_65 ?_
                              refine lv_iload S.1 S.2.1 dX7_word_68 (lv_at hl 0 rfl) ?_
                              refine lv_iadd S.1 S.2.1 dX7_word_70 ?_
                              refine w_topi (y := (nI ((sk tN fT aN) + 3))) (nI_add _ _) ?_
                              refine w_put S C w (CC := RX7) (T := TX7) (N := 16) (ref := "GateSumsModel") im_X7_word_X7 tyX7 tyX7_ok nmX7 0 rfl rfl 5 (by decide) (List.mem_of_getElem? (i := 2) rfl) (fun _ h => h) rfl (ws2 := [(mO, .inr (7, [.ref mS, .ref mD, .ref mR, .ref mT, .int (nI tN), .int (nI ((sk tN fT aN) + 3)), .int mn, .ref mW, .ref mQ, .ref mC, .int my, .ref mU, .ref mV, .int mm, .int mf, .int mg])), (mT, .inl (G.2.1 2, 120, .inl fT)), (mW, .inl (G.2.1 1, 73, .inl (wdF 73)))]) (rfl) (rfl) (Nat.le_of_ble_eq_true rfl) rfl dX7_word_71 (fun H locs w => ?_)
                              refine lv_iload_n S.1 S.2.1 dX7_word_74 rfl (lv_at hl 2 rfl) ?_
                              refine lv_iload_n S.1 S.2.1 dX7_word_75 rfl (lv_at hl 4 rfl) ?_
                              refine lv_isub S.1 S.2.1 dX7_word_76 ?_
                              exact W.iret (v := (1 - lo)) S.1 S.2.1 hr (fun t ht _ => ⟨⟨(1 - lo), ((sk tN fT aN) + 3), rfl, ⟨Or.inr ⟨1, by decide, c49_14, or_yes h57_14 c60_14, rfl, rfl⟩, mat_lt (j := 1) (by decide) (or_yes h57_14 c60_14).1⟩, by rw [ht]; exact w.1, w.2.1⟩, w.2.2.F ht⟩) w.2.2.2.2 dX7_word_77
                      · exact absurd c34_7 (by decide)
            · refine lv_iload_n S.1 S.2.1 dX7_word_43 rfl (lv_at hl 2 rfl) ?_
              refine lv_iload_n S.1 S.2.1 dX7_word_44 rfl (lv_at hl 4 rfl) ?_
              refine lv_iload_n S.1 S.2.1 dX7_word_45 rfl (lv_at hl 5 rfl) ?_
              refine cs_i (va_runS (As := [.int 0, .int lo, .int hi]) (rest := []) S (c_X7_in l G _ 0 lo hi) (va_cwS 3 S.2.2.2.2 gX7_word_X7_in rfl rfl rfl (by decide +kernel) ⟨Nat.le_of_ble_eq_true rfl, Nat.le_of_ble_eq_true rfl⟩) ⟨wPre_blind, wPre_at C w [] rfl rfl⟩ rfl rfl hl.1 rfl (lv_room (Nat.le_of_ble_eq_true rfl)) dX7_word_46 ⟨Nat.le_of_ble_eq_true rfl, Nat.le_of_ble_eq_true rfl⟩) (fun r46_15 h46_15 => ?_)
              refine w_topi (y := (inF 0 lo hi)) h46_15 ?_
              refine lv_if_eq (tgt := 78) S.1 S.2.1 dX7_word_49 (by decide) (fun c49_15 => ?_) (fun c49_15 => ?_)
              · exact J78 (by first | exact fun q => absurd c49_15 q | exact fun _ => or_not @h57 @c60)
              · refine lv_aload_n S.1 S.2.1 dX7_word_52 rfl (lv_at hl 3 rfl) ?_
                refine lv_iload S.1 S.2.1 dX7_word_53 (lv_at hl 1 rfl) ?_
                refine lv_iload S.1 S.2.1 dX7_word_55 (lv_at hl 0 rfl) ?_
                refine cs_i (va_runV (As := [.int 0, .int 3]) (rest := []) S (x_X7_isWord l G mO mT mW _ mS mD mR mQ mC mU mV mn my mm mf mg tN (sk tN fT aN) 0 3 fT (htN) (hB) (by decide)) (cwV 2 S.2.2.2.2 gX7_word_X7_isWord rfl rfl rfl (by decide +kernel) ⟨Nat.le_of_ble_eq_true rfl, Nat.le_of_ble_eq_true rfl⟩) ⟨wPre_blind, va_recv C.1 w.1 (ci := 7) (q0 := 0) rfl rfl, wPre_at C w [0, 1, 2] rfl rfl⟩ rfl rfl hl.1 rfl (lv_room (Nat.le_of_ble_eq_true rfl)) dX7_word_57 ⟨Nat.le_of_ble_eq_true rfl, Nat.le_of_ble_eq_true rfl⟩) (fun r57_15 h57_15 => ?_)
                refine lv_if_eq (tgt := 78) S.1 S.2.1 dX7_word_60 (by decide) (fun c60_15 => ?_) (fun c60_15 => ?_)
                · exact J78 (by first | exact fun q => absurd c49_15 q | exact fun _ => or_not h57_15 c60_15)
                · refine lv_aload_n S.1 S.2.1 dX7_word_63 rfl (lv_at hl 3 rfl) ?_
                  refine lv_dup S.1 S.2.1 dX7_word_64 rfl ?_
                  refine w_get S C w (CC := RX7) (T := TX7) (N := 16) (ref := "GateSumsModel") im_X7_word_X7 0 rfl rfl 5 (by decide) (List.mem_of_getElem? (i := 2) rfl) (fun _ h => h) rfl dX7_word_65 ?_
                  refine lv_iload S.1 S.2.1 dX7_word_68 (lv_at hl 0 rfl) ?_
                  refine lv_iadd S.1 S.2.1 dX7_word_70 ?_
                  refine w_topi (y := (nI ((sk tN fT aN) + 3))) (nI_add _ _) ?_
                  refine w_put S C w (CC := RX7) (T := TX7) (N := 16) (ref := "GateSumsModel") im_X7_word_X7 tyX7 tyX7_ok nmX7 0 rfl rfl 5 (by decide) (List.mem_of_getElem? (i := 2) rfl) (fun _ h => h) rfl (ws2 := [(mO, .inr (7, [.ref mS, .ref mD, .ref mR, .ref mT, .int (nI tN), .int (nI ((sk tN fT aN) + 3)), .int mn, .ref mW, .ref mQ, .ref mC, .int my, .ref mU, .ref mV, .int mm, .int mf, .int mg])), (mT, .inl (G.2.1 2, 120, .inl fT)), (mW, .inl (G.2.1 1, 73, .inl (wdF 73)))]) (rfl) (rfl) (Nat.le_of_ble_eq_true rfl) rfl dX7_word_71 (fun H locs w => ?_)
                  refine lv_iload_n S.1 S.2.1 dX7_word_74 rfl (lv_at hl 2 rfl) ?_
                  refine lv_iload_n S.1 S.2.1 dX7_word_75 rfl (lv_at hl 4 rfl) ?_
                  refine lv_isub S.1 S.2.1 dX7_word_76 ?_
                  exact W.iret (v := (0 - lo)) S.1 S.2.1 hr (fun t ht _ => ⟨⟨(0 - lo), ((sk tN fT aN) + 3), rfl, ⟨Or.inr ⟨0, by decide, c49_15, or_yes h57_15 c60_15, rfl, rfl⟩, mat_lt (j := 0) (by decide) (or_yes h57_15 c60_15).1⟩, by rw [ht]; exact w.1, w.2.1⟩, w.2.2.F ht⟩) w.2.2.2.2 dX7_word_77
          · exact absurd c34_3 (by decide)
set_option maxHeartbeats 4000000 in
set_option maxRecDepth 100000 in
theorem x_X7_ends (l : Launch) (G : GT) (mO mT : Nat) (sz : Nat) (mS mD mR mW mQ mC mU mV : Nat) (mn my mm mf mg : Int32) (tN aN : Nat) (fT : Nat → Int32) (htN : tN ≤ 120) (haN : aN ≤ tN) : Met l yX7_ends wsX7_ends ({ frames := 2, cells := 0, slots := 0, locals := 41 }) (va_Pc [.ref mO] (wPre G [(mO, .inr (7, [.ref mS, .ref mD, .ref mR, .ref mT, .int (nI tN), .int (nI aN), .int mn, .ref mW, .ref mQ, .ref mC, .int my, .ref mU, .ref mV, .int mm, .int mf, .int mg])), (mT, .inl (G.2.1 2, 120, .inl fT))] sz)) (va_Qi (fun (r : Int32) (u : Nat) => ((r = 1 ∧ tkS tN fT aN = some u) ∨ (r = 0 ∧ tkS tN fT aN = none)) ∧ u ≤ tN) (bW G (va_A [(mO, .inr (7, [.ref mS, .ref mD, .ref mR, .ref mT, .int (nI tN), .int (nI aN), .int mn, .ref mW, .ref mQ, .ref mC, .int my, .ref mU, .ref mV, .int mm, .int mf, .int mg])), (mT, .inl (G.2.1 2, 120, .inl fT))] sz) (fun u : Nat => [(mO, .inr (7, [.ref mS, .ref mD, .ref mR, .ref mT, .int (nI tN), .int (nI u), .int mn, .ref mW, .ref mQ, .ref mC, .int my, .ref mU, .ref mV, .int mm, .int mf, .int mg])), (mT, .inl (G.2.1 2, 120, .inl fT))])) (va_A [(mO, .inr (7, [.ref mS, .ref mD, .ref mR, .ref mT, .int (nI tN), .int (nI aN), .int mn, .ref mW, .ref mQ, .ref mC, .int my, .ref mU, .ref mV, .int mm, .int mf, .int mg])), (mT, .inl (G.2.1 2, 120, .inl fT))] sz)) 0 0 (va_A [(mO, .inr (7, [.ref mS, .ref mD, .ref mR, .ref mT, .int (nI tN), .int (nI aN), .int mn, .ref mW, .ref mQ, .ref mC, .int my, .ref mU, .ref mV, .int mm, .int mf, .int mg])), (mT, .inl (G.2.1 2, 120, .inl fT))] sz) := by
  refine met_go (cc := cX7_ends) (maxL := 2) (ret := (some .boolean)) (own := RX7) (by decide) rfl rfl (Nat.le_of_ble_eq_true rfl) ?_
  intro p e s m below meth c ls S hr hlocks hname hsz C w hl
  have hl : lv_has ls 2 [(0, .ref mO)] := hl
  refine lv_aload_n S.1 S.2.1 dX7_ends_0 rfl (lv_at hl 0 rfl) ?_
  refine cq_v C w [0, 1] [] [0, 1] (wr := []) (w' := fun u : Unit => [(mO, .inr (7, [.ref mS, .ref mD, .ref mR, .ref mT, .int (nI tN), .int (nI (sk tN fT aN)), .int mn, .ref mW, .ref mQ, .ref mC, .int my, .ref mU, .ref mV, .int mm, .int mf, .int mg])), (mT, .inl (G.2.1 2, 120, .inl fT))]) (ws2 := fun u : Unit => [(mO, .inr (7, [.ref mS, .ref mD, .ref mR, .ref mT, .int (nI tN), .int (nI (sk tN fT aN)), .int mn, .ref mW, .ref mQ, .ref mC, .int my, .ref mU, .ref mV, .int mm, .int mf, .int mg])), (mT, .inl (G.2.1 2, 120, .inl fT))]) rfl rfl rfl (by decide) rfl (fun _ => rfl) (va_runV (As := []) (rest := []) S (x_X7_skips l G mO mT _ mS mD mR mW mQ mC mU mV mn my mm mf mg tN aN fT (htN) (haN)) (cwV 0 S.2.2.2.2 gX7_ends_X7_skips rfl rfl rfl (by decide +kernel) ⟨Nat.le_of_ble_eq_true rfl, Nat.le_of_ble_eq_true rfl⟩) ⟨wPre_blind, va_recv C.1 w.1 (ci := 7) (q0 := 0) rfl rfl, wPre_at C w [0, 1] rfl rfl⟩ rfl rfl hl.1 rfl (lv_room (Nat.le_of_ble_eq_true rfl)) dX7_ends_1 ⟨Nat.le_of_ble_eq_true rfl, Nat.le_of_ble_eq_true rfl⟩) (fun u1 H locs h1 w => ?_)
  have w : Wd G _ s [(mO, .inr (7, [.ref mS, .ref mD, .ref mR, .ref mT, .int (nI tN), .int (nI (sk tN fT aN)), .int mn, .ref mW, .ref mQ, .ref mC, .int my, .ref mU, .ref mV, .int mm, .int mf, .int mg])), (mT, .inl (G.2.1 2, 120, .inl fT))] H locs := w
  have hB := sk_le (f := fT) haN
  refine lv_aload_n S.1 S.2.1 dX7_ends_4 rfl (lv_at hl 0 rfl) ?_
  refine lv_aload_n S.1 S.2.1 dX7_ends_5 rfl (lv_at hl 0 rfl) ?_
  refine w_get S C w (CC := RX7) (T := TX7) (N := 16) (ref := "GateSumsModel") im_X7_ends_X7 0 rfl rfl 5 (by decide) (List.mem_of_getElem? (i := 1) rfl) (fun _ h => h) rfl dX7_ends_6 ?_
  refine cs_i (va_runV (As := [.int (nI (sk tN fT aN))]) (rest := []) S (c_X7_byteAt l G mO mT _ mS mD mR mW mQ mC mU mV (nI tN) (nI (sk tN fT aN)) mn my mm mf mg fT (nI (sk tN fT aN)) (fun h => bt_ok htN (by omega) h)) (cwV 1 S.2.2.2.2 gX7_ends_X7_byteAt rfl rfl rfl (by decide +kernel) ⟨Nat.le_of_ble_eq_true rfl, Nat.le_of_ble_eq_true rfl⟩) ⟨wPre_blind, va_recv C.1 w.1 (ci := 7) (q0 := 0) rfl rfl, wPre_at C w [0, 1] rfl rfl⟩ rfl rfl hl.1 rfl (lv_room (Nat.le_of_ble_eq_true rfl)) dX7_ends_9 ⟨Nat.le_of_ble_eq_true rfl, Nat.le_of_ble_eq_true rfl⟩) (fun r9 h9 => ?_)
  refine w_topi (y := (byteAtM (nI tN) fT (nI (sk tN fT aN)))) h9 ?_
  refine w_topi (y := (bA tN fT (sk tN fT aN))) (byteAt_bA htN (by omega)) ?_
  refine lv_bipush (v := 59) S.1 S.2.1 dX7_ends_12 (by decide) ?_
  refine lv_icmp_ne (tgt := 21) S.1 S.2.1 dX7_ends_14 (by decide) (fun c14 => ?_) (fun c14 => ?_)
  · refine lv_iconst (v := 0) S.1 S.2.1 dX7_ends_21 (by decide) ?_
    refine lv_istore_n (lv' := [(1, .int 0), (0, .ref mO)]) S.1 S.2.1 dX7_ends_22 rfl hl (by decide) rfl (fun ls hl => ?_)
    refine lv_aload_n S.1 S.2.1 dX7_ends_23 rfl (lv_at hl 1 rfl) ?_
    refine lv_dup S.1 S.2.1 dX7_ends_24 rfl ?_
    refine w_get S C w (CC := RX7) (T := TX7) (N := 16) (ref := "GateSumsModel") im_X7_ends_X7 0 rfl rfl 5 (by decide) (List.mem_of_getElem? (i := 1) rfl) (fun _ h => h) rfl dX7_ends_25 ?_
    refine lv_iload_n S.1 S.2.1 dX7_ends_28 rfl (lv_at hl 0 rfl) ?_
    refine lv_if_eq (tgt := 36) S.1 S.2.1 dX7_ends_29 (by decide) (fun c29 => ?_) (fun c29 => ?_)
    · refine lv_iconst (v := 0) S.1 S.2.1 dX7_ends_36 (by decide) ?_
      refine lv_iadd S.1 S.2.1 dX7_ends_37 ?_
      refine w_topi (y := (nI ((sk tN fT aN) + 0))) (nI_add _ 0) ?_
      refine w_put S C w (CC := RX7) (T := TX7) (N := 16) (ref := "GateSumsModel") im_X7_ends_X7 tyX7 tyX7_ok nmX7 0 rfl rfl 5 (by decide) (List.mem_of_getElem? (i := 1) rfl) (fun _ h => h) rfl (ws2 := [(mO, .inr (7, [.ref mS, .ref mD, .ref mR, .ref mT, .int (nI tN), .int (nI ((sk tN fT aN) + 0)), .int mn, .ref mW, .ref mQ, .ref mC, .int my, .ref mU, .ref mV, .int mm, .int mf, .int mg])), (mT, .inl (G.2.1 2, 120, .inl fT))]) (rfl) (rfl) (Nat.le_of_ble_eq_true rfl) rfl dX7_ends_38 (fun H locs w => ?_)
      refine lv_iload_n S.1 S.2.1 dX7_ends_41 rfl (lv_at hl 0 rfl) ?_
      exact W.zret (v := 0) S.1 S.2.1 hr (rfl) (fun t ht _ => ⟨⟨0, ((sk tN fT aN) + 0), rfl, by first | exact ⟨Or.inl ⟨rfl, tkS_yes c14⟩, bA_lt c14 (by decide)⟩ | exact ⟨Or.inr ⟨rfl, tkS_no c14⟩, hB⟩, by rw [ht]; exact w.1, w.2.1⟩, w.2.2.F ht⟩) w.2.2.2.2 dX7_ends_42
    · exact absurd c29 (by decide)
  · refine lv_iconst (v := 1) S.1 S.2.1 dX7_ends_17 (by decide) ?_
    refine lv_goto (tgt := 22) S.1 S.2.1 dX7_ends_18 (by decide) ?_
    refine lv_istore_n (lv' := [(1, .int 1), (0, .ref mO)]) S.1 S.2.1 dX7_ends_22 rfl hl (by decide) rfl (fun ls hl => ?_)
    refine lv_aload_n S.1 S.2.1 dX7_ends_23 rfl (lv_at hl 1 rfl) ?_
    refine lv_dup S.1 S.2.1 dX7_ends_24 rfl ?_
    refine w_get S C w (CC := RX7) (T := TX7) (N := 16) (ref := "GateSumsModel") im_X7_ends_X7 0 rfl rfl 5 (by decide) (List.mem_of_getElem? (i := 1) rfl) (fun _ h => h) rfl dX7_ends_25 ?_
    refine lv_iload_n S.1 S.2.1 dX7_ends_28 rfl (lv_at hl 0 rfl) ?_
    refine lv_if_eq (tgt := 36) S.1 S.2.1 dX7_ends_29 (by decide) (fun c29_1 => ?_) (fun c29_1 => ?_)
    · exact absurd c29_1 (by decide)
    · refine lv_iconst (v := 1) S.1 S.2.1 dX7_ends_32 (by decide) ?_
      refine lv_goto (tgt := 37) S.1 S.2.1 dX7_ends_33 (by decide) ?_
      refine lv_iadd S.1 S.2.1 dX7_ends_37 ?_
      refine w_topi (y := (nI ((sk tN fT aN) + 1))) (nI_1 _) ?_
      refine w_put S C w (CC := RX7) (T := TX7) (N := 16) (ref := "GateSumsModel") im_X7_ends_X7 tyX7 tyX7_ok nmX7 0 rfl rfl 5 (by decide) (List.mem_of_getElem? (i := 1) rfl) (fun _ h => h) rfl (ws2 := [(mO, .inr (7, [.ref mS, .ref mD, .ref mR, .ref mT, .int (nI tN), .int (nI ((sk tN fT aN) + 1)), .int mn, .ref mW, .ref mQ, .ref mC, .int my, .ref mU, .ref mV, .int mm, .int mf, .int mg])), (mT, .inl (G.2.1 2, 120, .inl fT))]) (rfl) (rfl) (Nat.le_of_ble_eq_true rfl) rfl dX7_ends_38 (fun H locs w => ?_)
      refine lv_iload_n S.1 S.2.1 dX7_ends_41 rfl (lv_at hl 0 rfl) ?_
      exact W.zret (v := 1) S.1 S.2.1 hr (rfl) (fun t ht _ => ⟨⟨1, ((sk tN fT aN) + 1), rfl, by first | exact ⟨Or.inl ⟨rfl, tkS_yes c14⟩, bA_lt c14 (by decide)⟩ | exact ⟨Or.inr ⟨rfl, tkS_no c14⟩, hB⟩, by rw [ht]; exact w.1, w.2.1⟩, w.2.2.F ht⟩) w.2.2.2.2 dX7_ends_42
