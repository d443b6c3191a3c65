set_option maxHeartbeats 4000000 in
set_option maxRecDepth 100000 in
theorem y_X6_type (l : Launch) (G : GT) (aG aRd aT aB : Nat) (sz : Nat) (aD aL aM aS : Nat) (nB nN nF : Int32) (aC : Nat) (rF rT rS tL : Int32) (fB : Nat → Int32) (x0 : Int32) : Met l yX6_type wsX6_type ({ frames := 1, cells := 0, slots := 0, locals := 21 }) (va_Pc [.ref aG, .int x0] (wPre G [(aG, .inr (6, [.ref aRd, .ref aC, .ref aD, .ref aL, .ref aM, .ref aS, .int nB, .int nN, .int nF])), (aRd, .inr (3, [.ref aT, .int rF, .int rT, .int rS])), (aT, .inr (5, [.ref aB, .int tL])), (aB, .inl (G.2.1 0, 120, .inl fB))] sz)) (va_Qi (fun (r : Int32) (u : Int32 × Int32 × Int32 × (Nat → Int32)) => r = typeF tL x0 ∧ u.2.2.1 = tyL tL x0 ∧ u.2.2.2 = tyC tL x0 fB) (bW G (va_A [(aG, .inr (6, [.ref aRd, .ref aC, .ref aD, .ref aL, .ref aM, .ref aS, .int nB, .int nN, .int nF])), (aRd, .inr (3, [.ref aT, .int rF, .int rT, .int rS])), (aT, .inr (5, [.ref aB, .int tL])), (aB, .inl (G.2.1 0, 120, .inl fB))] sz) (fun u : Int32 × Int32 × Int32 × (Nat → Int32) => [(aG, .inr (6, [.ref aRd, .ref aC, .ref aD, .ref aL, .ref aM, .ref aS, .int u.1, .int nN, .int u.2.1])), (aRd, .inr (3, [.ref aT, .int rF, .int rT, .int rS])), (aT, .inr (5, [.ref aB, .int u.2.2.1])), (aB, .inl (G.2.1 0, 120, .inl u.2.2.2))])) (va_A [(aG, .inr (6, [.ref aRd, .ref aC, .ref aD, .ref aL, .ref aM, .ref aS, .int nB, .int nN, .int nF])), (aRd, .inr (3, [.ref aT, .int rF, .int rT, .int rS])), (aT, .inr (5, [.ref aB, .int tL])), (aB, .inl (G.2.1 0, 120, .inl fB))] sz)) 0 0 (va_A [(aG, .inr (6, [.ref aRd, .ref aC, .ref aD, .ref aL, .ref aM, .ref aS, .int nB, .int nN, .int nF])), (aRd, .inr (3, [.ref aT, .int rF, .int rT, .int rS])), (aT, .inr (5, [.ref aB, .int tL])), (aB, .inl (G.2.1 0, 120, .inl fB))] sz) := by
  refine met_go (cc := cX6_type) (maxL := 2) (ret := (some .int)) (own := RX6) (by decide) rfl rfl (Nat.le_of_ble_eq_true rfl) ?_
  intro p e s m below meth c ls S hr hlocks hname hsz C w hl
  have hl : lv_has ls 2 [(0, .ref aG), (1, .int x0)] := hl
  refine lv_iload_n S.1 S.2.1 dX6_type_0 rfl (lv_at hl 1 rfl) ?_
  refine lv_if_lt (tgt := 10) S.1 S.2.1 dX6_type_1 (by decide) (fun c1 => ?_) (fun c1 => ?_)
  · refine lv_aload_n S.1 S.2.1 dX6_type_10 rfl (lv_at hl 0 rfl) ?_
    refine lv_bipush (v := (-2)) S.1 S.2.1 dX6_type_11 (by decide) ?_
    refine cq_i C w [0] [1, 2, 3] [3, 0, 1, 2] (wr := [(aRd, .inr (3, [.ref aT, .int rF, .int rT, .int rS])), (aT, .inr (5, [.ref aB, .int tL])), (aB, .inl (G.2.1 0, 120, .inl fB))]) (w' := fun u : Unit => [(aG, .inr (6, [.ref aRd, .ref aC, .ref aD, .ref aL, .ref aM, .ref aS, .int (nB + 1), .int nN, .int nF]))]) (ws2 := fun u : Unit => [(aG, .inr (6, [.ref aRd, .ref aC, .ref aD, .ref aL, .ref aM, .ref aS, .int (nB + 1), .int nN, .int nF])), (aRd, .inr (3, [.ref aT, .int rF, .int rT, .int rS])), (aT, .inr (5, [.ref aB, .int tL])), (aB, .inl (G.2.1 0, 120, .inl fB))]) rfl rfl rfl (by decide) rfl (fun _ => rfl) (va_runV (As := [.int (-2)]) (rest := []) S (c_X6_refused_B l G aG _ aRd aC aD aL aM aS nB nN nF) (cwV 1 S.2.2.2.2 gX6_type_X6_refused rfl rfl rfl (by decide +kernel) ⟨Nat.le_of_ble_eq_true rfl, Nat.le_of_ble_eq_true rfl⟩) ⟨wPre_blind, va_recv C.1 w.1 (ci := 6) (q0 := 0) rfl rfl, wPre_at C w [0] rfl rfl⟩ rfl rfl hl.1 rfl (lv_room (Nat.le_of_ble_eq_true rfl)) dX6_type_13 ⟨Nat.le_of_ble_eq_true rfl, Nat.le_of_ble_eq_true rfl⟩) (fun r13 u13 H locs h13 w => ?_)
    have w : Wd G _ s [(aG, .inr (6, [.ref aRd, .ref aC, .ref aD, .ref aL, .ref aM, .ref aS, .int (nB + 1), .int nN, .int nF])), (aRd, .inr (3, [.ref aT, .int rF, .int rT, .int rS])), (aT, .inr (5, [.ref aB, .int tL])), (aB, .inl (G.2.1 0, 120, .inl fB))] H locs := w
    exact W.iret (v := r13) S.1 S.2.1 hr (fun t ht _ => ⟨⟨r13, ((nB + 1), nF, tL, fB), rfl, ⟨by rw [h13]; simp only [typeF, if_pos c1], by simp only [tyL, if_pos c1], by simp only [tyC, if_pos c1]⟩, by rw [ht]; exact w.1, w.2.1⟩, w.2.2.F ht⟩) w.2.2.2.2 dX6_type_16
  · refine lv_iload_n S.1 S.2.1 dX6_type_4 rfl (lv_at hl 1 rfl) ?_
    refine lv_bipush (v := 127) S.1 S.2.1 dX6_type_5 (by decide) ?_
    refine lv_icmp_le (tgt := 17) S.1 S.2.1 dX6_type_7 (by decide) (fun c7 => ?_) (fun c7 => ?_)
    · refine lv_aload_n S.1 S.2.1 dX6_type_17 rfl (lv_at hl 0 rfl) ?_
      refine w_get S C w (CC := RX6) (T := TX6) (N := 9) (ref := "GateSums") im_X6_type_X6 0 rfl rfl 0 (by decide) (List.mem_of_getElem? (i := 1) rfl) (fun _ h => h) rfl dX6_type_18 ?_
      refine w_get S C w (CC := RX3) (T := TX3) (N := 4) (ref := "GateSums$Reader") im_X6_type_X3 1 rfl rfl 0 (by decide) (List.mem_of_getElem? (i := 2) rfl) (fun _ h => h) rfl dX6_type_21 ?_
      refine lv_iload_n S.1 S.2.1 dX6_type_24 rfl (lv_at hl 1 rfl) ?_
      refine cq_i C w [2, 3] [0, 1] [0, 1, 2, 3] (wr := [(aG, .inr (6, [.ref aRd, .ref aC, .ref aD, .ref aL, .ref aM, .ref aS, .int nB, .int nN, .int nF])), (aRd, .inr (3, [.ref aT, .int rF, .int rT, .int rS]))]) (w' := fun u : Unit => [(aT, .inr (5, [.ref aB, .int (apL tL)])), (aB, .inl (G.2.1 0, 120, .inl (apB tL x0 fB)))]) (ws2 := fun u : Unit => [(aG, .inr (6, [.ref aRd, .ref aC, .ref aD, .ref aL, .ref aM, .ref aS, .int nB, .int nN, .int nF])), (aRd, .inr (3, [.ref aT, .int rF, .int rT, .int rS])), (aT, .inr (5, [.ref aB, .int (apL tL)])), (aB, .inl (G.2.1 0, 120, .inl (apB tL x0 fB)))]) rfl rfl rfl (by decide) rfl (fun _ => rfl) (va_runV (As := [.int x0]) (rest := []) S (c_X5_append l G aT aB _ tL fB x0) (cwV 1 S.2.2.2.2 gX6_type_X5_append rfl rfl rfl (by decide +kernel) ⟨Nat.le_of_ble_eq_true rfl, Nat.le_of_ble_eq_true rfl⟩) ⟨wPre_blind, va_recv C.1 w.1 (ci := 5) (q0 := 2) rfl rfl, wPre_at C w [2, 3] rfl rfl⟩ rfl rfl hl.1 rfl (lv_room (Nat.le_of_ble_eq_true rfl)) dX6_type_25 ⟨Nat.le_of_ble_eq_true rfl, Nat.le_of_ble_eq_true rfl⟩) (fun r25 u25 H locs h25 w => ?_)
      have w : Wd G _ s [(aG, .inr (6, [.ref aRd, .ref aC, .ref aD, .ref aL, .ref aM, .ref aS, .int nB, .int nN, .int nF])), (aRd, .inr (3, [.ref aT, .int rF, .int rT, .int rS])), (aT, .inr (5, [.ref aB, .int (apL tL)])), (aB, .inl (G.2.1 0, 120, .inl (apB tL x0 fB)))] H locs := w
      refine lv_if_eq (tgt := 44) S.1 S.2.1 dX6_type_28 (by decide) (fun c28 => ?_) (fun c28 => ?_)
      · refine lv_aload_n S.1 S.2.1 dX6_type_44 rfl (lv_at hl 0 rfl) ?_
        refine lv_bipush (v := (-4)) S.1 S.2.1 dX6_type_45 (by decide) ?_
        refine cq_i C w [0] [1, 2, 3] [3, 0, 1, 2] (wr := [(aRd, .inr (3, [.ref aT, .int rF, .int rT, .int rS])), (aT, .inr (5, [.ref aB, .int (apL tL)])), (aB, .inl (G.2.1 0, 120, .inl (apB tL x0 fB)))]) (w' := fun u : Unit => [(aG, .inr (6, [.ref aRd, .ref aC, .ref aD, .ref aL, .ref aM, .ref aS, .int nB, .int nN, .int (nF + 1)]))]) (ws2 := fun u : Unit => [(aG, .inr (6, [.ref aRd, .ref aC, .ref aD, .ref aL, .ref aM, .ref aS, .int nB, .int nN, .int (nF + 1)])), (aRd, .inr (3, [.ref aT, .int rF, .int rT, .int rS])), (aT, .inr (5, [.ref aB, .int (apL tL)])), (aB, .inl (G.2.1 0, 120, .inl (apB tL x0 fB)))]) rfl rfl rfl (by decide) rfl (fun _ => rfl) (va_runV (As := [.int (-4)]) (rest := []) S (c_X6_refused_F l G aG _ aRd aC aD aL aM aS nB nN nF) (cwV 1 S.2.2.2.2 gX6_type_X6_refused rfl rfl rfl (by decide +kernel) ⟨Nat.le_of_ble_eq_true rfl, Nat.le_of_ble_eq_true rfl⟩) ⟨wPre_blind, va_recv C.1 w.1 (ci := 6) (q0 := 0) rfl rfl, wPre_at C w [0] rfl rfl⟩ rfl rfl hl.1 rfl (lv_room (Nat.le_of_ble_eq_true rfl)) dX6_type_47 ⟨Nat.le_of_ble_eq_true rfl, Nat.le_of_ble_eq_true rfl⟩) (fun r47 u47 H locs h47 w => ?_)
        have w : Wd G _ s [(aG, .inr (6, [.ref aRd, .ref aC, .ref aD, .ref aL, .ref aM, .ref aS, .int nB, .int nN, .int (nF + 1)])), (aRd, .inr (3, [.ref aT, .int rF, .int rT, .int rS])), (aT, .inr (5, [.ref aB, .int (apL tL)])), (aB, .inl (G.2.1 0, 120, .inl (apB tL x0 fB)))] H locs := w
        exact W.iret (v := r47) S.1 S.2.1 hr (fun t ht _ => ⟨⟨r47, (nB, (nF + 1), (apL tL), (apB tL x0 fB)), rfl, ⟨by first | (simp only [typeF, if_neg c1, if_pos c7]; exact type_ok h25 c28) | (rw [h47]; simp only [typeF, if_neg c1, if_pos c7]; exact type_full h25 c28), by rw [tyL, if_neg c1, if_pos c7]; rfl, by rw [tyC, if_neg c1, if_pos c7]⟩, by rw [ht]; exact w.1, w.2.1⟩, w.2.2.F ht⟩) w.2.2.2.2 dX6_type_50
      · refine lv_aload_n S.1 S.2.1 dX6_type_31 rfl (lv_at hl 0 rfl) ?_
        refine w_get S C w (CC := RX6) (T := TX6) (N := 9) (ref := "GateSums") im_X6_type_X6 0 rfl rfl 0 (by decide) (List.mem_of_getElem? (i := 1) rfl) (fun _ h => h) rfl dX6_type_32 ?_
        refine w_get S C w (CC := RX3) (T := TX3) (N := 4) (ref := "GateSums$Reader") im_X6_type_X3 1 rfl rfl 0 (by decide) (List.mem_of_getElem? (i := 2) rfl) (fun _ h => h) rfl dX6_type_35 ?_
        refine w_get S C w (CC := RX5) (T := TX5) (N := 2) (ref := "GateSums$Text") im_X6_type_X5 2 rfl rfl 1 (by decide) (List.mem_of_getElem? (i := 3) rfl) (fun _ h => h) rfl dX6_type_38 ?_
        refine lv_goto (tgt := 50) S.1 S.2.1 dX6_type_41 (by decide) ?_
        exact W.iret (v := (apL tL)) S.1 S.2.1 hr (fun t ht _ => ⟨⟨(apL tL), (nB, nF, (apL tL), (apB tL x0 fB)), rfl, ⟨by first | (simp only [typeF, if_neg c1, if_pos c7]; exact type_ok h25 c28) | (rw [@h47]; simp only [typeF, if_neg c1, if_pos c7]; exact type_full h25 c28), by rw [tyL, if_neg c1, if_pos c7]; rfl, by rw [tyC, if_neg c1, if_pos c7]⟩, by rw [ht]; exact w.1, w.2.1⟩, w.2.2.F ht⟩) w.2.2.2.2 dX6_type_50
    · refine lv_aload_n S.1 S.2.1 dX6_type_10 rfl (lv_at hl 0 rfl) ?_
      refine lv_bipush (v := (-2)) S.1 S.2.1 dX6_type_11 (by decide) ?_
      refine cq_i C w [0] [1, 2, 3] [3, 0, 1, 2] (wr := [(aRd, .inr (3, [.ref aT, .int rF, .int rT, .int rS])), (aT, .inr (5, [.ref aB, .int tL])), (aB, .inl (G.2.1 0, 120, .inl fB))]) (w' := fun u : Unit => [(aG, .inr (6, [.ref aRd, .ref aC, .ref aD, .ref aL, .ref aM, .ref aS, .int (nB + 1), .int nN, .int nF]))]) (ws2 := fun u : Unit => [(aG, .inr (6, [.ref aRd, .ref aC, .ref aD, .ref aL, .ref aM, .ref aS, .int (nB + 1), .int nN, .int nF])), (aRd, .inr (3, [.ref aT, .int rF, .int rT, .int rS])), (aT, .inr (5, [.ref aB, .int tL])), (aB, .inl (G.2.1 0, 120, .inl fB))]) rfl rfl rfl (by decide) rfl (fun _ => rfl) (va_runV (As := [.int (-2)]) (rest := []) S (c_X6_refused_B l G aG _ aRd aC aD aL aM aS nB nN nF) (cwV 1 S.2.2.2.2 gX6_type_X6_refused rfl rfl rfl (by decide +kernel) ⟨Nat.le_of_ble_eq_true rfl, Nat.le_of_ble_eq_true rfl⟩) ⟨wPre_blind, va_recv C.1 w.1 (ci := 6) (q0 := 0) rfl rfl, wPre_at C w [0] rfl rfl⟩ rfl rfl hl.1 rfl (lv_room (Nat.le_of_ble_eq_true rfl)) dX6_type_13 ⟨Nat.le_of_ble_eq_true rfl, Nat.le_of_ble_eq_true rfl⟩) (fun r13_1 u13_1 H locs h13_1 w => ?_)
      have w : Wd G _ s [(aG, .inr (6, [.ref aRd, .ref aC, .ref aD, .ref aL, .ref aM, .ref aS, .int (nB + 1), .int nN, .int nF])), (aRd, .inr (3, [.ref aT, .int rF, .int rT, .int rS])), (aT, .inr (5, [.ref aB, .int tL])), (aB, .inl (G.2.1 0, 120, .inl fB))] H locs := w
      exact W.iret (v := r13_1) S.1 S.2.1 hr (fun t ht _ => ⟨⟨r13_1, ((nB + 1), nF, tL, fB), rfl, ⟨by rw [h13_1]; simp only [typeF, if_neg c1, if_neg c7], by simp only [tyL, if_neg c1, if_neg c7], by simp only [tyC, if_neg c1, if_neg c7]⟩, by rw [ht]; exact w.1, w.2.1⟩, w.2.2.F ht⟩) w.2.2.2.2 dX6_type_16
set_option maxHeartbeats 4000000 in
set_option maxRecDepth 100000 in
theorem y_X7_type (l : Launch) (G : GT) (mO mR mT : Nat) (sz : Nat) (mS mD mW mQ mC mU mV : Nat) (ma mn my mm mf mg : Int32) (tN : Nat) (fR fT : Nat → Int32) (x0 : Int32) (htN : tN ≤ 120) : Met l yX7_type wsX7_type ({ frames := 1, cells := 0, slots := 0, locals := 22 }) (va_Pc [.ref mO, .int x0] (wPre G [(mO, .inr (7, [.ref mS, .ref mD, .ref mR, .ref mT, .int (nI tN), .int ma, .int mn, .ref mW, .ref mQ, .ref mC, .int my, .ref mU, .ref mV, .int mm, .int mf, .int mg])), (mR, .inl (G.2.1 2, 3, .inl fR)), (mT, .inl (G.2.1 2, 120, .inl fT))] sz)) (va_Qi (fun (r : Int32) (u : (Nat → Int32) × (Nat → Int32) × Nat) => r = typeM (nI tN) x0 ∧ u.2.2 = tyM tN x0 ∧ u.2.2 ≤ 120 ∧ u.2.1 = tyT tN fT x0) (bW G (va_A [(mO, .inr (7, [.ref mS, .ref mD, .ref mR, .ref mT, .int (nI tN), .int ma, .int mn, .ref mW, .ref mQ, .ref mC, .int my, .ref mU, .ref mV, .int mm, .int mf, .int mg])), (mR, .inl (G.2.1 2, 3, .inl fR)), (mT, .inl (G.2.1 2, 120, .inl fT))] sz) (fun u : (Nat → Int32) × (Nat → Int32) × Nat => [(mO, .inr (7, [.ref mS, .ref mD, .ref mR, .ref mT, .int (nI u.2.2), .int ma, .int mn, .ref mW, .ref mQ, .ref mC, .int my, .ref mU, .ref mV, .int mm, .int mf, .int mg])), (mR, .inl (G.2.1 2, 3, .inl u.1)), (mT, .inl (G.2.1 2, 120, .inl u.2.1))])) (va_A [(mO, .inr (7, [.ref mS, .ref mD, .ref mR, .ref mT, .int (nI tN), .int ma, .int mn, .ref mW, .ref mQ, .ref mC, .int my, .ref mU, .ref mV, .int mm, .int mf, .int mg])), (mR, .inl (G.2.1 2, 3, .inl fR)), (mT, .inl (G.2.1 2, 120, .inl fT))] sz)) 0 0 (va_A [(mO, .inr (7, [.ref mS, .ref mD, .ref mR, .ref mT, .int (nI tN), .int ma, .int mn, .ref mW, .ref mQ, .ref mC, .int my, .ref mU, .ref mV, .int mm, .int mf, .int mg])), (mR, .inl (G.2.1 2, 3, .inl fR)), (mT, .inl (G.2.1 2, 120, .inl fT))] sz) := by
  refine met_go (cc := cX7_type) (maxL := 2) (ret := (some .int)) (own := RX7) (by decide) rfl rfl (Nat.le_of_ble_eq_true rfl) ?_
  intro p e s m below meth c ls S hr hlocks hname hsz C w hl
  have hl : lv_has ls 2 [(0, .ref mO), (1, .int x0)] := hl
  refine lv_iload_n S.1 S.2.1 dX7_type_0 rfl (lv_at hl 1 rfl) ?_
  refine lv_iconst (v := 0) S.1 S.2.1 dX7_type_1 (by decide) ?_
  refine lv_bipush (v := 127) S.1 S.2.1 dX7_type_2 (by decide) ?_
  refine cs_i (va_runS (As := [.int x0, .int 0, .int 127]) (rest := []) S (c_X7_in l G _ x0 0 127) (va_cwS 3 S.2.2.2.2 gX7_type_X7_in rfl rfl rfl (by decide +kernel) ⟨Nat.le_of_ble_eq_true rfl, Nat.le_of_ble_eq_true rfl⟩) ⟨wPre_blind, wPre_at C w [] rfl rfl⟩ rfl rfl hl.1 rfl (lv_room (Nat.le_of_ble_eq_true rfl)) dX7_type_4 ⟨Nat.le_of_ble_eq_true rfl, Nat.le_of_ble_eq_true rfl⟩) (fun r4 h4 => ?_)
  refine w_topi (y := (inF x0 0 127)) h4 ?_
  refine lv_if_ne (tgt := 17) S.1 S.2.1 dX7_type_7 (by decide) (fun c7 => ?_) (fun c7 => ?_)
  · refine lv_aload_n S.1 S.2.1 dX7_type_17 rfl (lv_at hl 0 rfl) ?_
    refine w_get S C w (CC := RX7) (T := TX7) (N := 16) (ref := "GateSumsModel") im_X7_type_X7 0 rfl rfl 4 (by decide) (List.mem_of_getElem? (i := 1) rfl) (fun _ h => h) rfl dX7_type_18 ?_
    refine lv_bipush (v := 120) S.1 S.2.1 dX7_type_21 (by decide) ?_
    refine lv_icmp_ne (tgt := 33) S.1 S.2.1 dX7_type_23 (by decide) (fun c23 => ?_) (fun c23 => ?_)
    · refine lv_aload_n S.1 S.2.1 dX7_type_33 rfl (lv_at hl 0 rfl) ?_
      refine w_get S C w (CC := RX7) (T := TX7) (N := 16) (ref := "GateSumsModel") im_X7_type_X7 0 rfl rfl 3 (by decide) (List.mem_of_getElem? (i := 2) rfl) (fun _ h => h) rfl dX7_type_34 ?_
      refine lv_aload_n S.1 S.2.1 dX7_type_37 rfl (lv_at hl 0 rfl) ?_
      refine w_get S C w (CC := RX7) (T := TX7) (N := 16) (ref := "GateSumsModel") im_X7_type_X7 0 rfl rfl 4 (by decide) (List.mem_of_getElem? (i := 1) rfl) (fun _ h => h) rfl dX7_type_38 ?_
      refine lv_iload_n S.1 S.2.1 dX7_type_41 rfl (lv_at hl 1 rfl) ?_
      refine w_iast S C w 2 rfl (nIin (t120 htN c23) (by decide)) (ws2 := [(mO, .inr (7, [.ref mS, .ref mD, .ref mR, .ref mT, .int (nI tN), .int ma, .int mn, .ref mW, .ref mQ, .ref mC, .int my, .ref mU, .ref mV, .int mm, .int mf, .int mg])), (mR, .inl (G.2.1 2, 3, .inl fR)), (mT, .inl (G.2.1 2, 120, .inl (upd fT (nI tN).toNatClampNeg x0)))]) rfl dX7_type_42 (fun H locs w => ?_)
      have w : Wd G (va_A [(mO, .inr (7, [.ref mS, .ref mD, .ref mR, .ref mT, .int (nI tN), .int ma, .int mn, .ref mW, .ref mQ, .ref mC, .int my, .ref mU, .ref mV, .int mm, .int mf, .int mg])), (mR, .inl (G.2.1 2, 3, .inl fR)), (mT, .inl (G.2.1 2, 120, .inl fT))] sz) s [(mO, .inr (7, [.ref mS, .ref mD, .ref mR, .ref mT, .int (nI tN), .int ma, .int mn, .ref mW, .ref mQ, .ref mC, .int my, .ref mU, .ref mV, .int mm, .int mf, .int mg])), (mR, .inl (G.2.1 2, 3, .inl fR)), (mT, .inl (G.2.1 2, 120, .inl (upd fT tN x0)))] H locs := by have h := nIc (j := tN) (by omega); rw [h] at w; exact w
      refine lv_aload_n S.1 S.2.1 dX7_type_43 rfl (lv_at hl 0 rfl) ?_
      refine lv_dup S.1 S.2.1 dX7_type_44 rfl ?_
      refine w_get S C w (CC := RX7) (T := TX7) (N := 16) (ref := "GateSumsModel") im_X7_type_X7 0 rfl rfl 4 (by decide) (List.mem_of_getElem? (i := 1) rfl) (fun _ h => h) rfl dX7_type_45 ?_
      refine lv_iconst (v := 1) S.1 S.2.1 dX7_type_48 (by decide) ?_
      refine lv_iadd S.1 S.2.1 dX7_type_49 ?_
      refine w_topi (y := (nI (tN + 1))) (nI_1 _) ?_
      refine w_put S C w (CC := RX7) (T := TX7) (N := 16) (ref := "GateSumsModel") im_X7_type_X7 tyX7 tyX7_ok nmX7 0 rfl rfl 4 (by decide) (List.mem_of_getElem? (i := 1) rfl) (fun _ h => h) rfl (ws2 := [(mO, .inr (7, [.ref mS, .ref mD, .ref mR, .ref mT, .int (nI (tN + 1)), .int ma, .int mn, .ref mW, .ref mQ, .ref mC, .int my, .ref mU, .ref mV, .int mm, .int mf, .int mg])), (mR, .inl (G.2.1 2, 3, .inl fR)), (mT, .inl (G.2.1 2, 120, .inl (upd fT tN x0)))]) (rfl) (rfl) (Nat.le_of_ble_eq_true rfl) rfl dX7_type_50 (fun H locs w => ?_)
      refine lv_aload_n S.1 S.2.1 dX7_type_53 rfl (lv_at hl 0 rfl) ?_
      refine w_get S C w (CC := RX7) (T := TX7) (N := 16) (ref := "GateSumsModel") im_X7_type_X7 0 rfl rfl 4 (by decide) (List.mem_of_getElem? (i := 1) rfl) (fun _ h => h) rfl dX7_type_54 ?_
      exact W.iret (v := (nI (tN + 1))) S.1 S.2.1 hr (fun t ht _ => ⟨⟨(nI (tN + 1)), (fR, (upd fT tN x0), (tN + 1)), rfl, ⟨by simp only [typeM, if_neg c7, if_neg c23]; exact (nI_1 _).symm, by have := t120 htN c23; simp only [tyM, if_neg c7, if_neg (show ¬ tN = 120 by omega)], by have := t120 htN c23; dsimp only; omega, by have := t120 htN c23; simp only [tyT, if_neg c7, if_neg (show ¬ tN = 120 by omega)]⟩, by rw [ht]; exact w.1, w.2.1⟩, w.2.2.F ht⟩) w.2.2.2.2 dX7_type_57
    · refine lv_aload_n S.1 S.2.1 dX7_type_26 rfl (lv_at hl 0 rfl) ?_
      refine lv_bipush (v := (-4)) S.1 S.2.1 dX7_type_27 (by decide) ?_
      refine cq_i C w [0, 1] [2] [1, 2, 0] (wr := [(mT, .inl (G.2.1 2, 120, .inl fT))]) (w' := fun u : Unit => [(mO, .inr (7, [.ref mS, .ref mD, .ref mR, .ref mT, .int (nI tN), .int ma, .int mn, .ref mW, .ref mQ, .ref mC, .int my, .ref mU, .ref mV, .int mm, .int mf, .int mg])), (mR, .inl (G.2.1 2, 3, .inl (upd fR 2 (fR 2 + 1))))]) (ws2 := fun u : Unit => [(mO, .inr (7, [.ref mS, .ref mD, .ref mR, .ref mT, .int (nI tN), .int ma, .int mn, .ref mW, .ref mQ, .ref mC, .int my, .ref mU, .ref mV, .int mm, .int mf, .int mg])), (mR, .inl (G.2.1 2, 3, .inl (upd fR 2 (fR 2 + 1)))), (mT, .inl (G.2.1 2, 120, .inl fT))]) rfl rfl rfl (by decide) rfl (fun _ => rfl) (va_runV (As := [.int (-4)]) (rest := []) S (c_X7_refuses_F l G mO mR _ mS mD mT mW mQ mC mU mV (nI tN) ma mn my mm mf mg fR) (cwV 1 S.2.2.2.2 gX7_type_X7_refuses rfl rfl rfl (by decide +kernel) ⟨Nat.le_of_ble_eq_true rfl, Nat.le_of_ble_eq_true rfl⟩) ⟨wPre_blind, va_recv C.1 w.1 (ci := 7) (q0 := 0) rfl rfl, wPre_at C w [0, 1] rfl rfl⟩ rfl rfl hl.1 rfl (lv_room (Nat.le_of_ble_eq_true rfl)) dX7_type_29 ⟨Nat.le_of_ble_eq_true rfl, Nat.le_of_ble_eq_true rfl⟩) (fun r29 u29 H locs h29 w => ?_)
      have w : Wd G _ s [(mO, .inr (7, [.ref mS, .ref mD, .ref mR, .ref mT, .int (nI tN), .int ma, .int mn, .ref mW, .ref mQ, .ref mC, .int my, .ref mU, .ref mV, .int mm, .int mf, .int mg])), (mR, .inl (G.2.1 2, 3, .inl (upd fR 2 (fR 2 + 1)))), (mT, .inl (G.2.1 2, 120, .inl fT))] H locs := w
      exact W.iret (v := r29) S.1 S.2.1 hr (fun t ht _ => ⟨⟨r29, ((upd fR 2 (fR 2 + 1)), fT, tN), rfl, ⟨by rw [h29]; simp only [typeM, if_neg c7, if_pos c23], by simp only [tyM, if_neg c7, if_pos (t120e htN c23)], htN, by simp only [tyT, if_neg c7, if_pos (t120e htN c23)]⟩, by rw [ht]; exact w.1, w.2.1⟩, w.2.2.F ht⟩) w.2.2.2.2 dX7_type_32
  · refine lv_aload_n S.1 S.2.1 dX7_type_10 rfl (lv_at hl 0 rfl) ?_
    refine lv_bipush (v := (-2)) S.1 S.2.1 dX7_type_11 (by decide) ?_
    refine cq_i C w [0, 1] [2] [1, 2, 0] (wr := [(mT, .inl (G.2.1 2, 120, .inl fT))]) (w' := fun u : Unit => [(mO, .inr (7, [.ref mS, .ref mD, .ref mR, .ref mT, .int (nI tN), .int ma, .int mn, .ref mW, .ref mQ, .ref mC, .int my, .ref mU, .ref mV, .int mm, .int mf, .int mg])), (mR, .inl (G.2.1 2, 3, .inl (upd fR 0 (fR 0 + 1))))]) (ws2 := fun u : Unit => [(mO, .inr (7, [.ref mS, .ref mD, .ref mR, .ref mT, .int (nI tN), .int ma, .int mn, .ref mW, .ref mQ, .ref mC, .int my, .ref mU, .ref mV, .int mm, .int mf, .int mg])), (mR, .inl (G.2.1 2, 3, .inl (upd fR 0 (fR 0 + 1)))), (mT, .inl (G.2.1 2, 120, .inl fT))]) rfl rfl rfl (by decide) rfl (fun _ => rfl) (va_runV (As := [.int (-2)]) (rest := []) S (c_X7_refuses_B l G mO mR _ mS mD mT mW mQ mC mU mV (nI tN) ma mn my mm mf mg fR) (cwV 1 S.2.2.2.2 gX7_type_X7_refuses rfl rfl rfl (by decide +kernel) ⟨Nat.le_of_ble_eq_true rfl, Nat.le_of_ble_eq_true rfl⟩) ⟨wPre_blind, va_recv C.1 w.1 (ci := 7) (q0 := 0) rfl rfl, wPre_at C w [0, 1] rfl rfl⟩ rfl rfl hl.1 rfl (lv_room (Nat.le_of_ble_eq_true rfl)) dX7_type_13 ⟨Nat.le_of_ble_eq_true rfl, Nat.le_of_ble_eq_true rfl⟩) (fun r13 u13 H locs h13 w => ?_)
    have w : Wd G _ s [(mO, .inr (7, [.ref mS, .ref mD, .ref mR, .ref mT, .int (nI tN), .int ma, .int mn, .ref mW, .ref mQ, .ref mC, .int my, .ref mU, .ref mV, .int mm, .int mf, .int mg])), (mR, .inl (G.2.1 2, 3, .inl (upd fR 0 (fR 0 + 1)))), (mT, .inl (G.2.1 2, 120, .inl fT))] H locs := w
    exact W.iret (v := r13) S.1 S.2.1 hr (fun t ht _ => ⟨⟨r13, ((upd fR 0 (fR 0 + 1)), fT, tN), rfl, ⟨by rw [h13]; simp only [typeM, if_pos c7], by simp only [tyM, if_pos c7], htN, by simp only [tyT, if_pos c7]⟩, by rw [ht]; exact w.1, w.2.1⟩, w.2.2.F ht⟩) w.2.2.2.2 dX7_type_16
set_option maxHeartbeats 4000000 in
set_option maxRecDepth 100000 in
theorem w_X6_digest (l : Launch) (G : GT) (aG aRd aT aC aK aX aY aZ aL aW : Nat) (sz : Nat) (aD aM aS aB : Nat) (nB nN nF : Int32) (rF rT rS tL : Int32) (cT cI cG cO cK cP cQ : Int32) (fK fX fY fZ : Nat → Int32) (gW : Nat → Int64) : Met l yX6_digest wsX6_digest ({ frames := 5, cells := 0, slots := 0, locals := 113 }) (va_Pc [.ref aG] (wPre G [(aG, .inr (6, [.ref aRd, .ref aC, .ref aD, .ref aL, .ref aM, .ref aS, .int nB, .int nN, .int nF])), (aRd, .inr (3, [.ref aT, .int rF, .int rT, .int rS])), (aT, .inr (5, [.ref aB, .int tL])), (aC, .inr (0, [.int cT, .int cI, .int cG, .int cO, .int cK, .int cP, .int cQ, .ref aK, .ref aX, .ref aY, .ref aZ])), (aK, .inl (G.2.1 2, 12, .inl fK)), (aX, .inl (G.2.1 2, 12, .inl fX)), (aY, .inl (G.2.1 2, 12, .inl fY)), (aZ, .inl (G.2.1 2, 7, .inl fZ)), (aL, .inr (1, [.ref aW])), (aW, .inl (G.2.1 3, 18, .inr (.inl gW)))] sz)) (vp_Sl (fun r : Int64 => True)) 0 0 (fun _ => False) := by
  refine met_go (cc := cX6_digest) (maxL := 4) (ret := (some .long)) (own := RX6) (by decide) rfl rfl (Nat.le_of_ble_eq_true rfl) ?_
  intro p e s m below meth c ls S hr hlocks hname hsz C w hl
  have hl : lv_has ls 4 [(0, .ref aG)] := hl
  refine lv_ldc2 (own := RX6) (v := 1993) S.1 S.2.1 S.2.2.2.1 (S.2.2.2.2 _ (List.mem_of_getElem? (i := 1) rfl)) dX6_digest_0 ?_
  refine lv_lstore_n (lv' := [(1, .long 1993), (0, .ref aG)]) S.1 S.2.1 dX6_digest_3 rfl hl (by decide) rfl (fun ls hl => ?_)
  refine lv_iconst (v := 0) S.1 S.2.1 dX6_digest_4 (by decide) ?_
  refine lv_istore_n (lv' := [(3, .int 0), (1, .long 1993), (0, .ref aG)]) S.1 S.2.1 dX6_digest_5 rfl hl (by decide) rfl (fun ls hl => ?_)
  refine w_loopS (σ := Nat × Int64) (nL := 4) 6 (fun x6 => 7 - x6.1) (fun x6 => x6.1 ≤ 7) (fun x6 => [(3, .int (nI x6.1)), (1, .long x6.2), (0, .ref aG)]) (fun _ => []) ?_ (0, 1993) ls (Nat.zero_le _) (lv_sub hl [0, 1, 2] rfl)
  intro x6 ls hI6 hl ih6
  have hl : lv_has ls 4 [(3, .int (nI x6.1)), (1, .long x6.2), (0, .ref aG)] := hl
  refine lv_iload_n S.1 S.2.1 dX6_digest_6 rfl (lv_at hl 0 rfl) ?_
  refine lv_bipush (v := 6) S.1 S.2.1 dX6_digest_7 (by decide) ?_
  refine lv_icmp_gt (tgt := 31) S.1 S.2.1 dX6_digest_9 (by decide) (fun c9 => ?_) (fun c9 => ?_)
  · refine lv_iconst (v := 0) S.1 S.2.1 dX6_digest_31 (by decide) ?_
    refine lv_istore_n (lv' := [(3, .int 0), (1, .long x6.2), (0, .ref aG)]) S.1 S.2.1 dX6_digest_32 rfl hl (by decide) rfl (fun ls hl => ?_)
    refine w_loopS (σ := Nat × Int64) (nL := 4) 33 (fun x33 => cG.toNatClampNeg - x33.1) (fun x33 => x33.1 ≤ cG.toNatClampNeg) (fun x33 => [(3, .int (nI x33.1)), (1, .long x33.2), (0, .ref aG)]) (fun _ => []) ?_ (0, x6.2) ls (Nat.zero_le _) (lv_sub hl [0, 1, 2] rfl)
    intro x33 ls hI33 hl ih33
    have hl : lv_has ls 4 [(3, .int (nI x33.1)), (1, .long x33.2), (0, .ref aG)] := hl
    refine lv_iload_n S.1 S.2.1 dX6_digest_33 rfl (lv_at hl 0 rfl) ?_
    refine lv_aload_n S.1 S.2.1 dX6_digest_34 rfl (lv_at hl 2 rfl) ?_
    refine w_get S C w (CC := RX6) (T := TX6) (N := 9) (ref := "GateSums") im_X6_digest_X6 0 rfl rfl 1 (by decide) (List.mem_of_getElem? (i := 3) rfl) (fun _ h => h) rfl dX6_digest_35 ?_
    refine w_get S C w (CC := RX0) (T := TX0) (N := 11) (ref := "GateSums$Circuit") im_X6_digest_X0 3 rfl rfl 2 (by decide) (List.mem_of_getElem? (i := 4) rfl) (fun _ h => h) rfl dX6_digest_38 ?_
    refine lv_icmp_ge (tgt := 98) S.1 S.2.1 dX6_digest_41 (by decide) (fun c41 => ?_) (fun c41 => ?_)
    · refine lv_iconst (v := 0) S.1 S.2.1 dX6_digest_98 (by decide) ?_
      refine lv_istore_n (lv' := [(3, .int 0), (1, .long x33.2), (0, .ref aG)]) S.1 S.2.1 dX6_digest_99 rfl hl (by decide) rfl (fun ls hl => ?_)
      refine w_loopS (σ := Nat × Int64) (nL := 4) 100 (fun x100 => cO.toNatClampNeg - x100.1) (fun x100 => x100.1 ≤ cO.toNatClampNeg) (fun x100 => [(3, .int (nI x100.1)), (1, .long x100.2), (0, .ref aG)]) (fun _ => []) ?_ (0, x33.2) ls (Nat.zero_le _) (lv_sub hl [0, 1, 2] rfl)
      intro x100 ls hI100 hl ih100
      have hl : lv_has ls 4 [(3, .int (nI x100.1)), (1, .long x100.2), (0, .ref aG)] := hl
      refine lv_iload_n S.1 S.2.1 dX6_digest_100 rfl (lv_at hl 0 rfl) ?_
      refine lv_aload_n S.1 S.2.1 dX6_digest_101 rfl (lv_at hl 2 rfl) ?_
      refine w_get S C w (CC := RX6) (T := TX6) (N := 9) (ref := "GateSums") im_X6_digest_X6 0 rfl rfl 1 (by decide) (List.mem_of_getElem? (i := 3) rfl) (fun _ h => h) rfl dX6_digest_102 ?_
      refine w_get S C w (CC := RX0) (T := TX0) (N := 11) (ref := "GateSums$Circuit") im_X6_digest_X0 3 rfl rfl 3 (by decide) (List.mem_of_getElem? (i := 5) rfl) (fun _ h => h) rfl dX6_digest_105 ?_
      refine lv_icmp_ge (tgt := 133) S.1 S.2.1 dX6_digest_108 (by decide) (fun c108 => ?_) (fun c108 => ?_)
      · refine lv_aload_n S.1 S.2.1 dX6_digest_133 rfl (lv_at hl 2 rfl) ?_
        refine w_get S C w (CC := RX6) (T := TX6) (N := 9) (ref := "GateSums") im_X6_digest_X6 0 rfl rfl 1 (by decide) (List.mem_of_getElem? (i := 3) rfl) (fun _ h => h) rfl dX6_digest_134 ?_
        refine w_get S C w (CC := RX0) (T := TX0) (N := 11) (ref := "GateSums$Circuit") im_X6_digest_X0 3 rfl rfl 0 (by decide) (List.mem_of_getElem? (i := 6) rfl) (fun _ h => h) rfl dX6_digest_137 ?_
        refine lv_istore_n (lv' := [(3, .int cT), (1, .long x100.2), (0, .ref aG)]) S.1 S.2.1 dX6_digest_140 rfl hl (by decide) rfl (fun ls hl => ?_)
        refine lv_ldc2 (own := RX6) (v := 31) S.1 S.2.1 S.2.2.2.1 (S.2.2.2.2 _ (List.mem_of_getElem? (i := 2) rfl)) dX6_digest_141 ?_
        refine lv_lload_n S.1 S.2.1 dX6_digest_144 rfl (lv_at hl 1 rfl) ?_
        refine lv_lmul S.1 S.2.1 dX6_digest_145 ?_
        refine lv_iload_n S.1 S.2.1 dX6_digest_146 rfl (lv_at hl 0 rfl) ?_
        refine w_joini 161 [.long (31 * x100.2)] (fun z161 => True) (fun z161 hz161 => ?_) (fun J161 => ?_)
        · refine lv_i2l (v := z161.toInt64) S.1 S.2.1 dX6_digest_161 rfl ?_
          refine lv_ladd S.1 S.2.1 dX6_digest_162 ?_
          refine lv_lstore_n (lv' := [(1, .long ((31 * x100.2) + z161.toInt64)), (3, .int cT), (0, .ref aG)]) S.1 S.2.1 dX6_digest_163 rfl hl (by decide) rfl (fun ls hl => ?_)
          refine lv_ldc2 (own := RX6) (v := 31) S.1 S.2.1 S.2.2.2.1 (S.2.2.2.2 _ (List.mem_of_getElem? (i := 2) rfl)) dX6_digest_164 ?_
          refine lv_lload_n S.1 S.2.1 dX6_digest_167 rfl (lv_at hl 0 rfl) ?_
          refine lv_lmul S.1 S.2.1 dX6_digest_168 ?_
          refine lv_iload_n S.1 S.2.1 dX6_digest_169 rfl (lv_at hl 1 rfl) ?_
          refine w_joini 184 [.long (31 * ((31 * x100.2) + z161.toInt64))] (fun z184 => True) (fun z184 hz184 => ?_) (fun J184 => ?_)
          · refine lv_i2l (v := z184.toInt64) S.1 S.2.1 dX6_digest_184 rfl ?_
            refine lv_ladd S.1 S.2.1 dX6_digest_185 ?_
            refine lv_lstore_n (lv' := [(1, .long ((31 * ((31 * x100.2) + z161.toInt64)) + z184.toInt64)), (3, .int cT), (0, .ref aG)]) S.1 S.2.1 dX6_digest_186 rfl hl (by decide) rfl (fun ls hl => ?_)
            refine lv_ldc2 (own := RX6) (v := 31) S.1 S.2.1 S.2.2.2.1 (S.2.2.2.2 _ (List.mem_of_getElem? (i := 2) rfl)) dX6_digest_187 ?_
            refine lv_lload_n S.1 S.2.1 dX6_digest_190 rfl (lv_at hl 0 rfl) ?_
            refine lv_lmul S.1 S.2.1 dX6_digest_191 ?_
            refine lv_iload_n S.1 S.2.1 dX6_digest_192 rfl (lv_at hl 1 rfl) ?_
            refine w_joini 207 [.long (31 * ((31 * ((31 * x100.2) + z161.toInt64)) + z184.toInt64))] (fun z207 => True) (fun z207 hz207 => ?_) (fun J207 => ?_)
            · refine lv_i2l (v := z207.toInt64) S.1 S.2.1 dX6_digest_207 rfl ?_
              refine lv_ladd S.1 S.2.1 dX6_digest_208 ?_
              refine lv_lstore_n (lv' := [(1, .long ((31 * ((31 * ((31 * x100.2) + z161.toInt64)) + z184.toInt64)) + z207.toInt64)), (3, .int cT), (0, .ref aG)]) S.1 S.2.1 dX6_digest_209 rfl hl (by decide) rfl (fun ls hl => ?_)
              refine lv_ldc2 (own := RX6) (v := 31) S.1 S.2.1 S.2.2.2.1 (S.2.2.2.2 _ (List.mem_of_getElem? (i := 2) rfl)) dX6_digest_210 ?_
              refine lv_lload_n S.1 S.2.1 dX6_digest_213 rfl (lv_at hl 0 rfl) ?_
              refine lv_lmul S.1 S.2.1 dX6_digest_214 ?_
              refine lv_iload_n S.1 S.2.1 dX6_digest_215 rfl (lv_at hl 1 rfl) ?_
              refine w_joini 234 [.long (31 * ((31 * ((31 * ((31 * x100.2) + z161.toInt64)) + z184.toInt64)) + z207.toInt64))] (fun z234 => True) (fun z234 hz234 => ?_) (fun J234 => ?_)
              · refine lv_i2l (v := z234.toInt64) S.1 S.2.1 dX6_digest_234 rfl ?_
                refine lv_ladd S.1 S.2.1 dX6_digest_235 ?_
                exact W.lret (v := ((31 * ((31 * ((31 * ((31 * x100.2) + z161.toInt64)) + z184.toInt64)) + z207.toInt64)) + z234.toInt64)) S.1 S.2.1 hr (fun t ht _ => ⟨((31 * ((31 * ((31 * ((31 * x100.2) + z161.toInt64)) + z184.toInt64)) + z207.toInt64)) + z234.toInt64), rfl, trivial, ht⟩) (fun q h => absurd h List.not_mem_nil) dX6_digest_236
              · refine lv_if_eq (tgt := 233) S.1 S.2.1 dX6_digest_216 (by decide) (fun c216 => ?_) (fun c216 => ?_)
                · refine lv_iconst (v := (-1)) S.1 S.2.1 dX6_digest_233 (by decide) ?_
                  exact J234 (-1) (trivial)
                · refine lv_aload_n S.1 S.2.1 dX6_digest_219 rfl (lv_at hl 2 rfl) ?_
                  refine w_get S C w (CC := RX6) (T := TX6) (N := 9) (ref := "GateSums") im_X6_digest_X6 0 rfl rfl 3 (by decide) (List.mem_of_getElem? (i := 10) rfl) (fun _ h => h) rfl dX6_digest_220 ?_
                  refine lv_aload_n S.1 S.2.1 dX6_digest_223 rfl (lv_at hl 2 rfl) ?_
                  refine w_get S C w (CC := RX6) (T := TX6) (N := 9) (ref := "GateSums") im_X6_digest_X6 0 rfl rfl 1 (by decide) (List.mem_of_getElem? (i := 3) rfl) (fun _ h => h) rfl dX6_digest_224 ?_
                  refine cs_i (va_runV (As := [.ref aC]) (rest := [.long (31 * ((31 * ((31 * ((31 * x100.2) + z161.toInt64)) + z184.toInt64)) + z207.toInt64))]) S (c_X1_countWrong l G aL aW aC aZ _ gW cT cI cG cO cK cP cQ aK aX aY fZ) (cwV 1 S.2.2.2.2 gX6_digest_X1_countWrong rfl rfl rfl (by decide +kernel) ⟨Nat.le_of_ble_eq_true rfl, Nat.le_of_ble_eq_true rfl⟩) ⟨wPre_blind, va_recv C.1 w.1 (ci := 1) (q0 := 8) rfl rfl, wPre_at C w [8, 9, 3, 7] rfl rfl⟩ rfl rfl hl.1 rfl (lv_room (Nat.le_of_ble_eq_true rfl)) dX6_digest_227 ⟨Nat.le_of_ble_eq_true rfl, Nat.le_of_ble_eq_true rfl⟩) (fun r227 h227 => ?_)
                  refine w_topi (y := (foldF (countW1 (fun j => isWrongF gW cO cK cP cQ fZ (nI j))) (allN cI) 0)) h227 ?_
                  refine lv_goto (tgt := 234) S.1 S.2.1 dX6_digest_230 (by decide) ?_
                  exact J234 (foldF (countW1 (fun j => isWrongF gW cO cK cP cQ fZ (nI j))) (allN cI) 0) (trivial)
            · refine lv_if_eq (tgt := 206) S.1 S.2.1 dX6_digest_193 (by decide) (fun c193 => ?_) (fun c193 => ?_)
              · refine lv_iconst (v := (-1)) S.1 S.2.1 dX6_digest_206 (by decide) ?_
                exact J207 (-1) (trivial)
              · refine lv_aload_n S.1 S.2.1 dX6_digest_196 rfl (lv_at hl 2 rfl) ?_
                refine w_get S C w (CC := RX6) (T := TX6) (N := 9) (ref := "GateSums") im_X6_digest_X6 0 rfl rfl 1 (by decide) (List.mem_of_getElem? (i := 3) rfl) (fun _ h => h) rfl dX6_digest_197 ?_
                refine w_get S C w (CC := RX0) (T := TX0) (N := 11) (ref := "GateSums$Circuit") im_X6_digest_X0 3 rfl rfl 6 (by decide) (List.mem_of_getElem? (i := 9) rfl) (fun _ h => h) rfl dX6_digest_200 ?_
                refine lv_goto (tgt := 207) S.1 S.2.1 dX6_digest_203 (by decide) ?_
                exact J207 cQ (trivial)
          · refine lv_if_eq (tgt := 183) S.1 S.2.1 dX6_digest_170 (by decide) (fun c170 => ?_) (fun c170 => ?_)
            · refine lv_iconst (v := (-1)) S.1 S.2.1 dX6_digest_183 (by decide) ?_
              exact J184 (-1) (trivial)
            · refine lv_aload_n S.1 S.2.1 dX6_digest_173 rfl (lv_at hl 2 rfl) ?_
              refine w_get S C w (CC := RX6) (T := TX6) (N := 9) (ref := "GateSums") im_X6_digest_X6 0 rfl rfl 1 (by decide) (List.mem_of_getElem? (i := 3) rfl) (fun _ h => h) rfl dX6_digest_174 ?_
              refine w_get S C w (CC := RX0) (T := TX0) (N := 11) (ref := "GateSums$Circuit") im_X6_digest_X0 3 rfl rfl 5 (by decide) (List.mem_of_getElem? (i := 8) rfl) (fun _ h => h) rfl dX6_digest_177 ?_
              refine lv_goto (tgt := 184) S.1 S.2.1 dX6_digest_180 (by decide) ?_
              exact J184 cP (trivial)
        · refine lv_if_eq (tgt := 160) S.1 S.2.1 dX6_digest_147 (by decide) (fun c147 => ?_) (fun c147 => ?_)
          · refine lv_iconst (v := (-1)) S.1 S.2.1 dX6_digest_160 (by decide) ?_
            exact J161 (-1) (trivial)
          · refine lv_aload_n S.1 S.2.1 dX6_digest_150 rfl (lv_at hl 2 rfl) ?_
            refine w_get S C w (CC := RX6) (T := TX6) (N := 9) (ref := "GateSums") im_X6_digest_X6 0 rfl rfl 1 (by decide) (List.mem_of_getElem? (i := 3) rfl) (fun _ h => h) rfl dX6_digest_151 ?_
            refine w_get S C w (CC := RX0) (T := TX0) (N := 11) (ref := "GateSums$Circuit") im_X6_digest_X0 3 rfl rfl 4 (by decide) (List.mem_of_getElem? (i := 7) rfl) (fun _ h => h) rfl dX6_digest_154 ?_
            refine lv_goto (tgt := 161) S.1 S.2.1 dX6_digest_157 (by decide) ?_
            exact J161 cK (trivial)
      · refine lv_ldc2 (own := RX6) (v := 31) S.1 S.2.1 S.2.2.2.1 (S.2.2.2.2 _ (List.mem_of_getElem? (i := 2) rfl)) dX6_digest_111 ?_
        refine lv_lload_n S.1 S.2.1 dX6_digest_114 rfl (lv_at hl 1 rfl) ?_
        refine lv_lmul S.1 S.2.1 dX6_digest_115 ?_
        refine lv_aload_n S.1 S.2.1 dX6_digest_116 rfl (lv_at hl 2 rfl) ?_
        refine w_get S C w (CC := RX6) (T := TX6) (N := 9) (ref := "GateSums") im_X6_digest_X6 0 rfl rfl 1 (by decide) (List.mem_of_getElem? (i := 3) rfl) (fun _ h => h) rfl dX6_digest_117 ?_
        refine lv_iload_n S.1 S.2.1 dX6_digest_120 rfl (lv_at hl 0 rfl) ?_
        refine cs_i (va_runV (As := [.int (nI x100.1)]) (rest := [.long (31 * x100.2)]) S (c_X0_outputAt l G aC aZ _ cT cI cG cO cK cP cQ aK aX aY fZ (nI x100.1)) (cwV 1 S.2.2.2.2 gX6_digest_X0_outputAt rfl rfl rfl (by decide +kernel) ⟨Nat.le_of_ble_eq_true rfl, Nat.le_of_ble_eq_true rfl⟩) ⟨wPre_blind, va_recv C.1 w.1 (ci := 0) (q0 := 3) rfl rfl, wPre_at C w [3, 7] rfl rfl⟩ rfl rfl hl.1 rfl (lv_room (Nat.le_of_ble_eq_true rfl)) dX6_digest_121 ⟨Nat.le_of_ble_eq_true rfl, Nat.le_of_ble_eq_true rfl⟩) (fun r121 h121 => ?_)
        refine w_topi (y := (atF fZ 7 (nI x100.1))) h121 ?_
        refine lv_i2l (v := ((atF fZ 7 (nI x100.1)).toInt64)) S.1 S.2.1 dX6_digest_124 rfl ?_
        refine lv_ladd S.1 S.2.1 dX6_digest_125 ?_
        refine lv_lstore_n (lv' := [(1, .long ((31 * x100.2) + ((atF fZ 7 (nI x100.1)).toInt64))), (3, .int (nI x100.1)), (0, .ref aG)]) S.1 S.2.1 dX6_digest_126 rfl hl (by decide) rfl (fun ls hl => ?_)
        refine lv_iinc (v := (nI (x100.1 + 1))) (lv' := [(3, .int (nI (x100.1 + 1))), (1, .long ((31 * x100.2) + ((atF fZ 7 (nI x100.1)).toInt64))), (0, .ref aG)]) S.1 S.2.1 dX6_digest_127 hl (k := 1) rfl (nI_1 _) (by decide) rfl (fun ls hl => ?_)
        refine lv_goto (tgt := 100) S.1 S.2.1 dX6_digest_130 (by decide) ?_
        exact ih100 (x100.1 + 1, ((31 * x100.2) + ((atF fZ 7 (nI x100.1)).toInt64))) ls (by have := clt (by have := cl_lt cO; omega) c108; show _ + 1 ≤ _; omega) (by have := clt (by have := cl_lt cO; omega) c108; show _ - (_ + 1) < _; omega) (lv_sub hl [0, 1, 2] rfl)
    · refine lv_ldc2 (own := RX6) (v := 31) S.1 S.2.1 S.2.2.2.1 (S.2.2.2.2 _ (List.mem_of_getElem? (i := 2) rfl)) dX6_digest_44 ?_
      refine lv_lload_n S.1 S.2.1 dX6_digest_47 rfl (lv_at hl 1 rfl) ?_
      refine lv_lmul S.1 S.2.1 dX6_digest_48 ?_
      refine lv_aload_n S.1 S.2.1 dX6_digest_49 rfl (lv_at hl 2 rfl) ?_
      refine w_get S C w (CC := RX6) (T := TX6) (N := 9) (ref := "GateSums") im_X6_digest_X6 0 rfl rfl 1 (by decide) (List.mem_of_getElem? (i := 3) rfl) (fun _ h => h) rfl dX6_digest_50 ?_
      refine lv_iload_n S.1 S.2.1 dX6_digest_53 rfl (lv_at hl 0 rfl) ?_
      refine cs_i (va_runV (As := [.int (nI x33.1)]) (rest := [.long (31 * x33.2)]) S (c_X0_kindOf l G aC aK _ cT cI cG cO cK cP cQ aX aY aZ fK (nI x33.1)) (cwV 1 S.2.2.2.2 gX6_digest_X0_kindOf rfl rfl rfl (by decide +kernel) ⟨Nat.le_of_ble_eq_true rfl, Nat.le_of_ble_eq_true rfl⟩) ⟨wPre_blind, va_recv C.1 w.1 (ci := 0) (q0 := 3) rfl rfl, wPre_at C w [3, 4] rfl rfl⟩ rfl rfl hl.1 rfl (lv_room (Nat.le_of_ble_eq_true rfl)) dX6_digest_54 ⟨Nat.le_of_ble_eq_true rfl, Nat.le_of_ble_eq_true rfl⟩) (fun r54 h54 => ?_)
      refine w_topi (y := (atF fK 12 (nI x33.1))) h54 ?_
      refine lv_i2l (v := ((atF fK 12 (nI x33.1)).toInt64)) S.1 S.2.1 dX6_digest_57 rfl ?_
      refine lv_ladd S.1 S.2.1 dX6_digest_58 ?_
      refine lv_lstore_n (lv' := [(1, .long ((31 * x33.2) + ((atF fK 12 (nI x33.1)).toInt64))), (3, .int (nI x33.1)), (0, .ref aG)]) S.1 S.2.1 dX6_digest_59 rfl hl (by decide) rfl (fun ls hl => ?_)
      refine lv_ldc2 (own := RX6) (v := 31) S.1 S.2.1 S.2.2.2.1 (S.2.2.2.2 _ (List.mem_of_getElem? (i := 2) rfl)) dX6_digest_60 ?_
      refine lv_lload_n S.1 S.2.1 dX6_digest_63 rfl (lv_at hl 0 rfl) ?_
      refine lv_lmul S.1 S.2.1 dX6_digest_64 ?_
      refine lv_aload_n S.1 S.2.1 dX6_digest_65 rfl (lv_at hl 2 rfl) ?_
      refine w_get S C w (CC := RX6) (T := TX6) (N := 9) (ref := "GateSums") im_X6_digest_X6 0 rfl rfl 1 (by decide) (List.mem_of_getElem? (i := 3) rfl) (fun _ h => h) rfl dX6_digest_66 ?_
      refine lv_iload_n S.1 S.2.1 dX6_digest_69 rfl (lv_at hl 1 rfl) ?_
      refine cs_i (va_runV (As := [.int (nI x33.1)]) (rest := [.long (31 * ((31 * x33.2) + ((atF fK 12 (nI x33.1)).toInt64)))]) S (c_X0_xOf l G aC aX _ cT cI cG cO cK cP cQ aK aY aZ fX (nI x33.1)) (cwV 1 S.2.2.2.2 gX6_digest_X0_xOf rfl rfl rfl (by decide +kernel) ⟨Nat.le_of_ble_eq_true rfl, Nat.le_of_ble_eq_true rfl⟩) ⟨wPre_blind, va_recv C.1 w.1 (ci := 0) (q0 := 3) rfl rfl, wPre_at C w [3, 5] rfl rfl⟩ rfl rfl hl.1 rfl (lv_room (Nat.le_of_ble_eq_true rfl)) dX6_digest_70 ⟨Nat.le_of_ble_eq_true rfl, Nat.le_of_ble_eq_true rfl⟩) (fun r70 h70 => ?_)
      refine w_topi (y := (atF fX 12 (nI x33.1))) h70 ?_
      refine lv_i2l (v := ((atF fX 12 (nI x33.1)).toInt64)) S.1 S.2.1 dX6_digest_73 rfl ?_
      refine lv_ladd S.1 S.2.1 dX6_digest_74 ?_
      refine lv_lstore_n (lv' := [(1, .long ((31 * ((31 * x33.2) + ((atF fK 12 (nI x33.1)).toInt64))) + ((atF fX 12 (nI x33.1)).toInt64))), (3, .int (nI x33.1)), (0, .ref aG)]) S.1 S.2.1 dX6_digest_75 rfl hl (by decide) rfl (fun ls hl => ?_)
      refine lv_ldc2 (own := RX6) (v := 31) S.1 S.2.1 S.2.2.2.1 (S.2.2.2.2 _ (List.mem_of_getElem? (i := 2) rfl)) dX6_digest_76 ?_
      refine lv_lload_n S.1 S.2.1 dX6_digest_79 rfl (lv_at hl 0 rfl) ?_
      refine lv_lmul S.1 S.2.1 dX6_digest_80 ?_
      refine lv_aload_n S.1 S.2.1 dX6_digest_81 rfl (lv_at hl 2 rfl) ?_
      refine w_get S C w (CC := RX6) (T := TX6) (N := 9) (ref := "GateSums") im_X6_digest_X6 0 rfl rfl 1 (by decide) (List.mem_of_getElem? (i := 3) rfl) (fun _ h => h) rfl dX6_digest_82 ?_
      refine lv_iload_n S.1 S.2.1 dX6_digest_85 rfl (lv_at hl 1 rfl) ?_
      refine cs_i (va_runV (As := [.int (nI x33.1)]) (rest := [.long (31 * ((31 * ((31 * x33.2) + ((atF fK 12 (nI x33.1)).toInt64))) + ((atF fX 12 (nI x33.1)).toInt64)))]) S (c_X0_yOf l G aC aY _ cT cI cG cO cK cP cQ aK aX aZ fY (nI x33.1)) (cwV 1 S.2.2.2.2 gX6_digest_X0_yOf rfl rfl rfl (by decide +kernel) ⟨Nat.le_of_ble_eq_true rfl, Nat.le_of_ble_eq_true rfl⟩) ⟨wPre_blind, va_recv C.1 w.1 (ci := 0) (q0 := 3) rfl rfl, wPre_at C w [3, 6] rfl rfl⟩ rfl rfl hl.1 rfl (lv_room (Nat.le_of_ble_eq_true rfl)) dX6_digest_86 ⟨Nat.le_of_ble_eq_true rfl, Nat.le_of_ble_eq_true rfl⟩) (fun r86 h86 => ?_)
      refine w_topi (y := (atF fY 12 (nI x33.1))) h86 ?_
      refine lv_i2l (v := ((atF fY 12 (nI x33.1)).toInt64)) S.1 S.2.1 dX6_digest_89 rfl ?_
      refine lv_ladd S.1 S.2.1 dX6_digest_90 ?_
      refine lv_lstore_n (lv' := [(1, .long ((31 * ((31 * ((31 * x33.2) + ((atF fK 12 (nI x33.1)).toInt64))) + ((atF fX 12 (nI x33.1)).toInt64))) + ((atF fY 12 (nI x33.1)).toInt64))), (3, .int (nI x33.1)), (0, .ref aG)]) S.1 S.2.1 dX6_digest_91 rfl hl (by decide) rfl (fun ls hl => ?_)
      refine lv_iinc (v := (nI (x33.1 + 1))) (lv' := [(3, .int (nI (x33.1 + 1))), (1, .long ((31 * ((31 * ((31 * x33.2) + ((atF fK 12 (nI x33.1)).toInt64))) + ((atF fX 12 (nI x33.1)).toInt64))) + ((atF fY 12 (nI x33.1)).toInt64))), (0, .ref aG)]) S.1 S.2.1 dX6_digest_92 hl (k := 1) rfl (nI_1 _) (by decide) rfl (fun ls hl => ?_)
      refine lv_goto (tgt := 33) S.1 S.2.1 dX6_digest_95 (by decide) ?_
      exact ih33 (x33.1 + 1, ((31 * ((31 * ((31 * x33.2) + ((atF fK 12 (nI x33.1)).toInt64))) + ((atF fX 12 (nI x33.1)).toInt64))) + ((atF fY 12 (nI x33.1)).toInt64))) ls (by have := clt (by have := cl_lt cG; omega) c41; show _ + 1 ≤ _; omega) (by have := clt (by have := cl_lt cG; omega) c41; show _ - (_ + 1) < _; omega) (lv_sub hl [0, 1, 2] rfl)
  · refine lv_ldc2 (own := RX6) (v := 31) S.1 S.2.1 S.2.2.2.1 (S.2.2.2.2 _ (List.mem_of_getElem? (i := 2) rfl)) dX6_digest_12 ?_
    refine lv_lload_n S.1 S.2.1 dX6_digest_15 rfl (lv_at hl 1 rfl) ?_
    refine lv_lmul S.1 S.2.1 dX6_digest_16 ?_
    refine lv_aload_n S.1 S.2.1 dX6_digest_17 rfl (lv_at hl 2 rfl) ?_
    refine lv_iload_n S.1 S.2.1 dX6_digest_18 rfl (lv_at hl 0 rfl) ?_
    refine cs_i (va_runV (As := [.int (nI x6.1)]) (rest := [.long (31 * x6.2)]) S (s_X6_count l G aG aRd aT aC _ aD aL aM aS nB nN nF aB rF rT rS tL cT cI cG cO cK cP cQ aK aX aY aZ (nI x6.1) ((nI_b6 (by have h := c9; rw [show (6 : Int32) = nI 6 from rfl, nI_ltI (by decide) (by omega)] at h; omega)).1) ((nI_b6 (by have h := c9; rw [show (6 : Int32) = nI 6 from rfl, nI_ltI (by decide) (by omega)] at h; omega)).2)) (cwV 1 S.2.2.2.2 gX6_digest_X6_count rfl rfl rfl (by decide +kernel) ⟨Nat.le_of_ble_eq_true rfl, Nat.le_of_ble_eq_true rfl⟩) ⟨wPre_blind, va_recv C.1 w.1 (ci := 6) (q0 := 0) rfl rfl, wPre_at C w [0, 1, 2, 3] rfl rfl⟩ rfl rfl hl.1 rfl (lv_room (Nat.le_of_ble_eq_true rfl)) dX6_digest_19 ⟨Nat.le_of_ble_eq_true rfl, Nat.le_of_ble_eq_true rfl⟩) (fun r19 h19 => ?_)
    refine lv_i2l (v := r19.toInt64) S.1 S.2.1 dX6_digest_22 rfl ?_
    refine lv_ladd S.1 S.2.1 dX6_digest_23 ?_
    refine lv_lstore_n (lv' := [(1, .long ((31 * x6.2) + r19.toInt64)), (3, .int (nI x6.1)), (0, .ref aG)]) S.1 S.2.1 dX6_digest_24 rfl hl (by decide) rfl (fun ls hl => ?_)
    refine lv_iinc (v := (nI (x6.1 + 1))) (lv' := [(3, .int (nI (x6.1 + 1))), (1, .long ((31 * x6.2) + r19.toInt64)), (0, .ref aG)]) S.1 S.2.1 dX6_digest_25 hl (k := 1) rfl (nI_1 _) (by decide) rfl (fun ls hl => ?_)
    refine lv_goto (tgt := 6) S.1 S.2.1 dX6_digest_28 (by decide) ?_
    exact ih6 (x6.1 + 1, ((31 * x6.2) + r19.toInt64)) ls (by have h := c9; rw [show (6 : Int32) = nI 6 from rfl, nI_ltI (by decide) (by omega)] at h; show _ + 1 ≤ 7; omega) (by have h := c9; rw [show (6 : Int32) = nI 6 from rfl, nI_ltI (by decide) (by omega)] at h; show 7 - (_ + 1) < 7 - _; omega) (lv_sub hl [0, 1, 2] rfl)
