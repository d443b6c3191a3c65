theorem im_X5_append_X5 : ∀ w ∈ u_ws RX5 TX5 2, w ∈ wsX5_append := by decide +kernel
set_option maxHeartbeats 4000000 in
set_option maxRecDepth 100000 in
theorem c_X5_append (l : Launch) (G : GT) (aT aB : Nat) (sz : Nat) (tL : Int32) (fB : Nat → Int32) (x0 : Int32) : Met l yX5_append wsX5_append ({ frames := 0, cells := 0, slots := 0, locals := 0 }) (va_Pc [.ref aT, .int x0] (wPre G [(aT, .inr (5, [.ref aB, .int tL])), (aB, .inl (G.2.1 0, 120, .inl fB))] sz)) (va_Qi (fun (r : Int32) (u : Unit) => r = apR tL) (bW G (va_A [(aT, .inr (5, [.ref aB, .int tL])), (aB, .inl (G.2.1 0, 120, .inl fB))] sz) (fun u : Unit => [(aT, .inr (5, [.ref aB, .int (apL tL)])), (aB, .inl (G.2.1 0, 120, .inl (apB tL x0 fB)))])) (va_A [(aT, .inr (5, [.ref aB, .int tL])), (aB, .inl (G.2.1 0, 120, .inl fB))] sz)) 0 0 (va_A [(aT, .inr (5, [.ref aB, .int tL])), (aB, .inl (G.2.1 0, 120, .inl fB))] sz) := by
  refine met_go (cc := cX5_append) (maxL := 2) (ret := (some .boolean)) (own := RX5) (by decide) rfl rfl (Nat.le_of_ble_eq_true rfl) ?_
  intro p e s m below meth c ls S hr hlocks hname hsz C w hl
  have hl : lv_has ls 2 [(0, .ref aT), (1, .int x0)] := hl
  refine lv_aload_n S.1 S.2.1 dX5_append_0 rfl (lv_at hl 0 rfl) ?_
  refine w_get S C w (CC := RX5) (T := TX5) (N := 2) (ref := "GateSums$Text") im_X5_append_X5 0 rfl rfl 1 (by decide) (List.mem_of_getElem? (i := 1) rfl) (fun _ h => h) rfl dX5_append_1 ?_
  refine lv_if_lt (tgt := 19) S.1 S.2.1 dX5_append_4 (by decide) (fun c4 => ?_) (fun c4 => ?_)
  · refine lv_iconst (v := 0) S.1 S.2.1 dX5_append_19 (by decide) ?_
    have w : Wd G (va_A [(aT, .inr (5, [.ref aB, .int tL])), (aB, .inl (G.2.1 0, 120, .inl fB))] sz) s [(aT, .inr (5, [.ref aB, .int (apL tL)])), (aB, .inl (G.2.1 0, 120, .inl (apB tL x0 fB)))] s.heap [] := by simp only [apL, apB, if_pos c4]; exact w
    exact W.zret (v := 0) S.1 S.2.1 hr (rfl) (fun t ht _ => ⟨⟨0, (), rfl, by simp only [apR, if_pos c4], by rw [ht]; exact w.1, w.2.1⟩, w.2.2.F ht⟩) w.2.2.2.2 dX5_append_20
  · refine lv_aload_n S.1 S.2.1 dX5_append_7 rfl (lv_at hl 0 rfl) ?_
    refine w_get S C w (CC := RX5) (T := TX5) (N := 2) (ref := "GateSums$Text") im_X5_append_X5 0 rfl rfl 1 (by decide) (List.mem_of_getElem? (i := 1) rfl) (fun _ h => h) rfl dX5_append_8 ?_
    refine lv_aload_n S.1 S.2.1 dX5_append_11 rfl (lv_at hl 0 rfl) ?_
    refine w_get S C w (CC := RX5) (T := TX5) (N := 2) (ref := "GateSums$Text") im_X5_append_X5 0 rfl rfl 0 (by decide) (List.mem_of_getElem? (i := 2) rfl) (fun _ h => h) rfl dX5_append_12 ?_
    refine w_alen S C w 1 0 rfl rfl (v := 120) rfl dX5_append_15 ?_
    refine lv_icmp_lt (tgt := 21) S.1 S.2.1 dX5_append_16 (by decide) (fun c16 => ?_) (fun c16 => ?_)
    · refine lv_aload_n S.1 S.2.1 dX5_append_21 rfl (lv_at hl 0 rfl) ?_
      refine w_get S C w (CC := RX5) (T := TX5) (N := 2) (ref := "GateSums$Text") im_X5_append_X5 0 rfl rfl 0 (by decide) (List.mem_of_getElem? (i := 2) rfl) (fun _ h => h) rfl dX5_append_22 ?_
      refine lv_aload_n S.1 S.2.1 dX5_append_25 rfl (lv_at hl 0 rfl) ?_
      refine w_get S C w (CC := RX5) (T := TX5) (N := 2) (ref := "GateSums$Text") im_X5_append_X5 0 rfl rfl 1 (by decide) (List.mem_of_getElem? (i := 1) rfl) (fun _ h => h) rfl dX5_append_26 ?_
      refine lv_iload_n S.1 S.2.1 dX5_append_29 rfl (lv_at hl 1 rfl) ?_
      refine lv_i2b (v := x0.toInt8.toInt32) S.1 S.2.1 dX5_append_30 rfl ?_
      refine w_bast S C w 1 rfl (in_of (by decide) c4 c16) (ws2 := [(aT, .inr (5, [.ref aB, .int tL])), (aB, .inl (G.2.1 0, 120, .inl (upd fB tL.toNatClampNeg (vp_nar .byte x0.toInt8.toInt32))))]) rfl dX5_append_31 (fun H locs w => ?_)
      refine lv_aload_n S.1 S.2.1 dX5_append_32 rfl (lv_at hl 0 rfl) ?_
      refine lv_dup S.1 S.2.1 dX5_append_33 rfl ?_
      refine w_get S C w (CC := RX5) (T := TX5) (N := 2) (ref := "GateSums$Text") im_X5_append_X5 0 rfl rfl 1 (by decide) (List.mem_of_getElem? (i := 1) rfl) (fun _ h => h) rfl dX5_append_34 ?_
      refine lv_iconst (v := 1) S.1 S.2.1 dX5_append_37 (by decide) ?_
      refine lv_iadd S.1 S.2.1 dX5_append_38 ?_
      refine w_put S C w (CC := RX5) (T := TX5) (N := 2) (ref := "GateSums$Text") im_X5_append_X5 tyX5 tyX5_ok nmX5 0 rfl rfl 1 (by decide) (List.mem_of_getElem? (i := 1) rfl) (fun _ h => h) rfl (ws2 := [(aT, .inr (5, [.ref aB, .int (tL + 1)])), (aB, .inl (G.2.1 0, 120, .inl (upd fB tL.toNatClampNeg (vp_nar .byte x0.toInt8.toInt32))))]) (rfl) (rfl) (Nat.le_of_ble_eq_true rfl) rfl dX5_append_39 (fun H locs w => ?_)
      refine lv_iconst (v := 1) S.1 S.2.1 dX5_append_42 (by decide) ?_
      have w : Wd G (va_A [(aT, .inr (5, [.ref aB, .int tL])), (aB, .inl (G.2.1 0, 120, .inl fB))] sz) s [(aT, .inr (5, [.ref aB, .int (apL tL)])), (aB, .inl (G.2.1 0, 120, .inl (apB tL x0 fB)))] H locs := by simp only [apL, apB, if_neg c4, if_pos c16]; exact w
      exact W.zret (v := 1) S.1 S.2.1 hr (rfl) (fun t ht _ => ⟨⟨1, (), rfl, by simp only [apR, if_neg c4, if_pos c16], by rw [ht]; exact w.1, w.2.1⟩, w.2.2.F ht⟩) w.2.2.2.2 dX5_append_43
    · refine lv_iconst (v := 0) S.1 S.2.1 dX5_append_19 (by decide) ?_
      have w : Wd G (va_A [(aT, .inr (5, [.ref aB, .int tL])), (aB, .inl (G.2.1 0, 120, .inl fB))] sz) s [(aT, .inr (5, [.ref aB, .int (apL tL)])), (aB, .inl (G.2.1 0, 120, .inl (apB tL x0 fB)))] s.heap [] := by simp only [apL, apB, if_neg c4, if_neg c16]; exact w
      exact W.zret (v := 0) S.1 S.2.1 hr (rfl) (fun t ht _ => ⟨⟨0, (), rfl, by simp only [apR, if_neg c4, if_neg c16], by rw [ht]; exact w.1, w.2.1⟩, w.2.2.F ht⟩) w.2.2.2.2 dX5_append_20
theorem im_X6_type_X3 : ∀ w ∈ u_ws RX3 TX3 4, w ∈ wsX6_type := by decide +kernel
theorem im_X6_type_X5 : ∀ w ∈ u_ws RX5 TX5 2, w ∈ wsX6_type := by decide +kernel
theorem im_X6_type_X6 : ∀ w ∈ u_ws RX6 TX6 9, w ∈ wsX6_type := by decide +kernel
set_option maxHeartbeats 4000000 in
set_option maxRecDepth 100000 in
theorem c_X6_type (l : Launch) (G : GT) (aG aRd aT aB : Nat) (sz : Nat) (aD aL aM aS : Nat) (nB nN nF : Int32) (aC : Nat) (rF rT rS tL : Int32) (fB : Nat → Int32) (x0 : Int32) : Met l yX6_type wsX6_type ({ frames := 1, cells := 0, slots := 0, locals := 21 }) (va_Pc [.ref aG, .int x0] (wPre G [(aG, .inr (6, [.ref aRd, .ref aC, .ref aD, .ref aL, .ref aM, .ref aS, .int nB, .int nN, .int nF])), (aRd, .inr (3, [.ref aT, .int rF, .int rT, .int rS])), (aT, .inr (5, [.ref aB, .int tL])), (aB, .inl (G.2.1 0, 120, .inl fB))] sz)) (va_Qi (fun (r : Int32) (u : Int32 × Int32 × Int32 × (Nat → Int32)) => r = typeF tL x0) (bW G (va_A [(aG, .inr (6, [.ref aRd, .ref aC, .ref aD, .ref aL, .ref aM, .ref aS, .int nB, .int nN, .int nF])), (aRd, .inr (3, [.ref aT, .int rF, .int rT, .int rS])), (aT, .inr (5, [.ref aB, .int tL])), (aB, .inl (G.2.1 0, 120, .inl fB))] sz) (fun u : Int32 × Int32 × Int32 × (Nat → Int32) => [(aG, .inr (6, [.ref aRd, .ref aC, .ref aD, .ref aL, .ref aM, .ref aS, .int u.1, .int nN, .int u.2.1])), (aRd, .inr (3, [.ref aT, .int rF, .int rT, .int rS])), (aT, .inr (5, [.ref aB, .int u.2.2.1])), (aB, .inl (G.2.1 0, 120, .inl u.2.2.2))])) (va_A [(aG, .inr (6, [.ref aRd, .ref aC, .ref aD, .ref aL, .ref aM, .ref aS, .int nB, .int nN, .int nF])), (aRd, .inr (3, [.ref aT, .int rF, .int rT, .int rS])), (aT, .inr (5, [.ref aB, .int tL])), (aB, .inl (G.2.1 0, 120, .inl fB))] sz)) 0 0 (va_A [(aG, .inr (6, [.ref aRd, .ref aC, .ref aD, .ref aL, .ref aM, .ref aS, .int nB, .int nN, .int nF])), (aRd, .inr (3, [.ref aT, .int rF, .int rT, .int rS])), (aT, .inr (5, [.ref aB, .int tL])), (aB, .inl (G.2.1 0, 120, .inl fB))] sz) := by
  refine met_go (cc := cX6_type) (maxL := 2) (ret := (some .int)) (own := RX6) (by decide) rfl rfl (Nat.le_of_ble_eq_true rfl) ?_
  intro p e s m below meth c ls S hr hlocks hname hsz C w hl
  have hl : lv_has ls 2 [(0, .ref aG), (1, .int x0)] := hl
  refine lv_iload_n S.1 S.2.1 dX6_type_0 rfl (lv_at hl 1 rfl) ?_
  refine lv_if_lt (tgt := 10) S.1 S.2.1 dX6_type_1 (by decide) (fun c1 => ?_) (fun c1 => ?_)
  · refine lv_aload_n S.1 S.2.1 dX6_type_10 rfl (lv_at hl 0 rfl) ?_
    refine lv_bipush (v := (-2)) S.1 S.2.1 dX6_type_11 (by decide) ?_
    refine cq_i C w [0] [1, 2, 3] [3, 0, 1, 2] (wr := [(aRd, .inr (3, [.ref aT, .int rF, .int rT, .int rS])), (aT, .inr (5, [.ref aB, .int tL])), (aB, .inl (G.2.1 0, 120, .inl fB))]) (w' := fun u : Unit => [(aG, .inr (6, [.ref aRd, .ref aC, .ref aD, .ref aL, .ref aM, .ref aS, .int (nB + 1), .int nN, .int nF]))]) (ws2 := fun u : Unit => [(aG, .inr (6, [.ref aRd, .ref aC, .ref aD, .ref aL, .ref aM, .ref aS, .int (nB + 1), .int nN, .int nF])), (aRd, .inr (3, [.ref aT, .int rF, .int rT, .int rS])), (aT, .inr (5, [.ref aB, .int tL])), (aB, .inl (G.2.1 0, 120, .inl fB))]) rfl rfl rfl (by decide) rfl (fun _ => rfl) (va_runV (As := [.int (-2)]) (rest := []) S (c_X6_refused_B l G aG _ aRd aC aD aL aM aS nB nN nF) (cwV 1 S.2.2.2.2 gX6_type_X6_refused rfl rfl rfl (by decide +kernel) ⟨Nat.le_of_ble_eq_true rfl, Nat.le_of_ble_eq_true rfl⟩) ⟨wPre_blind, va_recv C.1 w.1 (ci := 6) (q0 := 0) rfl rfl, wPre_at C w [0] rfl rfl⟩ rfl rfl hl.1 rfl (lv_room (Nat.le_of_ble_eq_true rfl)) dX6_type_13 ⟨Nat.le_of_ble_eq_true rfl, Nat.le_of_ble_eq_true rfl⟩) (fun r13 u13 H locs h13 w => ?_)
    have w : Wd G _ s [(aG, .inr (6, [.ref aRd, .ref aC, .ref aD, .ref aL, .ref aM, .ref aS, .int (nB + 1), .int nN, .int nF])), (aRd, .inr (3, [.ref aT, .int rF, .int rT, .int rS])), (aT, .inr (5, [.ref aB, .int tL])), (aB, .inl (G.2.1 0, 120, .inl fB))] H locs := w
    exact W.iret (v := r13) S.1 S.2.1 hr (fun t ht _ => ⟨⟨r13, ((nB + 1), nF, tL, fB), rfl, by first | (rw [h13]; simp only [typeF, if_pos c1]; done), by rw [ht]; exact w.1, w.2.1⟩, w.2.2.F ht⟩) w.2.2.2.2 dX6_type_16
  · refine lv_iload_n S.1 S.2.1 dX6_type_4 rfl (lv_at hl 1 rfl) ?_
    refine lv_bipush (v := 127) S.1 S.2.1 dX6_type_5 (by decide) ?_
    refine lv_icmp_le (tgt := 17) S.1 S.2.1 dX6_type_7 (by decide) (fun c7 => ?_) (fun c7 => ?_)
    · refine lv_aload_n S.1 S.2.1 dX6_type_17 rfl (lv_at hl 0 rfl) ?_
      refine w_get S C w (CC := RX6) (T := TX6) (N := 9) (ref := "GateSums") im_X6_type_X6 0 rfl rfl 0 (by decide) (List.mem_of_getElem? (i := 1) rfl) (fun _ h => h) rfl dX6_type_18 ?_
      refine w_get S C w (CC := RX3) (T := TX3) (N := 4) (ref := "GateSums$Reader") im_X6_type_X3 1 rfl rfl 0 (by decide) (List.mem_of_getElem? (i := 2) rfl) (fun _ h => h) rfl dX6_type_21 ?_
      refine lv_iload_n S.1 S.2.1 dX6_type_24 rfl (lv_at hl 1 rfl) ?_
      refine cq_i C w [2, 3] [0, 1] [0, 1, 2, 3] (wr := [(aG, .inr (6, [.ref aRd, .ref aC, .ref aD, .ref aL, .ref aM, .ref aS, .int nB, .int nN, .int nF])), (aRd, .inr (3, [.ref aT, .int rF, .int rT, .int rS]))]) (w' := fun u : Unit => [(aT, .inr (5, [.ref aB, .int (apL tL)])), (aB, .inl (G.2.1 0, 120, .inl (apB tL x0 fB)))]) (ws2 := fun u : Unit => [(aG, .inr (6, [.ref aRd, .ref aC, .ref aD, .ref aL, .ref aM, .ref aS, .int nB, .int nN, .int nF])), (aRd, .inr (3, [.ref aT, .int rF, .int rT, .int rS])), (aT, .inr (5, [.ref aB, .int (apL tL)])), (aB, .inl (G.2.1 0, 120, .inl (apB tL x0 fB)))]) rfl rfl rfl (by decide) rfl (fun _ => rfl) (va_runV (As := [.int x0]) (rest := []) S (c_X5_append l G aT aB _ tL fB x0) (cwV 1 S.2.2.2.2 gX6_type_X5_append rfl rfl rfl (by decide +kernel) ⟨Nat.le_of_ble_eq_true rfl, Nat.le_of_ble_eq_true rfl⟩) ⟨wPre_blind, va_recv C.1 w.1 (ci := 5) (q0 := 2) rfl rfl, wPre_at C w [2, 3] rfl rfl⟩ rfl rfl hl.1 rfl (lv_room (Nat.le_of_ble_eq_true rfl)) dX6_type_25 ⟨Nat.le_of_ble_eq_true rfl, Nat.le_of_ble_eq_true rfl⟩) (fun r25 u25 H locs h25 w => ?_)
      have w : Wd G _ s [(aG, .inr (6, [.ref aRd, .ref aC, .ref aD, .ref aL, .ref aM, .ref aS, .int nB, .int nN, .int nF])), (aRd, .inr (3, [.ref aT, .int rF, .int rT, .int rS])), (aT, .inr (5, [.ref aB, .int (apL tL)])), (aB, .inl (G.2.1 0, 120, .inl (apB tL x0 fB)))] H locs := w
      refine lv_if_eq (tgt := 44) S.1 S.2.1 dX6_type_28 (by decide) (fun c28 => ?_) (fun c28 => ?_)
      · refine lv_aload_n S.1 S.2.1 dX6_type_44 rfl (lv_at hl 0 rfl) ?_
        refine lv_bipush (v := (-4)) S.1 S.2.1 dX6_type_45 (by decide) ?_
        refine cq_i C w [0] [1, 2, 3] [3, 0, 1, 2] (wr := [(aRd, .inr (3, [.ref aT, .int rF, .int rT, .int rS])), (aT, .inr (5, [.ref aB, .int (apL tL)])), (aB, .inl (G.2.1 0, 120, .inl (apB tL x0 fB)))]) (w' := fun u : Unit => [(aG, .inr (6, [.ref aRd, .ref aC, .ref aD, .ref aL, .ref aM, .ref aS, .int nB, .int nN, .int (nF + 1)]))]) (ws2 := fun u : Unit => [(aG, .inr (6, [.ref aRd, .ref aC, .ref aD, .ref aL, .ref aM, .ref aS, .int nB, .int nN, .int (nF + 1)])), (aRd, .inr (3, [.ref aT, .int rF, .int rT, .int rS])), (aT, .inr (5, [.ref aB, .int (apL tL)])), (aB, .inl (G.2.1 0, 120, .inl (apB tL x0 fB)))]) rfl rfl rfl (by decide) rfl (fun _ => rfl) (va_runV (As := [.int (-4)]) (rest := []) S (c_X6_refused_F l G aG _ aRd aC aD aL aM aS nB nN nF) (cwV 1 S.2.2.2.2 gX6_type_X6_refused rfl rfl rfl (by decide +kernel) ⟨Nat.le_of_ble_eq_true rfl, Nat.le_of_ble_eq_true rfl⟩) ⟨wPre_blind, va_recv C.1 w.1 (ci := 6) (q0 := 0) rfl rfl, wPre_at C w [0] rfl rfl⟩ rfl rfl hl.1 rfl (lv_room (Nat.le_of_ble_eq_true rfl)) dX6_type_47 ⟨Nat.le_of_ble_eq_true rfl, Nat.le_of_ble_eq_true rfl⟩) (fun r47 u47 H locs h47 w => ?_)
        have w : Wd G _ s [(aG, .inr (6, [.ref aRd, .ref aC, .ref aD, .ref aL, .ref aM, .ref aS, .int nB, .int nN, .int (nF + 1)])), (aRd, .inr (3, [.ref aT, .int rF, .int rT, .int rS])), (aT, .inr (5, [.ref aB, .int (apL tL)])), (aB, .inl (G.2.1 0, 120, .inl (apB tL x0 fB)))] H locs := w
        exact W.iret (v := r47) S.1 S.2.1 hr (fun t ht _ => ⟨⟨r47, (nB, (nF + 1), (apL tL), (apB tL x0 fB)), rfl, by first | (simp only [typeF, if_neg c1, if_pos c7]; exact type_ok h25 c28) | (rw [h47]; simp only [typeF, if_neg c1, if_pos c7]; exact type_full h25 c28), by rw [ht]; exact w.1, w.2.1⟩, w.2.2.F ht⟩) w.2.2.2.2 dX6_type_50
      · refine lv_aload_n S.1 S.2.1 dX6_type_31 rfl (lv_at hl 0 rfl) ?_
        refine w_get S C w (CC := RX6) (T := TX6) (N := 9) (ref := "GateSums") im_X6_type_X6 0 rfl rfl 0 (by decide) (List.mem_of_getElem? (i := 1) rfl) (fun _ h => h) rfl dX6_type_32 ?_
        refine w_get S C w (CC := RX3) (T := TX3) (N := 4) (ref := "GateSums$Reader") im_X6_type_X3 1 rfl rfl 0 (by decide) (List.mem_of_getElem? (i := 2) rfl) (fun _ h => h) rfl dX6_type_35 ?_
        refine w_get S C w (CC := RX5) (T := TX5) (N := 2) (ref := "GateSums$Text") im_X6_type_X5 2 rfl rfl 1 (by decide) (List.mem_of_getElem? (i := 3) rfl) (fun _ h => h) rfl dX6_type_38 ?_
        refine lv_goto (tgt := 50) S.1 S.2.1 dX6_type_41 (by decide) ?_
        exact W.iret (v := (apL tL)) S.1 S.2.1 hr (fun t ht _ => ⟨⟨(apL tL), (nB, nF, (apL tL), (apB tL x0 fB)), rfl, by first | (simp only [typeF, if_neg c1, if_pos c7]; exact type_ok h25 c28) | (rw [@h47]; simp only [typeF, if_neg c1, if_pos c7]; exact type_full h25 c28), by rw [ht]; exact w.1, w.2.1⟩, w.2.2.F ht⟩) w.2.2.2.2 dX6_type_50
    · refine lv_aload_n S.1 S.2.1 dX6_type_10 rfl (lv_at hl 0 rfl) ?_
      refine lv_bipush (v := (-2)) S.1 S.2.1 dX6_type_11 (by decide) ?_
      refine cq_i C w [0] [1, 2, 3] [3, 0, 1, 2] (wr := [(aRd, .inr (3, [.ref aT, .int rF, .int rT, .int rS])), (aT, .inr (5, [.ref aB, .int tL])), (aB, .inl (G.2.1 0, 120, .inl fB))]) (w' := fun u : Unit => [(aG, .inr (6, [.ref aRd, .ref aC, .ref aD, .ref aL, .ref aM, .ref aS, .int (nB + 1), .int nN, .int nF]))]) (ws2 := fun u : Unit => [(aG, .inr (6, [.ref aRd, .ref aC, .ref aD, .ref aL, .ref aM, .ref aS, .int (nB + 1), .int nN, .int nF])), (aRd, .inr (3, [.ref aT, .int rF, .int rT, .int rS])), (aT, .inr (5, [.ref aB, .int tL])), (aB, .inl (G.2.1 0, 120, .inl fB))]) rfl rfl rfl (by decide) rfl (fun _ => rfl) (va_runV (As := [.int (-2)]) (rest := []) S (c_X6_refused_B l G aG _ aRd aC aD aL aM aS nB nN nF) (cwV 1 S.2.2.2.2 gX6_type_X6_refused rfl rfl rfl (by decide +kernel) ⟨Nat.le_of_ble_eq_true rfl, Nat.le_of_ble_eq_true rfl⟩) ⟨wPre_blind, va_recv C.1 w.1 (ci := 6) (q0 := 0) rfl rfl, wPre_at C w [0] rfl rfl⟩ rfl rfl hl.1 rfl (lv_room (Nat.le_of_ble_eq_true rfl)) dX6_type_13 ⟨Nat.le_of_ble_eq_true rfl, Nat.le_of_ble_eq_true rfl⟩) (fun r13_1 u13_1 H locs h13_1 w => ?_)
      have w : Wd G _ s [(aG, .inr (6, [.ref aRd, .ref aC, .ref aD, .ref aL, .ref aM, .ref aS, .int (nB + 1), .int nN, .int nF])), (aRd, .inr (3, [.ref aT, .int rF, .int rT, .int rS])), (aT, .inr (5, [.ref aB, .int tL])), (aB, .inl (G.2.1 0, 120, .inl fB))] H locs := w
      exact W.iret (v := r13_1) S.1 S.2.1 hr (fun t ht _ => ⟨⟨r13_1, ((nB + 1), nF, tL, fB), rfl, by first | (rw [h13_1]; simp only [typeF, if_neg c1, if_neg c7]; done), by rw [ht]; exact w.1, w.2.1⟩, w.2.2.F ht⟩) w.2.2.2.2 dX6_type_16
theorem im_X6_clear_X3 : ∀ w ∈ u_ws RX3 TX3 4, w ∈ wsX6_clear := by decide +kernel
theorem im_X6_clear_X5 : ∀ w ∈ u_ws RX5 TX5 2, w ∈ wsX6_clear := by decide +kernel
theorem im_X6_clear_X6 : ∀ w ∈ u_ws RX6 TX6 9, w ∈ wsX6_clear := by decide +kernel
set_option maxHeartbeats 4000000 in
set_option maxRecDepth 100000 in
theorem c_X6_clear (l : Launch) (G : GT) (aG aRd aT : Nat) (sz : Nat) (aD aL aM aS : Nat) (nB nN nF : Int32) (aC aB : Nat) (rF rT rS tL : Int32) : Met l yX6_clear wsX6_clear ({ frames := 0, cells := 0, slots := 0, locals := 0 }) (va_Pc [.ref aG] (wPre G [(aG, .inr (6, [.ref aRd, .ref aC, .ref aD, .ref aL, .ref aM, .ref aS, .int nB, .int nN, .int nF])), (aRd, .inr (3, [.ref aT, .int rF, .int rT, .int rS])), (aT, .inr (5, [.ref aB, .int tL]))] sz)) (va_Qi (fun (r : Int32) (u : Unit) => r = tL) (bW G (va_A [(aG, .inr (6, [.ref aRd, .ref aC, .ref aD, .ref aL, .ref aM, .ref aS, .int nB, .int nN, .int nF])), (aRd, .inr (3, [.ref aT, .int rF, .int rT, .int rS])), (aT, .inr (5, [.ref aB, .int tL]))] sz) (fun u : Unit => [(aG, .inr (6, [.ref aRd, .ref aC, .ref aD, .ref aL, .ref aM, .ref aS, .int nB, .int nN, .int nF])), (aRd, .inr (3, [.ref aT, .int rF, .int rT, .int rS])), (aT, .inr (5, [.ref aB, .int 0]))])) (va_A [(aG, .inr (6, [.ref aRd, .ref aC, .ref aD, .ref aL, .ref aM, .ref aS, .int nB, .int nN, .int nF])), (aRd, .inr (3, [.ref aT, .int rF, .int rT, .int rS])), (aT, .inr (5, [.ref aB, .int tL]))] sz)) 0 0 (va_A [(aG, .inr (6, [.ref aRd, .ref aC, .ref aD, .ref aL, .ref aM, .ref aS, .int nB, .int nN, .int nF])), (aRd, .inr (3, [.ref aT, .int rF, .int rT, .int rS])), (aT, .inr (5, [.ref aB, .int tL]))] sz) := by
  refine met_go (cc := cX6_clear) (maxL := 2) (ret := (some .int)) (own := RX6) (by decide) rfl rfl (Nat.le_of_ble_eq_true rfl) ?_
  intro p e s m below meth c ls S hr hlocks hname hsz C w hl
  have hl : lv_has ls 2 [(0, .ref aG)] := hl
  refine lv_aload_n S.1 S.2.1 dX6_clear_0 rfl (lv_at hl 0 rfl) ?_
  refine w_get S C w (CC := RX6) (T := TX6) (N := 9) (ref := "GateSums") im_X6_clear_X6 0 rfl rfl 0 (by decide) (List.mem_of_getElem? (i := 1) rfl) (fun _ h => h) rfl dX6_clear_1 ?_
  refine w_get S C w (CC := RX3) (T := TX3) (N := 4) (ref := "GateSums$Reader") im_X6_clear_X3 1 rfl rfl 0 (by decide) (List.mem_of_getElem? (i := 2) rfl) (fun _ h => h) rfl dX6_clear_4 ?_
  refine w_get S C w (CC := RX5) (T := TX5) (N := 2) (ref := "GateSums$Text") im_X6_clear_X5 2 rfl rfl 1 (by decide) (List.mem_of_getElem? (i := 3) rfl) (fun _ h => h) rfl dX6_clear_7 ?_
  refine lv_istore_n (lv' := [(1, .int tL), (0, .ref aG)]) S.1 S.2.1 dX6_clear_10 rfl hl (by decide) rfl (fun ls hl => ?_)
  refine lv_aload_n S.1 S.2.1 dX6_clear_11 rfl (lv_at hl 1 rfl) ?_
  refine w_get S C w (CC := RX6) (T := TX6) (N := 9) (ref := "GateSums") im_X6_clear_X6 0 rfl rfl 0 (by decide) (List.mem_of_getElem? (i := 1) rfl) (fun _ h => h) rfl dX6_clear_12 ?_
  refine w_get S C w (CC := RX3) (T := TX3) (N := 4) (ref := "GateSums$Reader") im_X6_clear_X3 1 rfl rfl 0 (by decide) (List.mem_of_getElem? (i := 2) rfl) (fun _ h => h) rfl dX6_clear_15 ?_
  refine lv_iconst (v := 0) S.1 S.2.1 dX6_clear_18 (by decide) ?_
  refine w_put S C w (CC := RX5) (T := TX5) (N := 2) (ref := "GateSums$Text") im_X6_clear_X5 tyX5 tyX5_ok nmX5 2 rfl rfl 1 (by decide) (List.mem_of_getElem? (i := 3) rfl) (fun _ h => h) rfl (ws2 := [(aG, .inr (6, [.ref aRd, .ref aC, .ref aD, .ref aL, .ref aM, .ref aS, .int nB, .int nN, .int nF])), (aRd, .inr (3, [.ref aT, .int rF, .int rT, .int rS])), (aT, .inr (5, [.ref aB, .int 0]))]) (rfl) (rfl) (Nat.le_of_ble_eq_true rfl) rfl dX6_clear_19 (fun H locs w => ?_)
  refine lv_iload_n S.1 S.2.1 dX6_clear_22 rfl (lv_at hl 0 rfl) ?_
  exact W.iret (v := tL) S.1 S.2.1 hr (fun t ht _ => ⟨⟨tL, (), rfl, rfl, by rw [ht]; exact w.1, w.2.1⟩, w.2.2.F ht⟩) w.2.2.2.2 dX6_clear_23
theorem im_X6_count_X0 : ∀ w ∈ u_ws RX0 TX0 11, w ∈ wsX6_count := by decide +kernel
theorem im_X6_count_X3 : ∀ w ∈ u_ws RX3 TX3 4, w ∈ wsX6_count := by decide +kernel
theorem im_X6_count_X5 : ∀ w ∈ u_ws RX5 TX5 2, w ∈ wsX6_count := by decide +kernel
theorem im_X6_count_X6 : ∀ w ∈ u_ws RX6 TX6 9, w ∈ wsX6_count := by decide +kernel
set_option maxHeartbeats 4000000 in
set_option maxRecDepth 100000 in
theorem c_X6_count (l : Launch) (G : GT) (aG aRd aT aC : Nat) (sz : Nat) (aD aL aM aS : Nat) (nB nN nF : Int32) (aB : Nat) (rF rT rS tL : Int32) (cT cI cG cO cK cP cQ : Int32) (aK aX aY aZ : Nat) (x0 : Int32) : Met l yX6_count wsX6_count ({ frames := 1, cells := 0, slots := 0, locals := 21 }) (va_Pc [.ref aG, .int x0] (wPre G [(aG, .inr (6, [.ref aRd, .ref aC, .ref aD, .ref aL, .ref aM, .ref aS, .int nB, .int nN, .int nF])), (aRd, .inr (3, [.ref aT, .int rF, .int rT, .int rS])), (aT, .inr (5, [.ref aB, .int tL])), (aC, .inr (0, [.int cT, .int cI, .int cG, .int cO, .int cK, .int cP, .int cQ, .ref aK, .ref aX, .ref aY, .ref aZ]))] sz)) (va_Qi (fun (r : Int32) (u : Int32) => r = cntF nB nN nF tL cI cG cO x0) (bW G (va_A [(aG, .inr (6, [.ref aRd, .ref aC, .ref aD, .ref aL, .ref aM, .ref aS, .int nB, .int nN, .int nF])), (aRd, .inr (3, [.ref aT, .int rF, .int rT, .int rS])), (aT, .inr (5, [.ref aB, .int tL])), (aC, .inr (0, [.int cT, .int cI, .int cG, .int cO, .int cK, .int cP, .int cQ, .ref aK, .ref aX, .ref aY, .ref aZ]))] sz) (fun u : Int32 => [(aG, .inr (6, [.ref aRd, .ref aC, .ref aD, .ref aL, .ref aM, .ref aS, .int u, .int nN, .int nF])), (aRd, .inr (3, [.ref aT, .int rF, .int rT, .int rS])), (aT, .inr (5, [.ref aB, .int tL])), (aC, .inr (0, [.int cT, .int cI, .int cG, .int cO, .int cK, .int cP, .int cQ, .ref aK, .ref aX, .ref aY, .ref aZ]))])) (va_A [(aG, .inr (6, [.ref aRd, .ref aC, .ref aD, .ref aL, .ref aM, .ref aS, .int nB, .int nN, .int nF])), (aRd, .inr (3, [.ref aT, .int rF, .int rT, .int rS])), (aT, .inr (5, [.ref aB, .int tL])), (aC, .inr (0, [.int cT, .int cI, .int cG, .int cO, .int cK, .int cP, .int cQ, .ref aK, .ref aX, .ref aY, .ref aZ]))] sz)) 0 0 (va_A [(aG, .inr (6, [.ref aRd, .ref aC, .ref aD, .ref aL, .ref aM, .ref aS, .int nB, .int nN, .int nF])), (aRd, .inr (3, [.ref aT, .int rF, .int rT, .int rS])), (aT, .inr (5, [.ref aB, .int tL])), (aC, .inr (0, [.int cT, .int cI, .int cG, .int cO, .int cK, .int cP, .int cQ, .ref aK, .ref aX, .ref aY, .ref aZ]))] sz) := by
  refine met_go (cc := cX6_count) (maxL := 2) (ret := (some .int)) (own := RX6) (by decide) rfl rfl (Nat.le_of_ble_eq_true rfl) ?_
  intro p e s m below meth c ls S hr hlocks hname hsz C w hl
  have hl : lv_has ls 2 [(0, .ref aG), (1, .int x0)] := hl
  refine lv_iload_n S.1 S.2.1 dX6_count_0 rfl (lv_at hl 1 rfl) ?_
  rcases sw_cases 0 6 x0.toInt (by decide) with c1 | ⟨c1n, c1l, c1q⟩
  · refine lv_tableOut (tgt := 94) S.1 S.2.1 dX6_count_1 c1 (by decide) ?_
    refine lv_aload_n S.1 S.2.1 dX6_count_94 rfl (lv_at hl 0 rfl) ?_
    refine lv_bipush (v := (-2)) S.1 S.2.1 dX6_count_95 (by decide) ?_
    refine cq_i C w [0] [1, 2, 3] [3, 0, 1, 2] (wr := [(aRd, .inr (3, [.ref aT, .int rF, .int rT, .int rS])), (aT, .inr (5, [.ref aB, .int tL])), (aC, .inr (0, [.int cT, .int cI, .int cG, .int cO, .int cK, .int cP, .int cQ, .ref aK, .ref aX, .ref aY, .ref aZ]))]) (w' := fun u : Unit => [(aG, .inr (6, [.ref aRd, .ref aC, .ref aD, .ref aL, .ref aM, .ref aS, .int (nB + 1), .int nN, .int nF]))]) (ws2 := fun u : Unit => [(aG, .inr (6, [.ref aRd, .ref aC, .ref aD, .ref aL, .ref aM, .ref aS, .int (nB + 1), .int nN, .int nF])), (aRd, .inr (3, [.ref aT, .int rF, .int rT, .int rS])), (aT, .inr (5, [.ref aB, .int tL])), (aC, .inr (0, [.int cT, .int cI, .int cG, .int cO, .int cK, .int cP, .int cQ, .ref aK, .ref aX, .ref aY, .ref aZ]))]) rfl rfl rfl (by decide) rfl (fun _ => rfl) (va_runV (As := [.int (-2)]) (rest := []) S (c_X6_refused_B l G aG _ aRd aC aD aL aM aS nB nN nF) (cwV 1 S.2.2.2.2 gX6_count_X6_refused rfl rfl rfl (by decide +kernel) ⟨Nat.le_of_ble_eq_true rfl, Nat.le_of_ble_eq_true rfl⟩) ⟨wPre_blind, va_recv C.1 w.1 (ci := 6) (q0 := 0) rfl rfl, wPre_at C w [0] rfl rfl⟩ rfl rfl hl.1 rfl (lv_room (Nat.le_of_ble_eq_true rfl)) dX6_count_97 ⟨Nat.le_of_ble_eq_true rfl, Nat.le_of_ble_eq_true rfl⟩) (fun r97 u97 H locs h97 w => ?_)
    have w : Wd G _ s [(aG, .inr (6, [.ref aRd, .ref aC, .ref aD, .ref aL, .ref aM, .ref aS, .int (nB + 1), .int nN, .int nF])), (aRd, .inr (3, [.ref aT, .int rF, .int rT, .int rS])), (aT, .inr (5, [.ref aB, .int tL])), (aC, .inr (0, [.int cT, .int cI, .int cG, .int cO, .int cK, .int cP, .int cQ, .ref aK, .ref aX, .ref aY, .ref aZ]))] H locs := w
    exact W.iret (v := r97) S.1 S.2.1 hr (fun t ht _ => ⟨⟨r97, (nB + 1), rfl, by first | (rw [h97]; exact (if_pos c1).symm) | (rw [cntF, if_neg (by omega)]; simp [countF, c1]), by rw [ht]; exact w.1, w.2.1⟩, w.2.2.F ht⟩) w.2.2.2.2 dX6_count_100
  · have c1l2 : c1n < 7 := by omega
    rcases Nat.lt_or_ge c1n 1 with c1a | c1a
    · have c1e : c1n = 0 := by omega
      subst c1e
      have c1 : x0.toInt = 0 := by omega
      refine lv_tableIn (off := 43) (tgt := 44) S.1 S.2.1 dX6_count_1 (by omega) (by omega) (by rw [c1]; rfl) (by decide) ?_
      refine lv_aload_n S.1 S.2.1 dX6_count_44 rfl (lv_at hl 0 rfl) ?_
      refine w_get S C w (CC := RX6) (T := TX6) (N := 9) (ref := "GateSums") im_X6_count_X6 0 rfl rfl 6 (by decide) (List.mem_of_getElem? (i := 1) rfl) (fun _ h => h) rfl dX6_count_45 ?_
      exact W.iret (v := nB) S.1 S.2.1 hr (fun t ht _ => ⟨⟨nB, nB, rfl, by first | (rw [@h97]; exact (if_pos c1).symm) | (rw [cntF, if_neg (by omega)]; simp [countF, c1]), by rw [ht]; exact w.1, w.2.1⟩, w.2.2.F ht⟩) w.2.2.2.2 dX6_count_48
    rcases Nat.lt_or_ge c1n 2 with c1a | c1a
    · have c1e : c1n = 1 := by omega
      subst c1e
      have c1 : x0.toInt = 1 := by omega
      refine lv_tableIn (off := 48) (tgt := 49) S.1 S.2.1 dX6_count_1 (by omega) (by omega) (by rw [c1]; rfl) (by decide) ?_
      refine lv_aload_n S.1 S.2.1 dX6_count_49 rfl (lv_at hl 0 rfl) ?_
      refine w_get S C w (CC := RX6) (T := TX6) (N := 9) (ref := "GateSums") im_X6_count_X6 0 rfl rfl 7 (by decide) (List.mem_of_getElem? (i := 2) rfl) (fun _ h => h) rfl dX6_count_50 ?_
      exact W.iret (v := nN) S.1 S.2.1 hr (fun t ht _ => ⟨⟨nN, nB, rfl, by first | (rw [@h97]; exact (if_pos c1).symm) | (rw [cntF, if_neg (by omega)]; simp [countF, c1]), by rw [ht]; exact w.1, w.2.1⟩, w.2.2.F ht⟩) w.2.2.2.2 dX6_count_53
    rcases Nat.lt_or_ge c1n 3 with c1a | c1a
    · have c1e : c1n = 2 := by omega
      subst c1e
      have c1 : x0.toInt = 2 := by omega
      refine lv_tableIn (off := 53) (tgt := 54) S.1 S.2.1 dX6_count_1 (by omega) (by omega) (by rw [c1]; rfl) (by decide) ?_
      refine lv_aload_n S.1 S.2.1 dX6_count_54 rfl (lv_at hl 0 rfl) ?_
      refine w_get S C w (CC := RX6) (T := TX6) (N := 9) (ref := "GateSums") im_X6_count_X6 0 rfl rfl 8 (by decide) (List.mem_of_getElem? (i := 3) rfl) (fun _ h => h) rfl dX6_count_55 ?_
      exact W.iret (v := nF) S.1 S.2.1 hr (fun t ht _ => ⟨⟨nF, nB, rfl, by first | (rw [@h97]; exact (if_pos c1).symm) | (rw [cntF, if_neg (by omega)]; simp [countF, c1]), by rw [ht]; exact w.1, w.2.1⟩, w.2.2.F ht⟩) w.2.2.2.2 dX6_count_58
    rcases Nat.lt_or_ge c1n 4 with c1a | c1a
    · have c1e : c1n = 3 := by omega
      subst c1e
      have c1 : x0.toInt = 3 := by omega
      refine lv_tableIn (off := 58) (tgt := 59) S.1 S.2.1 dX6_count_1 (by omega) (by omega) (by rw [c1]; rfl) (by decide) ?_
      refine lv_aload_n S.1 S.2.1 dX6_count_59 rfl (lv_at hl 0 rfl) ?_
      refine w_get S C w (CC := RX6) (T := TX6) (N := 9) (ref := "GateSums") im_X6_count_X6 0 rfl rfl 0 (by decide) (List.mem_of_getElem? (i := 4) rfl) (fun _ h => h) rfl dX6_count_60 ?_
      refine w_get S C w (CC := RX3) (T := TX3) (N := 4) (ref := "GateSums$Reader") im_X6_count_X3 1 rfl rfl 0 (by decide) (List.mem_of_getElem? (i := 5) rfl) (fun _ h => h) rfl dX6_count_63 ?_
      refine w_get S C w (CC := RX5) (T := TX5) (N := 2) (ref := "GateSums$Text") im_X6_count_X5 2 rfl rfl 1 (by decide) (List.mem_of_getElem? (i := 6) rfl) (fun _ h => h) rfl dX6_count_66 ?_
      exact W.iret (v := tL) S.1 S.2.1 hr (fun t ht _ => ⟨⟨tL, nB, rfl, by first | (rw [@h97]; exact (if_pos c1).symm) | (rw [cntF, if_neg (by omega)]; simp [countF, c1]), by rw [ht]; exact w.1, w.2.1⟩, w.2.2.F ht⟩) w.2.2.2.2 dX6_count_69
    rcases Nat.lt_or_ge c1n 5 with c1a | c1a
    · have c1e : c1n = 4 := by omega
      subst c1e
      have c1 : x0.toInt = 4 := by omega
      refine lv_tableIn (off := 69) (tgt := 70) S.1 S.2.1 dX6_count_1 (by omega) (by omega) (by rw [c1]; rfl) (by decide) ?_
      refine lv_aload_n S.1 S.2.1 dX6_count_70 rfl (lv_at hl 0 rfl) ?_
      refine w_get S C w (CC := RX6) (T := TX6) (N := 9) (ref := "GateSums") im_X6_count_X6 0 rfl rfl 1 (by decide) (List.mem_of_getElem? (i := 7) rfl) (fun _ h => h) rfl dX6_count_71 ?_
      refine w_get S C w (CC := RX0) (T := TX0) (N := 11) (ref := "GateSums$Circuit") im_X6_count_X0 3 rfl rfl 1 (by decide) (List.mem_of_getElem? (i := 8) rfl) (fun _ h => h) rfl dX6_count_74 ?_
      exact W.iret (v := cI) S.1 S.2.1 hr (fun t ht _ => ⟨⟨cI, nB, rfl, by first | (rw [@h97]; exact (if_pos c1).symm) | (rw [cntF, if_neg (by omega)]; simp [countF, c1]), by rw [ht]; exact w.1, w.2.1⟩, w.2.2.F ht⟩) w.2.2.2.2 dX6_count_77
    rcases Nat.lt_or_ge c1n 6 with c1a | c1a
    · have c1e : c1n = 5 := by omega
      subst c1e
      have c1 : x0.toInt = 5 := by omega
      refine lv_tableIn (off := 77) (tgt := 78) S.1 S.2.1 dX6_count_1 (by omega) (by omega) (by rw [c1]; rfl) (by decide) ?_
      refine lv_aload_n S.1 S.2.1 dX6_count_78 rfl (lv_at hl 0 rfl) ?_
      refine w_get S C w (CC := RX6) (T := TX6) (N := 9) (ref := "GateSums") im_X6_count_X6 0 rfl rfl 1 (by decide) (List.mem_of_getElem? (i := 7) rfl) (fun _ h => h) rfl dX6_count_79 ?_
      refine w_get S C w (CC := RX0) (T := TX0) (N := 11) (ref := "GateSums$Circuit") im_X6_count_X0 3 rfl rfl 2 (by decide) (List.mem_of_getElem? (i := 9) rfl) (fun _ h => h) rfl dX6_count_82 ?_
      exact W.iret (v := cG) S.1 S.2.1 hr (fun t ht _ => ⟨⟨cG, nB, rfl, by first | (rw [@h97]; exact (if_pos c1).symm) | (rw [cntF, if_neg (by omega)]; simp [countF, c1]), by rw [ht]; exact w.1, w.2.1⟩, w.2.2.F ht⟩) w.2.2.2.2 dX6_count_85
    have c1e : c1n = 6 := by omega
    subst c1e
    have c1 : x0.toInt = 6 := by omega
    refine lv_tableIn (off := 85) (tgt := 86) S.1 S.2.1 dX6_count_1 (by omega) (by omega) (by rw [c1]; rfl) (by decide) ?_
    refine lv_aload_n S.1 S.2.1 dX6_count_86 rfl (lv_at hl 0 rfl) ?_
    refine w_get S C w (CC := RX6) (T := TX6) (N := 9) (ref := "GateSums") im_X6_count_X6 0 rfl rfl 1 (by decide) (List.mem_of_getElem? (i := 7) rfl) (fun _ h => h) rfl dX6_count_87 ?_
    refine w_get S C w (CC := RX0) (T := TX0) (N := 11) (ref := "GateSums$Circuit") im_X6_count_X0 3 rfl rfl 3 (by decide) (List.mem_of_getElem? (i := 10) rfl) (fun _ h => h) rfl dX6_count_90 ?_
    exact W.iret (v := cO) S.1 S.2.1 hr (fun t ht _ => ⟨⟨cO, nB, rfl, by first | (rw [@h97]; exact (if_pos c1).symm) | (rw [cntF, if_neg (by omega)]; simp [countF, c1]), by rw [ht]; exact w.1, w.2.1⟩, w.2.2.F ht⟩) w.2.2.2.2 dX6_count_93
set_option maxHeartbeats 4000000 in
set_option maxRecDepth 100000 in
theorem s_X6_count (l : Launch) (G : GT) (aG aRd aT aC : Nat) (sz : Nat) (aD aL aM aS : Nat) (nB nN nF : Int32) (aB : Nat) (rF rT rS tL : Int32) (cT cI cG cO cK cP cQ : Int32) (aK aX aY aZ : Nat) (x0 : Int32) (hx0 : 0 ≤ x0.toInt) (hx6 : x0.toInt ≤ 6) : Met l yX6_count wsX6_count ({ frames := 0, cells := 0, slots := 0, locals := 0 }) (va_Pc [.ref aG, .int x0] (wPre G [(aG, .inr (6, [.ref aRd, .ref aC, .ref aD, .ref aL, .ref aM, .ref aS, .int nB, .int nN, .int nF])), (aRd, .inr (3, [.ref aT, .int rF, .int rT, .int rS])), (aT, .inr (5, [.ref aB, .int tL])), (aC, .inr (0, [.int cT, .int cI, .int cG, .int cO, .int cK, .int cP, .int cQ, .ref aK, .ref aX, .ref aY, .ref aZ]))] sz)) (vp_Si (fun r : Int32 => r = countF nB nN nF tL cI cG cO x0)) 0 0 (fun _ => False) := by
  refine met_go (cc := cX6_count) (maxL := 2) (ret := (some .int)) (own := RX6) (by decide) rfl rfl (Nat.le_of_ble_eq_true rfl) ?_
  intro p e s m below meth c ls S hr hlocks hname hsz C w hl
  have hl : lv_has ls 2 [(0, .ref aG), (1, .int x0)] := hl
  refine lv_iload_n S.1 S.2.1 dX6_count_0 rfl (lv_at hl 1 rfl) ?_
  rcases sw_cases 0 6 x0.toInt (by decide) with c1 | ⟨c1n, c1l, c1q⟩
  · exact absurd c1 (by omega)
  · have c1l2 : c1n < 7 := by omega
    rcases Nat.lt_or_ge c1n 1 with c1a | c1a
    · have c1e : c1n = 0 := by omega
      subst c1e
      have c1 : x0.toInt = 0 := by omega
      refine lv_tableIn (off := 43) (tgt := 44) S.1 S.2.1 dX6_count_1 (by omega) (by omega) (by rw [c1]; rfl) (by decide) ?_
      refine lv_aload_n S.1 S.2.1 dX6_count_44 rfl (lv_at hl 0 rfl) ?_
      refine w_get S C w (CC := RX6) (T := TX6) (N := 9) (ref := "GateSums") im_X6_count_X6 0 rfl rfl 6 (by decide) (List.mem_of_getElem? (i := 1) rfl) (fun _ h => h) rfl dX6_count_45 ?_
      exact W.iret (v := nB) S.1 S.2.1 hr (fun t ht _ => ⟨nB, rfl, by simp [countF, c1], ht⟩) (fun q h => absurd h List.not_mem_nil) dX6_count_48
    rcases Nat.lt_or_ge c1n 2 with c1a | c1a
    · have c1e : c1n = 1 := by omega
      subst c1e
      have c1 : x0.toInt = 1 := by omega
      refine lv_tableIn (off := 48) (tgt := 49) S.1 S.2.1 dX6_count_1 (by omega) (by omega) (by rw [c1]; rfl) (by decide) ?_
      refine lv_aload_n S.1 S.2.1 dX6_count_49 rfl (lv_at hl 0 rfl) ?_
      refine w_get S C w (CC := RX6) (T := TX6) (N := 9) (ref := "GateSums") im_X6_count_X6 0 rfl rfl 7 (by decide) (List.mem_of_getElem? (i := 2) rfl) (fun _ h => h) rfl dX6_count_50 ?_
      exact W.iret (v := nN) S.1 S.2.1 hr (fun t ht _ => ⟨nN, rfl, by simp [countF, c1], ht⟩) (fun q h => absurd h List.not_mem_nil) dX6_count_53
    rcases Nat.lt_or_ge c1n 3 with c1a | c1a
    · have c1e : c1n = 2 := by omega
      subst c1e
      have c1 : x0.toInt = 2 := by omega
      refine lv_tableIn (off := 53) (tgt := 54) S.1 S.2.1 dX6_count_1 (by omega) (by omega) (by rw [c1]; rfl) (by decide) ?_
      refine lv_aload_n S.1 S.2.1 dX6_count_54 rfl (lv_at hl 0 rfl) ?_
      refine w_get S C w (CC := RX6) (T := TX6) (N := 9) (ref := "GateSums") im_X6_count_X6 0 rfl rfl 8 (by decide) (List.mem_of_getElem? (i := 3) rfl) (fun _ h => h) rfl dX6_count_55 ?_
      exact W.iret (v := nF) S.1 S.2.1 hr (fun t ht _ => ⟨nF, rfl, by simp [countF, c1], ht⟩) (fun q h => absurd h List.not_mem_nil) dX6_count_58
    rcases Nat.lt_or_ge c1n 4 with c1a | c1a
    · have c1e : c1n = 3 := by omega
      subst c1e
      have c1 : x0.toInt = 3 := by omega
      refine lv_tableIn (off := 58) (tgt := 59) S.1 S.2.1 dX6_count_1 (by omega) (by omega) (by rw [c1]; rfl) (by decide) ?_
      refine lv_aload_n S.1 S.2.1 dX6_count_59 rfl (lv_at hl 0 rfl) ?_
      refine w_get S C w (CC := RX6) (T := TX6) (N := 9) (ref := "GateSums") im_X6_count_X6 0 rfl rfl 0 (by decide) (List.mem_of_getElem? (i := 4) rfl) (fun _ h => h) rfl dX6_count_60 ?_
      refine w_get S C w (CC := RX3) (T := TX3) (N := 4) (ref := "GateSums$Reader") im_X6_count_X3 1 rfl rfl 0 (by decide) (List.mem_of_getElem? (i := 5) rfl) (fun _ h => h) rfl dX6_count_63 ?_
      refine w_get S C w (CC := RX5) (T := TX5) (N := 2) (ref := "GateSums$Text") im_X6_count_X5 2 rfl rfl 1 (by decide) (List.mem_of_getElem? (i := 6) rfl) (fun _ h => h) rfl dX6_count_66 ?_
      exact W.iret (v := tL) S.1 S.2.1 hr (fun t ht _ => ⟨tL, rfl, by simp [countF, c1], ht⟩) (fun q h => absurd h List.not_mem_nil) dX6_count_69
    rcases Nat.lt_or_ge c1n 5 with c1a | c1a
    · have c1e : c1n = 4 := by omega
      subst c1e
      have c1 : x0.toInt = 4 := by omega
      refine lv_tableIn (off := 69) (tgt := 70) S.1 S.2.1 dX6_count_1 (by omega) (by omega) (by rw [c1]; rfl) (by decide) ?_
      refine lv_aload_n S.1 S.2.1 dX6_count_70 rfl (lv_at hl 0 rfl) ?_
      refine w_get S C w (CC := RX6) (T := TX6) (N := 9) (ref := "GateSums") im_X6_count_X6 0 rfl rfl 1 (by decide) (List.mem_of_getElem? (i := 7) rfl) (fun _ h => h) rfl dX6_count_71 ?_
      refine w_get S C w (CC := RX0) (T := TX0) (N := 11) (ref := "GateSums$Circuit") im_X6_count_X0 3 rfl rfl 1 (by decide) (List.mem_of_getElem? (i := 8) rfl) (fun _ h => h) rfl dX6_count_74 ?_
      exact W.iret (v := cI) S.1 S.2.1 hr (fun t ht _ => ⟨cI, rfl, by simp [countF, c1], ht⟩) (fun q h => absurd h List.not_mem_nil) dX6_count_77
    rcases Nat.lt_or_ge c1n 6 with c1a | c1a
    · have c1e : c1n = 5 := by omega
      subst c1e
      have c1 : x0.toInt = 5 := by omega
      refine lv_tableIn (off := 77) (tgt := 78) S.1 S.2.1 dX6_count_1 (by omega) (by omega) (by rw [c1]; rfl) (by decide) ?_
      refine lv_aload_n S.1 S.2.1 dX6_count_78 rfl (lv_at hl 0 rfl) ?_
      refine w_get S C w (CC := RX6) (T := TX6) (N := 9) (ref := "GateSums") im_X6_count_X6 0 rfl rfl 1 (by decide) (List.mem_of_getElem? (i := 7) rfl) (fun _ h => h) rfl dX6_count_79 ?_
      refine w_get S C w (CC := RX0) (T := TX0) (N := 11) (ref := "GateSums$Circuit") im_X6_count_X0 3 rfl rfl 2 (by decide) (List.mem_of_getElem? (i := 9) rfl) (fun _ h => h) rfl dX6_count_82 ?_
      exact W.iret (v := cG) S.1 S.2.1 hr (fun t ht _ => ⟨cG, rfl, by simp [countF, c1], ht⟩) (fun q h => absurd h List.not_mem_nil) dX6_count_85
    have c1e : c1n = 6 := by omega
    subst c1e
    have c1 : x0.toInt = 6 := by omega
    refine lv_tableIn (off := 85) (tgt := 86) S.1 S.2.1 dX6_count_1 (by omega) (by omega) (by rw [c1]; rfl) (by decide) ?_
    refine lv_aload_n S.1 S.2.1 dX6_count_86 rfl (lv_at hl 0 rfl) ?_
    refine w_get S C w (CC := RX6) (T := TX6) (N := 9) (ref := "GateSums") im_X6_count_X6 0 rfl rfl 1 (by decide) (List.mem_of_getElem? (i := 7) rfl) (fun _ h => h) rfl dX6_count_87 ?_
    refine w_get S C w (CC := RX0) (T := TX0) (N := 11) (ref := "GateSums$Circuit") im_X6_count_X0 3 rfl rfl 3 (by decide) (List.mem_of_getElem? (i := 10) rfl) (fun _ h => h) rfl dX6_count_90 ?_
    exact W.iret (v := cO) S.1 S.2.1 hr (fun t ht _ => ⟨cO, rfl, by simp [countF, c1], ht⟩) (fun q h => absurd h List.not_mem_nil) dX6_count_93
set_option maxHeartbeats 4000000 in
set_option maxRecDepth 100000 in
theorem c_X6_leftOver (l : Launch) (G : GT) (sz : Nat) (x0 : Int64) (n0 : Int32) : Met l yX6_leftOver wsX6_leftOver ({ frames := 0, cells := 0, slots := 0, locals := 0 }) (va_Pc [.long x0, .int n0] (wPre G [] sz)) (vp_Si (fun r : Int32 => r = (leftF x0 n0))) 0 0 (fun _ => False) := by
  refine met_go (cc := cX6_leftOver) (maxL := 3) (ret := (some .int)) (own := RX6) (by decide) rfl rfl (Nat.le_of_ble_eq_true rfl) ?_
  intro p e s m below meth c ls S hr hlocks hname hsz C w hl
  have hl : lv_has ls 3 [(0, .long x0), (2, .int n0)] := hl
  refine lv_iload_n S.1 S.2.1 dX6_leftOver_0 rfl (lv_at hl 1 rfl) ?_
  refine lv_if_le (tgt := 12) S.1 S.2.1 dX6_leftOver_1 (by decide) (fun c1 => ?_) (fun c1 => ?_)
  · refine lv_iconst (v := 0) S.1 S.2.1 dX6_leftOver_12 (by decide) ?_
    exact W.iret (v := 0) S.1 S.2.1 hr (fun t ht _ => ⟨0, rfl, by simp only [leftF, if_pos c1], ht⟩) (fun q h => absurd h List.not_mem_nil) dX6_leftOver_13
  · refine lv_lload_n S.1 S.2.1 dX6_leftOver_4 rfl (lv_at hl 0 rfl) ?_
    refine lv_iload_n S.1 S.2.1 dX6_leftOver_5 rfl (lv_at hl 1 rfl) ?_
    refine lv_i2l (v := n0.toInt64) S.1 S.2.1 dX6_leftOver_6 rfl ?_
    refine lv_lrem S.1 S.2.1 dX6_leftOver_7 (wide_ne0 c1) ?_
    refine lv_l2i (v := ((x0 - x0 / n0.toInt64 * n0.toInt64).toInt32)) S.1 S.2.1 dX6_leftOver_8 rfl ?_
    refine lv_goto (tgt := 13) S.1 S.2.1 dX6_leftOver_9 (by decide) ?_
    exact W.iret (v := ((x0 - x0 / n0.toInt64 * n0.toInt64).toInt32)) S.1 S.2.1 hr (fun t ht _ => ⟨((x0 - x0 / n0.toInt64 * n0.toInt64).toInt32), rfl, by simp only [leftF, if_neg c1], ht⟩) (fun q h => absurd h List.not_mem_nil) dX6_leftOver_13
theorem im_X6_digest_X0 : ∀ w ∈ u_ws RX0 TX0 11, w ∈ wsX6_digest := by decide +kernel
theorem im_X6_digest_X6 : ∀ w ∈ u_ws RX6 TX6 9, w ∈ wsX6_digest := by decide +kernel
set_option maxHeartbeats 4000000 in
set_option maxRecDepth 100000 in
theorem n_X6_digest (l : Launch) (G : GT) (aG aRd aT aC : Nat) (sz : Nat) (aD aL aM aS aB : Nat) (rF rT rS : Int32) (cK cP cQ : Int32) (aK aX aY aZ : Nat) : Met l yX6_digest wsX6_digest ({ frames := 1, cells := 0, slots := 0, locals := 21 }) (va_Pc [.ref aG] (wPre G [(aG, .inr (6, [.ref aRd, .ref aC, .ref aD, .ref aL, .ref aM, .ref aS, .int 0, .int 0, .int 0])), (aRd, .inr (3, [.ref aT, .int rF, .int rT, .int rS])), (aT, .inr (5, [.ref aB, .int 0])), (aC, .inr (0, [.int 0, .int 0, .int 0, .int 0, .int cK, .int cP, .int cQ, .ref aK, .ref aX, .ref aY, .ref aZ]))] sz)) (vp_Sl (fun r : Int64 => r = (-4701137766593857449))) 0 0 (fun _ => False) := by
  refine met_go (cc := cX6_digest) (maxL := 4) (ret := (some .long)) (own := RX6) (by decide) rfl rfl (Nat.le_of_ble_eq_true rfl) ?_
  intro p e s m below meth c ls S hr hlocks hname hsz C w hl
  have hl : lv_has ls 4 [(0, .ref aG)] := hl
  refine lv_ldc2 (own := RX6) (v := 1993) S.1 S.2.1 S.2.2.2.1 (S.2.2.2.2 _ (List.mem_of_getElem? (i := 1) rfl)) dX6_digest_0 ?_
  refine lv_lstore_n (lv' := [(1, .long 1993), (0, .ref aG)]) S.1 S.2.1 dX6_digest_3 rfl hl (by decide) rfl (fun ls hl => ?_)
  refine lv_iconst (v := 0) S.1 S.2.1 dX6_digest_4 (by decide) ?_
  refine lv_istore_n (lv' := [(3, .int 0), (1, .long 1993), (0, .ref aG)]) S.1 S.2.1 dX6_digest_5 rfl hl (by decide) rfl (fun ls hl => ?_)
  refine lv_iload_n S.1 S.2.1 dX6_digest_6 rfl (lv_at hl 0 rfl) ?_
  refine lv_bipush (v := 6) S.1 S.2.1 dX6_digest_7 (by decide) ?_
  refine lv_icmp_gt (tgt := 31) S.1 S.2.1 dX6_digest_9 (by decide) (fun c9 => ?_) (fun c9 => ?_)
  · exact absurd c9 (by decide)
  · refine lv_ldc2 (own := RX6) (v := 31) S.1 S.2.1 S.2.2.2.1 (S.2.2.2.2 _ (List.mem_of_getElem? (i := 2) rfl)) dX6_digest_12 ?_
    refine lv_lload_n S.1 S.2.1 dX6_digest_15 rfl (lv_at hl 1 rfl) ?_
    refine lv_lmul S.1 S.2.1 dX6_digest_16 ?_
    refine w_topl (y := 61783) (by decide) ?_
    refine lv_aload_n S.1 S.2.1 dX6_digest_17 rfl (lv_at hl 2 rfl) ?_
    refine lv_iload_n S.1 S.2.1 dX6_digest_18 rfl (lv_at hl 0 rfl) ?_
    refine cs_i (va_runV (As := [.int 0]) (rest := [.long 61783]) S (s_X6_count l G aG aRd aT aC _ aD aL aM aS 0 0 0 aB rF rT rS 0 0 0 0 0 cK cP cQ aK aX aY aZ 0 (by decide) (by decide)) (cwV 1 S.2.2.2.2 gX6_digest_X6_count rfl rfl rfl (by decide +kernel) ⟨Nat.le_of_ble_eq_true rfl, Nat.le_of_ble_eq_true rfl⟩) ⟨wPre_blind, va_recv C.1 w.1 (ci := 6) (q0 := 0) rfl rfl, wPre_at C w [0, 1, 2, 3] rfl rfl⟩ rfl rfl hl.1 rfl (lv_room (Nat.le_of_ble_eq_true rfl)) dX6_digest_19 ⟨Nat.le_of_ble_eq_true rfl, Nat.le_of_ble_eq_true rfl⟩) (fun r19 h19 => ?_)
    refine w_topi (y := 0) (h19.trans (by decide)) ?_
    refine lv_i2l (v := 0) S.1 S.2.1 dX6_digest_22 (by decide) ?_
    refine lv_ladd S.1 S.2.1 dX6_digest_23 ?_
    refine w_topl (y := 61783) (by decide) ?_
    refine lv_lstore_n (lv' := [(1, .long 61783), (3, .int 0), (0, .ref aG)]) S.1 S.2.1 dX6_digest_24 rfl hl (by decide) rfl (fun ls hl => ?_)
    refine lv_iinc (v := 1) (lv' := [(3, .int 1), (1, .long 61783), (0, .ref aG)]) S.1 S.2.1 dX6_digest_25 hl (k := 1) rfl (by decide) (by decide) rfl (fun ls hl => ?_)
    refine lv_goto (tgt := 6) S.1 S.2.1 dX6_digest_28 (by decide) ?_
    refine lv_iload_n S.1 S.2.1 dX6_digest_6 rfl (lv_at hl 0 rfl) ?_
    refine lv_bipush (v := 6) S.1 S.2.1 dX6_digest_7 (by decide) ?_
    refine lv_icmp_gt (tgt := 31) S.1 S.2.1 dX6_digest_9 (by decide) (fun c9_1 => ?_) (fun c9_1 => ?_)
    · exact absurd c9_1 (by decide)
    · refine lv_ldc2 (own := RX6) (v := 31) S.1 S.2.1 S.2.2.2.1 (S.2.2.2.2 _ (List.mem_of_getElem? (i := 2) rfl)) dX6_digest_12 ?_
      refine lv_lload_n S.1 S.2.1 dX6_digest_15 rfl (lv_at hl 1 rfl) ?_
      refine lv_lmul S.1 S.2.1 dX6_digest_16 ?_
      refine w_topl (y := 1915273) (by decide) ?_
      refine lv_aload_n S.1 S.2.1 dX6_digest_17 rfl (lv_at hl 2 rfl) ?_
      refine lv_iload_n S.1 S.2.1 dX6_digest_18 rfl (lv_at hl 0 rfl) ?_
      refine cs_i (va_runV (As := [.int 1]) (rest := [.long 1915273]) S (s_X6_count l G aG aRd aT aC _ aD aL aM aS 0 0 0 aB rF rT rS 0 0 0 0 0 cK cP cQ aK aX aY aZ 1 (by decide) (by decide)) (cwV 1 S.2.2.2.2 gX6_digest_X6_count rfl rfl rfl (by decide +kernel) ⟨Nat.le_of_ble_eq_true rfl, Nat.le_of_ble_eq_true rfl⟩) ⟨wPre_blind, va_recv C.1 w.1 (ci := 6) (q0 := 0) rfl rfl, wPre_at C w [0, 1, 2, 3] rfl rfl⟩ rfl rfl hl.1 rfl (lv_room (Nat.le_of_ble_eq_true rfl)) dX6_digest_19 ⟨Nat.le_of_ble_eq_true rfl, Nat.le_of_ble_eq_true rfl⟩) (fun r19_1 h19_1 => ?_)
      refine w_topi (y := 0) (h19_1.trans (by decide)) ?_
      refine lv_i2l (v := 0) S.1 S.2.1 dX6_digest_22 (by decide) ?_
      refine lv_ladd S.1 S.2.1 dX6_digest_23 ?_
      refine w_topl (y := 1915273) (by decide) ?_
      refine lv_lstore_n (lv' := [(1, .long 1915273), (3, .int 1), (0, .ref aG)]) S.1 S.2.1 dX6_digest_24 rfl hl (by decide) rfl (fun ls hl => ?_)
      refine lv_iinc (v := 2) (lv' := [(3, .int 2), (1, .long 1915273), (0, .ref aG)]) S.1 S.2.1 dX6_digest_25 hl (k := 1) rfl (by decide) (by decide) rfl (fun ls hl => ?_)
      refine lv_goto (tgt := 6) S.1 S.2.1 dX6_digest_28 (by decide) ?_
      refine lv_iload_n S.1 S.2.1 dX6_digest_6 rfl (lv_at hl 0 rfl) ?_
      refine lv_bipush (v := 6) S.1 S.2.1 dX6_digest_7 (by decide) ?_
      refine lv_icmp_gt (tgt := 31) S.1 S.2.1 dX6_digest_9 (by decide) (fun c9_2 => ?_) (fun c9_2 => ?_)
      · exact absurd c9_2 (by decide)
      · refine lv_ldc2 (own := RX6) (v := 31) S.1 S.2.1 S.2.2.2.1 (S.2.2.2.2 _ (List.mem_of_getElem? (i := 2) rfl)) dX6_digest_12 ?_
        refine lv_lload_n S.1 S.2.1 dX6_digest_15 rfl (lv_at hl 1 rfl) ?_
        refine lv_lmul S.1 S.2.1 dX6_digest_16 ?_
        refine w_topl (y := 59373463) (by decide) ?_
        refine lv_aload_n S.1 S.2.1 dX6_digest_17 rfl (lv_at hl 2 rfl) ?_
        refine lv_iload_n S.1 S.2.1 dX6_digest_18 rfl (lv_at hl 0 rfl) ?_
        refine cs_i (va_runV (As := [.int 2]) (rest := [.long 59373463]) S (s_X6_count l G aG aRd aT aC _ aD aL aM aS 0 0 0 aB rF rT rS 0 0 0 0 0 cK cP cQ aK aX aY aZ 2 (by decide) (by decide)) (cwV 1 S.2.2.2.2 gX6_digest_X6_count rfl rfl rfl (by decide +kernel) ⟨Nat.le_of_ble_eq_true rfl, Nat.le_of_ble_eq_true rfl⟩) ⟨wPre_blind, va_recv C.1 w.1 (ci := 6) (q0 := 0) rfl rfl, wPre_at C w [0, 1, 2, 3] rfl rfl⟩ rfl rfl hl.1 rfl (lv_room (Nat.le_of_ble_eq_true rfl)) dX6_digest_19 ⟨Nat.le_of_ble_eq_true rfl, Nat.le_of_ble_eq_true rfl⟩) (fun r19_2 h19_2 => ?_)
        refine w_topi (y := 0) (h19_2.trans (by decide)) ?_
        refine lv_i2l (v := 0) S.1 S.2.1 dX6_digest_22 (by decide) ?_
        refine lv_ladd S.1 S.2.1 dX6_digest_23 ?_
        refine w_topl (y := 59373463) (by decide) ?_
        refine lv_lstore_n (lv' := [(1, .long 59373463), (3, .int 2), (0, .ref aG)]) S.1 S.2.1 dX6_digest_24 rfl hl (by decide) rfl (fun ls hl => ?_)
        refine lv_iinc (v := 3) (lv' := [(3, .int 3), (1, .long 59373463), (0, .ref aG)]) S.1 S.2.1 dX6_digest_25 hl (k := 1) rfl (by decide) (by decide) rfl (fun ls hl => ?_)
        refine lv_goto (tgt := 6) S.1 S.2.1 dX6_digest_28 (by decide) ?_
        refine lv_iload_n S.1 S.2.1 dX6_digest_6 rfl (lv_at hl 0 rfl) ?_
        refine lv_bipush (v := 6) S.1 S.2.1 dX6_digest_7 (by decide) ?_
        refine lv_icmp_gt (tgt := 31) S.1 S.2.1 dX6_digest_9 (by decide) (fun c9_3 => ?_) (fun c9_3 => ?_)
        · exact absurd c9_3 (by decide)
        · refine lv_ldc2 (own := RX6) (v := 31) S.1 S.2.1 S.2.2.2.1 (S.2.2.2.2 _ (List.mem_of_getElem? (i := 2) rfl)) dX6_digest_12 ?_
          refine lv_lload_n S.1 S.2.1 dX6_digest_15 rfl (lv_at hl 1 rfl) ?_
          refine lv_lmul S.1 S.2.1 dX6_digest_16 ?_
          refine w_topl (y := 1840577353) (by decide) ?_
          refine lv_aload_n S.1 S.2.1 dX6_digest_17 rfl (lv_at hl 2 rfl) ?_
          refine lv_iload_n S.1 S.2.1 dX6_digest_18 rfl (lv_at hl 0 rfl) ?_
          refine cs_i (va_runV (As := [.int 3]) (rest := [.long 1840577353]) S (s_X6_count l G aG aRd aT aC _ aD aL aM aS 0 0 0 aB rF rT rS 0 0 0 0 0 cK cP cQ aK aX aY aZ 3 (by decide) (by decide)) (cwV 1 S.2.2.2.2 gX6_digest_X6_count rfl rfl rfl (by decide +kernel) ⟨Nat.le_of_ble_eq_true rfl, Nat.le_of_ble_eq_true rfl⟩) ⟨wPre_blind, va_recv C.1 w.1 (ci := 6) (q0 := 0) rfl rfl, wPre_at C w [0, 1, 2, 3] rfl rfl⟩ rfl rfl hl.1 rfl (lv_room (Nat.le_of_ble_eq_true rfl)) dX6_digest_19 ⟨Nat.le_of_ble_eq_true rfl, Nat.le_of_ble_eq_true rfl⟩) (fun r19_3 h19_3 => ?_)
          refine w_topi (y := 0) (h19_3.trans (by decide)) ?_
          refine lv_i2l (v := 0) S.1 S.2.1 dX6_digest_22 (by decide) ?_
          refine lv_ladd S.1 S.2.1 dX6_digest_23 ?_
          refine w_topl (y := 1840577353) (by decide) ?_
          refine lv_lstore_n (lv' := [(1, .long 1840577353), (3, .int 3), (0, .ref aG)]) S.1 S.2.1 dX6_digest_24 rfl hl (by decide) rfl (fun ls hl => ?_)
          refine lv_iinc (v := 4) (lv' := [(3, .int 4), (1, .long 1840577353), (0, .ref aG)]) S.1 S.2.1 dX6_digest_25 hl (k := 1) rfl (by decide) (by decide) rfl (fun ls hl => ?_)
          refine lv_goto (tgt := 6) S.1 S.2.1 dX6_digest_28 (by decide) ?_
          refine lv_iload_n S.1 S.2.1 dX6_digest_6 rfl (lv_at hl 0 rfl) ?_
          refine lv_bipush (v := 6) S.1 S.2.1 dX6_digest_7 (by decide) ?_
          refine lv_icmp_gt (tgt := 31) S.1 S.2.1 dX6_digest_9 (by decide) (fun c9_4 => ?_) (fun c9_4 => ?_)
          · exact absurd c9_4 (by decide)
          · refine lv_ldc2 (own := RX6) (v := 31) S.1 S.2.1 S.2.2.2.1 (S.2.2.2.2 _ (List.mem_of_getElem? (i := 2) rfl)) dX6_digest_12 ?_
            refine lv_lload_n S.1 S.2.1 dX6_digest_15 rfl (lv_at hl 1 rfl) ?_
            refine lv_lmul S.1 S.2.1 dX6_digest_16 ?_
            refine w_topl (y := 57057897943) (by decide) ?_
            refine lv_aload_n S.1 S.2.1 dX6_digest_17 rfl (lv_at hl 2 rfl) ?_
            refine lv_iload_n S.1 S.2.1 dX6_digest_18 rfl (lv_at hl 0 rfl) ?_
            refine cs_i (va_runV (As := [.int 4]) (rest := [.long 57057897943]) S (s_X6_count l G aG aRd aT aC _ aD aL aM aS 0 0 0 aB rF rT rS 0 0 0 0 0 cK cP cQ aK aX aY aZ 4 (by decide) (by decide)) (cwV 1 S.2.2.2.2 gX6_digest_X6_count rfl rfl rfl (by decide +kernel) ⟨Nat.le_of_ble_eq_true rfl, Nat.le_of_ble_eq_true rfl⟩) ⟨wPre_blind, va_recv C.1 w.1 (ci := 6) (q0 := 0) rfl rfl, wPre_at C w [0, 1, 2, 3] rfl rfl⟩ rfl rfl hl.1 rfl (lv_room (Nat.le_of_ble_eq_true rfl)) dX6_digest_19 ⟨Nat.le_of_ble_eq_true rfl, Nat.le_of_ble_eq_true rfl⟩) (fun r19_4 h19_4 => ?_)
            refine w_topi (y := 0) (h19_4.trans (by decide)) ?_
            refine lv_i2l (v := 0) S.1 S.2.1 dX6_digest_22 (by decide) ?_
            refine lv_ladd S.1 S.2.1 dX6_digest_23 ?_
            refine w_topl (y := 57057897943) (by decide) ?_
            refine lv_lstore_n (lv' := [(1, .long 57057897943), (3, .int 4), (0, .ref aG)]) S.1 S.2.1 dX6_digest_24 rfl hl (by decide) rfl (fun ls hl => ?_)
            refine lv_iinc (v := 5) (lv' := [(3, .int 5), (1, .long 57057897943), (0, .ref aG)]) S.1 S.2.1 dX6_digest_25 hl (k := 1) rfl (by decide) (by decide) rfl (fun ls hl => ?_)
            refine lv_goto (tgt := 6) S.1 S.2.1 dX6_digest_28 (by decide) ?_
            refine lv_iload_n S.1 S.2.1 dX6_digest_6 rfl (lv_at hl 0 rfl) ?_
            refine lv_bipush (v := 6) S.1 S.2.1 dX6_digest_7 (by decide) ?_
            refine lv_icmp_gt (tgt := 31) S.1 S.2.1 dX6_digest_9 (by decide) (fun c9_5 => ?_) (fun c9_5 => ?_)
            · exact absurd c9_5 (by decide)
            · refine lv_ldc2 (own := RX6) (v := 31) S.1 S.2.1 S.2.2.2.1 (S.2.2.2.2 _ (List.mem_of_getElem? (i := 2) rfl)) dX6_digest_12 ?_
              refine lv_lload_n S.1 S.2.1 dX6_digest_15 rfl (lv_at hl 1 rfl) ?_
              refine lv_lmul S.1 S.2.1 dX6_digest_16 ?_
              refine w_topl (y := 1768794836233) (by decide) ?_
              refine lv_aload_n S.1 S.2.1 dX6_digest_17 rfl (lv_at hl 2 rfl) ?_
              refine lv_iload_n S.1 S.2.1 dX6_digest_18 rfl (lv_at hl 0 rfl) ?_
              refine cs_i (va_runV (As := [.int 5]) (rest := [.long 1768794836233]) S (s_X6_count l G aG aRd aT aC _ aD aL aM aS 0 0 0 aB rF rT rS 0 0 0 0 0 cK cP cQ aK aX aY aZ 5 (by decide) (by decide)) (cwV 1 S.2.2.2.2 gX6_digest_X6_count rfl rfl rfl (by decide +kernel) ⟨Nat.le_of_ble_eq_true rfl, Nat.le_of_ble_eq_true rfl⟩) ⟨wPre_blind, va_recv C.1 w.1 (ci := 6) (q0 := 0) rfl rfl, wPre_at C w [0, 1, 2, 3] rfl rfl⟩ rfl rfl hl.1 rfl (lv_room (Nat.le_of_ble_eq_true rfl)) dX6_digest_19 ⟨Nat.le_of_ble_eq_true rfl, Nat.le_of_ble_eq_true rfl⟩) (fun r19_5 h19_5 => ?_)
              refine w_topi (y := 0) (h19_5.trans (by decide)) ?_
              refine lv_i2l (v := 0) S.1 S.2.1 dX6_digest_22 (by decide) ?_
              refine lv_ladd S.1 S.2.1 dX6_digest_23 ?_
              refine w_topl (y := 1768794836233) (by decide) ?_
              refine lv_lstore_n (lv' := [(1, .long 1768794836233), (3, .int 5), (0, .ref aG)]) S.1 S.2.1 dX6_digest_24 rfl hl (by decide) rfl (fun ls hl => ?_)
              refine lv_iinc (v := 6) (lv' := [(3, .int 6), (1, .long 1768794836233), (0, .ref aG)]) S.1 S.2.1 dX6_digest_25 hl (k := 1) rfl (by decide) (by decide) rfl (fun ls hl => ?_)
              refine lv_goto (tgt := 6) S.1 S.2.1 dX6_digest_28 (by decide) ?_
              refine lv_iload_n S.1 S.2.1 dX6_digest_6 rfl (lv_at hl 0 rfl) ?_
              refine lv_bipush (v := 6) S.1 S.2.1 dX6_digest_7 (by decide) ?_
              refine lv_icmp_gt (tgt := 31) S.1 S.2.1 dX6_digest_9 (by decide) (fun c9_6 => ?_) (fun c9_6 => ?_)
              · exact absurd c9_6 (by decide)
              · refine lv_ldc2 (own := RX6) (v := 31) S.1 S.2.1 S.2.2.2.1 (S.2.2.2.2 _ (List.mem_of_getElem? (i := 2) rfl)) dX6_digest_12 ?_
                refine lv_lload_n S.1 S.2.1 dX6_digest_15 rfl (lv_at hl 1 rfl) ?_
                refine lv_lmul S.1 S.2.1 dX6_digest_16 ?_
                refine w_topl (y := 54832639923223) (by decide) ?_
                refine lv_aload_n S.1 S.2.1 dX6_digest_17 rfl (lv_at hl 2 rfl) ?_
                refine lv_iload_n S.1 S.2.1 dX6_digest_18 rfl (lv_at hl 0 rfl) ?_
                refine cs_i (va_runV (As := [.int 6]) (rest := [.long 54832639923223]) S (s_X6_count l G aG aRd aT aC _ aD aL aM aS 0 0 0 aB rF rT rS 0 0 0 0 0 cK cP cQ aK aX aY aZ 6 (by decide) (by decide)) (cwV 1 S.2.2.2.2 gX6_digest_X6_count rfl rfl rfl (by decide +kernel) ⟨Nat.le_of_ble_eq_true rfl, Nat.le_of_ble_eq_true rfl⟩) ⟨wPre_blind, va_recv C.1 w.1 (ci := 6) (q0 := 0) rfl rfl, wPre_at C w [0, 1, 2, 3] rfl rfl⟩ rfl rfl hl.1 rfl (lv_room (Nat.le_of_ble_eq_true rfl)) dX6_digest_19 ⟨Nat.le_of_ble_eq_true rfl, Nat.le_of_ble_eq_true rfl⟩) (fun r19_6 h19_6 => ?_)
                refine w_topi (y := 0) (h19_6.trans (by decide)) ?_
                refine lv_i2l (v := 0) S.1 S.2.1 dX6_digest_22 (by decide) ?_
                refine lv_ladd S.1 S.2.1 dX6_digest_23 ?_
                refine w_topl (y := 54832639923223) (by decide) ?_
                refine lv_lstore_n (lv' := [(1, .long 54832639923223), (3, .int 6), (0, .ref aG)]) S.1 S.2.1 dX6_digest_24 rfl hl (by decide) rfl (fun ls hl => ?_)
                refine lv_iinc (v := 7) (lv' := [(3, .int 7), (1, .long 54832639923223), (0, .ref aG)]) S.1 S.2.1 dX6_digest_25 hl (k := 1) rfl (by decide) (by decide) rfl (fun ls hl => ?_)
                refine lv_goto (tgt := 6) S.1 S.2.1 dX6_digest_28 (by decide) ?_
                refine lv_iload_n S.1 S.2.1 dX6_digest_6 rfl (lv_at hl 0 rfl) ?_
                refine lv_bipush (v := 6) S.1 S.2.1 dX6_digest_7 (by decide) ?_
                refine lv_icmp_gt (tgt := 31) S.1 S.2.1 dX6_digest_9 (by decide) (fun c9_7 => ?_) (fun c9_7 => ?_)
                · refine lv_iconst (v := 0) S.1 S.2.1 dX6_digest_31 (by decide) ?_
                  refine lv_istore_n (lv' := [(3, .int 0), (1, .long 54832639923223), (0, .ref aG)]) S.1 S.2.1 dX6_digest_32 rfl hl (by decide) rfl (fun ls hl => ?_)
                  refine lv_iload_n S.1 S.2.1 dX6_digest_33 rfl (lv_at hl 0 rfl) ?_
                  refine lv_aload_n S.1 S.2.1 dX6_digest_34 rfl (lv_at hl 2 rfl) ?_
                  refine w_get S C w (CC := RX6) (T := TX6) (N := 9) (ref := "GateSums") im_X6_digest_X6 0 rfl rfl 1 (by decide) (List.mem_of_getElem? (i := 3) rfl) (fun _ h => h) rfl dX6_digest_35 ?_
                  refine w_get S C w (CC := RX0) (T := TX0) (N := 11) (ref := "GateSums$Circuit") im_X6_digest_X0 3 rfl rfl 2 (by decide) (List.mem_of_getElem? (i := 4) rfl) (fun _ h => h) rfl dX6_digest_38 ?_
                  refine lv_icmp_ge (tgt := 98) S.1 S.2.1 dX6_digest_41 (by decide) (fun c41 => ?_) (fun c41 => ?_)
                  · refine lv_iconst (v := 0) S.1 S.2.1 dX6_digest_98 (by decide) ?_
                    refine lv_istore_n (lv' := [(3, .int 0), (1, .long 54832639923223), (0, .ref aG)]) S.1 S.2.1 dX6_digest_99 rfl hl (by decide) rfl (fun ls hl => ?_)
                    refine lv_iload_n S.1 S.2.1 dX6_digest_100 rfl (lv_at hl 0 rfl) ?_
                    refine lv_aload_n S.1 S.2.1 dX6_digest_101 rfl (lv_at hl 2 rfl) ?_
                    refine w_get S C w (CC := RX6) (T := TX6) (N := 9) (ref := "GateSums") im_X6_digest_X6 0 rfl rfl 1 (by decide) (List.mem_of_getElem? (i := 3) rfl) (fun _ h => h) rfl dX6_digest_102 ?_
                    refine w_get S C w (CC := RX0) (T := TX0) (N := 11) (ref := "GateSums$Circuit") im_X6_digest_X0 3 rfl rfl 3 (by decide) (List.mem_of_getElem? (i := 5) rfl) (fun _ h => h) rfl dX6_digest_105 ?_
                    refine lv_icmp_ge (tgt := 133) S.1 S.2.1 dX6_digest_108 (by decide) (fun c108 => ?_) (fun c108 => ?_)
                    · refine lv_aload_n S.1 S.2.1 dX6_digest_133 rfl (lv_at hl 2 rfl) ?_
                      refine w_get S C w (CC := RX6) (T := TX6) (N := 9) (ref := "GateSums") im_X6_digest_X6 0 rfl rfl 1 (by decide) (List.mem_of_getElem? (i := 3) rfl) (fun _ h => h) rfl dX6_digest_134 ?_
                      refine w_get S C w (CC := RX0) (T := TX0) (N := 11) (ref := "GateSums$Circuit") im_X6_digest_X0 3 rfl rfl 0 (by decide) (List.mem_of_getElem? (i := 6) rfl) (fun _ h => h) rfl dX6_digest_137 ?_
                      refine lv_istore_n (lv' := [(3, .int 0), (1, .long 54832639923223), (0, .ref aG)]) S.1 S.2.1 dX6_digest_140 rfl hl (by decide) rfl (fun ls hl => ?_)
                      refine lv_ldc2 (own := RX6) (v := 31) S.1 S.2.1 S.2.2.2.1 (S.2.2.2.2 _ (List.mem_of_getElem? (i := 2) rfl)) dX6_digest_141 ?_
                      refine lv_lload_n S.1 S.2.1 dX6_digest_144 rfl (lv_at hl 1 rfl) ?_
                      refine lv_lmul S.1 S.2.1 dX6_digest_145 ?_
                      refine w_topl (y := 1699811837619913) (by decide) ?_
                      refine lv_iload_n S.1 S.2.1 dX6_digest_146 rfl (lv_at hl 0 rfl) ?_
                      refine lv_if_eq (tgt := 160) S.1 S.2.1 dX6_digest_147 (by decide) (fun c147 => ?_) (fun c147 => ?_)
                      · refine lv_iconst (v := (-1)) S.1 S.2.1 dX6_digest_160 (by decide) ?_
                        refine lv_i2l (v := (-1)) S.1 S.2.1 dX6_digest_161 (by decide) ?_
                        refine lv_ladd S.1 S.2.1 dX6_digest_162 ?_
                        refine w_topl (y := 1699811837619912) (by decide) ?_
                        refine lv_lstore_n (lv' := [(1, .long 1699811837619912), (3, .int 0), (0, .ref aG)]) S.1 S.2.1 dX6_digest_163 rfl hl (by decide) rfl (fun ls hl => ?_)
                        refine lv_ldc2 (own := RX6) (v := 31) S.1 S.2.1 S.2.2.2.1 (S.2.2.2.2 _ (List.mem_of_getElem? (i := 2) rfl)) dX6_digest_164 ?_
                        refine lv_lload_n S.1 S.2.1 dX6_digest_167 rfl (lv_at hl 0 rfl) ?_
                        refine lv_lmul S.1 S.2.1 dX6_digest_168 ?_
                        refine w_topl (y := 52694166966217272) (by decide) ?_
                        refine lv_iload_n S.1 S.2.1 dX6_digest_169 rfl (lv_at hl 1 rfl) ?_
                        refine lv_if_eq (tgt := 183) S.1 S.2.1 dX6_digest_170 (by decide) (fun c170 => ?_) (fun c170 => ?_)
                        · refine lv_iconst (v := (-1)) S.1 S.2.1 dX6_digest_183 (by decide) ?_
                          refine lv_i2l (v := (-1)) S.1 S.2.1 dX6_digest_184 (by decide) ?_
                          refine lv_ladd S.1 S.2.1 dX6_digest_185 ?_
                          refine w_topl (y := 52694166966217271) (by decide) ?_
                          refine lv_lstore_n (lv' := [(1, .long 52694166966217271), (3, .int 0), (0, .ref aG)]) S.1 S.2.1 dX6_digest_186 rfl hl (by decide) rfl (fun ls hl => ?_)
                          refine lv_ldc2 (own := RX6) (v := 31) S.1 S.2.1 S.2.2.2.1 (S.2.2.2.2 _ (List.mem_of_getElem? (i := 2) rfl)) dX6_digest_187 ?_
                          refine lv_lload_n S.1 S.2.1 dX6_digest_190 rfl (lv_at hl 0 rfl) ?_
                          refine lv_lmul S.1 S.2.1 dX6_digest_191 ?_
                          refine w_topl (y := 1633519175952735401) (by decide) ?_
                          refine lv_iload_n S.1 S.2.1 dX6_digest_192 rfl (lv_at hl 1 rfl) ?_
                          refine lv_if_eq (tgt := 206) S.1 S.2.1 dX6_digest_193 (by decide) (fun c193 => ?_) (fun c193 => ?_)
                          · refine lv_iconst (v := (-1)) S.1 S.2.1 dX6_digest_206 (by decide) ?_
                            refine lv_i2l (v := (-1)) S.1 S.2.1 dX6_digest_207 (by decide) ?_
                            refine lv_ladd S.1 S.2.1 dX6_digest_208 ?_
                            refine w_topl (y := 1633519175952735400) (by decide) ?_
                            refine lv_lstore_n (lv' := [(1, .long 1633519175952735400), (3, .int 0), (0, .ref aG)]) S.1 S.2.1 dX6_digest_209 rfl hl (by decide) rfl (fun ls hl => ?_)
                            refine lv_ldc2 (own := RX6) (v := 31) S.1 S.2.1 S.2.2.2.1 (S.2.2.2.2 _ (List.mem_of_getElem? (i := 2) rfl)) dX6_digest_210 ?_
                            refine lv_lload_n S.1 S.2.1 dX6_digest_213 rfl (lv_at hl 0 rfl) ?_
                            refine lv_lmul S.1 S.2.1 dX6_digest_214 ?_
                            refine w_topl (y := (-4701137766593857448)) (by decide) ?_
                            refine lv_iload_n S.1 S.2.1 dX6_digest_215 rfl (lv_at hl 1 rfl) ?_
                            refine lv_if_eq (tgt := 233) S.1 S.2.1 dX6_digest_216 (by decide) (fun c216 => ?_) (fun c216 => ?_)
                            · refine lv_iconst (v := (-1)) S.1 S.2.1 dX6_digest_233 (by decide) ?_
                              refine lv_i2l (v := (-1)) S.1 S.2.1 dX6_digest_234 (by decide) ?_
                              refine lv_ladd S.1 S.2.1 dX6_digest_235 ?_
                              refine w_topl (y := (-4701137766593857449)) (by decide) ?_
                              exact W.lret (v := (-4701137766593857449)) S.1 S.2.1 hr (fun t ht _ => ⟨(-4701137766593857449), rfl, rfl, ht⟩) (fun q h => absurd h List.not_mem_nil) dX6_digest_236
                            · exact absurd c216 (by decide)
                          · exact absurd c193 (by decide)
                        · exact absurd c170 (by decide)
                      · exact absurd c147 (by decide)
                    · exact absurd c108 (by decide)
                  · exact absurd c41 (by decide)
                · exact absurd c9_7 (by decide)
set_option maxHeartbeats 4000000 in
set_option maxRecDepth 100000 in
theorem e_X3_advance (l : Launch) (G : GT) (aRd aT aB : Nat) (sz : Nat) (rF rS : Int32) (fB : Nat → Int32) : Met l yX3_advance wsX3_advance ({ frames := 1, cells := 0, slots := 0, locals := 21 }) (va_Pc [.ref aRd] (wPre G [(aRd, .inr (3, [.ref aT, .int rF, .int 0, .int rS])), (aT, .inr (5, [.ref aB, .int 0])), (aB, .inl (G.2.1 0, 120, .inl fB))] sz)) (va_Qv (fun u : Unit => True) (bW G (va_A [(aRd, .inr (3, [.ref aT, .int rF, .int 0, .int rS])), (aT, .inr (5, [.ref aB, .int 0])), (aB, .inl (G.2.1 0, 120, .inl fB))] sz) (fun u : Unit => [(aRd, .inr (3, [.ref aT, .int 0, .int 0, .int 0])), (aT, .inr (5, [.ref aB, .int 0])), (aB, .inl (G.2.1 0, 120, .inl fB))])) (va_A [(aRd, .inr (3, [.ref aT, .int rF, .int 0, .int rS])), (aT, .inr (5, [.ref aB, .int 0])), (aB, .inl (G.2.1 0, 120, .inl fB))] sz)) 0 0 (va_A [(aRd, .inr (3, [.ref aT, .int rF, .int 0, .int rS])), (aT, .inr (5, [.ref aB, .int 0])), (aB, .inl (G.2.1 0, 120, .inl fB))] sz) := by
  refine met_go (cc := cX3_advance) (maxL := 2) (ret := none) (own := RX3) (by decide) rfl rfl (Nat.le_of_ble_eq_true rfl) ?_
  intro p e s m below meth c ls S hr hlocks hname hsz C w hl
  have hl : lv_has ls 2 [(0, .ref aRd)] := hl
  refine lv_aload_n S.1 S.2.1 dX3_advance_0 rfl (lv_at hl 0 rfl) ?_
  refine lv_aload_n S.1 S.2.1 dX3_advance_1 rfl (lv_at hl 0 rfl) ?_
  refine w_get S C w (CC := RX3) (T := TX3) (N := 4) (ref := "GateSums$Reader") im_X3_advance_X3 0 rfl rfl 2 (by decide) (List.mem_of_getElem? (i := 1) rfl) (fun _ h => h) rfl dX3_advance_2 ?_
  refine w_put S C w (CC := RX3) (T := TX3) (N := 4) (ref := "GateSums$Reader") im_X3_advance_X3 tyX3 tyX3_ok nmX3 0 rfl rfl 1 (by decide) (List.mem_of_getElem? (i := 2) rfl) (fun _ h => h) rfl (ws2 := [(aRd, .inr (3, [.ref aT, .int 0, .int 0, .int rS])), (aT, .inr (5, [.ref aB, .int 0])), (aB, .inl (G.2.1 0, 120, .inl fB))]) (rfl) (rfl) (Nat.le_of_ble_eq_true rfl) rfl dX3_advance_5 (fun H locs w => ?_)
  refine lv_aload_n S.1 S.2.1 dX3_advance_8 rfl (lv_at hl 0 rfl) ?_
  refine w_get S C w (CC := RX3) (T := TX3) (N := 4) (ref := "GateSums$Reader") im_X3_advance_X3 0 rfl rfl 1 (by decide) (List.mem_of_getElem? (i := 2) rfl) (fun _ h => h) rfl dX3_advance_9 ?_
  refine lv_aload_n S.1 S.2.1 dX3_advance_12 rfl (lv_at hl 0 rfl) ?_
  refine w_get S C w (CC := RX3) (T := TX3) (N := 4) (ref := "GateSums$Reader") im_X3_advance_X3 0 rfl rfl 0 (by decide) (List.mem_of_getElem? (i := 3) rfl) (fun _ h => h) rfl dX3_advance_13 ?_
  refine w_get S C w (CC := RX5) (T := TX5) (N := 2) (ref := "GateSums$Text") im_X3_advance_X5 1 rfl rfl 1 (by decide) (List.mem_of_getElem? (i := 4) rfl) (fun _ h => h) rfl dX3_advance_16 ?_
  refine lv_icmp_ge (tgt := 51) S.1 S.2.1 dX3_advance_19 (by decide) (fun c19 => ?_) (fun c19 => ?_)
  · refine lv_aload_n S.1 S.2.1 dX3_advance_51 rfl (lv_at hl 0 rfl) ?_
    refine lv_aload_n S.1 S.2.1 dX3_advance_52 rfl (lv_at hl 0 rfl) ?_
    refine w_get S C w (CC := RX3) (T := TX3) (N := 4) (ref := "GateSums$Reader") im_X3_advance_X3 0 rfl rfl 0 (by decide) (List.mem_of_getElem? (i := 3) rfl) (fun _ h => h) rfl dX3_advance_53 ?_
    refine lv_aload_n S.1 S.2.1 dX3_advance_56 rfl (lv_at hl 0 rfl) ?_
    refine w_get S C w (CC := RX3) (T := TX3) (N := 4) (ref := "GateSums$Reader") im_X3_advance_X3 0 rfl rfl 1 (by decide) (List.mem_of_getElem? (i := 2) rfl) (fun _ h => h) rfl dX3_advance_57 ?_
    refine cs_i (va_runV (As := [.int 0]) (rest := [.ref aRd]) S (c_X5_byteAt l G aT aB _ 0 fB 0) (cwV 1 S.2.2.2.2 gX3_advance_X5_byteAt rfl rfl rfl (by decide +kernel) ⟨Nat.le_of_ble_eq_true rfl, Nat.le_of_ble_eq_true rfl⟩) ⟨wPre_blind, va_recv C.1 w.1 (ci := 5) (q0 := 1) rfl rfl, wPre_at C w [1, 2] rfl rfl⟩ rfl rfl hl.1 rfl (lv_room (Nat.le_of_ble_eq_true rfl)) dX3_advance_60 ⟨Nat.le_of_ble_eq_true rfl, Nat.le_of_ble_eq_true rfl⟩) (fun r60 h60 => ?_)
    refine w_topi (y := (byteAtF 0 fB 0)) h60 ?_
    refine w_topi (y := (-1)) (by simp [byteAtF]) ?_
    refine cs_i (va_runS (As := [.int (-1)]) (rest := [.ref aRd]) S (c_X3_sortOf l G _ (-1)) (va_cwS 1 S.2.2.2.2 gX3_advance_X3_sortOf rfl rfl rfl (by decide +kernel) ⟨Nat.le_of_ble_eq_true rfl, Nat.le_of_ble_eq_true rfl⟩) ⟨wPre_blind, wPre_at C w [] rfl rfl⟩ rfl rfl hl.1 rfl (lv_room (Nat.le_of_ble_eq_true rfl)) dX3_advance_63 ⟨Nat.le_of_ble_eq_true rfl, Nat.le_of_ble_eq_true rfl⟩) (fun r63 h63 => ?_)
    refine w_topi (y := (sortOfF (-1))) h63 ?_
    refine w_topi (y := 0) (by decide) ?_
    refine w_put S C w (CC := RX3) (T := TX3) (N := 4) (ref := "GateSums$Reader") im_X3_advance_X3 tyX3 tyX3_ok nmX3 0 rfl rfl 3 (by decide) (List.mem_of_getElem? (i := 5) rfl) (fun _ h => h) rfl (ws2 := [(aRd, .inr (3, [.ref aT, .int 0, .int 0, .int 0])), (aT, .inr (5, [.ref aB, .int 0])), (aB, .inl (G.2.1 0, 120, .inl fB))]) (rfl) (rfl) (Nat.le_of_ble_eq_true rfl) rfl dX3_advance_66 (fun H locs w => ?_)
    refine lv_aload_n S.1 S.2.1 dX3_advance_69 rfl (lv_at hl 0 rfl) ?_
    refine lv_aload_n S.1 S.2.1 dX3_advance_70 rfl (lv_at hl 0 rfl) ?_
    refine w_get S C w (CC := RX3) (T := TX3) (N := 4) (ref := "GateSums$Reader") im_X3_advance_X3 0 rfl rfl 3 (by decide) (List.mem_of_getElem? (i := 5) rfl) (fun _ h => h) rfl dX3_advance_71 ?_
    refine lv_if_ne (tgt := 84) S.1 S.2.1 dX3_advance_74 (by decide) (fun c74 => ?_) (fun c74 => ?_)
    · exact absurd c74 (by decide)
    · refine lv_aload_n S.1 S.2.1 dX3_advance_77 rfl (lv_at hl 0 rfl) ?_
      refine w_get S C w (CC := RX3) (T := TX3) (N := 4) (ref := "GateSums$Reader") im_X3_advance_X3 0 rfl rfl 1 (by decide) (List.mem_of_getElem? (i := 2) rfl) (fun _ h => h) rfl dX3_advance_78 ?_
      refine lv_goto (tgt := 90) S.1 S.2.1 dX3_advance_81 (by decide) ?_
      refine w_put S C w (CC := RX3) (T := TX3) (N := 4) (ref := "GateSums$Reader") im_X3_advance_X3 tyX3 tyX3_ok nmX3 0 rfl rfl 2 (by decide) (List.mem_of_getElem? (i := 1) rfl) (fun _ h => h) rfl (ws2 := [(aRd, .inr (3, [.ref aT, .int 0, .int 0, .int 0])), (aT, .inr (5, [.ref aB, .int 0])), (aB, .inl (G.2.1 0, 120, .inl fB))]) (rfl) (rfl) (Nat.le_of_ble_eq_true rfl) rfl dX3_advance_90 (fun H locs w => ?_)
      refine lv_aload_n S.1 S.2.1 dX3_advance_93 rfl (lv_at hl 0 rfl) ?_
      refine w_get S C w (CC := RX3) (T := TX3) (N := 4) (ref := "GateSums$Reader") im_X3_advance_X3 0 rfl rfl 3 (by decide) (List.mem_of_getElem? (i := 5) rfl) (fun _ h => h) rfl dX3_advance_94 ?_
      refine lv_iconst (v := 1) S.1 S.2.1 dX3_advance_97 (by decide) ?_
      refine lv_icmp_eq (tgt := 109) S.1 S.2.1 dX3_advance_98 (by decide) (fun c98 => ?_) (fun c98 => ?_)
      · exact absurd c98 (by decide)
      · refine lv_aload_n S.1 S.2.1 dX3_advance_101 rfl (lv_at hl 0 rfl) ?_
        refine w_get S C w (CC := RX3) (T := TX3) (N := 4) (ref := "GateSums$Reader") im_X3_advance_X3 0 rfl rfl 3 (by decide) (List.mem_of_getElem? (i := 5) rfl) (fun _ h => h) rfl dX3_advance_102 ?_
        refine lv_iconst (v := 2) S.1 S.2.1 dX3_advance_105 (by decide) ?_
        refine lv_icmp_ne (tgt := 113) S.1 S.2.1 dX3_advance_106 (by decide) (fun c106 => ?_) (fun c106 => ?_)
        · refine lv_iconst (v := 0) S.1 S.2.1 dX3_advance_113 (by decide) ?_
          refine lv_istore_n (lv' := [(1, .int 0), (0, .ref aRd)]) S.1 S.2.1 dX3_advance_114 rfl hl (by decide) rfl (fun ls hl => ?_)
          refine lv_iload_n S.1 S.2.1 dX3_advance_115 rfl (lv_at hl 0 rfl) ?_
          refine lv_if_eq (tgt := 167) S.1 S.2.1 dX3_advance_116 (by decide) (fun c116 => ?_) (fun c116 => ?_)
          · exact W.vret S.1 S.2.1 hr (fun t ht _ => ⟨⟨(), rfl, trivial, by rw [ht]; exact w.1, w.2.1⟩, w.2.2.F ht⟩) w.2.2.2.2 dX3_advance_167
          · exact absurd c116 (by decide)
        · exact absurd c106 (by decide)
  · exact absurd c19 (by decide)
set_option maxHeartbeats 4000000 in
set_option maxRecDepth 100000 in
theorem e_X3_isWord (l : Launch) (G : GT) (aRd aQ : Nat) (sz : Nat) (aT : Nat) (rF rT : Int32) : Met l yX3_isWord wsX3_isWord ({ frames := 0, cells := 0, slots := 0, locals := 0 }) (va_Pc [.ref aRd, .ref aQ] (wPre G [(aRd, .inr (3, [.ref aT, .int rF, .int rT, .int 0]))] sz)) (vp_Si (fun r : Int32 => r = 0)) 0 0 (fun _ => False) := by
  refine met_go (cc := cX3_isWord) (maxL := 3) (ret := (some .boolean)) (own := RX3) (by decide) rfl rfl (Nat.le_of_ble_eq_true rfl) ?_
  intro p e s m below meth c ls S hr hlocks hname hsz C w hl
  have hl : lv_has ls 3 [(0, .ref aRd), (1, .ref aQ)] := hl
  refine lv_aload_n S.1 S.2.1 dX3_isWord_0 rfl (lv_at hl 0 rfl) ?_
  refine w_get S C w (CC := RX3) (T := TX3) (N := 4) (ref := "GateSums$Reader") im_X3_isWord_X3 0 rfl rfl 3 (by decide) (List.mem_of_getElem? (i := 1) rfl) (fun _ h => h) rfl dX3_isWord_1 ?_
  refine lv_iconst (v := 1) S.1 S.2.1 dX3_isWord_4 (by decide) ?_
  refine lv_icmp_ne (tgt := 24) S.1 S.2.1 dX3_isWord_5 (by decide) (fun c5 => ?_) (fun c5 => ?_)
  · refine lv_iconst (v := 0) S.1 S.2.1 dX3_isWord_24 (by decide) ?_
    exact W.zret (v := 0) S.1 S.2.1 hr (rfl) (fun t ht _ => ⟨0, rfl, rfl, ht⟩) (fun q h => absurd h List.not_mem_nil) dX3_isWord_25
  · exact absurd c5 (by decide)
set_option maxHeartbeats 4000000 in
set_option maxRecDepth 100000 in
theorem e_X3_takeWord (l : Launch) (G : GT) (aRd aQ : Nat) (sz : Nat) (aT : Nat) (rF rT : Int32) : Met l yX3_takeWord wsX3_takeWord ({ frames := 1, cells := 0, slots := 0, locals := 22 }) (va_Pc [.ref aRd, .ref aQ] (wPre G [(aRd, .inr (3, [.ref aT, .int rF, .int rT, .int 0]))] sz)) (vp_Si (fun r : Int32 => r = 0)) 0 0 (fun _ => False) := by
  refine met_go (cc := cX3_takeWord) (maxL := 2) (ret := (some .boolean)) (own := RX3) (by decide) rfl rfl (Nat.le_of_ble_eq_true rfl) ?_
  intro p e s m below meth c ls S hr hlocks hname hsz C w hl
  have hl : lv_has ls 2 [(0, .ref aRd), (1, .ref aQ)] := hl
  refine lv_aload_n S.1 S.2.1 dX3_takeWord_0 rfl (lv_at hl 0 rfl) ?_
  refine lv_aload_n S.1 S.2.1 dX3_takeWord_1 rfl (lv_at hl 1 rfl) ?_
  refine cs_i (va_runV (As := [.ref aQ]) (rest := []) S (e_X3_isWord l G aRd aQ _ aT rF rT) (cwV 1 S.2.2.2.2 gX3_takeWord_X3_isWord rfl rfl rfl (by decide +kernel) ⟨Nat.le_of_ble_eq_true rfl, Nat.le_of_ble_eq_true rfl⟩) ⟨wPre_blind, va_recv C.1 w.1 (ci := 3) (q0 := 0) rfl rfl, wPre_at C w [0] rfl rfl⟩ rfl rfl hl.1 rfl (lv_room (Nat.le_of_ble_eq_true rfl)) dX3_takeWord_2 ⟨Nat.le_of_ble_eq_true rfl, Nat.le_of_ble_eq_true rfl⟩) (fun r2 h2 => ?_)
  refine w_topi (y := 0) h2 ?_
  refine lv_if_ne (tgt := 10) S.1 S.2.1 dX3_takeWord_5 (by decide) (fun c5 => ?_) (fun c5 => ?_)
  · exact absurd c5 (by decide)
  · refine lv_iconst (v := 0) S.1 S.2.1 dX3_takeWord_8 (by decide) ?_
    exact W.zret (v := 0) S.1 S.2.1 hr (rfl) (fun t ht _ => ⟨0, rfl, rfl, ht⟩) (fun q h => absurd h List.not_mem_nil) dX3_takeWord_9
set_option maxHeartbeats 4000000 in
set_option maxRecDepth 100000 in
theorem e_X3_readInputs (l : Launch) (G : GT) (aRd aD : Nat) (sz : Nat) (aT : Nat) (rF rT : Int32) : Met l yX3_readInputs wsX3_readInputs ({ frames := 2, cells := 0, slots := 0, locals := 43 }) (va_Pc [.ref aRd, .ref aD] (wPre G [(aRd, .inr (3, [.ref aT, .int rF, .int rT, .int 0]))] sz)) (vp_Si (fun r : Int32 => r = 0)) 0 0 (fun _ => False) := by
  refine met_go (cc := cX3_readInputs) (maxL := 3) (ret := (some .boolean)) (own := RX3) (by decide) rfl rfl (Nat.le_of_ble_eq_true rfl) ?_
  intro p e s m below meth c ls S hr hlocks hname hsz C w hl
  have hl : lv_has ls 3 [(0, .ref aRd), (1, .ref aD)] := hl
  refine lv_aload_n S.1 S.2.1 dX3_readInputs_0 rfl (lv_at hl 0 rfl) ?_
  refine va_ldcS (tx := "in") S.1 S.2.1 S.2.2.2.1 (C.2.2.1.2.2.1 0 _ rfl) dX3_readInputs_1 ?_
  refine cs_i (va_runV (As := [.ref (G.2.2.2.1 0)]) (rest := []) S (e_X3_takeWord l G aRd (G.2.2.2.1 0) _ aT rF rT) (cwV 1 S.2.2.2.2 gX3_readInputs_X3_takeWord rfl rfl rfl (by decide +kernel) ⟨Nat.le_of_ble_eq_true rfl, Nat.le_of_ble_eq_true rfl⟩) ⟨wPre_blind, va_recv C.1 w.1 (ci := 3) (q0 := 0) rfl rfl, wPre_at C w [0] rfl rfl⟩ rfl rfl hl.1 rfl (lv_room (Nat.le_of_ble_eq_true rfl)) dX3_readInputs_3 ⟨Nat.le_of_ble_eq_true rfl, Nat.le_of_ble_eq_true rfl⟩) (fun r3 h3 => ?_)
  refine w_topi (y := 0) h3 ?_
  refine lv_if_ne (tgt := 11) S.1 S.2.1 dX3_readInputs_6 (by decide) (fun c6 => ?_) (fun c6 => ?_)
  · exact absurd c6 (by decide)
  · refine lv_iconst (v := 0) S.1 S.2.1 dX3_readInputs_9 (by decide) ?_
    exact W.zret (v := 0) S.1 S.2.1 hr (rfl) (fun t ht _ => ⟨0, rfl, rfl, ht⟩) (fun q h => absurd h List.not_mem_nil) dX3_readInputs_10
set_option maxHeartbeats 4000000 in
set_option maxRecDepth 100000 in
theorem e_X3_faultOf (l : Launch) (G : GT) (aRd aT aB aD : Nat) (sz : Nat) (rF rT rS : Int32) (fB : Nat → Int32) : Met l yX3_faultOf wsX3_faultOf ({ frames := 3, cells := 0, slots := 0, locals := 65 }) (va_Pc [.ref aRd, .ref aD] (wPre G [(aRd, .inr (3, [.ref aT, .int rF, .int rT, .int rS])), (aT, .inr (5, [.ref aB, .int 0])), (aB, .inl (G.2.1 0, 120, .inl fB))] sz)) (va_Qi (fun (r : Int32) (u : Unit) => r = 0) (bW G (va_A [(aRd, .inr (3, [.ref aT, .int rF, .int rT, .int rS])), (aT, .inr (5, [.ref aB, .int 0])), (aB, .inl (G.2.1 0, 120, .inl fB))] sz) (fun u : Unit => [(aRd, .inr (3, [.ref aT, .int 0, .int 0, .int 0])), (aT, .inr (5, [.ref aB, .int 0])), (aB, .inl (G.2.1 0, 120, .inl fB))])) (va_A [(aRd, .inr (3, [.ref aT, .int rF, .int rT, .int rS])), (aT, .inr (5, [.ref aB, .int 0])), (aB, .inl (G.2.1 0, 120, .inl fB))] sz)) 0 0 (va_A [(aRd, .inr (3, [.ref aT, .int rF, .int rT, .int rS])), (aT, .inr (5, [.ref aB, .int 0])), (aB, .inl (G.2.1 0, 120, .inl fB))] sz) := by
  refine met_go (cc := cX3_faultOf) (maxL := 3) (ret := (some .int)) (own := RX3) (by decide) rfl rfl (Nat.le_of_ble_eq_true rfl) ?_
  intro p e s m below meth c ls S hr hlocks hname hsz C w hl
  have hl : lv_has ls 3 [(0, .ref aRd), (1, .ref aD)] := hl
  refine lv_aload_n S.1 S.2.1 dX3_faultOf_0 rfl (lv_at hl 0 rfl) ?_
  refine lv_iconst (v := 0) S.1 S.2.1 dX3_faultOf_1 (by decide) ?_
  refine w_put S C w (CC := RX3) (T := TX3) (N := 4) (ref := "GateSums$Reader") im_X3_faultOf_X3 tyX3 tyX3_ok nmX3 0 rfl rfl 2 (by decide) (List.mem_of_getElem? (i := 1) rfl) (fun _ h => h) rfl (ws2 := [(aRd, .inr (3, [.ref aT, .int rF, .int 0, .int rS])), (aT, .inr (5, [.ref aB, .int 0])), (aB, .inl (G.2.1 0, 120, .inl fB))]) (rfl) (rfl) (Nat.le_of_ble_eq_true rfl) rfl dX3_faultOf_2 (fun H locs w => ?_)
  refine lv_aload_n S.1 S.2.1 dX3_faultOf_5 rfl (lv_at hl 0 rfl) ?_
  refine cq_v C w [0, 1, 2] [] [0, 1, 2] (wr := []) (w' := fun u : Unit => [(aRd, .inr (3, [.ref aT, .int 0, .int 0, .int 0])), (aT, .inr (5, [.ref aB, .int 0])), (aB, .inl (G.2.1 0, 120, .inl fB))]) (ws2 := fun u : Unit => [(aRd, .inr (3, [.ref aT, .int 0, .int 0, .int 0])), (aT, .inr (5, [.ref aB, .int 0])), (aB, .inl (G.2.1 0, 120, .inl fB))]) rfl rfl rfl (by decide) rfl (fun _ => rfl) (va_runV (As := []) (rest := []) S (e_X3_advance l G aRd aT aB _ rF rS fB) (cwV 0 S.2.2.2.2 gX3_faultOf_X3_advance rfl rfl rfl (by decide +kernel) ⟨Nat.le_of_ble_eq_true rfl, Nat.le_of_ble_eq_true rfl⟩) ⟨wPre_blind, va_recv C.1 w.1 (ci := 3) (q0 := 0) rfl rfl, wPre_at C w [0, 1, 2] rfl rfl⟩ rfl rfl hl.1 rfl (lv_room (Nat.le_of_ble_eq_true rfl)) dX3_faultOf_6 ⟨Nat.le_of_ble_eq_true rfl, Nat.le_of_ble_eq_true rfl⟩) (fun u6 H locs h6 w => ?_)
  have w : Wd G _ s [(aRd, .inr (3, [.ref aT, .int 0, .int 0, .int 0])), (aT, .inr (5, [.ref aB, .int 0])), (aB, .inl (G.2.1 0, 120, .inl fB))] H locs := w
  refine lv_aload_n S.1 S.2.1 dX3_faultOf_9 rfl (lv_at hl 0 rfl) ?_
  refine lv_aload_n S.1 S.2.1 dX3_faultOf_10 rfl (lv_at hl 1 rfl) ?_
  refine cs_i (va_runV (As := [.ref aD]) (rest := []) S (e_X3_readInputs l G aRd aD _ aT 0 0) (cwV 1 S.2.2.2.2 gX3_faultOf_X3_readInputs rfl rfl rfl (by decide +kernel) ⟨Nat.le_of_ble_eq_true rfl, Nat.le_of_ble_eq_true rfl⟩) ⟨wPre_blind, va_recv C.1 w.1 (ci := 3) (q0 := 0) rfl rfl, wPre_at C w [0] rfl rfl⟩ rfl rfl hl.1 rfl (lv_room (Nat.le_of_ble_eq_true rfl)) dX3_faultOf_11 ⟨Nat.le_of_ble_eq_true rfl, Nat.le_of_ble_eq_true rfl⟩) (fun r11 h11 => ?_)
  refine w_topi (y := 0) h11 ?_
  refine lv_if_eq (tgt := 45) S.1 S.2.1 dX3_faultOf_14 (by decide) (fun c14 => ?_) (fun c14 => ?_)
  · refine lv_iconst (v := 0) S.1 S.2.1 dX3_faultOf_45 (by decide) ?_
    refine lv_istore_n (lv' := [(2, .int 0), (0, .ref aRd), (1, .ref aD)]) S.1 S.2.1 dX3_faultOf_46 rfl hl (by decide) rfl (fun ls hl => ?_)
    refine lv_iload_n S.1 S.2.1 dX3_faultOf_47 rfl (lv_at hl 0 rfl) ?_
    refine lv_if_eq (tgt := 62) S.1 S.2.1 dX3_faultOf_48 (by decide) (fun c48 => ?_) (fun c48 => ?_)
    · refine lv_aload_n S.1 S.2.1 dX3_faultOf_62 rfl (lv_at hl 1 rfl) ?_
      refine w_get S C w (CC := RX3) (T := TX3) (N := 4) (ref := "GateSums$Reader") im_X3_faultOf_X3 0 rfl rfl 1 (by decide) (List.mem_of_getElem? (i := 3) rfl) (fun _ h => h) rfl dX3_faultOf_63 ?_
      exact W.iret (v := 0) S.1 S.2.1 hr (fun t ht _ => ⟨⟨0, (), rfl, rfl, by rw [ht]; exact w.1, w.2.1⟩, w.2.2.F ht⟩) w.2.2.2.2 dX3_faultOf_66
    · exact absurd c48 (by decide)
  · exact absurd c14 (by decide)
theorem im_X6_reads_X6 : ∀ w ∈ u_ws RX6 TX6 9, w ∈ wsX6_reads := by decide +kernel
set_option maxHeartbeats 4000000 in
set_option maxRecDepth 100000 in
theorem e_X6_reads (l : Launch) (G : GT) (aG aRd aT aB : Nat) (sz : Nat) (aC aD aL aM aS : Nat) (nB nN nF : Int32) (rF rT rS : Int32) (fB : Nat → Int32) : Met l yX6_reads wsX6_reads ({ frames := 4, cells := 0, slots := 0, locals := 87 }) (va_Pc [.ref aG] (wPre G [(aG, .inr (6, [.ref aRd, .ref aC, .ref aD, .ref aL, .ref aM, .ref aS, .int nB, .int nN, .int nF])), (aRd, .inr (3, [.ref aT, .int rF, .int rT, .int rS])), (aT, .inr (5, [.ref aB, .int 0])), (aB, .inl (G.2.1 0, 120, .inl fB))] sz)) (va_Qi (fun (r : Int32) (u : Unit) => r = (-10)) (bW G (va_A [(aG, .inr (6, [.ref aRd, .ref aC, .ref aD, .ref aL, .ref aM, .ref aS, .int nB, .int nN, .int nF])), (aRd, .inr (3, [.ref aT, .int rF, .int rT, .int rS])), (aT, .inr (5, [.ref aB, .int 0])), (aB, .inl (G.2.1 0, 120, .inl fB))] sz) (fun u : Unit => [(aG, .inr (6, [.ref aRd, .ref aC, .ref aD, .ref aL, .ref aM, .ref aS, .int nB, .int nN, .int nF])), (aRd, .inr (3, [.ref aT, .int 0, .int 0, .int 0])), (aT, .inr (5, [.ref aB, .int 0])), (aB, .inl (G.2.1 0, 120, .inl fB))])) (va_A [(aG, .inr (6, [.ref aRd, .ref aC, .ref aD, .ref aL, .ref aM, .ref aS, .int nB, .int nN, .int nF])), (aRd, .inr (3, [.ref aT, .int rF, .int rT, .int rS])), (aT, .inr (5, [.ref aB, .int 0])), (aB, .inl (G.2.1 0, 120, .inl fB))] sz)) 0 0 (va_A [(aG, .inr (6, [.ref aRd, .ref aC, .ref aD, .ref aL, .ref aM, .ref aS, .int nB, .int nN, .int nF])), (aRd, .inr (3, [.ref aT, .int rF, .int rT, .int rS])), (aT, .inr (5, [.ref aB, .int 0])), (aB, .inl (G.2.1 0, 120, .inl fB))] sz) := by
  refine met_go (cc := cX6_reads) (maxL := 2) (ret := (some .int)) (own := RX6) (by decide) rfl rfl (Nat.le_of_ble_eq_true rfl) ?_
  intro p e s m below meth c ls S hr hlocks hname hsz C w hl
  have hl : lv_has ls 2 [(0, .ref aG)] := hl
  refine lv_aload_n S.1 S.2.1 dX6_reads_0 rfl (lv_at hl 0 rfl) ?_
  refine w_get S C w (CC := RX6) (T := TX6) (N := 9) (ref := "GateSums") im_X6_reads_X6 0 rfl rfl 0 (by decide) (List.mem_of_getElem? (i := 1) rfl) (fun _ h => h) rfl dX6_reads_1 ?_
  refine lv_aload_n S.1 S.2.1 dX6_reads_4 rfl (lv_at hl 0 rfl) ?_
  refine w_get S C w (CC := RX6) (T := TX6) (N := 9) (ref := "GateSums") im_X6_reads_X6 0 rfl rfl 2 (by decide) (List.mem_of_getElem? (i := 2) rfl) (fun _ h => h) rfl dX6_reads_5 ?_
  refine cq_i C w [1, 2, 3] [0] [0, 1, 2, 3] (wr := [(aG, .inr (6, [.ref aRd, .ref aC, .ref aD, .ref aL, .ref aM, .ref aS, .int nB, .int nN, .int nF]))]) (w' := fun u : Unit => [(aRd, .inr (3, [.ref aT, .int 0, .int 0, .int 0])), (aT, .inr (5, [.ref aB, .int 0])), (aB, .inl (G.2.1 0, 120, .inl fB))]) (ws2 := fun u : Unit => [(aG, .inr (6, [.ref aRd, .ref aC, .ref aD, .ref aL, .ref aM, .ref aS, .int nB, .int nN, .int nF])), (aRd, .inr (3, [.ref aT, .int 0, .int 0, .int 0])), (aT, .inr (5, [.ref aB, .int 0])), (aB, .inl (G.2.1 0, 120, .inl fB))]) rfl rfl rfl (by decide) rfl (fun _ => rfl) (va_runV (As := [.ref aD]) (rest := []) S (e_X3_faultOf l G aRd aT aB aD _ rF rT rS fB) (cwV 1 S.2.2.2.2 gX6_reads_X3_faultOf rfl rfl rfl (by decide +kernel) ⟨Nat.le_of_ble_eq_true rfl, Nat.le_of_ble_eq_true rfl⟩) ⟨wPre_blind, va_recv C.1 w.1 (ci := 3) (q0 := 1) rfl rfl, wPre_at C w [1, 2, 3] rfl rfl⟩ rfl rfl hl.1 rfl (lv_room (Nat.le_of_ble_eq_true rfl)) dX6_reads_8 ⟨Nat.le_of_ble_eq_true rfl, Nat.le_of_ble_eq_true rfl⟩) (fun r8 u8 H locs h8 w => ?_)
  have w : Wd G _ s [(aG, .inr (6, [.ref aRd, .ref aC, .ref aD, .ref aL, .ref aM, .ref aS, .int nB, .int nN, .int nF])), (aRd, .inr (3, [.ref aT, .int 0, .int 0, .int 0])), (aT, .inr (5, [.ref aB, .int 0])), (aB, .inl (G.2.1 0, 120, .inl fB))] H locs := w
  refine w_topi (y := 0) (h8) ?_
  refine lv_istore_n (lv' := [(1, .int 0), (0, .ref aG)]) S.1 S.2.1 dX6_reads_11 rfl hl (by decide) rfl (fun ls hl => ?_)
  refine lv_iload_n S.1 S.2.1 dX6_reads_12 rfl (lv_at hl 0 rfl) ?_
  refine lv_iconst (v := (-1)) S.1 S.2.1 dX6_reads_13 (by decide) ?_
  refine lv_icmp_eq (tgt := 22) S.1 S.2.1 dX6_reads_14 (by decide) (fun c14 => ?_) (fun c14 => ?_)
  · exact absurd c14 (by decide)
  · refine lv_bipush (v := (-10)) S.1 S.2.1 dX6_reads_17 (by decide) ?_
    refine lv_iload_n S.1 S.2.1 dX6_reads_19 rfl (lv_at hl 0 rfl) ?_
    refine lv_isub S.1 S.2.1 dX6_reads_20 ?_
    refine w_topi (y := (-10)) (by decide) ?_
    exact W.iret (v := (-10)) S.1 S.2.1 hr (fun t ht _ => ⟨⟨(-10), (), rfl, rfl, by rw [ht]; exact w.1, w.2.1⟩, w.2.2.F ht⟩) w.2.2.2.2 dX6_reads_21
