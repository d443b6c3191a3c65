theorem im_X5_append_X5 : ∀ w ∈ u_ws RX5 TX5 2, w ∈ wsX5_append := by decide +kernel
set_option maxHeartbeats 4000000 in
set_option maxRecDepth 100000 in
theorem c_X5_append (l : Launch) (G : GT) (aT aB : Nat) (sz : Nat) (tL : Int32) (fB : Nat → Int32) (x0 : Int32) : Met l yX5_append wsX5_append ({ frames := 0, cells := 0, slots := 0, locals := 0 }) (va_Pc [.ref aT, .int x0] (wPre G [(aT, .inr (5, [.ref aB, .int tL])), (aB, .inl (G.2.1 0, 120, .inl fB))] sz)) (va_Qi (fun (r : Int32) (u : Unit) => r = apR tL) (bW G (va_A [(aT, .inr (5, [.ref aB, .int tL])), (aB, .inl (G.2.1 0, 120, .inl fB))] sz) (fun u : Unit => [(aT, .inr (5, [.ref aB, .int (apL tL)])), (aB, .inl (G.2.1 0, 120, .inl (apB tL x0 fB)))])) (va_A [(aT, .inr (5, [.ref aB, .int tL])), (aB, .inl (G.2.1 0, 120, .inl fB))] sz)) 0 0 (va_A [(aT, .inr (5, [.ref aB, .int tL])), (aB, .inl (G.2.1 0, 120, .inl fB))] sz) := by
  refine met_go (cc := cX5_append) (maxL := 2) (ret := (some .boolean)) (own := RX5) (by decide) rfl rfl (Nat.le_of_ble_eq_true rfl) ?_
  intro p e s m below meth c ls S hr hlocks hname hsz C w hl
  have hl : lv_has ls 2 [(0, .ref aT), (1, .int x0)] := hl
  refine lv_aload_n S.1 S.2.1 dX5_append_0 rfl (lv_at hl 0 rfl) ?_
  refine w_get S C w (CC := RX5) (T := TX5) (N := 2) (ref := "GateSums$Text") im_X5_append_X5 0 rfl rfl 1 (by decide) (List.mem_of_getElem? (i := 1) rfl) (fun _ h => h) rfl dX5_append_1 ?_
  refine lv_if_lt (tgt := 19) S.1 S.2.1 dX5_append_4 (by decide) (fun c4 => ?_) (fun c4 => ?_)
  · refine lv_iconst (v := 0) S.1 S.2.1 dX5_append_19 (by decide) ?_
    have w : Wd G (va_A [(aT, .inr (5, [.ref aB, .int tL])), (aB, .inl (G.2.1 0, 120, .inl fB))] sz) s [(aT, .inr (5, [.ref aB, .int (apL tL)])), (aB, .inl (G.2.1 0, 120, .inl (apB tL x0 fB)))] s.heap [] := by simp only [apL, apB, if_pos c4]; exact w
    exact W.zret (v := 0) S.1 S.2.1 hr (rfl) (fun t ht _ => ⟨⟨0, (), rfl, by simp only [apR, if_pos c4], by rw [ht]; exact w.1, w.2.1⟩, w.2.2.F ht⟩) w.2.2.2.2 dX5_append_20
  · refine lv_aload_n S.1 S.2.1 dX5_append_7 rfl (lv_at hl 0 rfl) ?_
    refine w_get S C w (CC := RX5) (T := TX5) (N := 2) (ref := "GateSums$Text") im_X5_append_X5 0 rfl rfl 1 (by decide) (List.mem_of_getElem? (i := 1) rfl) (fun _ h => h) rfl dX5_append_8 ?_
    refine lv_aload_n S.1 S.2.1 dX5_append_11 rfl (lv_at hl 0 rfl) ?_
    refine w_get S C w (CC := RX5) (T := TX5) (N := 2) (ref := "GateSums$Text") im_X5_append_X5 0 rfl rfl 0 (by decide) (List.mem_of_getElem? (i := 2) rfl) (fun _ h => h) rfl dX5_append_12 ?_
    refine w_alen S C w 1 0 rfl rfl (v := 120) rfl dX5_append_15 ?_
    refine lv_icmp_lt (tgt := 21) S.1 S.2.1 dX5_append_16 (by decide) (fun c16 => ?_) (fun c16 => ?_)
    · refine lv_aload_n S.1 S.2.1 dX5_append_21 rfl (lv_at hl 0 rfl) ?_
      refine w_get S C w (CC := RX5) (T := TX5) (N := 2) (ref := "GateSums$Text") im_X5_append_X5 0 rfl rfl 0 (by decide) (List.mem_of_getElem? (i := 2) rfl) (fun _ h => h) rfl dX5_append_22 ?_
      refine lv_aload_n S.1 S.2.1 dX5_append_25 rfl (lv_at hl 0 rfl) ?_
      refine w_get S C w (CC := RX5) (T := TX5) (N := 2) (ref := "GateSums$Text") im_X5_append_X5 0 rfl rfl 1 (by decide) (List.mem_of_getElem? (i := 1) rfl) (fun _ h => h) rfl dX5_append_26 ?_
      refine lv_iload_n S.1 S.2.1 dX5_append_29 rfl (lv_at hl 1 rfl) ?_
      refine lv_i2b (v := x0.toInt8.toInt32) S.1 S.2.1 dX5_append_30 rfl ?_
      refine w_bast S C w 1 rfl (in_of (by decide) c4 c16) (ws2 := [(aT, .inr (5, [.ref aB, .int tL])), (aB, .inl (G.2.1 0, 120, .inl (upd fB tL.toNatClampNeg (vp_nar .byte x0.toInt8.toInt32))))]) rfl dX5_append_31 (fun H locs w => ?_)
      refine lv_aload_n S.1 S.2.1 dX5_append_32 rfl (lv_at hl 0 rfl) ?_
      refine lv_dup S.1 S.2.1 dX5_append_33 rfl ?_
      refine w_get S C w (CC := RX5) (T := TX5) (N := 2) (ref := "GateSums$Text") im_X5_append_X5 0 rfl rfl 1 (by decide) (List.mem_of_getElem? (i := 1) rfl) (fun _ h => h) rfl dX5_append_34 ?_
      refine lv_iconst (v := 1) S.1 S.2.1 dX5_append_37 (by decide) ?_
      refine lv_iadd S.1 S.2.1 dX5_append_38 ?_
      refine w_put S C w (CC := RX5) (T := TX5) (N := 2) (ref := "GateSums$Text") im_X5_append_X5 tyX5 tyX5_ok nmX5 0 rfl rfl 1 (by decide) (List.mem_of_getElem? (i := 1) rfl) (fun _ h => h) rfl (ws2 := [(aT, .inr (5, [.ref aB, .int (tL + 1)])), (aB, .inl (G.2.1 0, 120, .inl (upd fB tL.toNatClampNeg (vp_nar .byte x0.toInt8.toInt32))))]) (rfl) (rfl) (Nat.le_of_ble_eq_true rfl) rfl dX5_append_39 (fun H locs w => ?_)
      refine lv_iconst (v := 1) S.1 S.2.1 dX5_append_42 (by decide) ?_
      have w : Wd G (va_A [(aT, .inr (5, [.ref aB, .int tL])), (aB, .inl (G.2.1 0, 120, .inl fB))] sz) s [(aT, .inr (5, [.ref aB, .int (apL tL)])), (aB, .inl (G.2.1 0, 120, .inl (apB tL x0 fB)))] H locs := by simp only [apL, apB, if_neg c4, if_pos c16]; exact w
      exact W.zret (v := 1) S.1 S.2.1 hr (rfl) (fun t ht _ => ⟨⟨1, (), rfl, by simp only [apR, if_neg c4, if_pos c16], by rw [ht]; exact w.1, w.2.1⟩, w.2.2.F ht⟩) w.2.2.2.2 dX5_append_43
    · refine lv_iconst (v := 0) S.1 S.2.1 dX5_append_19 (by decide) ?_
      have w : Wd G (va_A [(aT, .inr (5, [.ref aB, .int tL])), (aB, .inl (G.2.1 0, 120, .inl fB))] sz) s [(aT, .inr (5, [.ref aB, .int (apL tL)])), (aB, .inl (G.2.1 0, 120, .inl (apB tL x0 fB)))] s.heap [] := by simp only [apL, apB, if_neg c4, if_neg c16]; exact w
      exact W.zret (v := 0) S.1 S.2.1 hr (rfl) (fun t ht _ => ⟨⟨0, (), rfl, by simp only [apR, if_neg c4, if_neg c16], by rw [ht]; exact w.1, w.2.1⟩, w.2.2.F ht⟩) w.2.2.2.2 dX5_append_20
theorem im_X6_type_X3 : ∀ w ∈ u_ws RX3 TX3 4, w ∈ wsX6_type := by decide +kernel
theorem im_X6_type_X5 : ∀ w ∈ u_ws RX5 TX5 2, w ∈ wsX6_type := by decide +kernel
theorem im_X6_type_X6 : ∀ w ∈ u_ws RX6 TX6 9, w ∈ wsX6_type := by decide +kernel
theorem im_X6_clear_X3 : ∀ w ∈ u_ws RX3 TX3 4, w ∈ wsX6_clear := by decide +kernel
theorem im_X6_clear_X5 : ∀ w ∈ u_ws RX5 TX5 2, w ∈ wsX6_clear := by decide +kernel
theorem im_X6_clear_X6 : ∀ w ∈ u_ws RX6 TX6 9, w ∈ wsX6_clear := by decide +kernel
set_option maxHeartbeats 4000000 in
set_option maxRecDepth 100000 in
theorem c_X6_clear (l : Launch) (G : GT) (aG aRd aT : Nat) (sz : Nat) (aD aL aM aS : Nat) (nB nN nF : Int32) (aC aB : Nat) (rF rT rS tL : Int32) : Met l yX6_clear wsX6_clear ({ frames := 0, cells := 0, slots := 0, locals := 0 }) (va_Pc [.ref aG] (wPre G [(aG, .inr (6, [.ref aRd, .ref aC, .ref aD, .ref aL, .ref aM, .ref aS, .int nB, .int nN, .int nF])), (aRd, .inr (3, [.ref aT, .int rF, .int rT, .int rS])), (aT, .inr (5, [.ref aB, .int tL]))] sz)) (va_Qi (fun (r : Int32) (u : Unit) => r = tL) (bW G (va_A [(aG, .inr (6, [.ref aRd, .ref aC, .ref aD, .ref aL, .ref aM, .ref aS, .int nB, .int nN, .int nF])), (aRd, .inr (3, [.ref aT, .int rF, .int rT, .int rS])), (aT, .inr (5, [.ref aB, .int tL]))] sz) (fun u : Unit => [(aG, .inr (6, [.ref aRd, .ref aC, .ref aD, .ref aL, .ref aM, .ref aS, .int nB, .int nN, .int nF])), (aRd, .inr (3, [.ref aT, .int rF, .int rT, .int rS])), (aT, .inr (5, [.ref aB, .int 0]))])) (va_A [(aG, .inr (6, [.ref aRd, .ref aC, .ref aD, .ref aL, .ref aM, .ref aS, .int nB, .int nN, .int nF])), (aRd, .inr (3, [.ref aT, .int rF, .int rT, .int rS])), (aT, .inr (5, [.ref aB, .int tL]))] sz)) 0 0 (va_A [(aG, .inr (6, [.ref aRd, .ref aC, .ref aD, .ref aL, .ref aM, .ref aS, .int nB, .int nN, .int nF])), (aRd, .inr (3, [.ref aT, .int rF, .int rT, .int rS])), (aT, .inr (5, [.ref aB, .int tL]))] sz) := by
  refine met_go (cc := cX6_clear) (maxL := 2) (ret := (some .int)) (own := RX6) (by decide) rfl rfl (Nat.le_of_ble_eq_true rfl) ?_
  intro p e s m below meth c ls S hr hlocks hname hsz C w hl
  have hl : lv_has ls 2 [(0, .ref aG)] := hl
  refine lv_aload_n S.1 S.2.1 dX6_clear_0 rfl (lv_at hl 0 rfl) ?_
  refine w_get S C w (CC := RX6) (T := TX6) (N := 9) (ref := "GateSums") im_X6_clear_X6 0 rfl rfl 0 (by decide) (List.mem_of_getElem? (i := 1) rfl) (fun _ h => h) rfl dX6_clear_1 ?_
  refine w_get S C w (CC := RX3) (T := TX3) (N := 4) (ref := "GateSums$Reader") im_X6_clear_X3 1 rfl rfl 0 (by decide) (List.mem_of_getElem? (i := 2) rfl) (fun _ h => h) rfl dX6_clear_4 ?_
  refine w_get S C w (CC := RX5) (T := TX5) (N := 2) (ref := "GateSums$Text") im_X6_clear_X5 2 rfl rfl 1 (by decide) (List.mem_of_getElem? (i := 3) rfl) (fun _ h => h) rfl dX6_clear_7 ?_
  refine lv_istore_n (lv' := [(1, .int tL), (0, .ref aG)]) S.1 S.2.1 dX6_clear_10 rfl hl (by decide) rfl (fun ls hl => ?_)
  refine lv_aload_n S.1 S.2.1 dX6_clear_11 rfl (lv_at hl 1 rfl) ?_
  refine w_get S C w (CC := RX6) (T := TX6) (N := 9) (ref := "GateSums") im_X6_clear_X6 0 rfl rfl 0 (by decide) (List.mem_of_getElem? (i := 1) rfl) (fun _ h => h) rfl dX6_clear_12 ?_
  refine w_get S C w (CC := RX3) (T := TX3) (N := 4) (ref := "GateSums$Reader") im_X6_clear_X3 1 rfl rfl 0 (by decide) (List.mem_of_getElem? (i := 2) rfl) (fun _ h => h) rfl dX6_clear_15 ?_
  refine lv_iconst (v := 0) S.1 S.2.1 dX6_clear_18 (by decide) ?_
  refine w_put S C w (CC := RX5) (T := TX5) (N := 2) (ref := "GateSums$Text") im_X6_clear_X5 tyX5 tyX5_ok nmX5 2 rfl rfl 1 (by decide) (List.mem_of_getElem? (i := 3) rfl) (fun _ h => h) rfl (ws2 := [(aG, .inr (6, [.ref aRd, .ref aC, .ref aD, .ref aL, .ref aM, .ref aS, .int nB, .int nN, .int nF])), (aRd, .inr (3, [.ref aT, .int rF, .int rT, .int rS])), (aT, .inr (5, [.ref aB, .int 0]))]) (rfl) (rfl) (Nat.le_of_ble_eq_true rfl) rfl dX6_clear_19 (fun H locs w => ?_)
  refine lv_iload_n S.1 S.2.1 dX6_clear_22 rfl (lv_at hl 0 rfl) ?_
  exact W.iret (v := tL) S.1 S.2.1 hr (fun t ht _ => ⟨⟨tL, (), rfl, rfl, by rw [ht]; exact w.1, w.2.1⟩, w.2.2.F ht⟩) w.2.2.2.2 dX6_clear_23
theorem im_X6_count_X0 : ∀ w ∈ u_ws RX0 TX0 11, w ∈ wsX6_count := by decide +kernel
theorem im_X6_count_X3 : ∀ w ∈ u_ws RX3 TX3 4, w ∈ wsX6_count := by decide +kernel
theorem im_X6_count_X5 : ∀ w ∈ u_ws RX5 TX5 2, w ∈ wsX6_count := by decide +kernel
theorem im_X6_count_X6 : ∀ w ∈ u_ws RX6 TX6 9, w ∈ wsX6_count := by decide +kernel
set_option maxHeartbeats 4000000 in
set_option maxRecDepth 100000 in
theorem c_X6_count (l : Launch) (G : GT) (aG aRd aT aC : Nat) (sz : Nat) (aD aL aM aS : Nat) (nB nN nF : Int32) (aB : Nat) (rF rT rS tL : Int32) (cT cI cG cO cK cP cQ : Int32) (aK aX aY aZ : Nat) (x0 : Int32) : Met l yX6_count wsX6_count ({ frames := 1, cells := 0, slots := 0, locals := 21 }) (va_Pc [.ref aG, .int x0] (wPre G [(aG, .inr (6, [.ref aRd, .ref aC, .ref aD, .ref aL, .ref aM, .ref aS, .int nB, .int nN, .int nF])), (aRd, .inr (3, [.ref aT, .int rF, .int rT, .int rS])), (aT, .inr (5, [.ref aB, .int tL])), (aC, .inr (0, [.int cT, .int cI, .int cG, .int cO, .int cK, .int cP, .int cQ, .ref aK, .ref aX, .ref aY, .ref aZ]))] sz)) (va_Qi (fun (r : Int32) (u : Int32) => r = cntF nB nN nF tL cI cG cO x0) (bW G (va_A [(aG, .inr (6, [.ref aRd, .ref aC, .ref aD, .ref aL, .ref aM, .ref aS, .int nB, .int nN, .int nF])), (aRd, .inr (3, [.ref aT, .int rF, .int rT, .int rS])), (aT, .inr (5, [.ref aB, .int tL])), (aC, .inr (0, [.int cT, .int cI, .int cG, .int cO, .int cK, .int cP, .int cQ, .ref aK, .ref aX, .ref aY, .ref aZ]))] sz) (fun u : Int32 => [(aG, .inr (6, [.ref aRd, .ref aC, .ref aD, .ref aL, .ref aM, .ref aS, .int u, .int nN, .int nF])), (aRd, .inr (3, [.ref aT, .int rF, .int rT, .int rS])), (aT, .inr (5, [.ref aB, .int tL])), (aC, .inr (0, [.int cT, .int cI, .int cG, .int cO, .int cK, .int cP, .int cQ, .ref aK, .ref aX, .ref aY, .ref aZ]))])) (va_A [(aG, .inr (6, [.ref aRd, .ref aC, .ref aD, .ref aL, .ref aM, .ref aS, .int nB, .int nN, .int nF])), (aRd, .inr (3, [.ref aT, .int rF, .int rT, .int rS])), (aT, .inr (5, [.ref aB, .int tL])), (aC, .inr (0, [.int cT, .int cI, .int cG, .int cO, .int cK, .int cP, .int cQ, .ref aK, .ref aX, .ref aY, .ref aZ]))] sz)) 0 0 (va_A [(aG, .inr (6, [.ref aRd, .ref aC, .ref aD, .ref aL, .ref aM, .ref aS, .int nB, .int nN, .int nF])), (aRd, .inr (3, [.ref aT, .int rF, .int rT, .int rS])), (aT, .inr (5, [.ref aB, .int tL])), (aC, .inr (0, [.int cT, .int cI, .int cG, .int cO, .int cK, .int cP, .int cQ, .ref aK, .ref aX, .ref aY, .ref aZ]))] sz) := by
  refine met_go (cc := cX6_count) (maxL := 2) (ret := (some .int)) (own := RX6) (by decide) rfl rfl (Nat.le_of_ble_eq_true rfl) ?_
  intro p e s m below meth c ls S hr hlocks hname hsz C w hl
  have hl : lv_has ls 2 [(0, .ref aG), (1, .int x0)] := hl
  refine lv_iload_n S.1 S.2.1 dX6_count_0 rfl (lv_at hl 1 rfl) ?_
  rcases sw_cases 0 6 x0.toInt (by decide) with c1 | ⟨c1n, c1l, c1q⟩
  · refine lv_tableOut (tgt := 94) S.1 S.2.1 dX6_count_1 c1 (by decide) ?_
    refine lv_aload_n S.1 S.2.1 dX6_count_94 rfl (lv_at hl 0 rfl) ?_
    refine lv_bipush (v := (-2)) S.1 S.2.1 dX6_count_95 (by decide) ?_
    refine cq_i C w [0] [1, 2, 3] [3, 0, 1, 2] (wr := [(aRd, .inr (3, [.ref aT, .int rF, .int rT, .int rS])), (aT, .inr (5, [.ref aB, .int tL])), (aC, .inr (0, [.int cT, .int cI, .int cG, .int cO, .int cK, .int cP, .int cQ, .ref aK, .ref aX, .ref aY, .ref aZ]))]) (w' := fun u : Unit => [(aG, .inr (6, [.ref aRd, .ref aC, .ref aD, .ref aL, .ref aM, .ref aS, .int (nB + 1), .int nN, .int nF]))]) (ws2 := fun u : Unit => [(aG, .inr (6, [.ref aRd, .ref aC, .ref aD, .ref aL, .ref aM, .ref aS, .int (nB + 1), .int nN, .int nF])), (aRd, .inr (3, [.ref aT, .int rF, .int rT, .int rS])), (aT, .inr (5, [.ref aB, .int tL])), (aC, .inr (0, [.int cT, .int cI, .int cG, .int cO, .int cK, .int cP, .int cQ, .ref aK, .ref aX, .ref aY, .ref aZ]))]) rfl rfl rfl (by decide) rfl (fun _ => rfl) (va_runV (As := [.int (-2)]) (rest := []) S (c_X6_refused_B l G aG _ aRd aC aD aL aM aS nB nN nF) (cwV 1 S.2.2.2.2 gX6_count_X6_refused rfl rfl rfl (by decide +kernel) ⟨Nat.le_of_ble_eq_true rfl, Nat.le_of_ble_eq_true rfl⟩) ⟨wPre_blind, va_recv C.1 w.1 (ci := 6) (q0 := 0) rfl rfl, wPre_at C w [0] rfl rfl⟩ rfl rfl hl.1 rfl (lv_room (Nat.le_of_ble_eq_true rfl)) dX6_count_97 ⟨Nat.le_of_ble_eq_true rfl, Nat.le_of_ble_eq_true rfl⟩) (fun r97 u97 H locs h97 w => ?_)
    have w : Wd G _ s [(aG, .inr (6, [.ref aRd, .ref aC, .ref aD, .ref aL, .ref aM, .ref aS, .int (nB + 1), .int nN, .int nF])), (aRd, .inr (3, [.ref aT, .int rF, .int rT, .int rS])), (aT, .inr (5, [.ref aB, .int tL])), (aC, .inr (0, [.int cT, .int cI, .int cG, .int cO, .int cK, .int cP, .int cQ, .ref aK, .ref aX, .ref aY, .ref aZ]))] H locs := w
    exact W.iret (v := r97) S.1 S.2.1 hr (fun t ht _ => ⟨⟨r97, (nB + 1), rfl, by first | (rw [h97]; exact (if_pos c1).symm) | (rw [cntF, if_neg (by omega)]; simp [countF, c1]), by rw [ht]; exact w.1, w.2.1⟩, w.2.2.F ht⟩) w.2.2.2.2 dX6_count_100
  · have c1l2 : c1n < 7 := by omega
    rcases Nat.lt_or_ge c1n 1 with c1a | c1a
    · have c1e : c1n = 0 := by omega
      subst c1e
      have c1 : x0.toInt = 0 := by omega
      refine lv_tableIn (off := 43) (tgt := 44) S.1 S.2.1 dX6_count_1 (by omega) (by omega) (by rw [c1]; rfl) (by decide) ?_
      refine lv_aload_n S.1 S.2.1 dX6_count_44 rfl (lv_at hl 0 rfl) ?_
      refine w_get S C w (CC := RX6) (T := TX6) (N := 9) (ref := "GateSums") im_X6_count_X6 0 rfl rfl 6 (by decide) (List.mem_of_getElem? (i := 1) rfl) (fun _ h => h) rfl dX6_count_45 ?_
      exact W.iret (v := nB) S.1 S.2.1 hr (fun t ht _ => ⟨⟨nB, nB, rfl, by first | (rw [@h97]; exact (if_pos c1).symm) | (rw [cntF, if_neg (by omega)]; simp [countF, c1]), by rw [ht]; exact w.1, w.2.1⟩, w.2.2.F ht⟩) w.2.2.2.2 dX6_count_48
    rcases Nat.lt_or_ge c1n 2 with c1a | c1a
    · have c1e : c1n = 1 := by omega
      subst c1e
      have c1 : x0.toInt = 1 := by omega
      refine lv_tableIn (off := 48) (tgt := 49) S.1 S.2.1 dX6_count_1 (by omega) (by omega) (by rw [c1]; rfl) (by decide) ?_
      refine lv_aload_n S.1 S.2.1 dX6_count_49 rfl (lv_at hl 0 rfl) ?_
      refine w_get S C w (CC := RX6) (T := TX6) (N := 9) (ref := "GateSums") im_X6_count_X6 0 rfl rfl 7 (by decide) (List.mem_of_getElem? (i := 2) rfl) (fun _ h => h) rfl dX6_count_50 ?_
      exact W.iret (v := nN) S.1 S.2.1 hr (fun t ht _ => ⟨⟨nN, nB, rfl, by first | (rw [@h97]; exact (if_pos c1).symm) | (rw [cntF, if_neg (by omega)]; simp [countF, c1]), by rw [ht]; exact w.1, w.2.1⟩, w.2.2.F ht⟩) w.2.2.2.2 dX6_count_53
    rcases Nat.lt_or_ge c1n 3 with c1a | c1a
    · have c1e : c1n = 2 := by omega
      subst c1e
      have c1 : x0.toInt = 2 := by omega
      refine lv_tableIn (off := 53) (tgt := 54) S.1 S.2.1 dX6_count_1 (by omega) (by omega) (by rw [c1]; rfl) (by decide) ?_
      refine lv_aload_n S.1 S.2.1 dX6_count_54 rfl (lv_at hl 0 rfl) ?_
      refine w_get S C w (CC := RX6) (T := TX6) (N := 9) (ref := "GateSums") im_X6_count_X6 0 rfl rfl 8 (by decide) (List.mem_of_getElem? (i := 3) rfl) (fun _ h => h) rfl dX6_count_55 ?_
      exact W.iret (v := nF) S.1 S.2.1 hr (fun t ht _ => ⟨⟨nF, nB, rfl, by first | (rw [@h97]; exact (if_pos c1).symm) | (rw [cntF, if_neg (by omega)]; simp [countF, c1]), by rw [ht]; exact w.1, w.2.1⟩, w.2.2.F ht⟩) w.2.2.2.2 dX6_count_58
    rcases Nat.lt_or_ge c1n 4 with c1a | c1a
    · have c1e : c1n = 3 := by omega
      subst c1e
      have c1 : x0.toInt = 3 := by omega
      refine lv_tableIn (off := 58) (tgt := 59) S.1 S.2.1 dX6_count_1 (by omega) (by omega) (by rw [c1]; rfl) (by decide) ?_
      refine lv_aload_n S.1 S.2.1 dX6_count_59 rfl (lv_at hl 0 rfl) ?_
      refine w_get S C w (CC := RX6) (T := TX6) (N := 9) (ref := "GateSums") im_X6_count_X6 0 rfl rfl 0 (by decide) (List.mem_of_getElem? (i := 4) rfl) (fun _ h => h) rfl dX6_count_60 ?_
      refine w_get S C w (CC := RX3) (T := TX3) (N := 4) (ref := "GateSums$Reader") im_X6_count_X3 1 rfl rfl 0 (by decide) (List.mem_of_getElem? (i := 5) rfl) (fun _ h => h) rfl dX6_count_63 ?_
      refine w_get S C w (CC := RX5) (T := TX5) (N := 2) (ref := "GateSums$Text") im_X6_count_X5 2 rfl rfl 1 (by decide) (List.mem_of_getElem? (i := 6) rfl) (fun _ h => h) rfl dX6_count_66 ?_
      exact W.iret (v := tL) S.1 S.2.1 hr (fun t ht _ => ⟨⟨tL, nB, rfl, by first | (rw [@h97]; exact (if_pos c1).symm) | (rw [cntF, if_neg (by omega)]; simp [countF, c1]), by rw [ht]; exact w.1, w.2.1⟩, w.2.2.F ht⟩) w.2.2.2.2 dX6_count_69
    rcases Nat.lt_or_ge c1n 5 with c1a | c1a
    · have c1e : c1n = 4 := by omega
      subst c1e
      have c1 : x0.toInt = 4 := by omega
      refine lv_tableIn (off := 69) (tgt := 70) S.1 S.2.1 dX6_count_1 (by omega) (by omega) (by rw [c1]; rfl) (by decide) ?_
      refine lv_aload_n S.1 S.2.1 dX6_count_70 rfl (lv_at hl 0 rfl) ?_
      refine w_get S C w (CC := RX6) (T := TX6) (N := 9) (ref := "GateSums") im_X6_count_X6 0 rfl rfl 1 (by decide) (List.mem_of_getElem? (i := 7) rfl) (fun _ h => h) rfl dX6_count_71 ?_
      refine w_get S C w (CC := RX0) (T := TX0) (N := 11) (ref := "GateSums$Circuit") im_X6_count_X0 3 rfl rfl 1 (by decide) (List.mem_of_getElem? (i := 8) rfl) (fun _ h => h) rfl dX6_count_74 ?_
      exact W.iret (v := cI) S.1 S.2.1 hr (fun t ht _ => ⟨⟨cI, nB, rfl, by first | (rw [@h97]; exact (if_pos c1).symm) | (rw [cntF, if_neg (by omega)]; simp [countF, c1]), by rw [ht]; exact w.1, w.2.1⟩, w.2.2.F ht⟩) w.2.2.2.2 dX6_count_77
    rcases Nat.lt_or_ge c1n 6 with c1a | c1a
    · have c1e : c1n = 5 := by omega
      subst c1e
      have c1 : x0.toInt = 5 := by omega
      refine lv_tableIn (off := 77) (tgt := 78) S.1 S.2.1 dX6_count_1 (by omega) (by omega) (by rw [c1]; rfl) (by decide) ?_
      refine lv_aload_n S.1 S.2.1 dX6_count_78 rfl (lv_at hl 0 rfl) ?_
      refine w_get S C w (CC := RX6) (T := TX6) (N := 9) (ref := "GateSums") im_X6_count_X6 0 rfl rfl 1 (by decide) (List.mem_of_getElem? (i := 7) rfl) (fun _ h => h) rfl dX6_count_79 ?_
      refine w_get S C w (CC := RX0) (T := TX0) (N := 11) (ref := "GateSums$Circuit") im_X6_count_X0 3 rfl rfl 2 (by decide) (List.mem_of_getElem? (i := 9) rfl) (fun _ h => h) rfl dX6_count_82 ?_
      exact W.iret (v := cG) S.1 S.2.1 hr (fun t ht _ => ⟨⟨cG, nB, rfl, by first | (rw [@h97]; exact (if_pos c1).symm) | (rw [cntF, if_neg (by omega)]; simp [countF, c1]), by rw [ht]; exact w.1, w.2.1⟩, w.2.2.F ht⟩) w.2.2.2.2 dX6_count_85
    have c1e : c1n = 6 := by omega
    subst c1e
    have c1 : x0.toInt = 6 := by omega
    refine lv_tableIn (off := 85) (tgt := 86) S.1 S.2.1 dX6_count_1 (by omega) (by omega) (by rw [c1]; rfl) (by decide) ?_
    refine lv_aload_n S.1 S.2.1 dX6_count_86 rfl (lv_at hl 0 rfl) ?_
    refine w_get S C w (CC := RX6) (T := TX6) (N := 9) (ref := "GateSums") im_X6_count_X6 0 rfl rfl 1 (by decide) (List.mem_of_getElem? (i := 7) rfl) (fun _ h => h) rfl dX6_count_87 ?_
    refine w_get S C w (CC := RX0) (T := TX0) (N := 11) (ref := "GateSums$Circuit") im_X6_count_X0 3 rfl rfl 3 (by decide) (List.mem_of_getElem? (i := 10) rfl) (fun _ h => h) rfl dX6_count_90 ?_
    exact W.iret (v := cO) S.1 S.2.1 hr (fun t ht _ => ⟨⟨cO, nB, rfl, by first | (rw [@h97]; exact (if_pos c1).symm) | (rw [cntF, if_neg (by omega)]; simp [countF, c1]), by rw [ht]; exact w.1, w.2.1⟩, w.2.2.F ht⟩) w.2.2.2.2 dX6_count_93
set_option maxHeartbeats 4000000 in
set_option maxRecDepth 100000 in
theorem s_X6_count (l : Launch) (G : GT) (aG aRd aT aC : Nat) (sz : Nat) (aD aL aM aS : Nat) (nB nN nF : Int32) (aB : Nat) (rF rT rS tL : Int32) (cT cI cG cO cK cP cQ : Int32) (aK aX aY aZ : Nat) (x0 : Int32) (hx0 : 0 ≤ x0.toInt) (hx6 : x0.toInt ≤ 6) : Met l yX6_count wsX6_count ({ frames := 0, cells := 0, slots := 0, locals := 0 }) (va_Pc [.ref aG, .int x0] (wPre G [(aG, .inr (6, [.ref aRd, .ref aC, .ref aD, .ref aL, .ref aM, .ref aS, .int nB, .int nN, .int nF])), (aRd, .inr (3, [.ref aT, .int rF, .int rT, .int rS])), (aT, .inr (5, [.ref aB, .int tL])), (aC, .inr (0, [.int cT, .int cI, .int cG, .int cO, .int cK, .int cP, .int cQ, .ref aK, .ref aX, .ref aY, .ref aZ]))] sz)) (vp_Si (fun r : Int32 => r = countF nB nN nF tL cI cG cO x0)) 0 0 (fun _ => False) := by
  refine met_go (cc := cX6_count) (maxL := 2) (ret := (some .int)) (own := RX6) (by decide) rfl rfl (Nat.le_of_ble_eq_true rfl) ?_
  intro p e s m below meth c ls S hr hlocks hname hsz C w hl
  have hl : lv_has ls 2 [(0, .ref aG), (1, .int x0)] := hl
  refine lv_iload_n S.1 S.2.1 dX6_count_0 rfl (lv_at hl 1 rfl) ?_
  rcases sw_cases 0 6 x0.toInt (by decide) with c1 | ⟨c1n, c1l, c1q⟩
  · exact absurd c1 (by omega)
  · have c1l2 : c1n < 7 := by omega
    rcases Nat.lt_or_ge c1n 1 with c1a | c1a
    · have c1e : c1n = 0 := by omega
      subst c1e
      have c1 : x0.toInt = 0 := by omega
      refine lv_tableIn (off := 43) (tgt := 44) S.1 S.2.1 dX6_count_1 (by omega) (by omega) (by rw [c1]; rfl) (by decide) ?_
      refine lv_aload_n S.1 S.2.1 dX6_count_44 rfl (lv_at hl 0 rfl) ?_
      refine w_get S C w (CC := RX6) (T := TX6) (N := 9) (ref := "GateSums") im_X6_count_X6 0 rfl rfl 6 (by decide) (List.mem_of_getElem? (i := 1) rfl) (fun _ h => h) rfl dX6_count_45 ?_
      exact W.iret (v := nB) S.1 S.2.1 hr (fun t ht _ => ⟨nB, rfl, by simp [countF, c1], ht⟩) (fun q h => absurd h List.not_mem_nil) dX6_count_48
    rcases Nat.lt_or_ge c1n 2 with c1a | c1a
    · have c1e : c1n = 1 := by omega
      subst c1e
      have c1 : x0.toInt = 1 := by omega
      refine lv_tableIn (off := 48) (tgt := 49) S.1 S.2.1 dX6_count_1 (by omega) (by omega) (by rw [c1]; rfl) (by decide) ?_
      refine lv_aload_n S.1 S.2.1 dX6_count_49 rfl (lv_at hl 0 rfl) ?_
      refine w_get S C w (CC := RX6) (T := TX6) (N := 9) (ref := "GateSums") im_X6_count_X6 0 rfl rfl 7 (by decide) (List.mem_of_getElem? (i := 2) rfl) (fun _ h => h) rfl dX6_count_50 ?_
      exact W.iret (v := nN) S.1 S.2.1 hr (fun t ht _ => ⟨nN, rfl, by simp [countF, c1], ht⟩) (fun q h => absurd h List.not_mem_nil) dX6_count_53
    rcases Nat.lt_or_ge c1n 3 with c1a | c1a
    · have c1e : c1n = 2 := by omega
      subst c1e
      have c1 : x0.toInt = 2 := by omega
      refine lv_tableIn (off := 53) (tgt := 54) S.1 S.2.1 dX6_count_1 (by omega) (by omega) (by rw [c1]; rfl) (by decide) ?_
      refine lv_aload_n S.1 S.2.1 dX6_count_54 rfl (lv_at hl 0 rfl) ?_
      refine w_get S C w (CC := RX6) (T := TX6) (N := 9) (ref := "GateSums") im_X6_count_X6 0 rfl rfl 8 (by decide) (List.mem_of_getElem? (i := 3) rfl) (fun _ h => h) rfl dX6_count_55 ?_
      exact W.iret (v := nF) S.1 S.2.1 hr (fun t ht _ => ⟨nF, rfl, by simp [countF, c1], ht⟩) (fun q h => absurd h List.not_mem_nil) dX6_count_58
    rcases Nat.lt_or_ge c1n 4 with c1a | c1a
    · have c1e : c1n = 3 := by omega
      subst c1e
      have c1 : x0.toInt = 3 := by omega
      refine lv_tableIn (off := 58) (tgt := 59) S.1 S.2.1 dX6_count_1 (by omega) (by omega) (by rw [c1]; rfl) (by decide) ?_
      refine lv_aload_n S.1 S.2.1 dX6_count_59 rfl (lv_at hl 0 rfl) ?_
      refine w_get S C w (CC := RX6) (T := TX6) (N := 9) (ref := "GateSums") im_X6_count_X6 0 rfl rfl 0 (by decide) (List.mem_of_getElem? (i := 4) rfl) (fun _ h => h) rfl dX6_count_60 ?_
      refine w_get S C w (CC := RX3) (T := TX3) (N := 4) (ref := "GateSums$Reader") im_X6_count_X3 1 rfl rfl 0 (by decide) (List.mem_of_getElem? (i := 5) rfl) (fun _ h => h) rfl dX6_count_63 ?_
      refine w_get S C w (CC := RX5) (T := TX5) (N := 2) (ref := "GateSums$Text") im_X6_count_X5 2 rfl rfl 1 (by decide) (List.mem_of_getElem? (i := 6) rfl) (fun _ h => h) rfl dX6_count_66 ?_
      exact W.iret (v := tL) S.1 S.2.1 hr (fun t ht _ => ⟨tL, rfl, by simp [countF, c1], ht⟩) (fun q h => absurd h List.not_mem_nil) dX6_count_69
    rcases Nat.lt_or_ge c1n 5 with c1a | c1a
    · have c1e : c1n = 4 := by omega
      subst c1e
      have c1 : x0.toInt = 4 := by omega
      refine lv_tableIn (off := 69) (tgt := 70) S.1 S.2.1 dX6_count_1 (by omega) (by omega) (by rw [c1]; rfl) (by decide) ?_
      refine lv_aload_n S.1 S.2.1 dX6_count_70 rfl (lv_at hl 0 rfl) ?_
      refine w_get S C w (CC := RX6) (T := TX6) (N := 9) (ref := "GateSums") im_X6_count_X6 0 rfl rfl 1 (by decide) (List.mem_of_getElem? (i := 7) rfl) (fun _ h => h) rfl dX6_count_71 ?_
      refine w_get S C w (CC := RX0) (T := TX0) (N := 11) (ref := "GateSums$Circuit") im_X6_count_X0 3 rfl rfl 1 (by decide) (List.mem_of_getElem? (i := 8) rfl) (fun _ h => h) rfl dX6_count_74 ?_
      exact W.iret (v := cI) S.1 S.2.1 hr (fun t ht _ => ⟨cI, rfl, by simp [countF, c1], ht⟩) (fun q h => absurd h List.not_mem_nil) dX6_count_77
    rcases Nat.lt_or_ge c1n 6 with c1a | c1a
    · have c1e : c1n = 5 := by omega
      subst c1e
      have c1 : x0.toInt = 5 := by omega
      refine lv_tableIn (off := 77) (tgt := 78) S.1 S.2.1 dX6_count_1 (by omega) (by omega) (by rw [c1]; rfl) (by decide) ?_
      refine lv_aload_n S.1 S.2.1 dX6_count_78 rfl (lv_at hl 0 rfl) ?_
      refine w_get S C w (CC := RX6) (T := TX6) (N := 9) (ref := "GateSums") im_X6_count_X6 0 rfl rfl 1 (by decide) (List.mem_of_getElem? (i := 7) rfl) (fun _ h => h) rfl dX6_count_79 ?_
      refine w_get S C w (CC := RX0) (T := TX0) (N := 11) (ref := "GateSums$Circuit") im_X6_count_X0 3 rfl rfl 2 (by decide) (List.mem_of_getElem? (i := 9) rfl) (fun _ h => h) rfl dX6_count_82 ?_
      exact W.iret (v := cG) S.1 S.2.1 hr (fun t ht _ => ⟨cG, rfl, by simp [countF, c1], ht⟩) (fun q h => absurd h List.not_mem_nil) dX6_count_85
    have c1e : c1n = 6 := by omega
    subst c1e
    have c1 : x0.toInt = 6 := by omega
    refine lv_tableIn (off := 85) (tgt := 86) S.1 S.2.1 dX6_count_1 (by omega) (by omega) (by rw [c1]; rfl) (by decide) ?_
    refine lv_aload_n S.1 S.2.1 dX6_count_86 rfl (lv_at hl 0 rfl) ?_
    refine w_get S C w (CC := RX6) (T := TX6) (N := 9) (ref := "GateSums") im_X6_count_X6 0 rfl rfl 1 (by decide) (List.mem_of_getElem? (i := 7) rfl) (fun _ h => h) rfl dX6_count_87 ?_
    refine w_get S C w (CC := RX0) (T := TX0) (N := 11) (ref := "GateSums$Circuit") im_X6_count_X0 3 rfl rfl 3 (by decide) (List.mem_of_getElem? (i := 10) rfl) (fun _ h => h) rfl dX6_count_90 ?_
    exact W.iret (v := cO) S.1 S.2.1 hr (fun t ht _ => ⟨cO, rfl, by simp [countF, c1], ht⟩) (fun q h => absurd h List.not_mem_nil) dX6_count_93
set_option maxHeartbeats 4000000 in
set_option maxRecDepth 100000 in
theorem c_X6_leftOver (l : Launch) (G : GT) (sz : Nat) (x0 : Int64) (n0 : Int32) : Met l yX6_leftOver wsX6_leftOver ({ frames := 0, cells := 0, slots := 0, locals := 0 }) (va_Pc [.long x0, .int n0] (wPre G [] sz)) (vp_Si (fun r : Int32 => r = (leftF x0 n0))) 0 0 (fun _ => False) := by
  refine met_go (cc := cX6_leftOver) (maxL := 3) (ret := (some .int)) (own := RX6) (by decide) rfl rfl (Nat.le_of_ble_eq_true rfl) ?_
  intro p e s m below meth c ls S hr hlocks hname hsz C w hl
  have hl : lv_has ls 3 [(0, .long x0), (2, .int n0)] := hl
  refine lv_iload_n S.1 S.2.1 dX6_leftOver_0 rfl (lv_at hl 1 rfl) ?_
  refine lv_if_le (tgt := 12) S.1 S.2.1 dX6_leftOver_1 (by decide) (fun c1 => ?_) (fun c1 => ?_)
  · refine lv_iconst (v := 0) S.1 S.2.1 dX6_leftOver_12 (by decide) ?_
    exact W.iret (v := 0) S.1 S.2.1 hr (fun t ht _ => ⟨0, rfl, by simp only [leftF, if_pos c1], ht⟩) (fun q h => absurd h List.not_mem_nil) dX6_leftOver_13
  · refine lv_lload_n S.1 S.2.1 dX6_leftOver_4 rfl (lv_at hl 0 rfl) ?_
    refine lv_iload_n S.1 S.2.1 dX6_leftOver_5 rfl (lv_at hl 1 rfl) ?_
    refine lv_i2l (v := n0.toInt64) S.1 S.2.1 dX6_leftOver_6 rfl ?_
    refine lv_lrem S.1 S.2.1 dX6_leftOver_7 (wide_ne0 c1) ?_
    refine lv_l2i (v := ((x0 - x0 / n0.toInt64 * n0.toInt64).toInt32)) S.1 S.2.1 dX6_leftOver_8 rfl ?_
    refine lv_goto (tgt := 13) S.1 S.2.1 dX6_leftOver_9 (by decide) ?_
    exact W.iret (v := ((x0 - x0 / n0.toInt64 * n0.toInt64).toInt32)) S.1 S.2.1 hr (fun t ht _ => ⟨((x0 - x0 / n0.toInt64 * n0.toInt64).toInt32), rfl, by simp only [leftF, if_neg c1], ht⟩) (fun q h => absurd h List.not_mem_nil) dX6_leftOver_13
theorem im_X6_digest_X0 : ∀ w ∈ u_ws RX0 TX0 11, w ∈ wsX6_digest := by decide +kernel
theorem im_X6_digest_X6 : ∀ w ∈ u_ws RX6 TX6 9, w ∈ wsX6_digest := by decide +kernel
theorem im_X6_reads_X6 : ∀ w ∈ u_ws RX6 TX6 9, w ∈ wsX6_reads := by decide +kernel
