set_option maxHeartbeats 4000000 in
set_option maxRecDepth 100000 in
theorem n_X6_stageRefusal (l : Launch) (G : GT) (aG aC : Nat) (sz : Nat) (aRd aD aL aM aS : Nat) (nB nN nF : Int32) (cI cG cO cK cP cQ : Int32) (aK aX aY aZ : Nat) (z0 k0 : Int32) : Met l yX6_stageRefusal wsX6_stageRefusal ({ frames := 2, cells := 0, slots := 0, locals := 42 }) (va_Pc [.ref aG, .int z0, .int k0] (wPre G [(aG, .inr (6, [.ref aRd, .ref aC, .ref aD, .ref aL, .ref aM, .ref aS, .int nB, .int nN, .int nF])), (aC, .inr (0, [.int 0, .int cI, .int cG, .int cO, .int cK, .int cP, .int cQ, .ref aK, .ref aX, .ref aY, .ref aZ]))] sz)) (va_Qi (fun (r : Int32) (u : Int32 × Int32) => r = refusalF 0 z0) (bW G (va_A [(aG, .inr (6, [.ref aRd, .ref aC, .ref aD, .ref aL, .ref aM, .ref aS, .int nB, .int nN, .int nF])), (aC, .inr (0, [.int 0, .int cI, .int cG, .int cO, .int cK, .int cP, .int cQ, .ref aK, .ref aX, .ref aY, .ref aZ]))] sz) (fun u : Int32 × Int32 => [(aG, .inr (6, [.ref aRd, .ref aC, .ref aD, .ref aL, .ref aM, .ref aS, .int u.1, .int u.2, .int nF])), (aC, .inr (0, [.int 0, .int cI, .int cG, .int cO, .int cK, .int cP, .int cQ, .ref aK, .ref aX, .ref aY, .ref aZ]))])) (va_A [(aG, .inr (6, [.ref aRd, .ref aC, .ref aD, .ref aL, .ref aM, .ref aS, .int nB, .int nN, .int nF])), (aC, .inr (0, [.int 0, .int cI, .int cG, .int cO, .int cK, .int cP, .int cQ, .ref aK, .ref aX, .ref aY, .ref aZ]))] sz)) 0 0 (va_A [(aG, .inr (6, [.ref aRd, .ref aC, .ref aD, .ref aL, .ref aM, .ref aS, .int nB, .int nN, .int nF])), (aC, .inr (0, [.int 0, .int cI, .int cG, .int cO, .int cK, .int cP, .int cQ, .ref aK, .ref aX, .ref aY, .ref aZ]))] sz) := by
  refine met_go (cc := cX6_stageRefusal) (maxL := 4) (ret := (some .int)) (own := RX6) (by decide) rfl rfl (Nat.le_of_ble_eq_true rfl) ?_
  intro p e s m below meth c ls S hr hlocks hname hsz C w hl
  have hl : lv_has ls 4 [(0, .ref aG), (1, .int z0), (2, .int k0)] := hl
  refine lv_aload_n S.1 S.2.1 dX6_stageRefusal_0 rfl (lv_at hl 0 rfl) ?_
  refine lv_iload_n S.1 S.2.1 dX6_stageRefusal_1 rfl (lv_at hl 1 rfl) ?_
  refine cq_i C w [0, 1] [] [0, 1] (wr := []) (w' := fun u : Unit => [(aG, .inr (6, [.ref aRd, .ref aC, .ref aD, .ref aL, .ref aM, .ref aS, .int (if z0 = 0 then nB + 1 else nB), .int (if z0 = 0 then nN else if 0 = 0 then nN + 1 else nN), .int nF])), (aC, .inr (0, [.int 0, .int cI, .int cG, .int cO, .int cK, .int cP, .int cQ, .ref aK, .ref aX, .ref aY, .ref aZ]))]) (ws2 := fun u : Unit => [(aG, .inr (6, [.ref aRd, .ref aC, .ref aD, .ref aL, .ref aM, .ref aS, .int (if z0 = 0 then nB + 1 else nB), .int (if z0 = 0 then nN else if 0 = 0 then nN + 1 else nN), .int nF])), (aC, .inr (0, [.int 0, .int cI, .int cG, .int cO, .int cK, .int cP, .int cQ, .ref aK, .ref aX, .ref aY, .ref aZ]))]) rfl rfl rfl (by decide) rfl (fun _ => rfl) (va_runV (As := [.int z0]) (rest := []) S (c_X6_refusal l G aG aC _ aRd aD aL aM aS nB nN nF 0 cI cG cO cK cP cQ aK aX aY aZ z0) (cwV 1 S.2.2.2.2 gX6_stageRefusal_X6_refusal rfl rfl rfl (by decide +kernel) ⟨Nat.le_of_ble_eq_true rfl, Nat.le_of_ble_eq_true rfl⟩) ⟨wPre_blind, va_recv C.1 w.1 (ci := 6) (q0 := 0) rfl rfl, wPre_at C w [0, 1] rfl rfl⟩ rfl rfl hl.1 rfl (lv_room (Nat.le_of_ble_eq_true rfl)) dX6_stageRefusal_2 ⟨Nat.le_of_ble_eq_true rfl, Nat.le_of_ble_eq_true rfl⟩) (fun r2 u2 H locs h2 w => ?_)
  have w : Wd G _ s [(aG, .inr (6, [.ref aRd, .ref aC, .ref aD, .ref aL, .ref aM, .ref aS, .int (if z0 = 0 then nB + 1 else nB), .int (if z0 = 0 then nN else if 0 = 0 then nN + 1 else nN), .int nF])), (aC, .inr (0, [.int 0, .int cI, .int cG, .int cO, .int cK, .int cP, .int cQ, .ref aK, .ref aX, .ref aY, .ref aZ]))] H locs := w
  refine lv_istore_n (lv' := [(3, .int r2), (0, .ref aG), (1, .int z0), (2, .int k0)]) S.1 S.2.1 dX6_stageRefusal_5 rfl hl (by decide) rfl (fun ls hl => ?_)
  refine lv_iload_n S.1 S.2.1 dX6_stageRefusal_6 rfl (lv_at hl 0 rfl) ?_
  refine lv_if_eq (tgt := 12) S.1 S.2.1 dX6_stageRefusal_7 (by decide) (fun c7 => ?_) (fun c7 => ?_)
  · exact absurd (h2.symm.trans c7) (ref0_ne _)
  · refine lv_iload_n S.1 S.2.1 dX6_stageRefusal_10 rfl (lv_at hl 0 rfl) ?_
    exact W.iret (v := r2) S.1 S.2.1 hr (fun t ht _ => ⟨⟨r2, ((if z0 = 0 then nB + 1 else nB), (if z0 = 0 then nN else if 0 = 0 then nN + 1 else nN)), rfl, h2, by rw [ht]; exact w.1, w.2.1⟩, w.2.2.F ht⟩) w.2.2.2.2 dX6_stageRefusal_11
theorem im_X6_kind_X6 : ∀ w ∈ u_ws RX6 TX6 9, w ∈ wsX6_kind := by decide +kernel
set_option maxHeartbeats 4000000 in
set_option maxRecDepth 100000 in
theorem n_X6_kind (l : Launch) (G : GT) (aG aC aK : Nat) (sz : Nat) (aRd aD aL aM aS : Nat) (nB nN nF : Int32) (cI cG cO cK cP cQ : Int32) (aX aY aZ : Nat)  (fK : Nat → Int32) (i0 j0 : Int32) : Met l yX6_kind wsX6_kind ({ frames := 3, cells := 0, slots := 0, locals := 64 }) (va_Pc [.ref aG, .int i0, .int j0] (wPre G [(aG, .inr (6, [.ref aRd, .ref aC, .ref aD, .ref aL, .ref aM, .ref aS, .int nB, .int nN, .int nF])), (aC, .inr (0, [.int 0, .int cI, .int cG, .int cO, .int cK, .int cP, .int cQ, .ref aK, .ref aX, .ref aY, .ref aZ])), (aK, .inl (G.2.1 2, 12, .inl fK))] sz)) (va_Qi (fun (r : Int32) (u : Int32 × Int32) => r = refusalF 0 (zAnd (isGateF 0 cG i0) (mayPutF 0 (atF fK 12 i0) j0))) (bW G (va_A [(aG, .inr (6, [.ref aRd, .ref aC, .ref aD, .ref aL, .ref aM, .ref aS, .int nB, .int nN, .int nF])), (aC, .inr (0, [.int 0, .int cI, .int cG, .int cO, .int cK, .int cP, .int cQ, .ref aK, .ref aX, .ref aY, .ref aZ])), (aK, .inl (G.2.1 2, 12, .inl fK))] sz) (fun u : Int32 × Int32 => [(aG, .inr (6, [.ref aRd, .ref aC, .ref aD, .ref aL, .ref aM, .ref aS, .int u.1, .int u.2, .int nF])), (aC, .inr (0, [.int 0, .int cI, .int cG, .int cO, .int cK, .int cP, .int cQ, .ref aK, .ref aX, .ref aY, .ref aZ])), (aK, .inl (G.2.1 2, 12, .inl fK))])) (va_A [(aG, .inr (6, [.ref aRd, .ref aC, .ref aD, .ref aL, .ref aM, .ref aS, .int nB, .int nN, .int nF])), (aC, .inr (0, [.int 0, .int cI, .int cG, .int cO, .int cK, .int cP, .int cQ, .ref aK, .ref aX, .ref aY, .ref aZ])), (aK, .inl (G.2.1 2, 12, .inl fK))] sz)) 0 0 (va_A [(aG, .inr (6, [.ref aRd, .ref aC, .ref aD, .ref aL, .ref aM, .ref aS, .int nB, .int nN, .int nF])), (aC, .inr (0, [.int 0, .int cI, .int cG, .int cO, .int cK, .int cP, .int cQ, .ref aK, .ref aX, .ref aY, .ref aZ])), (aK, .inl (G.2.1 2, 12, .inl fK))] sz) := by
  refine met_go (cc := cX6_kind) (maxL := 5) (ret := (some .int)) (own := RX6) (by decide) rfl rfl (Nat.le_of_ble_eq_true rfl) ?_
  intro p e s m below meth c ls S hr hlocks hname hsz C w hl
  have hl : lv_has ls 5 [(0, .ref aG), (1, .int i0), (2, .int j0)] := hl
  refine lv_aload_n S.1 S.2.1 dX6_kind_0 rfl (lv_at hl 0 rfl) ?_
  refine w_joini 26 [.ref aG] (fun z26 => z26 = (zAnd (isGateF 0 cG i0) (mayPutF 0 (atF fK 12 i0) j0))) (fun z26 hz26 => ?_) (fun J26 => ?_)
  · refine cq_i C w [0, 1] [2] [1, 2, 0] (wr := [(aK, .inl (G.2.1 2, 12, .inl fK))]) (w' := fun u : Unit => [(aG, .inr (6, [.ref aRd, .ref aC, .ref aD, .ref aL, .ref aM, .ref aS, .int (if z26 = 0 then nB + 1 else nB), .int (if z26 = 0 then nN else if 0 = 0 then nN + 1 else nN), .int nF])), (aC, .inr (0, [.int 0, .int cI, .int cG, .int cO, .int cK, .int cP, .int cQ, .ref aK, .ref aX, .ref aY, .ref aZ]))]) (ws2 := fun u : Unit => [(aG, .inr (6, [.ref aRd, .ref aC, .ref aD, .ref aL, .ref aM, .ref aS, .int (if z26 = 0 then nB + 1 else nB), .int (if z26 = 0 then nN else if 0 = 0 then nN + 1 else nN), .int nF])), (aC, .inr (0, [.int 0, .int cI, .int cG, .int cO, .int cK, .int cP, .int cQ, .ref aK, .ref aX, .ref aY, .ref aZ])), (aK, .inl (G.2.1 2, 12, .inl fK))]) rfl rfl rfl (by decide) rfl (fun _ => rfl) (va_runV (As := [.int z26]) (rest := []) S (c_X6_refusal l G aG aC _ aRd aD aL aM aS nB nN nF 0 cI cG cO cK cP cQ aK aX aY aZ z26) (cwV 1 S.2.2.2.2 gX6_kind_X6_refusal rfl rfl rfl (by decide +kernel) ⟨Nat.le_of_ble_eq_true rfl, Nat.le_of_ble_eq_true rfl⟩) ⟨wPre_blind, va_recv C.1 w.1 (ci := 6) (q0 := 0) rfl rfl, wPre_at C w [0, 1] rfl rfl⟩ rfl rfl hl.1 rfl (lv_room (Nat.le_of_ble_eq_true rfl)) dX6_kind_26 ⟨Nat.le_of_ble_eq_true rfl, Nat.le_of_ble_eq_true rfl⟩) (fun r26 u26 H locs h26 w => ?_)
    have w : Wd G _ s [(aG, .inr (6, [.ref aRd, .ref aC, .ref aD, .ref aL, .ref aM, .ref aS, .int (if z26 = 0 then nB + 1 else nB), .int (if z26 = 0 then nN else if 0 = 0 then nN + 1 else nN), .int nF])), (aC, .inr (0, [.int 0, .int cI, .int cG, .int cO, .int cK, .int cP, .int cQ, .ref aK, .ref aX, .ref aY, .ref aZ])), (aK, .inl (G.2.1 2, 12, .inl fK))] H locs := w
    refine lv_istore_n (lv' := [(3, .int r26), (0, .ref aG), (1, .int i0), (2, .int j0)]) S.1 S.2.1 dX6_kind_29 rfl hl (by decide) rfl (fun ls hl => ?_)
    refine lv_iload_n S.1 S.2.1 dX6_kind_30 rfl (lv_at hl 0 rfl) ?_
    refine lv_if_eq (tgt := 36) S.1 S.2.1 dX6_kind_31 (by decide) (fun c31 => ?_) (fun c31 => ?_)
    · exact absurd (h26.symm.trans c31) (ref0_ne _)
    · refine lv_iload_n S.1 S.2.1 dX6_kind_34 rfl (lv_at hl 0 rfl) ?_
      exact W.iret (v := r26) S.1 S.2.1 hr (fun t ht _ => ⟨⟨r26, ((if z26 = 0 then nB + 1 else nB), (if z26 = 0 then nN else if 0 = 0 then nN + 1 else nN)), rfl, by rw [h26]; exact congrArg _ hz26, by rw [ht]; exact w.1, w.2.1⟩, w.2.2.F ht⟩) w.2.2.2.2 dX6_kind_35
  · refine lv_aload_n S.1 S.2.1 dX6_kind_1 rfl (lv_at hl 0 rfl) ?_
    refine lv_iload_n S.1 S.2.1 dX6_kind_2 rfl (lv_at hl 1 rfl) ?_
    refine cs_i (va_runV (As := [.int i0]) (rest := [.ref aG]) S (c_X6_isGate l G aG aC _ aRd aD aL aM aS nB nN nF 0 cI cG cO cK cP cQ aK aX aY aZ i0) (cwV 1 S.2.2.2.2 gX6_kind_X6_isGate rfl rfl rfl (by decide +kernel) ⟨Nat.le_of_ble_eq_true rfl, Nat.le_of_ble_eq_true rfl⟩) ⟨wPre_blind, va_recv C.1 w.1 (ci := 6) (q0 := 0) rfl rfl, wPre_at C w [0, 1] rfl rfl⟩ rfl rfl hl.1 rfl (lv_room (Nat.le_of_ble_eq_true rfl)) dX6_kind_3 ⟨Nat.le_of_ble_eq_true rfl, Nat.le_of_ble_eq_true rfl⟩) (fun r3 h3 => ?_)
    refine w_topi (y := (isGateF 0 cG i0)) h3 ?_
    refine lv_if_eq (tgt := 25) S.1 S.2.1 dX6_kind_6 (by decide) (fun c6 => ?_) (fun c6 => ?_)
    · refine lv_iconst (v := 0) S.1 S.2.1 dX6_kind_25 (by decide) ?_
      exact J26 0 (by simp only [zAnd, if_pos c6])
    · refine lv_aload_n S.1 S.2.1 dX6_kind_9 rfl (lv_at hl 0 rfl) ?_
      refine w_get S C w (CC := RX6) (T := TX6) (N := 9) (ref := "GateSums") im_X6_kind_X6 0 rfl rfl 1 (by decide) (List.mem_of_getElem? (i := 1) rfl) (fun _ h => h) rfl dX6_kind_10 ?_
      refine lv_iload_n S.1 S.2.1 dX6_kind_13 rfl (lv_at hl 1 rfl) ?_
      refine lv_iload_n S.1 S.2.1 dX6_kind_14 rfl (lv_at hl 2 rfl) ?_
      refine cs_i (va_runV (As := [.int i0, .int j0]) (rest := [.ref aG]) S (c_X0_mayPut l G aC aK _ 0 cI cG cO cK cP cQ aX aY aZ fK i0 j0) (cwV 2 S.2.2.2.2 gX6_kind_X0_mayPut rfl rfl rfl (by decide +kernel) ⟨Nat.le_of_ble_eq_true rfl, Nat.le_of_ble_eq_true rfl⟩) ⟨wPre_blind, va_recv C.1 w.1 (ci := 0) (q0 := 1) rfl rfl, wPre_at C w [1, 2] rfl rfl⟩ rfl rfl hl.1 rfl (lv_room (Nat.le_of_ble_eq_true rfl)) dX6_kind_15 ⟨Nat.le_of_ble_eq_true rfl, Nat.le_of_ble_eq_true rfl⟩) (fun r15 h15 => ?_)
      refine w_topi (y := (mayPutF 0 (atF fK 12 i0) j0)) h15 ?_
      refine lv_if_eq (tgt := 25) S.1 S.2.1 dX6_kind_18 (by decide) (fun c18 => ?_) (fun c18 => ?_)
      · refine lv_iconst (v := 0) S.1 S.2.1 dX6_kind_25 (by decide) ?_
        exact J26 0 (by simp only [zAnd, if_neg c6, if_pos c18])
      · refine lv_iconst (v := 1) S.1 S.2.1 dX6_kind_21 (by decide) ?_
        refine lv_goto (tgt := 26) S.1 S.2.1 dX6_kind_22 (by decide) ?_
        exact J26 1 (by simp only [zAnd, if_neg c6, if_neg c18])
set_option maxHeartbeats 4000000 in
set_option maxRecDepth 100000 in
theorem n_X6_wire (l : Launch) (G : GT) (aG aC aK : Nat) (sz : Nat) (aRd aD aL aM aS : Nat) (nB nN nF : Int32) (cI cG cO cK cP cQ : Int32) (aX aY aZ : Nat)  (fK : Nat → Int32) (i0 j0 k0 : Int32) : Met l yX6_wire wsX6_wire ({ frames := 3, cells := 0, slots := 0, locals := 64 }) (va_Pc [.ref aG, .int i0, .int j0, .int k0] (wPre G [(aG, .inr (6, [.ref aRd, .ref aC, .ref aD, .ref aL, .ref aM, .ref aS, .int nB, .int nN, .int nF])), (aC, .inr (0, [.int 0, .int cI, .int cG, .int cO, .int cK, .int cP, .int cQ, .ref aK, .ref aX, .ref aY, .ref aZ])), (aK, .inl (G.2.1 2, 12, .inl fK))] sz)) (va_Qi (fun (r : Int32) (u : Int32 × Int32) => r = refusalF 0 (zAnd3 (isGateF 0 cG i0) (isWayF 0 (atF fK 12 i0) j0) (isAheadF 0 cI i0 k0))) (bW G (va_A [(aG, .inr (6, [.ref aRd, .ref aC, .ref aD, .ref aL, .ref aM, .ref aS, .int nB, .int nN, .int nF])), (aC, .inr (0, [.int 0, .int cI, .int cG, .int cO, .int cK, .int cP, .int cQ, .ref aK, .ref aX, .ref aY, .ref aZ])), (aK, .inl (G.2.1 2, 12, .inl fK))] sz) (fun u : Int32 × Int32 => [(aG, .inr (6, [.ref aRd, .ref aC, .ref aD, .ref aL, .ref aM, .ref aS, .int u.1, .int u.2, .int nF])), (aC, .inr (0, [.int 0, .int cI, .int cG, .int cO, .int cK, .int cP, .int cQ, .ref aK, .ref aX, .ref aY, .ref aZ])), (aK, .inl (G.2.1 2, 12, .inl fK))])) (va_A [(aG, .inr (6, [.ref aRd, .ref aC, .ref aD, .ref aL, .ref aM, .ref aS, .int nB, .int nN, .int nF])), (aC, .inr (0, [.int 0, .int cI, .int cG, .int cO, .int cK, .int cP, .int cQ, .ref aK, .ref aX, .ref aY, .ref aZ])), (aK, .inl (G.2.1 2, 12, .inl fK))] sz)) 0 0 (va_A [(aG, .inr (6, [.ref aRd, .ref aC, .ref aD, .ref aL, .ref aM, .ref aS, .int nB, .int nN, .int nF])), (aC, .inr (0, [.int 0, .int cI, .int cG, .int cO, .int cK, .int cP, .int cQ, .ref aK, .ref aX, .ref aY, .ref aZ])), (aK, .inl (G.2.1 2, 12, .inl fK))] sz) := by
  refine met_go (cc := cX6_wire) (maxL := 7) (ret := (some .int)) (own := RX6) (by decide) rfl rfl (Nat.le_of_ble_eq_true rfl) ?_
  intro p e s m below meth c ls S hr hlocks hname hsz C w hl
  have hl : lv_has ls 7 [(0, .ref aG), (1, .int i0), (2, .int j0), (3, .int k0)] := hl
  refine lv_aload_n S.1 S.2.1 dX6_wire_0 rfl (lv_at hl 0 rfl) ?_
  refine w_joini 32 [.ref aG] (fun z32 => z32 = (zAnd3 (isGateF 0 cG i0) (isWayF 0 (atF fK 12 i0) j0) (isAheadF 0 cI i0 k0))) (fun z32 hz32 => ?_) (fun J32 => ?_)
  · refine cq_i C w [0, 1] [2] [1, 2, 0] (wr := [(aK, .inl (G.2.1 2, 12, .inl fK))]) (w' := fun u : Unit => [(aG, .inr (6, [.ref aRd, .ref aC, .ref aD, .ref aL, .ref aM, .ref aS, .int (if z32 = 0 then nB + 1 else nB), .int (if z32 = 0 then nN else if 0 = 0 then nN + 1 else nN), .int nF])), (aC, .inr (0, [.int 0, .int cI, .int cG, .int cO, .int cK, .int cP, .int cQ, .ref aK, .ref aX, .ref aY, .ref aZ]))]) (ws2 := fun u : Unit => [(aG, .inr (6, [.ref aRd, .ref aC, .ref aD, .ref aL, .ref aM, .ref aS, .int (if z32 = 0 then nB + 1 else nB), .int (if z32 = 0 then nN else if 0 = 0 then nN + 1 else nN), .int nF])), (aC, .inr (0, [.int 0, .int cI, .int cG, .int cO, .int cK, .int cP, .int cQ, .ref aK, .ref aX, .ref aY, .ref aZ])), (aK, .inl (G.2.1 2, 12, .inl fK))]) rfl rfl rfl (by decide) rfl (fun _ => rfl) (va_runV (As := [.int z32]) (rest := []) S (c_X6_refusal l G aG aC _ aRd aD aL aM aS nB nN nF 0 cI cG cO cK cP cQ aK aX aY aZ z32) (cwV 1 S.2.2.2.2 gX6_wire_X6_refusal rfl rfl rfl (by decide +kernel) ⟨Nat.le_of_ble_eq_true rfl, Nat.le_of_ble_eq_true rfl⟩) ⟨wPre_blind, va_recv C.1 w.1 (ci := 6) (q0 := 0) rfl rfl, wPre_at C w [0, 1] rfl rfl⟩ rfl rfl hl.1 rfl (lv_room (Nat.le_of_ble_eq_true rfl)) dX6_wire_32 ⟨Nat.le_of_ble_eq_true rfl, Nat.le_of_ble_eq_true rfl⟩) (fun r32 u32 H locs h32 w => ?_)
    have w : Wd G _ s [(aG, .inr (6, [.ref aRd, .ref aC, .ref aD, .ref aL, .ref aM, .ref aS, .int (if z32 = 0 then nB + 1 else nB), .int (if z32 = 0 then nN else if 0 = 0 then nN + 1 else nN), .int nF])), (aC, .inr (0, [.int 0, .int cI, .int cG, .int cO, .int cK, .int cP, .int cQ, .ref aK, .ref aX, .ref aY, .ref aZ])), (aK, .inl (G.2.1 2, 12, .inl fK))] H locs := w
    refine lv_istore (lv' := [(4, .int r32), (0, .ref aG), (1, .int i0), (2, .int j0), (3, .int k0)]) S.1 S.2.1 dX6_wire_35 hl (by decide) rfl (fun ls hl => ?_)
    refine lv_iload S.1 S.2.1 dX6_wire_37 (lv_at hl 0 rfl) ?_
    refine lv_if_eq (tgt := 45) S.1 S.2.1 dX6_wire_39 (by decide) (fun c39 => ?_) (fun c39 => ?_)
    · exact absurd (h32.symm.trans c39) (ref0_ne _)
    · refine lv_iload S.1 S.2.1 dX6_wire_42 (lv_at hl 0 rfl) ?_
      exact W.iret (v := r32) S.1 S.2.1 hr (fun t ht _ => ⟨⟨r32, ((if z32 = 0 then nB + 1 else nB), (if z32 = 0 then nN else if 0 = 0 then nN + 1 else nN)), rfl, by rw [h32]; exact congrArg _ hz32, by rw [ht]; exact w.1, w.2.1⟩, w.2.2.F ht⟩) w.2.2.2.2 dX6_wire_44
  · refine lv_aload_n S.1 S.2.1 dX6_wire_1 rfl (lv_at hl 0 rfl) ?_
    refine lv_iload_n S.1 S.2.1 dX6_wire_2 rfl (lv_at hl 1 rfl) ?_
    refine cs_i (va_runV (As := [.int i0]) (rest := [.ref aG]) S (c_X6_isGate l G aG aC _ aRd aD aL aM aS nB nN nF 0 cI cG cO cK cP cQ aK aX aY aZ i0) (cwV 1 S.2.2.2.2 gX6_wire_X6_isGate rfl rfl rfl (by decide +kernel) ⟨Nat.le_of_ble_eq_true rfl, Nat.le_of_ble_eq_true rfl⟩) ⟨wPre_blind, va_recv C.1 w.1 (ci := 6) (q0 := 0) rfl rfl, wPre_at C w [0, 1] rfl rfl⟩ rfl rfl hl.1 rfl (lv_room (Nat.le_of_ble_eq_true rfl)) dX6_wire_3 ⟨Nat.le_of_ble_eq_true rfl, Nat.le_of_ble_eq_true rfl⟩) (fun r3 h3 => ?_)
    refine w_topi (y := (isGateF 0 cG i0)) h3 ?_
    refine lv_if_eq (tgt := 31) S.1 S.2.1 dX6_wire_6 (by decide) (fun c6 => ?_) (fun c6 => ?_)
    · refine lv_iconst (v := 0) S.1 S.2.1 dX6_wire_31 (by decide) ?_
      exact J32 0 (by simp only [zAnd3, if_pos c6])
    · refine lv_aload_n S.1 S.2.1 dX6_wire_9 rfl (lv_at hl 0 rfl) ?_
      refine lv_iload_n S.1 S.2.1 dX6_wire_10 rfl (lv_at hl 1 rfl) ?_
      refine lv_iload_n S.1 S.2.1 dX6_wire_11 rfl (lv_at hl 2 rfl) ?_
      refine cs_i (va_runV (As := [.int i0, .int j0]) (rest := [.ref aG]) S (c_X6_isWay l G aG aC aK _ aRd aD aL aM aS nB nN nF 0 cI cG cO cK cP cQ aX aY aZ fK i0 j0) (cwV 2 S.2.2.2.2 gX6_wire_X6_isWay rfl rfl rfl (by decide +kernel) ⟨Nat.le_of_ble_eq_true rfl, Nat.le_of_ble_eq_true rfl⟩) ⟨wPre_blind, va_recv C.1 w.1 (ci := 6) (q0 := 0) rfl rfl, wPre_at C w [0, 1, 2] rfl rfl⟩ rfl rfl hl.1 rfl (lv_room (Nat.le_of_ble_eq_true rfl)) dX6_wire_12 ⟨Nat.le_of_ble_eq_true rfl, Nat.le_of_ble_eq_true rfl⟩) (fun r12 h12 => ?_)
      refine w_topi (y := (isWayF 0 (atF fK 12 i0) j0)) h12 ?_
      refine lv_if_eq (tgt := 31) S.1 S.2.1 dX6_wire_15 (by decide) (fun c15 => ?_) (fun c15 => ?_)
      · refine lv_iconst (v := 0) S.1 S.2.1 dX6_wire_31 (by decide) ?_
        exact J32 0 (by simp only [zAnd3, if_neg c6, if_pos c15])
      · refine lv_aload_n S.1 S.2.1 dX6_wire_18 rfl (lv_at hl 0 rfl) ?_
        refine lv_iload_n S.1 S.2.1 dX6_wire_19 rfl (lv_at hl 1 rfl) ?_
        refine lv_iload_n S.1 S.2.1 dX6_wire_20 rfl (lv_at hl 3 rfl) ?_
        refine cs_i (va_runV (As := [.int i0, .int k0]) (rest := [.ref aG]) S (c_X6_isAhead l G aG aC _ aRd aD aL aM aS nB nN nF 0 cI cG cO cK cP cQ aK aX aY aZ i0 k0) (cwV 2 S.2.2.2.2 gX6_wire_X6_isAhead rfl rfl rfl (by decide +kernel) ⟨Nat.le_of_ble_eq_true rfl, Nat.le_of_ble_eq_true rfl⟩) ⟨wPre_blind, va_recv C.1 w.1 (ci := 6) (q0 := 0) rfl rfl, wPre_at C w [0, 1] rfl rfl⟩ rfl rfl hl.1 rfl (lv_room (Nat.le_of_ble_eq_true rfl)) dX6_wire_21 ⟨Nat.le_of_ble_eq_true rfl, Nat.le_of_ble_eq_true rfl⟩) (fun r21 h21 => ?_)
        refine w_topi (y := (isAheadF 0 cI i0 k0)) h21 ?_
        refine lv_if_eq (tgt := 31) S.1 S.2.1 dX6_wire_24 (by decide) (fun c24 => ?_) (fun c24 => ?_)
        · refine lv_iconst (v := 0) S.1 S.2.1 dX6_wire_31 (by decide) ?_
          exact J32 0 (by simp only [zAnd3, if_neg c6, if_neg c15, if_pos c24])
        · refine lv_iconst (v := 1) S.1 S.2.1 dX6_wire_27 (by decide) ?_
          refine lv_goto (tgt := 32) S.1 S.2.1 dX6_wire_28 (by decide) ?_
          exact J32 1 (by simp only [zAnd3, if_neg c6, if_neg c15, if_neg c24])
set_option maxHeartbeats 4000000 in
set_option maxRecDepth 100000 in
theorem n_X6_of (l : Launch) (G : GT) (aG aC : Nat) (sz : Nat) (aRd aD aL aM aS : Nat) (nB nN nF : Int32) (cI cG cO cK cP cQ : Int32) (aK aX aY aZ : Nat)  (i0 j0 : Int32) : Met l yX6_of wsX6_of ({ frames := 2, cells := 0, slots := 0, locals := 42 }) (va_Pc [.ref aG, .int i0, .int j0] (wPre G [(aG, .inr (6, [.ref aRd, .ref aC, .ref aD, .ref aL, .ref aM, .ref aS, .int nB, .int nN, .int nF])), (aC, .inr (0, [.int 0, .int cI, .int cG, .int cO, .int cK, .int cP, .int cQ, .ref aK, .ref aX, .ref aY, .ref aZ]))] sz)) (va_Qi (fun (r : Int32) (u : Int32 × Int32) => r = refusalF 0 (zOf (isGateF 0 cG i0) j0)) (bW G (va_A [(aG, .inr (6, [.ref aRd, .ref aC, .ref aD, .ref aL, .ref aM, .ref aS, .int nB, .int nN, .int nF])), (aC, .inr (0, [.int 0, .int cI, .int cG, .int cO, .int cK, .int cP, .int cQ, .ref aK, .ref aX, .ref aY, .ref aZ]))] sz) (fun u : Int32 × Int32 => [(aG, .inr (6, [.ref aRd, .ref aC, .ref aD, .ref aL, .ref aM, .ref aS, .int u.1, .int u.2, .int nF])), (aC, .inr (0, [.int 0, .int cI, .int cG, .int cO, .int cK, .int cP, .int cQ, .ref aK, .ref aX, .ref aY, .ref aZ]))])) (va_A [(aG, .inr (6, [.ref aRd, .ref aC, .ref aD, .ref aL, .ref aM, .ref aS, .int nB, .int nN, .int nF])), (aC, .inr (0, [.int 0, .int cI, .int cG, .int cO, .int cK, .int cP, .int cQ, .ref aK, .ref aX, .ref aY, .ref aZ]))] sz)) 0 0 (va_A [(aG, .inr (6, [.ref aRd, .ref aC, .ref aD, .ref aL, .ref aM, .ref aS, .int nB, .int nN, .int nF])), (aC, .inr (0, [.int 0, .int cI, .int cG, .int cO, .int cK, .int cP, .int cQ, .ref aK, .ref aX, .ref aY, .ref aZ]))] sz) := by
  refine met_go (cc := cX6_of) (maxL := 4) (ret := (some .int)) (own := RX6) (by decide) rfl rfl (Nat.le_of_ble_eq_true rfl) ?_
  intro p e s m below meth c ls S hr hlocks hname hsz C w hl
  have hl : lv_has ls 4 [(0, .ref aG), (1, .int i0), (2, .int j0)] := hl
  refine lv_aload_n S.1 S.2.1 dX6_of_0 rfl (lv_at hl 0 rfl) ?_
  refine w_joini 23 [.ref aG] (fun z23 => z23 = (zOf (isGateF 0 cG i0) j0)) (fun z23 hz23 => ?_) (fun J23 => ?_)
  · refine cq_i C w [0, 1] [] [0, 1] (wr := []) (w' := fun u : Unit => [(aG, .inr (6, [.ref aRd, .ref aC, .ref aD, .ref aL, .ref aM, .ref aS, .int (if z23 = 0 then nB + 1 else nB), .int (if z23 = 0 then nN else if 0 = 0 then nN + 1 else nN), .int nF])), (aC, .inr (0, [.int 0, .int cI, .int cG, .int cO, .int cK, .int cP, .int cQ, .ref aK, .ref aX, .ref aY, .ref aZ]))]) (ws2 := fun u : Unit => [(aG, .inr (6, [.ref aRd, .ref aC, .ref aD, .ref aL, .ref aM, .ref aS, .int (if z23 = 0 then nB + 1 else nB), .int (if z23 = 0 then nN else if 0 = 0 then nN + 1 else nN), .int nF])), (aC, .inr (0, [.int 0, .int cI, .int cG, .int cO, .int cK, .int cP, .int cQ, .ref aK, .ref aX, .ref aY, .ref aZ]))]) rfl rfl rfl (by decide) rfl (fun _ => rfl) (va_runV (As := [.int z23]) (rest := []) S (c_X6_refusal l G aG aC _ aRd aD aL aM aS nB nN nF 0 cI cG cO cK cP cQ aK aX aY aZ z23) (cwV 1 S.2.2.2.2 gX6_of_X6_refusal rfl rfl rfl (by decide +kernel) ⟨Nat.le_of_ble_eq_true rfl, Nat.le_of_ble_eq_true rfl⟩) ⟨wPre_blind, va_recv C.1 w.1 (ci := 6) (q0 := 0) rfl rfl, wPre_at C w [0, 1] rfl rfl⟩ rfl rfl hl.1 rfl (lv_room (Nat.le_of_ble_eq_true rfl)) dX6_of_23 ⟨Nat.le_of_ble_eq_true rfl, Nat.le_of_ble_eq_true rfl⟩) (fun r23 u23 H locs h23 w => ?_)
    have w : Wd G _ s [(aG, .inr (6, [.ref aRd, .ref aC, .ref aD, .ref aL, .ref aM, .ref aS, .int (if z23 = 0 then nB + 1 else nB), .int (if z23 = 0 then nN else if 0 = 0 then nN + 1 else nN), .int nF])), (aC, .inr (0, [.int 0, .int cI, .int cG, .int cO, .int cK, .int cP, .int cQ, .ref aK, .ref aX, .ref aY, .ref aZ]))] H locs := w
    refine lv_istore_n (lv' := [(3, .int r23), (0, .ref aG), (1, .int i0), (2, .int j0)]) S.1 S.2.1 dX6_of_26 rfl hl (by decide) rfl (fun ls hl => ?_)
    refine lv_iload_n S.1 S.2.1 dX6_of_27 rfl (lv_at hl 0 rfl) ?_
    refine lv_if_eq (tgt := 33) S.1 S.2.1 dX6_of_28 (by decide) (fun c28 => ?_) (fun c28 => ?_)
    · exact absurd (h23.symm.trans c28) (ref0_ne _)
    · refine lv_iload_n S.1 S.2.1 dX6_of_31 rfl (lv_at hl 0 rfl) ?_
      exact W.iret (v := r23) S.1 S.2.1 hr (fun t ht _ => ⟨⟨r23, ((if z23 = 0 then nB + 1 else nB), (if z23 = 0 then nN else if 0 = 0 then nN + 1 else nN)), rfl, by rw [h23]; exact congrArg _ hz23, by rw [ht]; exact w.1, w.2.1⟩, w.2.2.F ht⟩) w.2.2.2.2 dX6_of_32
  · refine lv_aload_n S.1 S.2.1 dX6_of_1 rfl (lv_at hl 0 rfl) ?_
    refine lv_iload_n S.1 S.2.1 dX6_of_2 rfl (lv_at hl 1 rfl) ?_
    refine cs_i (va_runV (As := [.int i0]) (rest := [.ref aG]) S (c_X6_isGate l G aG aC _ aRd aD aL aM aS nB nN nF 0 cI cG cO cK cP cQ aK aX aY aZ i0) (cwV 1 S.2.2.2.2 gX6_of_X6_isGate rfl rfl rfl (by decide +kernel) ⟨Nat.le_of_ble_eq_true rfl, Nat.le_of_ble_eq_true rfl⟩) ⟨wPre_blind, va_recv C.1 w.1 (ci := 6) (q0 := 0) rfl rfl, wPre_at C w [0, 1] rfl rfl⟩ rfl rfl hl.1 rfl (lv_room (Nat.le_of_ble_eq_true rfl)) dX6_of_3 ⟨Nat.le_of_ble_eq_true rfl, Nat.le_of_ble_eq_true rfl⟩) (fun r3 h3 => ?_)
    refine w_topi (y := (isGateF 0 cG i0)) h3 ?_
    refine lv_if_eq (tgt := 22) S.1 S.2.1 dX6_of_6 (by decide) (fun c6 => ?_) (fun c6 => ?_)
    · refine lv_iconst (v := 0) S.1 S.2.1 dX6_of_22 (by decide) ?_
      exact J23 0 (by simp only [zOf, if_pos c6])
    · refine lv_iload_n S.1 S.2.1 dX6_of_9 rfl (lv_at hl 2 rfl) ?_
      refine lv_if_lt (tgt := 22) S.1 S.2.1 dX6_of_10 (by decide) (fun c10 => ?_) (fun c10 => ?_)
      · refine lv_iconst (v := 0) S.1 S.2.1 dX6_of_22 (by decide) ?_
        exact J23 0 (by simp only [zOf, if_neg c6, if_pos c10])
      · refine lv_iload_n S.1 S.2.1 dX6_of_13 rfl (lv_at hl 2 rfl) ?_
        refine lv_iconst (v := 3) S.1 S.2.1 dX6_of_14 (by decide) ?_
        refine lv_icmp_gt (tgt := 22) S.1 S.2.1 dX6_of_15 (by decide) (fun c15 => ?_) (fun c15 => ?_)
        · refine lv_iconst (v := 0) S.1 S.2.1 dX6_of_22 (by decide) ?_
          exact J23 0 (by simp only [zOf, if_neg c6, if_neg c10, if_pos c15])
        · refine lv_iconst (v := 1) S.1 S.2.1 dX6_of_18 (by decide) ?_
          refine lv_goto (tgt := 23) S.1 S.2.1 dX6_of_19 (by decide) ?_
          exact J23 1 (by simp only [zOf, if_neg c6, if_neg c10, if_neg c15])
set_option maxHeartbeats 4000000 in
set_option maxRecDepth 100000 in
theorem n_X6_told (l : Launch) (G : GT) (aG aC : Nat) (sz : Nat) (aRd aD aL aM aS : Nat) (nB nN nF : Int32) (cI cG cO cK cP cQ : Int32) (aK aX aY aZ : Nat)  (i0 j0 : Int32) : Met l yX6_told wsX6_told ({ frames := 2, cells := 0, slots := 0, locals := 42 }) (va_Pc [.ref aG, .int i0, .int j0] (wPre G [(aG, .inr (6, [.ref aRd, .ref aC, .ref aD, .ref aL, .ref aM, .ref aS, .int nB, .int nN, .int nF])), (aC, .inr (0, [.int 0, .int cI, .int cG, .int cO, .int cK, .int cP, .int cQ, .ref aK, .ref aX, .ref aY, .ref aZ]))] sz)) (va_Qi (fun (r : Int32) (u : Int32 × Int32) => r = refusalF 0 (zTold (isPlaceF 0 cO j0) i0 j0)) (bW G (va_A [(aG, .inr (6, [.ref aRd, .ref aC, .ref aD, .ref aL, .ref aM, .ref aS, .int nB, .int nN, .int nF])), (aC, .inr (0, [.int 0, .int cI, .int cG, .int cO, .int cK, .int cP, .int cQ, .ref aK, .ref aX, .ref aY, .ref aZ]))] sz) (fun u : Int32 × Int32 => [(aG, .inr (6, [.ref aRd, .ref aC, .ref aD, .ref aL, .ref aM, .ref aS, .int u.1, .int u.2, .int nF])), (aC, .inr (0, [.int 0, .int cI, .int cG, .int cO, .int cK, .int cP, .int cQ, .ref aK, .ref aX, .ref aY, .ref aZ]))])) (va_A [(aG, .inr (6, [.ref aRd, .ref aC, .ref aD, .ref aL, .ref aM, .ref aS, .int nB, .int nN, .int nF])), (aC, .inr (0, [.int 0, .int cI, .int cG, .int cO, .int cK, .int cP, .int cQ, .ref aK, .ref aX, .ref aY, .ref aZ]))] sz)) 0 0 (va_A [(aG, .inr (6, [.ref aRd, .ref aC, .ref aD, .ref aL, .ref aM, .ref aS, .int nB, .int nN, .int nF])), (aC, .inr (0, [.int 0, .int cI, .int cG, .int cO, .int cK, .int cP, .int cQ, .ref aK, .ref aX, .ref aY, .ref aZ]))] sz) := by
  refine met_go (cc := cX6_told) (maxL := 5) (ret := (some .int)) (own := RX6) (by decide) rfl rfl (Nat.le_of_ble_eq_true rfl) ?_
  intro p e s m below meth c ls S hr hlocks hname hsz C w hl
  have hl : lv_has ls 5 [(0, .ref aG), (1, .int i0), (2, .int j0)] := hl
  refine w_joini 31 [] (fun z31 => z31 = (zTold (isPlaceF 0 cO j0) i0 j0)) (fun z31 hz31 => ?_) (fun J31 => ?_)
  · refine lv_istore_n (lv' := [(3, .int z31), (0, .ref aG), (1, .int i0), (2, .int j0)]) S.1 S.2.1 dX6_told_31 rfl hl (by decide) rfl (fun ls hl => ?_)
    refine lv_aload_n S.1 S.2.1 dX6_told_32 rfl (lv_at hl 1 rfl) ?_
    refine lv_iload_n S.1 S.2.1 dX6_told_33 rfl (lv_at hl 0 rfl) ?_
    refine cq_i C w [0, 1] [] [0, 1] (wr := []) (w' := fun u : Unit => [(aG, .inr (6, [.ref aRd, .ref aC, .ref aD, .ref aL, .ref aM, .ref aS, .int (if z31 = 0 then nB + 1 else nB), .int (if z31 = 0 then nN else if 0 = 0 then nN + 1 else nN), .int nF])), (aC, .inr (0, [.int 0, .int cI, .int cG, .int cO, .int cK, .int cP, .int cQ, .ref aK, .ref aX, .ref aY, .ref aZ]))]) (ws2 := fun u : Unit => [(aG, .inr (6, [.ref aRd, .ref aC, .ref aD, .ref aL, .ref aM, .ref aS, .int (if z31 = 0 then nB + 1 else nB), .int (if z31 = 0 then nN else if 0 = 0 then nN + 1 else nN), .int nF])), (aC, .inr (0, [.int 0, .int cI, .int cG, .int cO, .int cK, .int cP, .int cQ, .ref aK, .ref aX, .ref aY, .ref aZ]))]) rfl rfl rfl (by decide) rfl (fun _ => rfl) (va_runV (As := [.int z31]) (rest := []) S (c_X6_refusal l G aG aC _ aRd aD aL aM aS nB nN nF 0 cI cG cO cK cP cQ aK aX aY aZ z31) (cwV 1 S.2.2.2.2 gX6_told_X6_refusal rfl rfl rfl (by decide +kernel) ⟨Nat.le_of_ble_eq_true rfl, Nat.le_of_ble_eq_true rfl⟩) ⟨wPre_blind, va_recv C.1 w.1 (ci := 6) (q0 := 0) rfl rfl, wPre_at C w [0, 1] rfl rfl⟩ rfl rfl hl.1 rfl (lv_room (Nat.le_of_ble_eq_true rfl)) dX6_told_34 ⟨Nat.le_of_ble_eq_true rfl, Nat.le_of_ble_eq_true rfl⟩) (fun r34 u34 H locs h34 w => ?_)
    have w : Wd G _ s [(aG, .inr (6, [.ref aRd, .ref aC, .ref aD, .ref aL, .ref aM, .ref aS, .int (if z31 = 0 then nB + 1 else nB), .int (if z31 = 0 then nN else if 0 = 0 then nN + 1 else nN), .int nF])), (aC, .inr (0, [.int 0, .int cI, .int cG, .int cO, .int cK, .int cP, .int cQ, .ref aK, .ref aX, .ref aY, .ref aZ]))] H locs := w
    refine lv_istore (lv' := [(4, .int r34), (3, .int z31), (0, .ref aG), (1, .int i0), (2, .int j0)]) S.1 S.2.1 dX6_told_37 hl (by decide) rfl (fun ls hl => ?_)
    refine lv_iload S.1 S.2.1 dX6_told_39 (lv_at hl 0 rfl) ?_
    refine lv_if_eq (tgt := 47) S.1 S.2.1 dX6_told_41 (by decide) (fun c41 => ?_) (fun c41 => ?_)
    · exact absurd (h34.symm.trans c41) (ref0_ne _)
    · refine lv_iload S.1 S.2.1 dX6_told_44 (lv_at hl 0 rfl) ?_
      exact W.iret (v := r34) S.1 S.2.1 hr (fun t ht _ => ⟨⟨r34, ((if z31 = 0 then nB + 1 else nB), (if z31 = 0 then nN else if 0 = 0 then nN + 1 else nN)), rfl, by rw [h34]; exact congrArg _ hz31, by rw [ht]; exact w.1, w.2.1⟩, w.2.2.F ht⟩) w.2.2.2.2 dX6_told_46
  · refine lv_iload_n S.1 S.2.1 dX6_told_0 rfl (lv_at hl 1 rfl) ?_
    refine lv_if_ne (tgt := 12) S.1 S.2.1 dX6_told_1 (by decide) (fun c1 => ?_) (fun c1 => ?_)
    · refine lv_iload_n S.1 S.2.1 dX6_told_12 rfl (lv_at hl 1 rfl) ?_
      refine lv_iconst (v := 1) S.1 S.2.1 dX6_told_13 (by decide) ?_
      refine lv_icmp_lt (tgt := 30) S.1 S.2.1 dX6_told_14 (by decide) (fun c14 => ?_) (fun c14 => ?_)
      · refine lv_iconst (v := 0) S.1 S.2.1 dX6_told_30 (by decide) ?_
        exact J31 0 (by simp only [zTold, if_neg c1, if_pos c14])
      · refine lv_iload_n S.1 S.2.1 dX6_told_17 rfl (lv_at hl 1 rfl) ?_
        refine lv_iconst (v := 3) S.1 S.2.1 dX6_told_18 (by decide) ?_
        refine lv_icmp_gt (tgt := 30) S.1 S.2.1 dX6_told_19 (by decide) (fun c19 => ?_) (fun c19 => ?_)
        · refine lv_iconst (v := 0) S.1 S.2.1 dX6_told_30 (by decide) ?_
          exact J31 0 (by simp only [zTold, if_neg c1, if_neg c14, if_pos c19])
        · refine lv_iload_n S.1 S.2.1 dX6_told_22 rfl (lv_at hl 2 rfl) ?_
          refine lv_if_ne (tgt := 30) S.1 S.2.1 dX6_told_23 (by decide) (fun c23 => ?_) (fun c23 => ?_)
          · refine lv_iconst (v := 0) S.1 S.2.1 dX6_told_30 (by decide) ?_
            exact J31 0 (by simp only [zTold, if_neg c1, if_neg c14, if_neg c19, if_neg c23])
          · refine lv_iconst (v := 1) S.1 S.2.1 dX6_told_26 (by decide) ?_
            refine lv_goto (tgt := 31) S.1 S.2.1 dX6_told_27 (by decide) ?_
            exact J31 1 (by simp only [zTold, if_neg c1, if_neg c14, if_neg c19, if_pos c23])
    · refine lv_aload_n S.1 S.2.1 dX6_told_4 rfl (lv_at hl 0 rfl) ?_
      refine lv_iload_n S.1 S.2.1 dX6_told_5 rfl (lv_at hl 2 rfl) ?_
      refine cs_i (va_runV (As := [.int j0]) (rest := []) S (c_X6_isPlace l G aG aC _ aRd aD aL aM aS nB nN nF 0 cI cG cO cK cP cQ aK aX aY aZ j0) (cwV 1 S.2.2.2.2 gX6_told_X6_isPlace rfl rfl rfl (by decide +kernel) ⟨Nat.le_of_ble_eq_true rfl, Nat.le_of_ble_eq_true rfl⟩) ⟨wPre_blind, va_recv C.1 w.1 (ci := 6) (q0 := 0) rfl rfl, wPre_at C w [0, 1] rfl rfl⟩ rfl rfl hl.1 rfl (lv_room (Nat.le_of_ble_eq_true rfl)) dX6_told_6 ⟨Nat.le_of_ble_eq_true rfl, Nat.le_of_ble_eq_true rfl⟩) (fun r6 h6 => ?_)
      refine w_topi (y := (isPlaceF 0 cO j0)) h6 ?_
      refine lv_goto (tgt := 31) S.1 S.2.1 dX6_told_9 (by decide) ?_
      exact J31 (isPlaceF 0 cO j0) (by simp only [zTold, if_pos c1])
set_option maxHeartbeats 4000000 in
set_option maxRecDepth 100000 in
theorem n_X6_runs (l : Launch) (G : GT) (aG aC : Nat) (sz : Nat) (aRd aD aL aM aS : Nat) (nB nN nF : Int32) (cI cG cO cK cP cQ : Int32) (aK aX aY aZ : Nat)  (i0 j0 : Int32) : Met l yX6_runs wsX6_runs ({ frames := 2, cells := 0, slots := 0, locals := 42 }) (va_Pc [.ref aG, .int i0, .int j0] (wPre G [(aG, .inr (6, [.ref aRd, .ref aC, .ref aD, .ref aL, .ref aM, .ref aS, .int nB, .int nN, .int nF])), (aC, .inr (0, [.int 0, .int cI, .int cG, .int cO, .int cK, .int cP, .int cQ, .ref aK, .ref aX, .ref aY, .ref aZ]))] sz)) (va_Qi (fun (r : Int32) (u : Int32 × Int32) => r = refusalF 0 (zRuns (isInputsF 0 cI i0) j0)) (bW G (va_A [(aG, .inr (6, [.ref aRd, .ref aC, .ref aD, .ref aL, .ref aM, .ref aS, .int nB, .int nN, .int nF])), (aC, .inr (0, [.int 0, .int cI, .int cG, .int cO, .int cK, .int cP, .int cQ, .ref aK, .ref aX, .ref aY, .ref aZ]))] sz) (fun u : Int32 × Int32 => [(aG, .inr (6, [.ref aRd, .ref aC, .ref aD, .ref aL, .ref aM, .ref aS, .int u.1, .int u.2, .int nF])), (aC, .inr (0, [.int 0, .int cI, .int cG, .int cO, .int cK, .int cP, .int cQ, .ref aK, .ref aX, .ref aY, .ref aZ]))])) (va_A [(aG, .inr (6, [.ref aRd, .ref aC, .ref aD, .ref aL, .ref aM, .ref aS, .int nB, .int nN, .int nF])), (aC, .inr (0, [.int 0, .int cI, .int cG, .int cO, .int cK, .int cP, .int cQ, .ref aK, .ref aX, .ref aY, .ref aZ]))] sz)) 0 0 (va_A [(aG, .inr (6, [.ref aRd, .ref aC, .ref aD, .ref aL, .ref aM, .ref aS, .int nB, .int nN, .int nF])), (aC, .inr (0, [.int 0, .int cI, .int cG, .int cO, .int cK, .int cP, .int cQ, .ref aK, .ref aX, .ref aY, .ref aZ]))] sz) := by
  refine met_go (cc := cX6_runs) (maxL := 4) (ret := (some .int)) (own := RX6) (by decide) rfl rfl (Nat.le_of_ble_eq_true rfl) ?_
  intro p e s m below meth c ls S hr hlocks hname hsz C w hl
  have hl : lv_has ls 4 [(0, .ref aG), (1, .int i0), (2, .int j0)] := hl
  refine lv_aload_n S.1 S.2.1 dX6_runs_0 rfl (lv_at hl 0 rfl) ?_
  refine w_joini 23 [.ref aG] (fun z23 => z23 = (zRuns (isInputsF 0 cI i0) j0)) (fun z23 hz23 => ?_) (fun J23 => ?_)
  · refine cq_i C w [0, 1] [] [0, 1] (wr := []) (w' := fun u : Unit => [(aG, .inr (6, [.ref aRd, .ref aC, .ref aD, .ref aL, .ref aM, .ref aS, .int (if z23 = 0 then nB + 1 else nB), .int (if z23 = 0 then nN else if 0 = 0 then nN + 1 else nN), .int nF])), (aC, .inr (0, [.int 0, .int cI, .int cG, .int cO, .int cK, .int cP, .int cQ, .ref aK, .ref aX, .ref aY, .ref aZ]))]) (ws2 := fun u : Unit => [(aG, .inr (6, [.ref aRd, .ref aC, .ref aD, .ref aL, .ref aM, .ref aS, .int (if z23 = 0 then nB + 1 else nB), .int (if z23 = 0 then nN else if 0 = 0 then nN + 1 else nN), .int nF])), (aC, .inr (0, [.int 0, .int cI, .int cG, .int cO, .int cK, .int cP, .int cQ, .ref aK, .ref aX, .ref aY, .ref aZ]))]) rfl rfl rfl (by decide) rfl (fun _ => rfl) (va_runV (As := [.int z23]) (rest := []) S (c_X6_refusal l G aG aC _ aRd aD aL aM aS nB nN nF 0 cI cG cO cK cP cQ aK aX aY aZ z23) (cwV 1 S.2.2.2.2 gX6_runs_X6_refusal rfl rfl rfl (by decide +kernel) ⟨Nat.le_of_ble_eq_true rfl, Nat.le_of_ble_eq_true rfl⟩) ⟨wPre_blind, va_recv C.1 w.1 (ci := 6) (q0 := 0) rfl rfl, wPre_at C w [0, 1] rfl rfl⟩ rfl rfl hl.1 rfl (lv_room (Nat.le_of_ble_eq_true rfl)) dX6_runs_23 ⟨Nat.le_of_ble_eq_true rfl, Nat.le_of_ble_eq_true rfl⟩) (fun r23 u23 H locs h23 w => ?_)
    have w : Wd G _ s [(aG, .inr (6, [.ref aRd, .ref aC, .ref aD, .ref aL, .ref aM, .ref aS, .int (if z23 = 0 then nB + 1 else nB), .int (if z23 = 0 then nN else if 0 = 0 then nN + 1 else nN), .int nF])), (aC, .inr (0, [.int 0, .int cI, .int cG, .int cO, .int cK, .int cP, .int cQ, .ref aK, .ref aX, .ref aY, .ref aZ]))] H locs := w
    refine lv_istore_n (lv' := [(3, .int r23), (0, .ref aG), (1, .int i0), (2, .int j0)]) S.1 S.2.1 dX6_runs_26 rfl hl (by decide) rfl (fun ls hl => ?_)
    refine lv_iload_n S.1 S.2.1 dX6_runs_27 rfl (lv_at hl 0 rfl) ?_
    refine lv_if_eq (tgt := 33) S.1 S.2.1 dX6_runs_28 (by decide) (fun c28 => ?_) (fun c28 => ?_)
    · exact absurd (h23.symm.trans c28) (ref0_ne _)
    · refine lv_iload_n S.1 S.2.1 dX6_runs_31 rfl (lv_at hl 0 rfl) ?_
      exact W.iret (v := r23) S.1 S.2.1 hr (fun t ht _ => ⟨⟨r23, ((if z23 = 0 then nB + 1 else nB), (if z23 = 0 then nN else if 0 = 0 then nN + 1 else nN)), rfl, by rw [h23]; exact congrArg _ hz23, by rw [ht]; exact w.1, w.2.1⟩, w.2.2.F ht⟩) w.2.2.2.2 dX6_runs_32
  · refine lv_aload_n S.1 S.2.1 dX6_runs_1 rfl (lv_at hl 0 rfl) ?_
    refine lv_iload_n S.1 S.2.1 dX6_runs_2 rfl (lv_at hl 1 rfl) ?_
    refine cs_i (va_runV (As := [.int i0]) (rest := [.ref aG]) S (c_X6_isInputs l G aG aC _ aRd aD aL aM aS nB nN nF 0 cI cG cO cK cP cQ aK aX aY aZ i0) (cwV 1 S.2.2.2.2 gX6_runs_X6_isInputs rfl rfl rfl (by decide +kernel) ⟨Nat.le_of_ble_eq_true rfl, Nat.le_of_ble_eq_true rfl⟩) ⟨wPre_blind, va_recv C.1 w.1 (ci := 6) (q0 := 0) rfl rfl, wPre_at C w [0, 1] rfl rfl⟩ rfl rfl hl.1 rfl (lv_room (Nat.le_of_ble_eq_true rfl)) dX6_runs_3 ⟨Nat.le_of_ble_eq_true rfl, Nat.le_of_ble_eq_true rfl⟩) (fun r3 h3 => ?_)
    refine w_topi (y := (isInputsF 0 cI i0)) h3 ?_
    refine lv_if_eq (tgt := 22) S.1 S.2.1 dX6_runs_6 (by decide) (fun c6 => ?_) (fun c6 => ?_)
    · refine lv_iconst (v := 0) S.1 S.2.1 dX6_runs_22 (by decide) ?_
      exact J23 0 (by simp only [zRuns, if_pos c6])
    · refine lv_iload_n S.1 S.2.1 dX6_runs_9 rfl (lv_at hl 2 rfl) ?_
      refine lv_if_eq (tgt := 18) S.1 S.2.1 dX6_runs_10 (by decide) (fun c10 => ?_) (fun c10 => ?_)
      · refine lv_iconst (v := 1) S.1 S.2.1 dX6_runs_18 (by decide) ?_
        refine lv_goto (tgt := 23) S.1 S.2.1 dX6_runs_19 (by decide) ?_
        exact J23 1 (by simp only [zRuns, if_neg c6, if_pos c10])
      · refine lv_iload_n S.1 S.2.1 dX6_runs_13 rfl (lv_at hl 2 rfl) ?_
        refine lv_iconst (v := 1) S.1 S.2.1 dX6_runs_14 (by decide) ?_
        refine lv_icmp_ne (tgt := 22) S.1 S.2.1 dX6_runs_15 (by decide) (fun c15 => ?_) (fun c15 => ?_)
        · refine lv_iconst (v := 0) S.1 S.2.1 dX6_runs_22 (by decide) ?_
          exact J23 0 (by simp only [zRuns, if_neg c6, if_neg c10, if_neg c15])
        · refine lv_iconst (v := 1) S.1 S.2.1 dX6_runs_18 (by decide) ?_
          refine lv_goto (tgt := 23) S.1 S.2.1 dX6_runs_19 (by decide) ?_
          exact J23 1 (by simp only [zRuns, if_neg c6, if_neg c10, if_pos c15])
set_option maxHeartbeats 4000000 in
set_option maxRecDepth 100000 in
theorem n_X6_signal (l : Launch) (G : GT) (aG aC : Nat) (sz : Nat) (aRd aD aL aM aS : Nat) (nB nN nF : Int32) (cI cG cO cK cP cQ : Int32) (aK aX aY aZ : Nat)  (i0 j0 : Int32) : Met l yX6_signal wsX6_signal ({ frames := 2, cells := 0, slots := 0, locals := 42 }) (va_Pc [.ref aG, .int i0, .int j0] (wPre G [(aG, .inr (6, [.ref aRd, .ref aC, .ref aD, .ref aL, .ref aM, .ref aS, .int nB, .int nN, .int nF])), (aC, .inr (0, [.int 0, .int cI, .int cG, .int cO, .int cK, .int cP, .int cQ, .ref aK, .ref aX, .ref aY, .ref aZ]))] sz)) (va_Qi (fun (r : Int32) (u : Int32 × Int32) => r = refusalF 0 (zAnd (isSignalF 0 cI cG i0) (isInputsF 0 cI j0))) (bW G (va_A [(aG, .inr (6, [.ref aRd, .ref aC, .ref aD, .ref aL, .ref aM, .ref aS, .int nB, .int nN, .int nF])), (aC, .inr (0, [.int 0, .int cI, .int cG, .int cO, .int cK, .int cP, .int cQ, .ref aK, .ref aX, .ref aY, .ref aZ]))] sz) (fun u : Int32 × Int32 => [(aG, .inr (6, [.ref aRd, .ref aC, .ref aD, .ref aL, .ref aM, .ref aS, .int u.1, .int u.2, .int nF])), (aC, .inr (0, [.int 0, .int cI, .int cG, .int cO, .int cK, .int cP, .int cQ, .ref aK, .ref aX, .ref aY, .ref aZ]))])) (va_A [(aG, .inr (6, [.ref aRd, .ref aC, .ref aD, .ref aL, .ref aM, .ref aS, .int nB, .int nN, .int nF])), (aC, .inr (0, [.int 0, .int cI, .int cG, .int cO, .int cK, .int cP, .int cQ, .ref aK, .ref aX, .ref aY, .ref aZ]))] sz)) 0 0 (va_A [(aG, .inr (6, [.ref aRd, .ref aC, .ref aD, .ref aL, .ref aM, .ref aS, .int nB, .int nN, .int nF])), (aC, .inr (0, [.int 0, .int cI, .int cG, .int cO, .int cK, .int cP, .int cQ, .ref aK, .ref aX, .ref aY, .ref aZ]))] sz) := by
  refine met_go (cc := cX6_signal) (maxL := 4) (ret := (some .int)) (own := RX6) (by decide) rfl rfl (Nat.le_of_ble_eq_true rfl) ?_
  intro p e s m below meth c ls S hr hlocks hname hsz C w hl
  have hl : lv_has ls 4 [(0, .ref aG), (1, .int i0), (2, .int j0)] := hl
  refine lv_aload_n S.1 S.2.1 dX6_signal_0 rfl (lv_at hl 0 rfl) ?_
  refine w_joini 22 [.ref aG] (fun z22 => z22 = (zAnd (isSignalF 0 cI cG i0) (isInputsF 0 cI j0))) (fun z22 hz22 => ?_) (fun J22 => ?_)
  · refine cq_i C w [0, 1] [] [0, 1] (wr := []) (w' := fun u : Unit => [(aG, .inr (6, [.ref aRd, .ref aC, .ref aD, .ref aL, .ref aM, .ref aS, .int (if z22 = 0 then nB + 1 else nB), .int (if z22 = 0 then nN else if 0 = 0 then nN + 1 else nN), .int nF])), (aC, .inr (0, [.int 0, .int cI, .int cG, .int cO, .int cK, .int cP, .int cQ, .ref aK, .ref aX, .ref aY, .ref aZ]))]) (ws2 := fun u : Unit => [(aG, .inr (6, [.ref aRd, .ref aC, .ref aD, .ref aL, .ref aM, .ref aS, .int (if z22 = 0 then nB + 1 else nB), .int (if z22 = 0 then nN else if 0 = 0 then nN + 1 else nN), .int nF])), (aC, .inr (0, [.int 0, .int cI, .int cG, .int cO, .int cK, .int cP, .int cQ, .ref aK, .ref aX, .ref aY, .ref aZ]))]) rfl rfl rfl (by decide) rfl (fun _ => rfl) (va_runV (As := [.int z22]) (rest := []) S (c_X6_refusal l G aG aC _ aRd aD aL aM aS nB nN nF 0 cI cG cO cK cP cQ aK aX aY aZ z22) (cwV 1 S.2.2.2.2 gX6_signal_X6_refusal rfl rfl rfl (by decide +kernel) ⟨Nat.le_of_ble_eq_true rfl, Nat.le_of_ble_eq_true rfl⟩) ⟨wPre_blind, va_recv C.1 w.1 (ci := 6) (q0 := 0) rfl rfl, wPre_at C w [0, 1] rfl rfl⟩ rfl rfl hl.1 rfl (lv_room (Nat.le_of_ble_eq_true rfl)) dX6_signal_22 ⟨Nat.le_of_ble_eq_true rfl, Nat.le_of_ble_eq_true rfl⟩) (fun r22 u22 H locs h22 w => ?_)
    have w : Wd G _ s [(aG, .inr (6, [.ref aRd, .ref aC, .ref aD, .ref aL, .ref aM, .ref aS, .int (if z22 = 0 then nB + 1 else nB), .int (if z22 = 0 then nN else if 0 = 0 then nN + 1 else nN), .int nF])), (aC, .inr (0, [.int 0, .int cI, .int cG, .int cO, .int cK, .int cP, .int cQ, .ref aK, .ref aX, .ref aY, .ref aZ]))] H locs := w
    refine lv_istore_n (lv' := [(3, .int r22), (0, .ref aG), (1, .int i0), (2, .int j0)]) S.1 S.2.1 dX6_signal_25 rfl hl (by decide) rfl (fun ls hl => ?_)
    refine lv_iload_n S.1 S.2.1 dX6_signal_26 rfl (lv_at hl 0 rfl) ?_
    refine lv_if_eq (tgt := 34) S.1 S.2.1 dX6_signal_27 (by decide) (fun c27 => ?_) (fun c27 => ?_)
    · exact absurd (h22.symm.trans c27) (ref0_ne _)
    · refine lv_iload_n S.1 S.2.1 dX6_signal_30 rfl (lv_at hl 0 rfl) ?_
      refine lv_goto (tgt := 43) S.1 S.2.1 dX6_signal_31 (by decide) ?_
      exact W.iret (v := r22) S.1 S.2.1 hr (fun t ht _ => ⟨⟨r22, ((if z22 = 0 then nB + 1 else nB), (if z22 = 0 then nN else if 0 = 0 then nN + 1 else nN)), rfl, by rw [h22]; exact congrArg _ hz22, by rw [ht]; exact w.1, w.2.1⟩, w.2.2.F ht⟩) w.2.2.2.2 dX6_signal_43
  · refine lv_aload_n S.1 S.2.1 dX6_signal_1 rfl (lv_at hl 0 rfl) ?_
    refine lv_iload_n S.1 S.2.1 dX6_signal_2 rfl (lv_at hl 1 rfl) ?_
    refine cs_i (va_runV (As := [.int i0]) (rest := [.ref aG]) S (c_X6_isSignal l G aG aC _ aRd aD aL aM aS nB nN nF 0 cI cG cO cK cP cQ aK aX aY aZ i0) (cwV 1 S.2.2.2.2 gX6_signal_X6_isSignal rfl rfl rfl (by decide +kernel) ⟨Nat.le_of_ble_eq_true rfl, Nat.le_of_ble_eq_true rfl⟩) ⟨wPre_blind, va_recv C.1 w.1 (ci := 6) (q0 := 0) rfl rfl, wPre_at C w [0, 1] rfl rfl⟩ rfl rfl hl.1 rfl (lv_room (Nat.le_of_ble_eq_true rfl)) dX6_signal_3 ⟨Nat.le_of_ble_eq_true rfl, Nat.le_of_ble_eq_true rfl⟩) (fun r3 h3 => ?_)
    refine w_topi (y := (isSignalF 0 cI cG i0)) h3 ?_
    refine lv_if_eq (tgt := 21) S.1 S.2.1 dX6_signal_6 (by decide) (fun c6 => ?_) (fun c6 => ?_)
    · refine lv_iconst (v := 0) S.1 S.2.1 dX6_signal_21 (by decide) ?_
      exact J22 0 (by simp only [zAnd, if_pos c6])
    · refine lv_aload_n S.1 S.2.1 dX6_signal_9 rfl (lv_at hl 0 rfl) ?_
      refine lv_iload_n S.1 S.2.1 dX6_signal_10 rfl (lv_at hl 2 rfl) ?_
      refine cs_i (va_runV (As := [.int j0]) (rest := [.ref aG]) S (c_X6_isInputs l G aG aC _ aRd aD aL aM aS nB nN nF 0 cI cG cO cK cP cQ aK aX aY aZ j0) (cwV 1 S.2.2.2.2 gX6_signal_X6_isInputs rfl rfl rfl (by decide +kernel) ⟨Nat.le_of_ble_eq_true rfl, Nat.le_of_ble_eq_true rfl⟩) ⟨wPre_blind, va_recv C.1 w.1 (ci := 6) (q0 := 0) rfl rfl, wPre_at C w [0, 1] rfl rfl⟩ rfl rfl hl.1 rfl (lv_room (Nat.le_of_ble_eq_true rfl)) dX6_signal_11 ⟨Nat.le_of_ble_eq_true rfl, Nat.le_of_ble_eq_true rfl⟩) (fun r11 h11 => ?_)
      refine w_topi (y := (isInputsF 0 cI j0)) h11 ?_
      refine lv_if_eq (tgt := 21) S.1 S.2.1 dX6_signal_14 (by decide) (fun c14 => ?_) (fun c14 => ?_)
      · refine lv_iconst (v := 0) S.1 S.2.1 dX6_signal_21 (by decide) ?_
        exact J22 0 (by simp only [zAnd, if_neg c6, if_pos c14])
      · refine lv_iconst (v := 1) S.1 S.2.1 dX6_signal_17 (by decide) ?_
        refine lv_goto (tgt := 22) S.1 S.2.1 dX6_signal_18 (by decide) ?_
        exact J22 1 (by simp only [zAnd, if_neg c6, if_neg c14])
set_option maxHeartbeats 4000000 in
set_option maxRecDepth 100000 in
theorem n_X6_wrong (l : Launch) (G : GT) (aG aC : Nat) (sz : Nat) (aRd aD aL aM aS : Nat) (nB nN nF : Int32) (cI cG cO cK cP cQ : Int32) (aK aX aY aZ : Nat)  (i0 : Int32) : Met l yX6_wrong wsX6_wrong ({ frames := 2, cells := 0, slots := 0, locals := 42 }) (va_Pc [.ref aG, .int i0] (wPre G [(aG, .inr (6, [.ref aRd, .ref aC, .ref aD, .ref aL, .ref aM, .ref aS, .int nB, .int nN, .int nF])), (aC, .inr (0, [.int 0, .int cI, .int cG, .int cO, .int cK, .int cP, .int cQ, .ref aK, .ref aX, .ref aY, .ref aZ]))] sz)) (va_Qi (fun (r : Int32) (u : Int32 × Int32) => r = refusalF 0 (zWrong i0)) (bW G (va_A [(aG, .inr (6, [.ref aRd, .ref aC, .ref aD, .ref aL, .ref aM, .ref aS, .int nB, .int nN, .int nF])), (aC, .inr (0, [.int 0, .int cI, .int cG, .int cO, .int cK, .int cP, .int cQ, .ref aK, .ref aX, .ref aY, .ref aZ]))] sz) (fun u : Int32 × Int32 => [(aG, .inr (6, [.ref aRd, .ref aC, .ref aD, .ref aL, .ref aM, .ref aS, .int u.1, .int u.2, .int nF])), (aC, .inr (0, [.int 0, .int cI, .int cG, .int cO, .int cK, .int cP, .int cQ, .ref aK, .ref aX, .ref aY, .ref aZ]))])) (va_A [(aG, .inr (6, [.ref aRd, .ref aC, .ref aD, .ref aL, .ref aM, .ref aS, .int nB, .int nN, .int nF])), (aC, .inr (0, [.int 0, .int cI, .int cG, .int cO, .int cK, .int cP, .int cQ, .ref aK, .ref aX, .ref aY, .ref aZ]))] sz)) 0 0 (va_A [(aG, .inr (6, [.ref aRd, .ref aC, .ref aD, .ref aL, .ref aM, .ref aS, .int nB, .int nN, .int nF])), (aC, .inr (0, [.int 0, .int cI, .int cG, .int cO, .int cK, .int cP, .int cQ, .ref aK, .ref aX, .ref aY, .ref aZ]))] sz) := by
  refine met_go (cc := cX6_wrong) (maxL := 3) (ret := (some .int)) (own := RX6) (by decide) rfl rfl (Nat.le_of_ble_eq_true rfl) ?_
  intro p e s m below meth c ls S hr hlocks hname hsz C w hl
  have hl : lv_has ls 3 [(0, .ref aG), (1, .int i0)] := hl
  refine lv_aload_n S.1 S.2.1 dX6_wrong_0 rfl (lv_at hl 0 rfl) ?_
  refine w_joini 15 [.ref aG] (fun z15 => z15 = (zWrong i0)) (fun z15 hz15 => ?_) (fun J15 => ?_)
  · refine cq_i C w [0, 1] [] [0, 1] (wr := []) (w' := fun u : Unit => [(aG, .inr (6, [.ref aRd, .ref aC, .ref aD, .ref aL, .ref aM, .ref aS, .int (if z15 = 0 then nB + 1 else nB), .int (if z15 = 0 then nN else if 0 = 0 then nN + 1 else nN), .int nF])), (aC, .inr (0, [.int 0, .int cI, .int cG, .int cO, .int cK, .int cP, .int cQ, .ref aK, .ref aX, .ref aY, .ref aZ]))]) (ws2 := fun u : Unit => [(aG, .inr (6, [.ref aRd, .ref aC, .ref aD, .ref aL, .ref aM, .ref aS, .int (if z15 = 0 then nB + 1 else nB), .int (if z15 = 0 then nN else if 0 = 0 then nN + 1 else nN), .int nF])), (aC, .inr (0, [.int 0, .int cI, .int cG, .int cO, .int cK, .int cP, .int cQ, .ref aK, .ref aX, .ref aY, .ref aZ]))]) rfl rfl rfl (by decide) rfl (fun _ => rfl) (va_runV (As := [.int z15]) (rest := []) S (c_X6_refusal l G aG aC _ aRd aD aL aM aS nB nN nF 0 cI cG cO cK cP cQ aK aX aY aZ z15) (cwV 1 S.2.2.2.2 gX6_wrong_X6_refusal rfl rfl rfl (by decide +kernel) ⟨Nat.le_of_ble_eq_true rfl, Nat.le_of_ble_eq_true rfl⟩) ⟨wPre_blind, va_recv C.1 w.1 (ci := 6) (q0 := 0) rfl rfl, wPre_at C w [0, 1] rfl rfl⟩ rfl rfl hl.1 rfl (lv_room (Nat.le_of_ble_eq_true rfl)) dX6_wrong_15 ⟨Nat.le_of_ble_eq_true rfl, Nat.le_of_ble_eq_true rfl⟩) (fun r15 u15 H locs h15 w => ?_)
    have w : Wd G _ s [(aG, .inr (6, [.ref aRd, .ref aC, .ref aD, .ref aL, .ref aM, .ref aS, .int (if z15 = 0 then nB + 1 else nB), .int (if z15 = 0 then nN else if 0 = 0 then nN + 1 else nN), .int nF])), (aC, .inr (0, [.int 0, .int cI, .int cG, .int cO, .int cK, .int cP, .int cQ, .ref aK, .ref aX, .ref aY, .ref aZ]))] H locs := w
    refine lv_istore_n (lv' := [(2, .int r15), (0, .ref aG), (1, .int i0)]) S.1 S.2.1 dX6_wrong_18 rfl hl (by decide) rfl (fun ls hl => ?_)
    refine lv_iload_n S.1 S.2.1 dX6_wrong_19 rfl (lv_at hl 0 rfl) ?_
    refine lv_if_eq (tgt := 25) S.1 S.2.1 dX6_wrong_20 (by decide) (fun c20 => ?_) (fun c20 => ?_)
    · exact absurd (h15.symm.trans c20) (ref0_ne _)
    · refine lv_iload_n S.1 S.2.1 dX6_wrong_23 rfl (lv_at hl 0 rfl) ?_
      exact W.iret (v := r15) S.1 S.2.1 hr (fun t ht _ => ⟨⟨r15, ((if z15 = 0 then nB + 1 else nB), (if z15 = 0 then nN else if 0 = 0 then nN + 1 else nN)), rfl, by rw [h15]; exact congrArg _ hz15, by rw [ht]; exact w.1, w.2.1⟩, w.2.2.F ht⟩) w.2.2.2.2 dX6_wrong_24
  · refine lv_iload_n S.1 S.2.1 dX6_wrong_1 rfl (lv_at hl 1 rfl) ?_
    refine lv_if_eq (tgt := 10) S.1 S.2.1 dX6_wrong_2 (by decide) (fun c2 => ?_) (fun c2 => ?_)
    · refine lv_iconst (v := 1) S.1 S.2.1 dX6_wrong_10 (by decide) ?_
      refine lv_goto (tgt := 15) S.1 S.2.1 dX6_wrong_11 (by decide) ?_
      exact J15 1 (by simp only [zWrong, if_pos c2])
    · refine lv_iload_n S.1 S.2.1 dX6_wrong_5 rfl (lv_at hl 1 rfl) ?_
      refine lv_iconst (v := 1) S.1 S.2.1 dX6_wrong_6 (by decide) ?_
      refine lv_icmp_ne (tgt := 14) S.1 S.2.1 dX6_wrong_7 (by decide) (fun c7 => ?_) (fun c7 => ?_)
      · refine lv_iconst (v := 0) S.1 S.2.1 dX6_wrong_14 (by decide) ?_
        exact J15 0 (by simp only [zWrong, if_neg c2, if_neg c7])
      · refine lv_iconst (v := 1) S.1 S.2.1 dX6_wrong_10 (by decide) ?_
        refine lv_goto (tgt := 15) S.1 S.2.1 dX6_wrong_11 (by decide) ?_
        exact J15 1 (by simp only [zWrong, if_neg c2, if_pos c7])
set_option maxHeartbeats 4000000 in
set_option maxRecDepth 100000 in
theorem n_X6_cures (l : Launch) (G : GT) (aG aC : Nat) (sz : Nat) (aRd aD aL aM aS : Nat) (nB nN nF : Int32) (cI cG cO cK cP cQ : Int32) (aK aX aY aZ : Nat)  (i0 : Int32) : Met l yX6_cures wsX6_cures ({ frames := 2, cells := 0, slots := 0, locals := 42 }) (va_Pc [.ref aG, .int i0] (wPre G [(aG, .inr (6, [.ref aRd, .ref aC, .ref aD, .ref aL, .ref aM, .ref aS, .int nB, .int nN, .int nF])), (aC, .inr (0, [.int 0, .int cI, .int cG, .int cO, .int cK, .int cP, .int cQ, .ref aK, .ref aX, .ref aY, .ref aZ]))] sz)) (va_Qi (fun (r : Int32) (u : Int32 × Int32) => r = refusalF 0 (isGateF 0 cG i0)) (bW G (va_A [(aG, .inr (6, [.ref aRd, .ref aC, .ref aD, .ref aL, .ref aM, .ref aS, .int nB, .int nN, .int nF])), (aC, .inr (0, [.int 0, .int cI, .int cG, .int cO, .int cK, .int cP, .int cQ, .ref aK, .ref aX, .ref aY, .ref aZ]))] sz) (fun u : Int32 × Int32 => [(aG, .inr (6, [.ref aRd, .ref aC, .ref aD, .ref aL, .ref aM, .ref aS, .int u.1, .int u.2, .int nF])), (aC, .inr (0, [.int 0, .int cI, .int cG, .int cO, .int cK, .int cP, .int cQ, .ref aK, .ref aX, .ref aY, .ref aZ]))])) (va_A [(aG, .inr (6, [.ref aRd, .ref aC, .ref aD, .ref aL, .ref aM, .ref aS, .int nB, .int nN, .int nF])), (aC, .inr (0, [.int 0, .int cI, .int cG, .int cO, .int cK, .int cP, .int cQ, .ref aK, .ref aX, .ref aY, .ref aZ]))] sz)) 0 0 (va_A [(aG, .inr (6, [.ref aRd, .ref aC, .ref aD, .ref aL, .ref aM, .ref aS, .int nB, .int nN, .int nF])), (aC, .inr (0, [.int 0, .int cI, .int cG, .int cO, .int cK, .int cP, .int cQ, .ref aK, .ref aX, .ref aY, .ref aZ]))] sz) := by
  refine met_go (cc := cX6_cures) (maxL := 5) (ret := (some .int)) (own := RX6) (by decide) rfl rfl (Nat.le_of_ble_eq_true rfl) ?_
  intro p e s m below meth c ls S hr hlocks hname hsz C w hl
  have hl : lv_has ls 5 [(0, .ref aG), (1, .int i0)] := hl
  refine lv_aload_n S.1 S.2.1 dX6_cures_0 rfl (lv_at hl 0 rfl) ?_
  refine lv_aload_n S.1 S.2.1 dX6_cures_1 rfl (lv_at hl 0 rfl) ?_
  refine lv_iload_n S.1 S.2.1 dX6_cures_2 rfl (lv_at hl 1 rfl) ?_
  refine cs_i (va_runV (As := [.int i0]) (rest := [.ref aG]) S (c_X6_isGate l G aG aC _ aRd aD aL aM aS nB nN nF 0 cI cG cO cK cP cQ aK aX aY aZ i0) (cwV 1 S.2.2.2.2 gX6_cures_X6_isGate rfl rfl rfl (by decide +kernel) ⟨Nat.le_of_ble_eq_true rfl, Nat.le_of_ble_eq_true rfl⟩) ⟨wPre_blind, va_recv C.1 w.1 (ci := 6) (q0 := 0) rfl rfl, wPre_at C w [0, 1] rfl rfl⟩ rfl rfl hl.1 rfl (lv_room (Nat.le_of_ble_eq_true rfl)) dX6_cures_3 ⟨Nat.le_of_ble_eq_true rfl, Nat.le_of_ble_eq_true rfl⟩) (fun r3 h3 => ?_)
  refine w_topi (y := (isGateF 0 cG i0)) h3 ?_
  refine cq_i C w [0, 1] [] [0, 1] (wr := []) (w' := fun u : Unit => [(aG, .inr (6, [.ref aRd, .ref aC, .ref aD, .ref aL, .ref aM, .ref aS, .int (if (isGateF 0 cG i0) = 0 then nB + 1 else nB), .int (if (isGateF 0 cG i0) = 0 then nN else if 0 = 0 then nN + 1 else nN), .int nF])), (aC, .inr (0, [.int 0, .int cI, .int cG, .int cO, .int cK, .int cP, .int cQ, .ref aK, .ref aX, .ref aY, .ref aZ]))]) (ws2 := fun u : Unit => [(aG, .inr (6, [.ref aRd, .ref aC, .ref aD, .ref aL, .ref aM, .ref aS, .int (if (isGateF 0 cG i0) = 0 then nB + 1 else nB), .int (if (isGateF 0 cG i0) = 0 then nN else if 0 = 0 then nN + 1 else nN), .int nF])), (aC, .inr (0, [.int 0, .int cI, .int cG, .int cO, .int cK, .int cP, .int cQ, .ref aK, .ref aX, .ref aY, .ref aZ]))]) rfl rfl rfl (by decide) rfl (fun _ => rfl) (va_runV (As := [.int (isGateF 0 cG i0)]) (rest := []) S (c_X6_refusal l G aG aC _ aRd aD aL aM aS nB nN nF 0 cI cG cO cK cP cQ aK aX aY aZ (isGateF 0 cG i0)) (cwV 1 S.2.2.2.2 gX6_cures_X6_refusal rfl rfl rfl (by decide +kernel) ⟨Nat.le_of_ble_eq_true rfl, Nat.le_of_ble_eq_true rfl⟩) ⟨wPre_blind, va_recv C.1 w.1 (ci := 6) (q0 := 0) rfl rfl, wPre_at C w [0, 1] rfl rfl⟩ rfl rfl hl.1 rfl (lv_room (Nat.le_of_ble_eq_true rfl)) dX6_cures_6 ⟨Nat.le_of_ble_eq_true rfl, Nat.le_of_ble_eq_true rfl⟩) (fun r6 u6 H locs h6 w => ?_)
  have w : Wd G _ s [(aG, .inr (6, [.ref aRd, .ref aC, .ref aD, .ref aL, .ref aM, .ref aS, .int (if (isGateF 0 cG i0) = 0 then nB + 1 else nB), .int (if (isGateF 0 cG i0) = 0 then nN else if 0 = 0 then nN + 1 else nN), .int nF])), (aC, .inr (0, [.int 0, .int cI, .int cG, .int cO, .int cK, .int cP, .int cQ, .ref aK, .ref aX, .ref aY, .ref aZ]))] H locs := w
  refine lv_istore_n (lv' := [(2, .int r6), (0, .ref aG), (1, .int i0)]) S.1 S.2.1 dX6_cures_9 rfl hl (by decide) rfl (fun ls hl => ?_)
  refine lv_iload_n S.1 S.2.1 dX6_cures_10 rfl (lv_at hl 0 rfl) ?_
  refine lv_if_eq (tgt := 16) S.1 S.2.1 dX6_cures_11 (by decide) (fun c11 => ?_) (fun c11 => ?_)
  · exact absurd (h6.symm.trans c11) (ref0_ne _)
  · refine lv_iload_n S.1 S.2.1 dX6_cures_14 rfl (lv_at hl 0 rfl) ?_
    exact W.iret (v := r6) S.1 S.2.1 hr (fun t ht _ => ⟨⟨r6, ((if (isGateF 0 cG i0) = 0 then nB + 1 else nB), (if (isGateF 0 cG i0) = 0 then nN else if 0 = 0 then nN + 1 else nN)), rfl, h6, by rw [ht]; exact w.1, w.2.1⟩, w.2.2.F ht⟩) w.2.2.2.2 dX6_cures_15
theorem im_X6_right_X0 : ∀ w ∈ u_ws RX0 TX0 11, w ∈ wsX6_right := by decide +kernel
theorem im_X6_right_X6 : ∀ w ∈ u_ws RX6 TX6 9, w ∈ wsX6_right := by decide +kernel
set_option maxHeartbeats 4000000 in
set_option maxRecDepth 100000 in
theorem n_X6_right (l : Launch) (G : GT) (aG aC : Nat) (sz : Nat) (aRd aD aL aM aS : Nat) (nB nN nF : Int32) (cI cG cO cK cP cQ : Int32) (aK aX aY aZ : Nat)   : Met l yX6_right wsX6_right ({ frames := 3, cells := 0, slots := 0, locals := 65 }) (va_Pc [.ref aG] (wPre G [(aG, .inr (6, [.ref aRd, .ref aC, .ref aD, .ref aL, .ref aM, .ref aS, .int nB, .int nN, .int nF])), (aC, .inr (0, [.int 0, .int cI, .int cG, .int cO, .int cK, .int cP, .int cQ, .ref aK, .ref aX, .ref aY, .ref aZ]))] sz)) (va_Qi (fun (r : Int32) (u : Int32 × Int32) => r = refusalF 0 1) (bW G (va_A [(aG, .inr (6, [.ref aRd, .ref aC, .ref aD, .ref aL, .ref aM, .ref aS, .int nB, .int nN, .int nF])), (aC, .inr (0, [.int 0, .int cI, .int cG, .int cO, .int cK, .int cP, .int cQ, .ref aK, .ref aX, .ref aY, .ref aZ]))] sz) (fun u : Int32 × Int32 => [(aG, .inr (6, [.ref aRd, .ref aC, .ref aD, .ref aL, .ref aM, .ref aS, .int u.1, .int u.2, .int nF])), (aC, .inr (0, [.int 0, .int cI, .int cG, .int cO, .int cK, .int cP, .int cQ, .ref aK, .ref aX, .ref aY, .ref aZ]))])) (va_A [(aG, .inr (6, [.ref aRd, .ref aC, .ref aD, .ref aL, .ref aM, .ref aS, .int nB, .int nN, .int nF])), (aC, .inr (0, [.int 0, .int cI, .int cG, .int cO, .int cK, .int cP, .int cQ, .ref aK, .ref aX, .ref aY, .ref aZ]))] sz)) 0 0 (va_A [(aG, .inr (6, [.ref aRd, .ref aC, .ref aD, .ref aL, .ref aM, .ref aS, .int nB, .int nN, .int nF])), (aC, .inr (0, [.int 0, .int cI, .int cG, .int cO, .int cK, .int cP, .int cQ, .ref aK, .ref aX, .ref aY, .ref aZ]))] sz) := by
  refine met_go (cc := cX6_right) (maxL := 2) (ret := (some .int)) (own := RX6) (by decide) rfl rfl (Nat.le_of_ble_eq_true rfl) ?_
  intro p e s m below meth c ls S hr hlocks hname hsz C w hl
  have hl : lv_has ls 2 [(0, .ref aG)] := hl
  refine lv_aload_n S.1 S.2.1 dX6_right_0 rfl (lv_at hl 0 rfl) ?_
  refine lv_iconst (v := 1) S.1 S.2.1 dX6_right_1 (by decide) ?_
  refine lv_aload_n S.1 S.2.1 dX6_right_2 rfl (lv_at hl 0 rfl) ?_
  refine w_get S C w (CC := RX6) (T := TX6) (N := 9) (ref := "GateSums") im_X6_right_X6 0 rfl rfl 1 (by decide) (List.mem_of_getElem? (i := 1) rfl) (fun _ h => h) rfl dX6_right_3 ?_
  refine w_get S C w (CC := RX0) (T := TX0) (N := 11) (ref := "GateSums$Circuit") im_X6_right_X0 1 rfl rfl 2 (by decide) (List.mem_of_getElem? (i := 2) rfl) (fun _ h => h) rfl dX6_right_6 ?_
  refine cq_i C w [0, 1] [] [0, 1] (wr := []) (w' := fun u : Int32 × Int32 => [(aG, .inr (6, [.ref aRd, .ref aC, .ref aD, .ref aL, .ref aM, .ref aS, .int u.1, .int u.2, .int nF])), (aC, .inr (0, [.int 0, .int cI, .int cG, .int cO, .int cK, .int cP, .int cQ, .ref aK, .ref aX, .ref aY, .ref aZ]))]) (ws2 := fun u : Int32 × Int32 => [(aG, .inr (6, [.ref aRd, .ref aC, .ref aD, .ref aL, .ref aM, .ref aS, .int u.1, .int u.2, .int nF])), (aC, .inr (0, [.int 0, .int cI, .int cG, .int cO, .int cK, .int cP, .int cQ, .ref aK, .ref aX, .ref aY, .ref aZ]))]) rfl rfl rfl (by decide) rfl (fun _ => rfl) (va_runV (As := [.int 1, .int cG]) (rest := []) S (n_X6_stageRefusal l G aG aC _ aRd aD aL aM aS nB nN nF cI cG cO cK cP cQ aK aX aY aZ 1 cG) (cwV 2 S.2.2.2.2 gX6_right_X6_stageRefusal rfl rfl rfl (by decide +kernel) ⟨Nat.le_of_ble_eq_true rfl, Nat.le_of_ble_eq_true rfl⟩) ⟨wPre_blind, va_recv C.1 w.1 (ci := 6) (q0 := 0) rfl rfl, wPre_at C w [0, 1] rfl rfl⟩ rfl rfl hl.1 rfl (lv_room (Nat.le_of_ble_eq_true rfl)) dX6_right_9 ⟨Nat.le_of_ble_eq_true rfl, Nat.le_of_ble_eq_true rfl⟩) (fun r9 u9 H locs h9 w => ?_)
  have w : Wd G _ s [(aG, .inr (6, [.ref aRd, .ref aC, .ref aD, .ref aL, .ref aM, .ref aS, .int u9.1, .int u9.2, .int nF])), (aC, .inr (0, [.int 0, .int cI, .int cG, .int cO, .int cK, .int cP, .int cQ, .ref aK, .ref aX, .ref aY, .ref aZ]))] H locs := w
  refine lv_istore_n (lv' := [(1, .int r9), (0, .ref aG)]) S.1 S.2.1 dX6_right_12 rfl hl (by decide) rfl (fun ls hl => ?_)
  refine lv_iload_n S.1 S.2.1 dX6_right_13 rfl (lv_at hl 0 rfl) ?_
  refine lv_if_eq (tgt := 19) S.1 S.2.1 dX6_right_14 (by decide) (fun c14 => ?_) (fun c14 => ?_)
  · exact absurd (h9.symm.trans c14) (ref0_ne _)
  · refine lv_iload_n S.1 S.2.1 dX6_right_17 rfl (lv_at hl 0 rfl) ?_
    exact W.iret (v := r9) S.1 S.2.1 hr (fun t ht _ => ⟨⟨r9, (u9.1, u9.2), rfl, h9, by rw [ht]; exact w.1, w.2.1⟩, w.2.2.F ht⟩) w.2.2.2.2 dX6_right_18
set_option maxHeartbeats 4000000 in
set_option maxRecDepth 100000 in
theorem n_X6_terms (l : Launch) (G : GT) (aG aC : Nat) (sz : Nat) (aRd aD aL aM aS : Nat) (nB nN nF : Int32) (cI cG cO cK cP cQ : Int32) (aK aX aY aZ : Nat)  (i0 : Int32) : Met l yX6_terms wsX6_terms ({ frames := 3, cells := 0, slots := 0, locals := 65 }) (va_Pc [.ref aG, .int i0] (wPre G [(aG, .inr (6, [.ref aRd, .ref aC, .ref aD, .ref aL, .ref aM, .ref aS, .int nB, .int nN, .int nF])), (aC, .inr (0, [.int 0, .int cI, .int cG, .int cO, .int cK, .int cP, .int cQ, .ref aK, .ref aX, .ref aY, .ref aZ]))] sz)) (va_Qi (fun (r : Int32) (u : Int32 × Int32) => r = refusalF 0 (isStageF 0 cG i0)) (bW G (va_A [(aG, .inr (6, [.ref aRd, .ref aC, .ref aD, .ref aL, .ref aM, .ref aS, .int nB, .int nN, .int nF])), (aC, .inr (0, [.int 0, .int cI, .int cG, .int cO, .int cK, .int cP, .int cQ, .ref aK, .ref aX, .ref aY, .ref aZ]))] sz) (fun u : Int32 × Int32 => [(aG, .inr (6, [.ref aRd, .ref aC, .ref aD, .ref aL, .ref aM, .ref aS, .int u.1, .int u.2, .int nF])), (aC, .inr (0, [.int 0, .int cI, .int cG, .int cO, .int cK, .int cP, .int cQ, .ref aK, .ref aX, .ref aY, .ref aZ]))])) (va_A [(aG, .inr (6, [.ref aRd, .ref aC, .ref aD, .ref aL, .ref aM, .ref aS, .int nB, .int nN, .int nF])), (aC, .inr (0, [.int 0, .int cI, .int cG, .int cO, .int cK, .int cP, .int cQ, .ref aK, .ref aX, .ref aY, .ref aZ]))] sz)) 0 0 (va_A [(aG, .inr (6, [.ref aRd, .ref aC, .ref aD, .ref aL, .ref aM, .ref aS, .int nB, .int nN, .int nF])), (aC, .inr (0, [.int 0, .int cI, .int cG, .int cO, .int cK, .int cP, .int cQ, .ref aK, .ref aX, .ref aY, .ref aZ]))] sz) := by
  refine met_go (cc := cX6_terms) (maxL := 3) (ret := (some .int)) (own := RX6) (by decide) rfl rfl (Nat.le_of_ble_eq_true rfl) ?_
  intro p e s m below meth c ls S hr hlocks hname hsz C w hl
  have hl : lv_has ls 3 [(0, .ref aG), (1, .int i0)] := hl
  refine lv_aload_n S.1 S.2.1 dX6_terms_0 rfl (lv_at hl 0 rfl) ?_
  refine lv_aload_n S.1 S.2.1 dX6_terms_1 rfl (lv_at hl 0 rfl) ?_
  refine lv_iload_n S.1 S.2.1 dX6_terms_2 rfl (lv_at hl 1 rfl) ?_
  refine cs_i (va_runV (As := [.int i0]) (rest := [.ref aG]) S (c_X6_isStage l G aG aC _ aRd aD aL aM aS nB nN nF 0 cI cG cO cK cP cQ aK aX aY aZ i0) (cwV 1 S.2.2.2.2 gX6_terms_X6_isStage rfl rfl rfl (by decide +kernel) ⟨Nat.le_of_ble_eq_true rfl, Nat.le_of_ble_eq_true rfl⟩) ⟨wPre_blind, va_recv C.1 w.1 (ci := 6) (q0 := 0) rfl rfl, wPre_at C w [0, 1] rfl rfl⟩ rfl rfl hl.1 rfl (lv_room (Nat.le_of_ble_eq_true rfl)) dX6_terms_3 ⟨Nat.le_of_ble_eq_true rfl, Nat.le_of_ble_eq_true rfl⟩) (fun r3 h3 => ?_)
  refine w_topi (y := (isStageF 0 cG i0)) h3 ?_
  refine lv_iload_n S.1 S.2.1 dX6_terms_6 rfl (lv_at hl 1 rfl) ?_
  refine cq_i C w [0, 1] [] [0, 1] (wr := []) (w' := fun u : Int32 × Int32 => [(aG, .inr (6, [.ref aRd, .ref aC, .ref aD, .ref aL, .ref aM, .ref aS, .int u.1, .int u.2, .int nF])), (aC, .inr (0, [.int 0, .int cI, .int cG, .int cO, .int cK, .int cP, .int cQ, .ref aK, .ref aX, .ref aY, .ref aZ]))]) (ws2 := fun u : Int32 × Int32 => [(aG, .inr (6, [.ref aRd, .ref aC, .ref aD, .ref aL, .ref aM, .ref aS, .int u.1, .int u.2, .int nF])), (aC, .inr (0, [.int 0, .int cI, .int cG, .int cO, .int cK, .int cP, .int cQ, .ref aK, .ref aX, .ref aY, .ref aZ]))]) rfl rfl rfl (by decide) rfl (fun _ => rfl) (va_runV (As := [.int (isStageF 0 cG i0), .int i0]) (rest := []) S (n_X6_stageRefusal l G aG aC _ aRd aD aL aM aS nB nN nF cI cG cO cK cP cQ aK aX aY aZ (isStageF 0 cG i0) i0) (cwV 2 S.2.2.2.2 gX6_terms_X6_stageRefusal rfl rfl rfl (by decide +kernel) ⟨Nat.le_of_ble_eq_true rfl, Nat.le_of_ble_eq_true rfl⟩) ⟨wPre_blind, va_recv C.1 w.1 (ci := 6) (q0 := 0) rfl rfl, wPre_at C w [0, 1] rfl rfl⟩ rfl rfl hl.1 rfl (lv_room (Nat.le_of_ble_eq_true rfl)) dX6_terms_7 ⟨Nat.le_of_ble_eq_true rfl, Nat.le_of_ble_eq_true rfl⟩) (fun r7 u7 H locs h7 w => ?_)
  have w : Wd G _ s [(aG, .inr (6, [.ref aRd, .ref aC, .ref aD, .ref aL, .ref aM, .ref aS, .int u7.1, .int u7.2, .int nF])), (aC, .inr (0, [.int 0, .int cI, .int cG, .int cO, .int cK, .int cP, .int cQ, .ref aK, .ref aX, .ref aY, .ref aZ]))] H locs := w
  refine lv_istore_n (lv' := [(2, .int r7), (0, .ref aG), (1, .int i0)]) S.1 S.2.1 dX6_terms_10 rfl hl (by decide) rfl (fun ls hl => ?_)
  refine lv_iload_n S.1 S.2.1 dX6_terms_11 rfl (lv_at hl 0 rfl) ?_
  refine lv_if_eq (tgt := 19) S.1 S.2.1 dX6_terms_12 (by decide) (fun c12 => ?_) (fun c12 => ?_)
  · exact absurd (h7.symm.trans c12) (ref0_ne _)
  · refine lv_iload_n S.1 S.2.1 dX6_terms_15 rfl (lv_at hl 0 rfl) ?_
    refine lv_goto (tgt := 27) S.1 S.2.1 dX6_terms_16 (by decide) ?_
    exact W.iret (v := r7) S.1 S.2.1 hr (fun t ht _ => ⟨⟨r7, (u7.1, u7.2), rfl, h7, by rw [ht]; exact w.1, w.2.1⟩, w.2.2.F ht⟩) w.2.2.2.2 dX6_terms_27
set_option maxHeartbeats 4000000 in
set_option maxRecDepth 100000 in
theorem n_X6_term (l : Launch) (G : GT) (aG aC : Nat) (sz : Nat) (aRd aD aL aM aS : Nat) (nB nN nF : Int32) (cI cG cO cK cP cQ : Int32) (aK aX aY aZ : Nat)  (i0 j0 k0 : Int32) : Met l yX6_term wsX6_term ({ frames := 3, cells := 0, slots := 0, locals := 65 }) (va_Pc [.ref aG, .int i0, .int j0, .int k0] (wPre G [(aG, .inr (6, [.ref aRd, .ref aC, .ref aD, .ref aL, .ref aM, .ref aS, .int nB, .int nN, .int nF])), (aC, .inr (0, [.int 0, .int cI, .int cG, .int cO, .int cK, .int cP, .int cQ, .ref aK, .ref aX, .ref aY, .ref aZ]))] sz)) (va_Qi (fun (r : Int32) (u : Int32 × Int32) => r = refusalF 0 (zTerm (isStageF 0 cG i0) j0 k0)) (bW G (va_A [(aG, .inr (6, [.ref aRd, .ref aC, .ref aD, .ref aL, .ref aM, .ref aS, .int nB, .int nN, .int nF])), (aC, .inr (0, [.int 0, .int cI, .int cG, .int cO, .int cK, .int cP, .int cQ, .ref aK, .ref aX, .ref aY, .ref aZ]))] sz) (fun u : Int32 × Int32 => [(aG, .inr (6, [.ref aRd, .ref aC, .ref aD, .ref aL, .ref aM, .ref aS, .int u.1, .int u.2, .int nF])), (aC, .inr (0, [.int 0, .int cI, .int cG, .int cO, .int cK, .int cP, .int cQ, .ref aK, .ref aX, .ref aY, .ref aZ]))])) (va_A [(aG, .inr (6, [.ref aRd, .ref aC, .ref aD, .ref aL, .ref aM, .ref aS, .int nB, .int nN, .int nF])), (aC, .inr (0, [.int 0, .int cI, .int cG, .int cO, .int cK, .int cP, .int cQ, .ref aK, .ref aX, .ref aY, .ref aZ]))] sz)) 0 0 (va_A [(aG, .inr (6, [.ref aRd, .ref aC, .ref aD, .ref aL, .ref aM, .ref aS, .int nB, .int nN, .int nF])), (aC, .inr (0, [.int 0, .int cI, .int cG, .int cO, .int cK, .int cP, .int cQ, .ref aK, .ref aX, .ref aY, .ref aZ]))] sz) := by
  refine met_go (cc := cX6_term) (maxL := 5) (ret := (some .int)) (own := RX6) (by decide) rfl rfl (Nat.le_of_ble_eq_true rfl) ?_
  intro p e s m below meth c ls S hr hlocks hname hsz C w hl
  have hl : lv_has ls 5 [(0, .ref aG), (1, .int i0), (2, .int j0), (3, .int k0)] := hl
  refine lv_aload_n S.1 S.2.1 dX6_term_0 rfl (lv_at hl 0 rfl) ?_
  refine w_joini 27 [.ref aG] (fun z27 => z27 = (zTerm (isStageF 0 cG i0) j0 k0)) (fun z27 hz27 => ?_) (fun J27 => ?_)
  · refine lv_iload_n S.1 S.2.1 dX6_term_27 rfl (lv_at hl 1 rfl) ?_
    refine cq_i C w [0, 1] [] [0, 1] (wr := []) (w' := fun u : Int32 × Int32 => [(aG, .inr (6, [.ref aRd, .ref aC, .ref aD, .ref aL, .ref aM, .ref aS, .int u.1, .int u.2, .int nF])), (aC, .inr (0, [.int 0, .int cI, .int cG, .int cO, .int cK, .int cP, .int cQ, .ref aK, .ref aX, .ref aY, .ref aZ]))]) (ws2 := fun u : Int32 × Int32 => [(aG, .inr (6, [.ref aRd, .ref aC, .ref aD, .ref aL, .ref aM, .ref aS, .int u.1, .int u.2, .int nF])), (aC, .inr (0, [.int 0, .int cI, .int cG, .int cO, .int cK, .int cP, .int cQ, .ref aK, .ref aX, .ref aY, .ref aZ]))]) rfl rfl rfl (by decide) rfl (fun _ => rfl) (va_runV (As := [.int z27, .int i0]) (rest := []) S (n_X6_stageRefusal l G aG aC _ aRd aD aL aM aS nB nN nF cI cG cO cK cP cQ aK aX aY aZ z27 i0) (cwV 2 S.2.2.2.2 gX6_term_X6_stageRefusal rfl rfl rfl (by decide +kernel) ⟨Nat.le_of_ble_eq_true rfl, Nat.le_of_ble_eq_true rfl⟩) ⟨wPre_blind, va_recv C.1 w.1 (ci := 6) (q0 := 0) rfl rfl, wPre_at C w [0, 1] rfl rfl⟩ rfl rfl hl.1 rfl (lv_room (Nat.le_of_ble_eq_true rfl)) dX6_term_28 ⟨Nat.le_of_ble_eq_true rfl, Nat.le_of_ble_eq_true rfl⟩) (fun r28 u28 H locs h28 w => ?_)
    have w : Wd G _ s [(aG, .inr (6, [.ref aRd, .ref aC, .ref aD, .ref aL, .ref aM, .ref aS, .int u28.1, .int u28.2, .int nF])), (aC, .inr (0, [.int 0, .int cI, .int cG, .int cO, .int cK, .int cP, .int cQ, .ref aK, .ref aX, .ref aY, .ref aZ]))] H locs := w
    refine lv_istore (lv' := [(4, .int r28), (0, .ref aG), (1, .int i0), (2, .int j0), (3, .int k0)]) S.1 S.2.1 dX6_term_31 hl (by decide) rfl (fun ls hl => ?_)
    refine lv_iload S.1 S.2.1 dX6_term_33 (lv_at hl 0 rfl) ?_
    refine lv_if_eq (tgt := 41) S.1 S.2.1 dX6_term_35 (by decide) (fun c35 => ?_) (fun c35 => ?_)
    · exact absurd (h28.symm.trans c35) (ref0_ne _)
    · refine lv_iload S.1 S.2.1 dX6_term_38 (lv_at hl 0 rfl) ?_
      exact W.iret (v := r28) S.1 S.2.1 hr (fun t ht _ => ⟨⟨r28, (u28.1, u28.2), rfl, by rw [h28]; exact congrArg _ hz27, by rw [ht]; exact w.1, w.2.1⟩, w.2.2.F ht⟩) w.2.2.2.2 dX6_term_40
  · refine lv_aload_n S.1 S.2.1 dX6_term_1 rfl (lv_at hl 0 rfl) ?_
    refine lv_iload_n S.1 S.2.1 dX6_term_2 rfl (lv_at hl 1 rfl) ?_
    refine cs_i (va_runV (As := [.int i0]) (rest := [.ref aG]) S (c_X6_isStage l G aG aC _ aRd aD aL aM aS nB nN nF 0 cI cG cO cK cP cQ aK aX aY aZ i0) (cwV 1 S.2.2.2.2 gX6_term_X6_isStage rfl rfl rfl (by decide +kernel) ⟨Nat.le_of_ble_eq_true rfl, Nat.le_of_ble_eq_true rfl⟩) ⟨wPre_blind, va_recv C.1 w.1 (ci := 6) (q0 := 0) rfl rfl, wPre_at C w [0, 1] rfl rfl⟩ rfl rfl hl.1 rfl (lv_room (Nat.le_of_ble_eq_true rfl)) dX6_term_3 ⟨Nat.le_of_ble_eq_true rfl, Nat.le_of_ble_eq_true rfl⟩) (fun r3 h3 => ?_)
    refine w_topi (y := (isStageF 0 cG i0)) h3 ?_
    refine lv_if_eq (tgt := 26) S.1 S.2.1 dX6_term_6 (by decide) (fun c6 => ?_) (fun c6 => ?_)
    · refine lv_iconst (v := 0) S.1 S.2.1 dX6_term_26 (by decide) ?_
      exact J27 0 (by simp only [zTerm, if_pos c6])
    · refine lv_iload_n S.1 S.2.1 dX6_term_9 rfl (lv_at hl 2 rfl) ?_
      refine lv_if_lt (tgt := 26) S.1 S.2.1 dX6_term_10 (by decide) (fun c10 => ?_) (fun c10 => ?_)
      · refine lv_iconst (v := 0) S.1 S.2.1 dX6_term_26 (by decide) ?_
        exact J27 0 (by simp only [zTerm, if_neg c6, if_pos c10])
      · refine lv_iload_n S.1 S.2.1 dX6_term_13 rfl (lv_at hl 3 rfl) ?_
        refine lv_if_eq (tgt := 22) S.1 S.2.1 dX6_term_14 (by decide) (fun c14 => ?_) (fun c14 => ?_)
        · refine lv_iconst (v := 1) S.1 S.2.1 dX6_term_22 (by decide) ?_
          refine lv_goto (tgt := 27) S.1 S.2.1 dX6_term_23 (by decide) ?_
          exact J27 1 (by simp only [zTerm, if_neg c6, if_neg c10, if_pos c14])
        · refine lv_iload_n S.1 S.2.1 dX6_term_17 rfl (lv_at hl 3 rfl) ?_
          refine lv_iconst (v := 1) S.1 S.2.1 dX6_term_18 (by decide) ?_
          refine lv_icmp_ne (tgt := 26) S.1 S.2.1 dX6_term_19 (by decide) (fun c19 => ?_) (fun c19 => ?_)
          · refine lv_iconst (v := 0) S.1 S.2.1 dX6_term_26 (by decide) ?_
            exact J27 0 (by simp only [zTerm, if_neg c6, if_neg c10, if_neg c14, if_neg c19])
          · refine lv_iconst (v := 1) S.1 S.2.1 dX6_term_22 (by decide) ?_
            refine lv_goto (tgt := 27) S.1 S.2.1 dX6_term_23 (by decide) ?_
            exact J27 1 (by simp only [zTerm, if_neg c6, if_neg c10, if_neg c14, if_pos c19])
theorem im_X6_most_X0 : ∀ w ∈ u_ws RX0 TX0 11, w ∈ wsX6_most := by decide +kernel
theorem im_X6_most_X6 : ∀ w ∈ u_ws RX6 TX6 9, w ∈ wsX6_most := by decide +kernel
set_option maxHeartbeats 4000000 in
set_option maxRecDepth 100000 in
theorem n_X6_most (l : Launch) (G : GT) (aG aC : Nat) (sz : Nat) (aRd aD aL aM aS : Nat) (nB nN nF : Int32) (cI cG cO cK cP cQ : Int32) (aK aX aY aZ : Nat)  (i0 : Int32) : Met l yX6_most wsX6_most ({ frames := 3, cells := 0, slots := 0, locals := 65 }) (va_Pc [.ref aG, .int i0] (wPre G [(aG, .inr (6, [.ref aRd, .ref aC, .ref aD, .ref aL, .ref aM, .ref aS, .int nB, .int nN, .int nF])), (aC, .inr (0, [.int 0, .int cI, .int cG, .int cO, .int cK, .int cP, .int cQ, .ref aK, .ref aX, .ref aY, .ref aZ]))] sz)) (va_Qi (fun (r : Int32) (u : Int32 × Int32) => r = refusalF 0 (zMost i0)) (bW G (va_A [(aG, .inr (6, [.ref aRd, .ref aC, .ref aD, .ref aL, .ref aM, .ref aS, .int nB, .int nN, .int nF])), (aC, .inr (0, [.int 0, .int cI, .int cG, .int cO, .int cK, .int cP, .int cQ, .ref aK, .ref aX, .ref aY, .ref aZ]))] sz) (fun u : Int32 × Int32 => [(aG, .inr (6, [.ref aRd, .ref aC, .ref aD, .ref aL, .ref aM, .ref aS, .int u.1, .int u.2, .int nF])), (aC, .inr (0, [.int 0, .int cI, .int cG, .int cO, .int cK, .int cP, .int cQ, .ref aK, .ref aX, .ref aY, .ref aZ]))])) (va_A [(aG, .inr (6, [.ref aRd, .ref aC, .ref aD, .ref aL, .ref aM, .ref aS, .int nB, .int nN, .int nF])), (aC, .inr (0, [.int 0, .int cI, .int cG, .int cO, .int cK, .int cP, .int cQ, .ref aK, .ref aX, .ref aY, .ref aZ]))] sz)) 0 0 (va_A [(aG, .inr (6, [.ref aRd, .ref aC, .ref aD, .ref aL, .ref aM, .ref aS, .int nB, .int nN, .int nF])), (aC, .inr (0, [.int 0, .int cI, .int cG, .int cO, .int cK, .int cP, .int cQ, .ref aK, .ref aX, .ref aY, .ref aZ]))] sz) := by
  refine met_go (cc := cX6_most) (maxL := 4) (ret := (some .int)) (own := RX6) (by decide) rfl rfl (Nat.le_of_ble_eq_true rfl) ?_
  intro p e s m below meth c ls S hr hlocks hname hsz C w hl
  have hl : lv_has ls 4 [(0, .ref aG), (1, .int i0)] := hl
  refine lv_aload_n S.1 S.2.1 dX6_most_0 rfl (lv_at hl 0 rfl) ?_
  refine w_get S C w (CC := RX6) (T := TX6) (N := 9) (ref := "GateSums") im_X6_most_X6 0 rfl rfl 1 (by decide) (List.mem_of_getElem? (i := 1) rfl) (fun _ h => h) rfl dX6_most_1 ?_
  refine w_get S C w (CC := RX0) (T := TX0) (N := 11) (ref := "GateSums$Circuit") im_X6_most_X0 1 rfl rfl 2 (by decide) (List.mem_of_getElem? (i := 2) rfl) (fun _ h => h) rfl dX6_most_4 ?_
  refine lv_istore_n (lv' := [(2, .int cG), (0, .ref aG), (1, .int i0)]) S.1 S.2.1 dX6_most_7 rfl hl (by decide) rfl (fun ls hl => ?_)
  refine lv_aload_n S.1 S.2.1 dX6_most_8 rfl (lv_at hl 1 rfl) ?_
  refine w_joini 23 [.ref aG] (fun z23 => z23 = (zMost i0)) (fun z23 hz23 => ?_) (fun J23 => ?_)
  · refine lv_iload_n S.1 S.2.1 dX6_most_23 rfl (lv_at hl 0 rfl) ?_
    refine cq_i C w [0, 1] [] [0, 1] (wr := []) (w' := fun u : Int32 × Int32 => [(aG, .inr (6, [.ref aRd, .ref aC, .ref aD, .ref aL, .ref aM, .ref aS, .int u.1, .int u.2, .int nF])), (aC, .inr (0, [.int 0, .int cI, .int cG, .int cO, .int cK, .int cP, .int cQ, .ref aK, .ref aX, .ref aY, .ref aZ]))]) (ws2 := fun u : Int32 × Int32 => [(aG, .inr (6, [.ref aRd, .ref aC, .ref aD, .ref aL, .ref aM, .ref aS, .int u.1, .int u.2, .int nF])), (aC, .inr (0, [.int 0, .int cI, .int cG, .int cO, .int cK, .int cP, .int cQ, .ref aK, .ref aX, .ref aY, .ref aZ]))]) rfl rfl rfl (by decide) rfl (fun _ => rfl) (va_runV (As := [.int z23, .int cG]) (rest := []) S (n_X6_stageRefusal l G aG aC _ aRd aD aL aM aS nB nN nF cI cG cO cK cP cQ aK aX aY aZ z23 cG) (cwV 2 S.2.2.2.2 gX6_most_X6_stageRefusal rfl rfl rfl (by decide +kernel) ⟨Nat.le_of_ble_eq_true rfl, Nat.le_of_ble_eq_true rfl⟩) ⟨wPre_blind, va_recv C.1 w.1 (ci := 6) (q0 := 0) rfl rfl, wPre_at C w [0, 1] rfl rfl⟩ rfl rfl hl.1 rfl (lv_room (Nat.le_of_ble_eq_true rfl)) dX6_most_24 ⟨Nat.le_of_ble_eq_true rfl, Nat.le_of_ble_eq_true rfl⟩) (fun r24 u24 H locs h24 w => ?_)
    have w : Wd G _ s [(aG, .inr (6, [.ref aRd, .ref aC, .ref aD, .ref aL, .ref aM, .ref aS, .int u24.1, .int u24.2, .int nF])), (aC, .inr (0, [.int 0, .int cI, .int cG, .int cO, .int cK, .int cP, .int cQ, .ref aK, .ref aX, .ref aY, .ref aZ]))] H locs := w
    refine lv_istore_n (lv' := [(3, .int r24), (2, .int cG), (0, .ref aG), (1, .int i0)]) S.1 S.2.1 dX6_most_27 rfl hl (by decide) rfl (fun ls hl => ?_)
    refine lv_iload_n S.1 S.2.1 dX6_most_28 rfl (lv_at hl 0 rfl) ?_
    refine lv_if_eq (tgt := 34) S.1 S.2.1 dX6_most_29 (by decide) (fun c29 => ?_) (fun c29 => ?_)
    · exact absurd (h24.symm.trans c29) (ref0_ne _)
    · refine lv_iload_n S.1 S.2.1 dX6_most_32 rfl (lv_at hl 0 rfl) ?_
      exact W.iret (v := r24) S.1 S.2.1 hr (fun t ht _ => ⟨⟨r24, (u24.1, u24.2), rfl, by rw [h24]; exact congrArg _ hz23, by rw [ht]; exact w.1, w.2.1⟩, w.2.2.F ht⟩) w.2.2.2.2 dX6_most_33
  · refine lv_iload_n S.1 S.2.1 dX6_most_9 rfl (lv_at hl 2 rfl) ?_
    refine lv_if_lt (tgt := 22) S.1 S.2.1 dX6_most_10 (by decide) (fun c10 => ?_) (fun c10 => ?_)
    · refine lv_iconst (v := 0) S.1 S.2.1 dX6_most_22 (by decide) ?_
      exact J23 0 (by simp only [zMost, if_pos c10])
    · refine lv_iload_n S.1 S.2.1 dX6_most_13 rfl (lv_at hl 2 rfl) ?_
      refine lv_iconst (v := 2) S.1 S.2.1 dX6_most_14 (by decide) ?_
      refine lv_icmp_gt (tgt := 22) S.1 S.2.1 dX6_most_15 (by decide) (fun c15 => ?_) (fun c15 => ?_)
      · refine lv_iconst (v := 0) S.1 S.2.1 dX6_most_22 (by decide) ?_
        exact J23 0 (by simp only [zMost, if_neg c10, if_pos c15])
      · refine lv_iconst (v := 1) S.1 S.2.1 dX6_most_18 (by decide) ?_
        refine lv_goto (tgt := 23) S.1 S.2.1 dX6_most_19 (by decide) ?_
        exact J23 1 (by simp only [zMost, if_neg c10, if_neg c15])
set_option maxHeartbeats 4000000 in
set_option maxRecDepth 100000 in
theorem n_X6_dearest (l : Launch) (G : GT) (aG aC : Nat) (sz : Nat) (aRd aD aL aM aS : Nat) (nB nN nF : Int32) (cI cG cO cK cP cQ : Int32) (aK aX aY aZ : Nat)  (i0 j0 : Int32) : Met l yX6_dearest wsX6_dearest ({ frames := 3, cells := 0, slots := 0, locals := 65 }) (va_Pc [.ref aG, .int i0, .int j0] (wPre G [(aG, .inr (6, [.ref aRd, .ref aC, .ref aD, .ref aL, .ref aM, .ref aS, .int nB, .int nN, .int nF])), (aC, .inr (0, [.int 0, .int cI, .int cG, .int cO, .int cK, .int cP, .int cQ, .ref aK, .ref aX, .ref aY, .ref aZ]))] sz)) (va_Qi (fun (r : Int32) (u : Int32 × Int32) => r = refusalF 0 (zDear (isStageF 0 cG i0) j0)) (bW G (va_A [(aG, .inr (6, [.ref aRd, .ref aC, .ref aD, .ref aL, .ref aM, .ref aS, .int nB, .int nN, .int nF])), (aC, .inr (0, [.int 0, .int cI, .int cG, .int cO, .int cK, .int cP, .int cQ, .ref aK, .ref aX, .ref aY, .ref aZ]))] sz) (fun u : Int32 × Int32 => [(aG, .inr (6, [.ref aRd, .ref aC, .ref aD, .ref aL, .ref aM, .ref aS, .int u.1, .int u.2, .int nF])), (aC, .inr (0, [.int 0, .int cI, .int cG, .int cO, .int cK, .int cP, .int cQ, .ref aK, .ref aX, .ref aY, .ref aZ]))])) (va_A [(aG, .inr (6, [.ref aRd, .ref aC, .ref aD, .ref aL, .ref aM, .ref aS, .int nB, .int nN, .int nF])), (aC, .inr (0, [.int 0, .int cI, .int cG, .int cO, .int cK, .int cP, .int cQ, .ref aK, .ref aX, .ref aY, .ref aZ]))] sz)) 0 0 (va_A [(aG, .inr (6, [.ref aRd, .ref aC, .ref aD, .ref aL, .ref aM, .ref aS, .int nB, .int nN, .int nF])), (aC, .inr (0, [.int 0, .int cI, .int cG, .int cO, .int cK, .int cP, .int cQ, .ref aK, .ref aX, .ref aY, .ref aZ]))] sz) := by
  refine met_go (cc := cX6_dearest) (maxL := 4) (ret := (some .int)) (own := RX6) (by decide) rfl rfl (Nat.le_of_ble_eq_true rfl) ?_
  intro p e s m below meth c ls S hr hlocks hname hsz C w hl
  have hl : lv_has ls 4 [(0, .ref aG), (1, .int i0), (2, .int j0)] := hl
  refine lv_aload_n S.1 S.2.1 dX6_dearest_0 rfl (lv_at hl 0 rfl) ?_
  refine w_joini 18 [.ref aG] (fun z18 => z18 = (zDear (isStageF 0 cG i0) j0)) (fun z18 hz18 => ?_) (fun J18 => ?_)
  · refine lv_iload_n S.1 S.2.1 dX6_dearest_18 rfl (lv_at hl 1 rfl) ?_
    refine cq_i C w [0, 1] [] [0, 1] (wr := []) (w' := fun u : Int32 × Int32 => [(aG, .inr (6, [.ref aRd, .ref aC, .ref aD, .ref aL, .ref aM, .ref aS, .int u.1, .int u.2, .int nF])), (aC, .inr (0, [.int 0, .int cI, .int cG, .int cO, .int cK, .int cP, .int cQ, .ref aK, .ref aX, .ref aY, .ref aZ]))]) (ws2 := fun u : Int32 × Int32 => [(aG, .inr (6, [.ref aRd, .ref aC, .ref aD, .ref aL, .ref aM, .ref aS, .int u.1, .int u.2, .int nF])), (aC, .inr (0, [.int 0, .int cI, .int cG, .int cO, .int cK, .int cP, .int cQ, .ref aK, .ref aX, .ref aY, .ref aZ]))]) rfl rfl rfl (by decide) rfl (fun _ => rfl) (va_runV (As := [.int z18, .int i0]) (rest := []) S (n_X6_stageRefusal l G aG aC _ aRd aD aL aM aS nB nN nF cI cG cO cK cP cQ aK aX aY aZ z18 i0) (cwV 2 S.2.2.2.2 gX6_dearest_X6_stageRefusal rfl rfl rfl (by decide +kernel) ⟨Nat.le_of_ble_eq_true rfl, Nat.le_of_ble_eq_true rfl⟩) ⟨wPre_blind, va_recv C.1 w.1 (ci := 6) (q0 := 0) rfl rfl, wPre_at C w [0, 1] rfl rfl⟩ rfl rfl hl.1 rfl (lv_room (Nat.le_of_ble_eq_true rfl)) dX6_dearest_19 ⟨Nat.le_of_ble_eq_true rfl, Nat.le_of_ble_eq_true rfl⟩) (fun r19 u19 H locs h19 w => ?_)
    have w : Wd G _ s [(aG, .inr (6, [.ref aRd, .ref aC, .ref aD, .ref aL, .ref aM, .ref aS, .int u19.1, .int u19.2, .int nF])), (aC, .inr (0, [.int 0, .int cI, .int cG, .int cO, .int cK, .int cP, .int cQ, .ref aK, .ref aX, .ref aY, .ref aZ]))] H locs := w
    refine lv_istore_n (lv' := [(3, .int r19), (0, .ref aG), (1, .int i0), (2, .int j0)]) S.1 S.2.1 dX6_dearest_22 rfl hl (by decide) rfl (fun ls hl => ?_)
    refine lv_iload_n S.1 S.2.1 dX6_dearest_23 rfl (lv_at hl 0 rfl) ?_
    refine lv_if_eq (tgt := 31) S.1 S.2.1 dX6_dearest_24 (by decide) (fun c24 => ?_) (fun c24 => ?_)
    · exact absurd (h19.symm.trans c24) (ref0_ne _)
    · refine lv_iload_n S.1 S.2.1 dX6_dearest_27 rfl (lv_at hl 0 rfl) ?_
      refine lv_goto (tgt := 40) S.1 S.2.1 dX6_dearest_28 (by decide) ?_
      exact W.iret (v := r19) S.1 S.2.1 hr (fun t ht _ => ⟨⟨r19, (u19.1, u19.2), rfl, by rw [h19]; exact congrArg _ hz18, by rw [ht]; exact w.1, w.2.1⟩, w.2.2.F ht⟩) w.2.2.2.2 dX6_dearest_40
  · refine lv_aload_n S.1 S.2.1 dX6_dearest_1 rfl (lv_at hl 0 rfl) ?_
    refine lv_iload_n S.1 S.2.1 dX6_dearest_2 rfl (lv_at hl 1 rfl) ?_
    refine cs_i (va_runV (As := [.int i0]) (rest := [.ref aG]) S (c_X6_isStage l G aG aC _ aRd aD aL aM aS nB nN nF 0 cI cG cO cK cP cQ aK aX aY aZ i0) (cwV 1 S.2.2.2.2 gX6_dearest_X6_isStage rfl rfl rfl (by decide +kernel) ⟨Nat.le_of_ble_eq_true rfl, Nat.le_of_ble_eq_true rfl⟩) ⟨wPre_blind, va_recv C.1 w.1 (ci := 6) (q0 := 0) rfl rfl, wPre_at C w [0, 1] rfl rfl⟩ rfl rfl hl.1 rfl (lv_room (Nat.le_of_ble_eq_true rfl)) dX6_dearest_3 ⟨Nat.le_of_ble_eq_true rfl, Nat.le_of_ble_eq_true rfl⟩) (fun r3 h3 => ?_)
    refine w_topi (y := (isStageF 0 cG i0)) h3 ?_
    refine lv_if_eq (tgt := 17) S.1 S.2.1 dX6_dearest_6 (by decide) (fun c6 => ?_) (fun c6 => ?_)
    · refine lv_iconst (v := 0) S.1 S.2.1 dX6_dearest_17 (by decide) ?_
      exact J18 0 (by simp only [zDear, if_pos c6])
    · refine lv_iload_n S.1 S.2.1 dX6_dearest_9 rfl (lv_at hl 2 rfl) ?_
      refine lv_if_lt (tgt := 17) S.1 S.2.1 dX6_dearest_10 (by decide) (fun c10 => ?_) (fun c10 => ?_)
      · refine lv_iconst (v := 0) S.1 S.2.1 dX6_dearest_17 (by decide) ?_
        exact J18 0 (by simp only [zDear, if_neg c6, if_pos c10])
      · refine lv_iconst (v := 1) S.1 S.2.1 dX6_dearest_13 (by decide) ?_
        refine lv_goto (tgt := 18) S.1 S.2.1 dX6_dearest_14 (by decide) ?_
        exact J18 1 (by simp only [zDear, if_neg c6, if_neg c10])
set_option maxHeartbeats 4000000 in
set_option maxRecDepth 100000 in
theorem n_X6_value (l : Launch) (G : GT) (aG aC : Nat) (sz : Nat) (aRd aD aL aM aS : Nat) (nB nN nF : Int32) (cI cG cO cK cP cQ : Int32) (aK aX aY aZ : Nat)  (i0 j0 : Int32) : Met l yX6_value wsX6_value ({ frames := 3, cells := 0, slots := 0, locals := 65 }) (va_Pc [.ref aG, .int i0, .int j0] (wPre G [(aG, .inr (6, [.ref aRd, .ref aC, .ref aD, .ref aL, .ref aM, .ref aS, .int nB, .int nN, .int nF])), (aC, .inr (0, [.int 0, .int cI, .int cG, .int cO, .int cK, .int cP, .int cQ, .ref aK, .ref aX, .ref aY, .ref aZ]))] sz)) (va_Qi (fun (r : Int32) (u : Int32 × Int32) => r = refusalF 0 (zAnd (isStageF 0 cG i0) (isInputsF 0 cI j0))) (bW G (va_A [(aG, .inr (6, [.ref aRd, .ref aC, .ref aD, .ref aL, .ref aM, .ref aS, .int nB, .int nN, .int nF])), (aC, .inr (0, [.int 0, .int cI, .int cG, .int cO, .int cK, .int cP, .int cQ, .ref aK, .ref aX, .ref aY, .ref aZ]))] sz) (fun u : Int32 × Int32 => [(aG, .inr (6, [.ref aRd, .ref aC, .ref aD, .ref aL, .ref aM, .ref aS, .int u.1, .int u.2, .int nF])), (aC, .inr (0, [.int 0, .int cI, .int cG, .int cO, .int cK, .int cP, .int cQ, .ref aK, .ref aX, .ref aY, .ref aZ]))])) (va_A [(aG, .inr (6, [.ref aRd, .ref aC, .ref aD, .ref aL, .ref aM, .ref aS, .int nB, .int nN, .int nF])), (aC, .inr (0, [.int 0, .int cI, .int cG, .int cO, .int cK, .int cP, .int cQ, .ref aK, .ref aX, .ref aY, .ref aZ]))] sz)) 0 0 (va_A [(aG, .inr (6, [.ref aRd, .ref aC, .ref aD, .ref aL, .ref aM, .ref aS, .int nB, .int nN, .int nF])), (aC, .inr (0, [.int 0, .int cI, .int cG, .int cO, .int cK, .int cP, .int cQ, .ref aK, .ref aX, .ref aY, .ref aZ]))] sz) := by
  refine met_go (cc := cX6_value) (maxL := 4) (ret := (some .int)) (own := RX6) (by decide) rfl rfl (Nat.le_of_ble_eq_true rfl) ?_
  intro p e s m below meth c ls S hr hlocks hname hsz C w hl
  have hl : lv_has ls 4 [(0, .ref aG), (1, .int i0), (2, .int j0)] := hl
  refine lv_aload_n S.1 S.2.1 dX6_value_0 rfl (lv_at hl 0 rfl) ?_
  refine w_joini 22 [.ref aG] (fun z22 => z22 = (zAnd (isStageF 0 cG i0) (isInputsF 0 cI j0))) (fun z22 hz22 => ?_) (fun J22 => ?_)
  · refine lv_iload_n S.1 S.2.1 dX6_value_22 rfl (lv_at hl 1 rfl) ?_
    refine cq_i C w [0, 1] [] [0, 1] (wr := []) (w' := fun u : Int32 × Int32 => [(aG, .inr (6, [.ref aRd, .ref aC, .ref aD, .ref aL, .ref aM, .ref aS, .int u.1, .int u.2, .int nF])), (aC, .inr (0, [.int 0, .int cI, .int cG, .int cO, .int cK, .int cP, .int cQ, .ref aK, .ref aX, .ref aY, .ref aZ]))]) (ws2 := fun u : Int32 × Int32 => [(aG, .inr (6, [.ref aRd, .ref aC, .ref aD, .ref aL, .ref aM, .ref aS, .int u.1, .int u.2, .int nF])), (aC, .inr (0, [.int 0, .int cI, .int cG, .int cO, .int cK, .int cP, .int cQ, .ref aK, .ref aX, .ref aY, .ref aZ]))]) rfl rfl rfl (by decide) rfl (fun _ => rfl) (va_runV (As := [.int z22, .int i0]) (rest := []) S (n_X6_stageRefusal l G aG aC _ aRd aD aL aM aS nB nN nF cI cG cO cK cP cQ aK aX aY aZ z22 i0) (cwV 2 S.2.2.2.2 gX6_value_X6_stageRefusal rfl rfl rfl (by decide +kernel) ⟨Nat.le_of_ble_eq_true rfl, Nat.le_of_ble_eq_true rfl⟩) ⟨wPre_blind, va_recv C.1 w.1 (ci := 6) (q0 := 0) rfl rfl, wPre_at C w [0, 1] rfl rfl⟩ rfl rfl hl.1 rfl (lv_room (Nat.le_of_ble_eq_true rfl)) dX6_value_23 ⟨Nat.le_of_ble_eq_true rfl, Nat.le_of_ble_eq_true rfl⟩) (fun r23 u23 H locs h23 w => ?_)
    have w : Wd G _ s [(aG, .inr (6, [.ref aRd, .ref aC, .ref aD, .ref aL, .ref aM, .ref aS, .int u23.1, .int u23.2, .int nF])), (aC, .inr (0, [.int 0, .int cI, .int cG, .int cO, .int cK, .int cP, .int cQ, .ref aK, .ref aX, .ref aY, .ref aZ]))] H locs := w
    refine lv_istore_n (lv' := [(3, .int r23), (0, .ref aG), (1, .int i0), (2, .int j0)]) S.1 S.2.1 dX6_value_26 rfl hl (by decide) rfl (fun ls hl => ?_)
    refine lv_iload_n S.1 S.2.1 dX6_value_27 rfl (lv_at hl 0 rfl) ?_
    refine lv_if_eq (tgt := 35) S.1 S.2.1 dX6_value_28 (by decide) (fun c28 => ?_) (fun c28 => ?_)
    · exact absurd (h23.symm.trans c28) (ref0_ne _)
    · refine lv_iload_n S.1 S.2.1 dX6_value_31 rfl (lv_at hl 0 rfl) ?_
      refine lv_goto (tgt := 55) S.1 S.2.1 dX6_value_32 (by decide) ?_
      exact W.iret (v := r23) S.1 S.2.1 hr (fun t ht _ => ⟨⟨r23, (u23.1, u23.2), rfl, by rw [h23]; exact congrArg _ hz22, by rw [ht]; exact w.1, w.2.1⟩, w.2.2.F ht⟩) w.2.2.2.2 dX6_value_55
  · refine lv_aload_n S.1 S.2.1 dX6_value_1 rfl (lv_at hl 0 rfl) ?_
    refine lv_iload_n S.1 S.2.1 dX6_value_2 rfl (lv_at hl 1 rfl) ?_
    refine cs_i (va_runV (As := [.int i0]) (rest := [.ref aG]) S (c_X6_isStage l G aG aC _ aRd aD aL aM aS nB nN nF 0 cI cG cO cK cP cQ aK aX aY aZ i0) (cwV 1 S.2.2.2.2 gX6_value_X6_isStage rfl rfl rfl (by decide +kernel) ⟨Nat.le_of_ble_eq_true rfl, Nat.le_of_ble_eq_true rfl⟩) ⟨wPre_blind, va_recv C.1 w.1 (ci := 6) (q0 := 0) rfl rfl, wPre_at C w [0, 1] rfl rfl⟩ rfl rfl hl.1 rfl (lv_room (Nat.le_of_ble_eq_true rfl)) dX6_value_3 ⟨Nat.le_of_ble_eq_true rfl, Nat.le_of_ble_eq_true rfl⟩) (fun r3 h3 => ?_)
    refine w_topi (y := (isStageF 0 cG i0)) h3 ?_
    refine lv_if_eq (tgt := 21) S.1 S.2.1 dX6_value_6 (by decide) (fun c6 => ?_) (fun c6 => ?_)
    · refine lv_iconst (v := 0) S.1 S.2.1 dX6_value_21 (by decide) ?_
      exact J22 0 (by simp only [zAnd, if_pos c6])
    · refine lv_aload_n S.1 S.2.1 dX6_value_9 rfl (lv_at hl 0 rfl) ?_
      refine lv_iload_n S.1 S.2.1 dX6_value_10 rfl (lv_at hl 2 rfl) ?_
      refine cs_i (va_runV (As := [.int j0]) (rest := [.ref aG]) S (c_X6_isInputs l G aG aC _ aRd aD aL aM aS nB nN nF 0 cI cG cO cK cP cQ aK aX aY aZ j0) (cwV 1 S.2.2.2.2 gX6_value_X6_isInputs rfl rfl rfl (by decide +kernel) ⟨Nat.le_of_ble_eq_true rfl, Nat.le_of_ble_eq_true rfl⟩) ⟨wPre_blind, va_recv C.1 w.1 (ci := 6) (q0 := 0) rfl rfl, wPre_at C w [0, 1] rfl rfl⟩ rfl rfl hl.1 rfl (lv_room (Nat.le_of_ble_eq_true rfl)) dX6_value_11 ⟨Nat.le_of_ble_eq_true rfl, Nat.le_of_ble_eq_true rfl⟩) (fun r11 h11 => ?_)
      refine w_topi (y := (isInputsF 0 cI j0)) h11 ?_
      refine lv_if_eq (tgt := 21) S.1 S.2.1 dX6_value_14 (by decide) (fun c14 => ?_) (fun c14 => ?_)
      · refine lv_iconst (v := 0) S.1 S.2.1 dX6_value_21 (by decide) ?_
        exact J22 0 (by simp only [zAnd, if_neg c6, if_pos c14])
      · refine lv_iconst (v := 1) S.1 S.2.1 dX6_value_17 (by decide) ?_
        refine lv_goto (tgt := 22) S.1 S.2.1 dX6_value_18 (by decide) ?_
        exact J22 1 (by simp only [zAnd, if_neg c6, if_neg c14])
set_option maxHeartbeats 4000000 in
set_option maxRecDepth 100000 in
theorem n_X6_stands (l : Launch) (G : GT) (aG aC : Nat) (sz : Nat) (aRd aD aL aM aS : Nat) (nB nN nF : Int32) (cI cG cO cK cP cQ : Int32) (aK aX aY aZ : Nat)  (i0 : Int32) : Met l yX6_stands wsX6_stands ({ frames := 3, cells := 0, slots := 0, locals := 65 }) (va_Pc [.ref aG, .int i0] (wPre G [(aG, .inr (6, [.ref aRd, .ref aC, .ref aD, .ref aL, .ref aM, .ref aS, .int nB, .int nN, .int nF])), (aC, .inr (0, [.int 0, .int cI, .int cG, .int cO, .int cK, .int cP, .int cQ, .ref aK, .ref aX, .ref aY, .ref aZ]))] sz)) (va_Qi (fun (r : Int32) (u : Int32 × Int32) => r = refusalF 0 (isStageF 0 cG i0)) (bW G (va_A [(aG, .inr (6, [.ref aRd, .ref aC, .ref aD, .ref aL, .ref aM, .ref aS, .int nB, .int nN, .int nF])), (aC, .inr (0, [.int 0, .int cI, .int cG, .int cO, .int cK, .int cP, .int cQ, .ref aK, .ref aX, .ref aY, .ref aZ]))] sz) (fun u : Int32 × Int32 => [(aG, .inr (6, [.ref aRd, .ref aC, .ref aD, .ref aL, .ref aM, .ref aS, .int u.1, .int u.2, .int nF])), (aC, .inr (0, [.int 0, .int cI, .int cG, .int cO, .int cK, .int cP, .int cQ, .ref aK, .ref aX, .ref aY, .ref aZ]))])) (va_A [(aG, .inr (6, [.ref aRd, .ref aC, .ref aD, .ref aL, .ref aM, .ref aS, .int nB, .int nN, .int nF])), (aC, .inr (0, [.int 0, .int cI, .int cG, .int cO, .int cK, .int cP, .int cQ, .ref aK, .ref aX, .ref aY, .ref aZ]))] sz)) 0 0 (va_A [(aG, .inr (6, [.ref aRd, .ref aC, .ref aD, .ref aL, .ref aM, .ref aS, .int nB, .int nN, .int nF])), (aC, .inr (0, [.int 0, .int cI, .int cG, .int cO, .int cK, .int cP, .int cQ, .ref aK, .ref aX, .ref aY, .ref aZ]))] sz) := by
  refine met_go (cc := cX6_stands) (maxL := 3) (ret := (some .int)) (own := RX6) (by decide) rfl rfl (Nat.le_of_ble_eq_true rfl) ?_
  intro p e s m below meth c ls S hr hlocks hname hsz C w hl
  have hl : lv_has ls 3 [(0, .ref aG), (1, .int i0)] := hl
  refine lv_aload_n S.1 S.2.1 dX6_stands_0 rfl (lv_at hl 0 rfl) ?_
  refine lv_aload_n S.1 S.2.1 dX6_stands_1 rfl (lv_at hl 0 rfl) ?_
  refine lv_iload_n S.1 S.2.1 dX6_stands_2 rfl (lv_at hl 1 rfl) ?_
  refine cs_i (va_runV (As := [.int i0]) (rest := [.ref aG]) S (c_X6_isStage l G aG aC _ aRd aD aL aM aS nB nN nF 0 cI cG cO cK cP cQ aK aX aY aZ i0) (cwV 1 S.2.2.2.2 gX6_stands_X6_isStage rfl rfl rfl (by decide +kernel) ⟨Nat.le_of_ble_eq_true rfl, Nat.le_of_ble_eq_true rfl⟩) ⟨wPre_blind, va_recv C.1 w.1 (ci := 6) (q0 := 0) rfl rfl, wPre_at C w [0, 1] rfl rfl⟩ rfl rfl hl.1 rfl (lv_room (Nat.le_of_ble_eq_true rfl)) dX6_stands_3 ⟨Nat.le_of_ble_eq_true rfl, Nat.le_of_ble_eq_true rfl⟩) (fun r3 h3 => ?_)
  refine w_topi (y := (isStageF 0 cG i0)) h3 ?_
  refine lv_iload_n S.1 S.2.1 dX6_stands_6 rfl (lv_at hl 1 rfl) ?_
  refine cq_i C w [0, 1] [] [0, 1] (wr := []) (w' := fun u : Int32 × Int32 => [(aG, .inr (6, [.ref aRd, .ref aC, .ref aD, .ref aL, .ref aM, .ref aS, .int u.1, .int u.2, .int nF])), (aC, .inr (0, [.int 0, .int cI, .int cG, .int cO, .int cK, .int cP, .int cQ, .ref aK, .ref aX, .ref aY, .ref aZ]))]) (ws2 := fun u : Int32 × Int32 => [(aG, .inr (6, [.ref aRd, .ref aC, .ref aD, .ref aL, .ref aM, .ref aS, .int u.1, .int u.2, .int nF])), (aC, .inr (0, [.int 0, .int cI, .int cG, .int cO, .int cK, .int cP, .int cQ, .ref aK, .ref aX, .ref aY, .ref aZ]))]) rfl rfl rfl (by decide) rfl (fun _ => rfl) (va_runV (As := [.int (isStageF 0 cG i0), .int i0]) (rest := []) S (n_X6_stageRefusal l G aG aC _ aRd aD aL aM aS nB nN nF cI cG cO cK cP cQ aK aX aY aZ (isStageF 0 cG i0) i0) (cwV 2 S.2.2.2.2 gX6_stands_X6_stageRefusal rfl rfl rfl (by decide +kernel) ⟨Nat.le_of_ble_eq_true rfl, Nat.le_of_ble_eq_true rfl⟩) ⟨wPre_blind, va_recv C.1 w.1 (ci := 6) (q0 := 0) rfl rfl, wPre_at C w [0, 1] rfl rfl⟩ rfl rfl hl.1 rfl (lv_room (Nat.le_of_ble_eq_true rfl)) dX6_stands_7 ⟨Nat.le_of_ble_eq_true rfl, Nat.le_of_ble_eq_true rfl⟩) (fun r7 u7 H locs h7 w => ?_)
  have w : Wd G _ s [(aG, .inr (6, [.ref aRd, .ref aC, .ref aD, .ref aL, .ref aM, .ref aS, .int u7.1, .int u7.2, .int nF])), (aC, .inr (0, [.int 0, .int cI, .int cG, .int cO, .int cK, .int cP, .int cQ, .ref aK, .ref aX, .ref aY, .ref aZ]))] H locs := w
  refine lv_istore_n (lv' := [(2, .int r7), (0, .ref aG), (1, .int i0)]) S.1 S.2.1 dX6_stands_10 rfl hl (by decide) rfl (fun ls hl => ?_)
  refine lv_iload_n S.1 S.2.1 dX6_stands_11 rfl (lv_at hl 0 rfl) ?_
  refine lv_if_eq (tgt := 19) S.1 S.2.1 dX6_stands_12 (by decide) (fun c12 => ?_) (fun c12 => ?_)
  · exact absurd (h7.symm.trans c12) (ref0_ne _)
  · refine lv_iload_n S.1 S.2.1 dX6_stands_15 rfl (lv_at hl 0 rfl) ?_
    refine lv_goto (tgt := 27) S.1 S.2.1 dX6_stands_16 (by decide) ?_
    exact W.iret (v := r7) S.1 S.2.1 hr (fun t ht _ => ⟨⟨r7, (u7.1, u7.2), rfl, h7, by rw [ht]; exact w.1, w.2.1⟩, w.2.2.F ht⟩) w.2.2.2.2 dX6_stands_27
theorem im_X6_witness_X0 : ∀ w ∈ u_ws RX0 TX0 11, w ∈ wsX6_witness := by decide +kernel
theorem im_X6_witness_X6 : ∀ w ∈ u_ws RX6 TX6 9, w ∈ wsX6_witness := by decide +kernel
set_option maxHeartbeats 4000000 in
set_option maxRecDepth 100000 in
theorem n_X6_witness (l : Launch) (G : GT) (aG aC : Nat) (sz : Nat) (aRd aD aL aM aS : Nat) (nB nN nF : Int32) (cI cG cO cK cP cQ : Int32) (aK aX aY aZ : Nat)   : Met l yX6_witness wsX6_witness ({ frames := 3, cells := 0, slots := 0, locals := 65 }) (va_Pc [.ref aG] (wPre G [(aG, .inr (6, [.ref aRd, .ref aC, .ref aD, .ref aL, .ref aM, .ref aS, .int nB, .int nN, .int nF])), (aC, .inr (0, [.int 0, .int cI, .int cG, .int cO, .int cK, .int cP, .int cQ, .ref aK, .ref aX, .ref aY, .ref aZ]))] sz)) (va_Qi (fun (r : Int32) (u : Int32 × Int32) => r = refusalF 0 1) (bW G (va_A [(aG, .inr (6, [.ref aRd, .ref aC, .ref aD, .ref aL, .ref aM, .ref aS, .int nB, .int nN, .int nF])), (aC, .inr (0, [.int 0, .int cI, .int cG, .int cO, .int cK, .int cP, .int cQ, .ref aK, .ref aX, .ref aY, .ref aZ]))] sz) (fun u : Int32 × Int32 => [(aG, .inr (6, [.ref aRd, .ref aC, .ref aD, .ref aL, .ref aM, .ref aS, .int u.1, .int u.2, .int nF])), (aC, .inr (0, [.int 0, .int cI, .int cG, .int cO, .int cK, .int cP, .int cQ, .ref aK, .ref aX, .ref aY, .ref aZ]))])) (va_A [(aG, .inr (6, [.ref aRd, .ref aC, .ref aD, .ref aL, .ref aM, .ref aS, .int nB, .int nN, .int nF])), (aC, .inr (0, [.int 0, .int cI, .int cG, .int cO, .int cK, .int cP, .int cQ, .ref aK, .ref aX, .ref aY, .ref aZ]))] sz)) 0 0 (va_A [(aG, .inr (6, [.ref aRd, .ref aC, .ref aD, .ref aL, .ref aM, .ref aS, .int nB, .int nN, .int nF])), (aC, .inr (0, [.int 0, .int cI, .int cG, .int cO, .int cK, .int cP, .int cQ, .ref aK, .ref aX, .ref aY, .ref aZ]))] sz) := by
  refine met_go (cc := cX6_witness) (maxL := 2) (ret := (some .int)) (own := RX6) (by decide) rfl rfl (Nat.le_of_ble_eq_true rfl) ?_
  intro p e s m below meth c ls S hr hlocks hname hsz C w hl
  have hl : lv_has ls 2 [(0, .ref aG)] := hl
  refine lv_aload_n S.1 S.2.1 dX6_witness_0 rfl (lv_at hl 0 rfl) ?_
  refine lv_iconst (v := 1) S.1 S.2.1 dX6_witness_1 (by decide) ?_
  refine lv_aload_n S.1 S.2.1 dX6_witness_2 rfl (lv_at hl 0 rfl) ?_
  refine w_get S C w (CC := RX6) (T := TX6) (N := 9) (ref := "GateSums") im_X6_witness_X6 0 rfl rfl 1 (by decide) (List.mem_of_getElem? (i := 1) rfl) (fun _ h => h) rfl dX6_witness_3 ?_
  refine w_get S C w (CC := RX0) (T := TX0) (N := 11) (ref := "GateSums$Circuit") im_X6_witness_X0 1 rfl rfl 2 (by decide) (List.mem_of_getElem? (i := 2) rfl) (fun _ h => h) rfl dX6_witness_6 ?_
  refine cq_i C w [0, 1] [] [0, 1] (wr := []) (w' := fun u : Int32 × Int32 => [(aG, .inr (6, [.ref aRd, .ref aC, .ref aD, .ref aL, .ref aM, .ref aS, .int u.1, .int u.2, .int nF])), (aC, .inr (0, [.int 0, .int cI, .int cG, .int cO, .int cK, .int cP, .int cQ, .ref aK, .ref aX, .ref aY, .ref aZ]))]) (ws2 := fun u : Int32 × Int32 => [(aG, .inr (6, [.ref aRd, .ref aC, .ref aD, .ref aL, .ref aM, .ref aS, .int u.1, .int u.2, .int nF])), (aC, .inr (0, [.int 0, .int cI, .int cG, .int cO, .int cK, .int cP, .int cQ, .ref aK, .ref aX, .ref aY, .ref aZ]))]) rfl rfl rfl (by decide) rfl (fun _ => rfl) (va_runV (As := [.int 1, .int cG]) (rest := []) S (n_X6_stageRefusal l G aG aC _ aRd aD aL aM aS nB nN nF cI cG cO cK cP cQ aK aX aY aZ 1 cG) (cwV 2 S.2.2.2.2 gX6_witness_X6_stageRefusal rfl rfl rfl (by decide +kernel) ⟨Nat.le_of_ble_eq_true rfl, Nat.le_of_ble_eq_true rfl⟩) ⟨wPre_blind, va_recv C.1 w.1 (ci := 6) (q0 := 0) rfl rfl, wPre_at C w [0, 1] rfl rfl⟩ rfl rfl hl.1 rfl (lv_room (Nat.le_of_ble_eq_true rfl)) dX6_witness_9 ⟨Nat.le_of_ble_eq_true rfl, Nat.le_of_ble_eq_true rfl⟩) (fun r9 u9 H locs h9 w => ?_)
  have w : Wd G _ s [(aG, .inr (6, [.ref aRd, .ref aC, .ref aD, .ref aL, .ref aM, .ref aS, .int u9.1, .int u9.2, .int nF])), (aC, .inr (0, [.int 0, .int cI, .int cG, .int cO, .int cK, .int cP, .int cQ, .ref aK, .ref aX, .ref aY, .ref aZ]))] H locs := w
  refine lv_istore_n (lv' := [(1, .int r9), (0, .ref aG)]) S.1 S.2.1 dX6_witness_12 rfl hl (by decide) rfl (fun ls hl => ?_)
  refine lv_iload_n S.1 S.2.1 dX6_witness_13 rfl (lv_at hl 0 rfl) ?_
  refine lv_if_eq (tgt := 21) S.1 S.2.1 dX6_witness_14 (by decide) (fun c14 => ?_) (fun c14 => ?_)
  · exact absurd (h9.symm.trans c14) (ref0_ne _)
  · refine lv_iload_n S.1 S.2.1 dX6_witness_17 rfl (lv_at hl 0 rfl) ?_
    refine lv_goto (tgt := 35) S.1 S.2.1 dX6_witness_18 (by decide) ?_
    exact W.iret (v := r9) S.1 S.2.1 hr (fun t ht _ => ⟨⟨r9, (u9.1, u9.2), rfl, h9, by rw [ht]; exact w.1, w.2.1⟩, w.2.2.F ht⟩) w.2.2.2.2 dX6_witness_35
