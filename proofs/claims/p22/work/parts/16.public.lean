theorem im_X6_stageRefusal_X6 : ∀ w ∈ u_ws RX6 TX6 9, w ∈ wsX6_stageRefusal := by decide +kernel
theorem im_X6_right_X0 : ∀ w ∈ u_ws RX0 TX0 11, w ∈ wsX6_right := by decide +kernel
theorem im_X6_right_X6 : ∀ w ∈ u_ws RX6 TX6 9, w ∈ wsX6_right := by decide +kernel
theorem im_X6_terms_X6 : ∀ w ∈ u_ws RX6 TX6 9, w ∈ wsX6_terms := by decide +kernel
theorem im_X6_term_X6 : ∀ w ∈ u_ws RX6 TX6 9, w ∈ wsX6_term := by decide +kernel
theorem im_X6_dearest_X6 : ∀ w ∈ u_ws RX6 TX6 9, w ∈ wsX6_dearest := by decide +kernel
theorem im_X6_stands_X6 : ∀ w ∈ u_ws RX6 TX6 9, w ∈ wsX6_stands := by decide +kernel
theorem im_X6_witness_X0 : ∀ w ∈ u_ws RX0 TX0 11, w ∈ wsX6_witness := by decide +kernel
theorem im_X6_witness_X6 : ∀ w ∈ u_ws RX6 TX6 9, w ∈ wsX6_witness := by decide +kernel
theorem im_X6_most_X0 : ∀ w ∈ u_ws RX0 TX0 11, w ∈ wsX6_most := by decide +kernel
theorem im_X6_most_X6 : ∀ w ∈ u_ws RX6 TX6 9, w ∈ wsX6_most := by decide +kernel
theorem im_X6_value_X6 : ∀ w ∈ u_ws RX6 TX6 9, w ∈ wsX6_value := by decide +kernel
theorem im_X6_of_X0 : ∀ w ∈ u_ws RX0 TX0 11, w ∈ wsX6_of := by decide +kernel
theorem im_X6_of_X6 : ∀ w ∈ u_ws RX6 TX6 9, w ∈ wsX6_of := by decide +kernel
theorem im_X6_told_X0 : ∀ w ∈ u_ws RX0 TX0 11, w ∈ wsX6_told := by decide +kernel
theorem im_X6_told_X6 : ∀ w ∈ u_ws RX6 TX6 9, w ∈ wsX6_told := by decide +kernel
theorem im_X6_runs_X6 : ∀ w ∈ u_ws RX6 TX6 9, w ∈ wsX6_runs := by decide +kernel
theorem im_X6_signal_X6 : ∀ w ∈ u_ws RX6 TX6 9, w ∈ wsX6_signal := by decide +kernel
theorem im_X6_wrong_X6 : ∀ w ∈ u_ws RX6 TX6 9, w ∈ wsX6_wrong := by decide +kernel
theorem im_X6_kind_X0 : ∀ w ∈ u_ws RX0 TX0 11, w ∈ wsX6_kind := by decide +kernel
theorem im_X6_kind_X6 : ∀ w ∈ u_ws RX6 TX6 9, w ∈ wsX6_kind := by decide +kernel
theorem im_X6_wire_X0 : ∀ w ∈ u_ws RX0 TX0 11, w ∈ wsX6_wire := by decide +kernel
theorem im_X6_wire_X6 : ∀ w ∈ u_ws RX6 TX6 9, w ∈ wsX6_wire := by decide +kernel
theorem im_X6_cures_X6 : ∀ w ∈ u_ws RX6 TX6 9, w ∈ wsX6_cures := by decide +kernel
set_option maxHeartbeats 4000000 in
set_option maxRecDepth 100000 in
theorem w_X6_cures (l : Launch) (G : GT) (aG aC aK aX aY aZ aM aN : Nat) (sz : Nat) (aRd aD aL aS : Nat) (nB nN nF : Int32) (cT cI cG cO cK cP cQ : Int32) (fK fX fY fZ : Nat → Int32) (gN : Nat → Int64) (i0 : Int32) : Met l yX6_cures wsX6_cures ({ frames := 5, cells := 0, slots := 0, locals := 112 }) (va_Pc [.ref aG, .int i0] (wPre G [(aG, .inr (6, [.ref aRd, .ref aC, .ref aD, .ref aL, .ref aM, .ref aS, .int nB, .int nN, .int nF])), (aC, .inr (0, [.int cT, .int cI, .int cG, .int cO, .int cK, .int cP, .int cQ, .ref aK, .ref aX, .ref aY, .ref aZ])), (aK, .inl (G.2.1 2, 12, .inl fK)), (aX, .inl (G.2.1 2, 12, .inl fX)), (aY, .inl (G.2.1 2, 12, .inl fY)), (aZ, .inl (G.2.1 2, 7, .inl fZ)), (aM, .inr (1, [.ref aN])), (aN, .inl (G.2.1 3, 18, .inr (.inl gN)))] sz)) (va_Qi (fun (r : Int32) (u : Int32 × Int32 × (Nat → Int64)) => True) (bW G (va_A [(aG, .inr (6, [.ref aRd, .ref aC, .ref aD, .ref aL, .ref aM, .ref aS, .int nB, .int nN, .int nF])), (aC, .inr (0, [.int cT, .int cI, .int cG, .int cO, .int cK, .int cP, .int cQ, .ref aK, .ref aX, .ref aY, .ref aZ])), (aK, .inl (G.2.1 2, 12, .inl fK)), (aX, .inl (G.2.1 2, 12, .inl fX)), (aY, .inl (G.2.1 2, 12, .inl fY)), (aZ, .inl (G.2.1 2, 7, .inl fZ)), (aM, .inr (1, [.ref aN])), (aN, .inl (G.2.1 3, 18, .inr (.inl gN)))] sz) (fun u : Int32 × Int32 × (Nat → Int64) => [(aG, .inr (6, [.ref aRd, .ref aC, .ref aD, .ref aL, .ref aM, .ref aS, .int u.1, .int u.2.1, .int nF])), (aC, .inr (0, [.int cT, .int cI, .int cG, .int cO, .int cK, .int cP, .int cQ, .ref aK, .ref aX, .ref aY, .ref aZ])), (aK, .inl (G.2.1 2, 12, .inl fK)), (aX, .inl (G.2.1 2, 12, .inl fX)), (aY, .inl (G.2.1 2, 12, .inl fY)), (aZ, .inl (G.2.1 2, 7, .inl fZ)), (aM, .inr (1, [.ref aN])), (aN, .inl (G.2.1 3, 18, .inr (.inl u.2.2)))])) (va_A [(aG, .inr (6, [.ref aRd, .ref aC, .ref aD, .ref aL, .ref aM, .ref aS, .int nB, .int nN, .int nF])), (aC, .inr (0, [.int cT, .int cI, .int cG, .int cO, .int cK, .int cP, .int cQ, .ref aK, .ref aX, .ref aY, .ref aZ])), (aK, .inl (G.2.1 2, 12, .inl fK)), (aX, .inl (G.2.1 2, 12, .inl fX)), (aY, .inl (G.2.1 2, 12, .inl fY)), (aZ, .inl (G.2.1 2, 7, .inl fZ)), (aM, .inr (1, [.ref aN])), (aN, .inl (G.2.1 3, 18, .inr (.inl gN)))] sz)) 0 0 (va_A [(aG, .inr (6, [.ref aRd, .ref aC, .ref aD, .ref aL, .ref aM, .ref aS, .int nB, .int nN, .int nF])), (aC, .inr (0, [.int cT, .int cI, .int cG, .int cO, .int cK, .int cP, .int cQ, .ref aK, .ref aX, .ref aY, .ref aZ])), (aK, .inl (G.2.1 2, 12, .inl fK)), (aX, .inl (G.2.1 2, 12, .inl fX)), (aY, .inl (G.2.1 2, 12, .inl fY)), (aZ, .inl (G.2.1 2, 7, .inl fZ)), (aM, .inr (1, [.ref aN])), (aN, .inl (G.2.1 3, 18, .inr (.inl gN)))] sz) := by
  refine met_go (cc := cX6_cures) (maxL := 5) (ret := (some .int)) (own := RX6) (by decide) rfl rfl (Nat.le_of_ble_eq_true rfl) ?_
  intro p e s m below meth c ls S hr hlocks hname hsz C w hl
  have hl : lv_has ls 5 [(0, .ref aG), (1, .int i0)] := hl
  refine lv_aload_n S.1 S.2.1 dX6_cures_0 rfl (lv_at hl 0 rfl) ?_
  refine lv_aload_n S.1 S.2.1 dX6_cures_1 rfl (lv_at hl 0 rfl) ?_
  refine lv_iload_n S.1 S.2.1 dX6_cures_2 rfl (lv_at hl 1 rfl) ?_
  refine cs_i (va_runV (As := [.int i0]) (rest := [.ref aG]) S (c_X6_isGate l G aG aC _ aRd aD aL aM aS nB nN nF cT cI cG cO cK cP cQ aK aX aY aZ i0) (cwV 1 S.2.2.2.2 gX6_cures_X6_isGate rfl rfl rfl (by decide +kernel) ⟨Nat.le_of_ble_eq_true rfl, Nat.le_of_ble_eq_true rfl⟩) ⟨wPre_blind, va_recv C.1 w.1 (ci := 6) (q0 := 0) rfl rfl, wPre_at C w [0, 1] rfl rfl⟩ rfl rfl hl.1 rfl (lv_room (Nat.le_of_ble_eq_true rfl)) dX6_cures_3 ⟨Nat.le_of_ble_eq_true rfl, Nat.le_of_ble_eq_true rfl⟩) (fun r3 h3 => ?_)
  refine w_topi (y := (isGateF cT cG i0)) h3 ?_
  refine cq_i C w [0, 1] [2, 3, 4, 5, 6, 7] [6, 7, 0, 1, 2, 3, 4, 5] (wr := [(aK, .inl (G.2.1 2, 12, .inl fK)), (aX, .inl (G.2.1 2, 12, .inl fX)), (aY, .inl (G.2.1 2, 12, .inl fY)), (aZ, .inl (G.2.1 2, 7, .inl fZ)), (aM, .inr (1, [.ref aN])), (aN, .inl (G.2.1 3, 18, .inr (.inl gN)))]) (w' := fun u : Unit => [(aG, .inr (6, [.ref aRd, .ref aC, .ref aD, .ref aL, .ref aM, .ref aS, .int (if (isGateF cT cG i0) = 0 then nB + 1 else nB), .int (if (isGateF cT cG i0) = 0 then nN else if cT = 0 then nN + 1 else nN), .int nF])), (aC, .inr (0, [.int cT, .int cI, .int cG, .int cO, .int cK, .int cP, .int cQ, .ref aK, .ref aX, .ref aY, .ref aZ]))]) (ws2 := fun u : Unit => [(aG, .inr (6, [.ref aRd, .ref aC, .ref aD, .ref aL, .ref aM, .ref aS, .int (if (isGateF cT cG i0) = 0 then nB + 1 else nB), .int (if (isGateF cT cG i0) = 0 then nN else if cT = 0 then nN + 1 else nN), .int nF])), (aC, .inr (0, [.int cT, .int cI, .int cG, .int cO, .int cK, .int cP, .int cQ, .ref aK, .ref aX, .ref aY, .ref aZ])), (aK, .inl (G.2.1 2, 12, .inl fK)), (aX, .inl (G.2.1 2, 12, .inl fX)), (aY, .inl (G.2.1 2, 12, .inl fY)), (aZ, .inl (G.2.1 2, 7, .inl fZ)), (aM, .inr (1, [.ref aN])), (aN, .inl (G.2.1 3, 18, .inr (.inl gN)))]) rfl rfl rfl (by decide) rfl (fun _ => rfl) (va_runV (As := [.int (isGateF cT cG i0)]) (rest := []) S (c_X6_refusal l G aG aC _ aRd aD aL aM aS nB nN nF cT cI cG cO cK cP cQ aK aX aY aZ (isGateF cT cG i0)) (cwV 1 S.2.2.2.2 gX6_cures_X6_refusal rfl rfl rfl (by decide +kernel) ⟨Nat.le_of_ble_eq_true rfl, Nat.le_of_ble_eq_true rfl⟩) ⟨wPre_blind, va_recv C.1 w.1 (ci := 6) (q0 := 0) rfl rfl, wPre_at C w [0, 1] rfl rfl⟩ rfl rfl hl.1 rfl (lv_room (Nat.le_of_ble_eq_true rfl)) dX6_cures_6 ⟨Nat.le_of_ble_eq_true rfl, Nat.le_of_ble_eq_true rfl⟩) (fun r6 u6 H locs h6 w => ?_)
  have w : Wd G _ s [(aG, .inr (6, [.ref aRd, .ref aC, .ref aD, .ref aL, .ref aM, .ref aS, .int (if (isGateF cT cG i0) = 0 then nB + 1 else nB), .int (if (isGateF cT cG i0) = 0 then nN else if cT = 0 then nN + 1 else nN), .int nF])), (aC, .inr (0, [.int cT, .int cI, .int cG, .int cO, .int cK, .int cP, .int cQ, .ref aK, .ref aX, .ref aY, .ref aZ])), (aK, .inl (G.2.1 2, 12, .inl fK)), (aX, .inl (G.2.1 2, 12, .inl fX)), (aY, .inl (G.2.1 2, 12, .inl fY)), (aZ, .inl (G.2.1 2, 7, .inl fZ)), (aM, .inr (1, [.ref aN])), (aN, .inl (G.2.1 3, 18, .inr (.inl gN)))] H locs := w
  refine lv_istore_n (lv' := [(2, .int r6), (0, .ref aG), (1, .int i0)]) S.1 S.2.1 dX6_cures_9 rfl hl (by decide) rfl (fun ls hl => ?_)
  refine lv_iload_n S.1 S.2.1 dX6_cures_10 rfl (lv_at hl 0 rfl) ?_
  refine lv_if_eq (tgt := 16) S.1 S.2.1 dX6_cures_11 (by decide) (fun c11 => ?_) (fun c11 => ?_)
  · refine lv_iconst (v := 0) S.1 S.2.1 dX6_cures_16 (by decide) ?_
    refine lv_istore_n (lv' := [(3, .int 0), (2, .int r6), (0, .ref aG), (1, .int i0)]) S.1 S.2.1 dX6_cures_17 rfl hl (by decide) rfl (fun ls hl => ?_)
    refine lv_iconst (v := 0) S.1 S.2.1 dX6_cures_18 (by decide) ?_
    refine lv_istore (lv' := [(4, .int 0), (3, .int 0), (2, .int r6), (0, .ref aG), (1, .int i0)]) S.1 S.2.1 dX6_cures_19 hl (by decide) rfl (fun ls hl => ?_)
    refine w_loop (G := G) (σ := Nat × Int32 × (Nat → Int64)) (nL := 5) 21 (fun x21 => 8 - x21.1) (fun x21 => x21.1 ≤ 8) (fun x21 => [(aG, .inr (6, [.ref aRd, .ref aC, .ref aD, .ref aL, .ref aM, .ref aS, .int (if (isGateF cT cG i0) = 0 then nB + 1 else nB), .int (if (isGateF cT cG i0) = 0 then nN else if cT = 0 then nN + 1 else nN), .int nF])), (aC, .inr (0, [.int cT, .int cI, .int cG, .int cO, .int cK, .int cP, .int cQ, .ref aK, .ref aX, .ref aY, .ref aZ])), (aK, .inl (G.2.1 2, 12, .inl fK)), (aX, .inl (G.2.1 2, 12, .inl fX)), (aY, .inl (G.2.1 2, 12, .inl fY)), (aZ, .inl (G.2.1 2, 7, .inl fZ)), (aM, .inr (1, [.ref aN])), (aN, .inl (G.2.1 3, 18, .inr (.inl x21.2.2)))]) (fun x21 => [(4, .int (nI x21.1)), (3, .int x21.2.1), (2, .int r6), (0, .ref aG), (1, .int i0)]) (fun _ => []) ?_ (0, 0, gN) ls _ _ (Nat.zero_le _) w (lv_sub hl [0, 1, 2, 3, 4] rfl)
    intro x21 ls H locs hI21 w hl ih21
    have w : Wd G _ s [(aG, .inr (6, [.ref aRd, .ref aC, .ref aD, .ref aL, .ref aM, .ref aS, .int (if (isGateF cT cG i0) = 0 then nB + 1 else nB), .int (if (isGateF cT cG i0) = 0 then nN else if cT = 0 then nN + 1 else nN), .int nF])), (aC, .inr (0, [.int cT, .int cI, .int cG, .int cO, .int cK, .int cP, .int cQ, .ref aK, .ref aX, .ref aY, .ref aZ])), (aK, .inl (G.2.1 2, 12, .inl fK)), (aX, .inl (G.2.1 2, 12, .inl fX)), (aY, .inl (G.2.1 2, 12, .inl fY)), (aZ, .inl (G.2.1 2, 7, .inl fZ)), (aM, .inr (1, [.ref aN])), (aN, .inl (G.2.1 3, 18, .inr (.inl x21.2.2)))] H locs := w
    have hl : lv_has ls 5 [(4, .int (nI x21.1)), (3, .int x21.2.1), (2, .int r6), (0, .ref aG), (1, .int i0)] := hl
    refine lv_iload S.1 S.2.1 dX6_cures_21 (lv_at hl 0 rfl) ?_
    refine lv_bipush (v := 8) S.1 S.2.1 dX6_cures_23 (by decide) ?_
    refine lv_icmp_ge (tgt := 87) S.1 S.2.1 dX6_cures_25 (by decide) (fun c25 => ?_) (fun c25 => ?_)
    · refine lv_iload_n S.1 S.2.1 dX6_cures_87 rfl (lv_at hl 1 rfl) ?_
      exact W.iret (v := x21.2.1) S.1 S.2.1 hr (fun t ht _ => ⟨⟨x21.2.1, ((if (isGateF cT cG i0) = 0 then nB + 1 else nB), (if (isGateF cT cG i0) = 0 then nN else if cT = 0 then nN + 1 else nN), x21.2.2), rfl, trivial, by rw [ht]; exact w.1, w.2.1⟩, w.2.2.F ht⟩) w.2.2.2.2 dX6_cures_88
    · refine lv_aload_n S.1 S.2.1 dX6_cures_28 rfl (lv_at hl 3 rfl) ?_
      refine w_get S C w (CC := RX6) (T := TX6) (N := 9) (ref := "GateSums") im_X6_cures_X6 0 rfl rfl 1 (by decide) (List.mem_of_getElem? (i := 1) rfl) (fun _ h => h) rfl dX6_cures_29 ?_
      refine lv_iload_n S.1 S.2.1 dX6_cures_32 rfl (lv_at hl 4 rfl) ?_
      refine lv_iload S.1 S.2.1 dX6_cures_33 (lv_at hl 0 rfl) ?_
      refine cs_i (va_runV (As := [.int i0, .int (nI x21.1)]) (rest := []) S (c_X0_mayPut l G aC aK _ cT cI cG cO cK cP cQ aX aY aZ fK i0 (nI x21.1)) (cwV 2 S.2.2.2.2 gX6_cures_X0_mayPut rfl rfl rfl (by decide +kernel) ⟨Nat.le_of_ble_eq_true rfl, Nat.le_of_ble_eq_true rfl⟩) ⟨wPre_blind, va_recv C.1 w.1 (ci := 0) (q0 := 1) rfl rfl, wPre_at C w [1, 2] rfl rfl⟩ rfl rfl hl.1 rfl (lv_room (Nat.le_of_ble_eq_true rfl)) dX6_cures_35 ⟨Nat.le_of_ble_eq_true rfl, Nat.le_of_ble_eq_true rfl⟩) (fun r35 h35 => ?_)
      refine w_topi (y := (mayPutF cT (atF fK 12 i0) (nI x21.1))) h35 ?_
      refine lv_if_eq (tgt := 81) S.1 S.2.1 dX6_cures_38 (by decide) (fun c38 => ?_) (fun c38 => ?_)
      · refine lv_iinc (v := (nI (x21.1 + 1))) (lv' := [(4, .int (nI (x21.1 + 1))), (3, .int x21.2.1), (2, .int r6), (0, .ref aG), (1, .int i0)]) S.1 S.2.1 dX6_cures_81 hl (k := 0) rfl (nI_1 _) (by decide) rfl (fun ls hl => ?_)
        refine lv_goto (tgt := 21) S.1 S.2.1 dX6_cures_84 (by decide) ?_
        have hj8 : x21.1 < 8 := by have h := c25; rw [show (8 : Int32) = nI 8 from rfl, nI_leI (by decide) (by omega)] at h; omega
        exact ih21 (x21.1 + 1, x21.2.1, x21.2.2) ls _ _ (by show _ + 1 ≤ 8; omega) (by show 8 - (_ + 1) < 8 - _; omega) w (lv_sub hl [0, 1, 2, 3, 4] rfl)
      · refine lv_aload_n S.1 S.2.1 dX6_cures_41 rfl (lv_at hl 3 rfl) ?_
        refine w_get S C w (CC := RX6) (T := TX6) (N := 9) (ref := "GateSums") im_X6_cures_X6 0 rfl rfl 4 (by decide) (List.mem_of_getElem? (i := 2) rfl) (fun _ h => h) rfl dX6_cures_42 ?_
        refine lv_aload_n S.1 S.2.1 dX6_cures_45 rfl (lv_at hl 3 rfl) ?_
        refine w_get S C w (CC := RX6) (T := TX6) (N := 9) (ref := "GateSums") im_X6_cures_X6 0 rfl rfl 1 (by decide) (List.mem_of_getElem? (i := 1) rfl) (fun _ h => h) rfl dX6_cures_46 ?_
        refine lv_iload_n S.1 S.2.1 dX6_cures_49 rfl (lv_at hl 4 rfl) ?_
        refine lv_iload S.1 S.2.1 dX6_cures_50 (lv_at hl 0 rfl) ?_
        refine cq_v C w [6, 7, 1, 2, 3, 4] [0, 5] [0, 4, 5, 6, 7, 1, 2, 3] (wr := [(aG, .inr (6, [.ref aRd, .ref aC, .ref aD, .ref aL, .ref aM, .ref aS, .int (if (isGateF cT cG i0) = 0 then nB + 1 else nB), .int (if (isGateF cT cG i0) = 0 then nN else if cT = 0 then nN + 1 else nN), .int nF])), (aZ, .inl (G.2.1 2, 7, .inl fZ))]) (w' := fun u : Unit => [(aM, .inr (1, [.ref aN])), (aN, .inl (G.2.1 3, 18, .inr (.inl (colsF cI cG fK fX fY i0 (nI x21.1) x21.2.2)))), (aC, .inr (0, [.int cT, .int cI, .int cG, .int cO, .int cK, .int cP, .int cQ, .ref aK, .ref aX, .ref aY, .ref aZ])), (aK, .inl (G.2.1 2, 12, .inl fK)), (aX, .inl (G.2.1 2, 12, .inl fX)), (aY, .inl (G.2.1 2, 12, .inl fY))]) (ws2 := fun u : Unit => [(aG, .inr (6, [.ref aRd, .ref aC, .ref aD, .ref aL, .ref aM, .ref aS, .int (if (isGateF cT cG i0) = 0 then nB + 1 else nB), .int (if (isGateF cT cG i0) = 0 then nN else if cT = 0 then nN + 1 else nN), .int nF])), (aC, .inr (0, [.int cT, .int cI, .int cG, .int cO, .int cK, .int cP, .int cQ, .ref aK, .ref aX, .ref aY, .ref aZ])), (aK, .inl (G.2.1 2, 12, .inl fK)), (aX, .inl (G.2.1 2, 12, .inl fX)), (aY, .inl (G.2.1 2, 12, .inl fY)), (aZ, .inl (G.2.1 2, 7, .inl fZ)), (aM, .inr (1, [.ref aN])), (aN, .inl (G.2.1 3, 18, .inr (.inl (colsF cI cG fK fX fY i0 (nI x21.1) x21.2.2))))]) rfl rfl rfl (by decide) rfl (fun _ => rfl) (va_runV (As := [.ref aC, .int i0, .int (nI x21.1)]) (rest := []) S (c_X1_fill l G aM aN aC aK aX aY _ x21.2.2 cT cI cG cO cK cP cQ aZ fK fX fY i0 (nI x21.1)) (cwV 3 S.2.2.2.2 gX6_cures_X1_fill rfl rfl rfl (by decide +kernel) ⟨Nat.le_of_ble_eq_true rfl, Nat.le_of_ble_eq_true rfl⟩) ⟨wPre_blind, va_recv C.1 w.1 (ci := 1) (q0 := 6) rfl rfl, wPre_at C w [6, 7, 1, 2, 3, 4] rfl rfl⟩ rfl rfl hl.1 rfl (lv_room (Nat.le_of_ble_eq_true rfl)) dX6_cures_52 ⟨Nat.le_of_ble_eq_true rfl, Nat.le_of_ble_eq_true rfl⟩) (fun u52 H locs h52 w => ?_)
        have w : Wd G _ s [(aG, .inr (6, [.ref aRd, .ref aC, .ref aD, .ref aL, .ref aM, .ref aS, .int (if (isGateF cT cG i0) = 0 then nB + 1 else nB), .int (if (isGateF cT cG i0) = 0 then nN else if cT = 0 then nN + 1 else nN), .int nF])), (aC, .inr (0, [.int cT, .int cI, .int cG, .int cO, .int cK, .int cP, .int cQ, .ref aK, .ref aX, .ref aY, .ref aZ])), (aK, .inl (G.2.1 2, 12, .inl fK)), (aX, .inl (G.2.1 2, 12, .inl fX)), (aY, .inl (G.2.1 2, 12, .inl fY)), (aZ, .inl (G.2.1 2, 7, .inl fZ)), (aM, .inr (1, [.ref aN])), (aN, .inl (G.2.1 3, 18, .inr (.inl (colsF cI cG fK fX fY i0 (nI x21.1) x21.2.2))))] H locs := w
        refine lv_iload_n S.1 S.2.1 dX6_cures_55 rfl (lv_at hl 1 rfl) ?_
        refine lv_aload_n S.1 S.2.1 dX6_cures_56 rfl (lv_at hl 3 rfl) ?_
        refine w_get S C w (CC := RX6) (T := TX6) (N := 9) (ref := "GateSums") im_X6_cures_X6 0 rfl rfl 4 (by decide) (List.mem_of_getElem? (i := 2) rfl) (fun _ h => h) rfl dX6_cures_57 ?_
        refine lv_aload_n S.1 S.2.1 dX6_cures_60 rfl (lv_at hl 3 rfl) ?_
        refine w_get S C w (CC := RX6) (T := TX6) (N := 9) (ref := "GateSums") im_X6_cures_X6 0 rfl rfl 1 (by decide) (List.mem_of_getElem? (i := 1) rfl) (fun _ h => h) rfl dX6_cures_61 ?_
        refine cs_i (va_runV (As := [.ref aC]) (rest := [.int x21.2.1]) S (c_X1_firstWrong l G aM aN aC aZ _ (colsF cI cG fK fX fY i0 (nI x21.1) x21.2.2) cT cI cG cO cK cP cQ aK aX aY fZ) (cwV 1 S.2.2.2.2 gX6_cures_X1_firstWrong rfl rfl rfl (by decide +kernel) ⟨Nat.le_of_ble_eq_true rfl, Nat.le_of_ble_eq_true rfl⟩) ⟨wPre_blind, va_recv C.1 w.1 (ci := 1) (q0 := 6) rfl rfl, wPre_at C w [6, 7, 1, 5] rfl rfl⟩ rfl rfl hl.1 rfl (lv_room (Nat.le_of_ble_eq_true rfl)) dX6_cures_64 ⟨Nat.le_of_ble_eq_true rfl, Nat.le_of_ble_eq_true rfl⟩) (fun r64 h64 => ?_)
        refine w_topi (y := (firstW (fun j => isWrongF (colsF cI cG fK fX fY i0 (nI x21.1) x21.2.2) cO cK cP cQ fZ (nI j)) (allN cI) 0)) h64 ?_
        refine lv_iconst (v := (-1)) S.1 S.2.1 dX6_cures_67 (by decide) ?_
        refine w_joini 79 [.int x21.2.1] (fun z79 => True) (fun z79 hz79 => ?_) (fun J79 => ?_)
        · refine lv_ior S.1 S.2.1 dX6_cures_79 ?_
          refine lv_istore_n (lv' := [(3, .int (x21.2.1 ||| z79)), (4, .int (nI x21.1)), (2, .int r6), (0, .ref aG), (1, .int i0)]) S.1 S.2.1 dX6_cures_80 rfl hl (by decide) rfl (fun ls hl => ?_)
          refine lv_iinc (v := (nI (x21.1 + 1))) (lv' := [(4, .int (nI (x21.1 + 1))), (3, .int (x21.2.1 ||| z79)), (2, .int r6), (0, .ref aG), (1, .int i0)]) S.1 S.2.1 dX6_cures_81 hl (k := 1) rfl (nI_1 _) (by decide) rfl (fun ls hl => ?_)
          refine lv_goto (tgt := 21) S.1 S.2.1 dX6_cures_84 (by decide) ?_
          have hj8 : x21.1 < 8 := by have h := c25; rw [show (8 : Int32) = nI 8 from rfl, nI_leI (by decide) (by omega)] at h; omega
          exact ih21 (x21.1 + 1, (x21.2.1 ||| z79), (colsF cI cG fK fX fY i0 (nI x21.1) x21.2.2)) ls _ _ (by show _ + 1 ≤ 8; omega) (by show 8 - (_ + 1) < 8 - _; omega) w (lv_sub hl [0, 1, 2, 3, 4] rfl)
        · refine lv_icmp_ne (tgt := 78) S.1 S.2.1 dX6_cures_68 (by decide) (fun c68 => ?_) (fun c68 => ?_)
          · refine lv_iconst (v := 0) S.1 S.2.1 dX6_cures_78 (by decide) ?_
            exact J79 0 (trivial)
          · refine lv_iconst (v := 1) S.1 S.2.1 dX6_cures_71 (by decide) ?_
            refine lv_iload S.1 S.2.1 dX6_cures_72 (lv_at hl 0 rfl) ?_
            refine lv_ishl S.1 S.2.1 dX6_cures_74 ?_
            refine lv_goto (tgt := 79) S.1 S.2.1 dX6_cures_75 (by decide) ?_
            exact J79 ((1 : Int32) <<< ((nI x21.1) &&& 31)) (trivial)
  · refine lv_iload_n S.1 S.2.1 dX6_cures_14 rfl (lv_at hl 0 rfl) ?_
    exact W.iret (v := r6) S.1 S.2.1 hr (fun t ht _ => ⟨⟨r6, ((if (isGateF cT cG i0) = 0 then nB + 1 else nB), (if (isGateF cT cG i0) = 0 then nN else if cT = 0 then nN + 1 else nN), gN), rfl, trivial, by rw [ht]; exact w.1, w.2.1⟩, w.2.2.F ht⟩) w.2.2.2.2 dX6_cures_15
