set_option maxHeartbeats 4000000 in
set_option maxRecDepth 100000 in
theorem k_X6_cures (l : Launch) (G : GT) (aG aC aK aX aY aZ aM aN : Nat) (sz : Nat) (aRd aD aL aS : Nat) (nB nN nF : Int32) (cT cI cG cO cK cP cQ : Int32) (fK fX fY fZ : Nat → Int32) (gN : Nat → Int64) (i0 : Int32) (gW : Nat → Int64) (f : Nat → Int32) (hE : EXW cT cI cG cO cK cP cQ fK fX fY fZ gW f) : Met l yX6_cures wsX6_cures ({ frames := 5, cells := 0, slots := 0, locals := 112 }) (va_Pc [.ref aG, .int i0] (wPre G [(aG, .inr (6, [.ref aRd, .ref aC, .ref aD, .ref aL, .ref aM, .ref aS, .int nB, .int nN, .int nF])), (aC, .inr (0, [.int cT, .int cI, .int cG, .int cO, .int cK, .int cP, .int cQ, .ref aK, .ref aX, .ref aY, .ref aZ])), (aK, .inl (G.2.1 2, 12, .inl fK)), (aX, .inl (G.2.1 2, 12, .inl fX)), (aY, .inl (G.2.1 2, 12, .inl fY)), (aZ, .inl (G.2.1 2, 7, .inl fZ)), (aM, .inr (1, [.ref aN])), (aN, .inl (G.2.1 3, 18, .inr (.inl gN)))] sz)) (va_Qi (fun (r : Int32) (u : Int32 × Int32 × (Nat → Int64)) => r = (if refusalF cT (isGateF cT cG i0) = 0 then cuV f i0 else refusalF cT (isGateF cT cG i0))) (bW G (va_A [(aG, .inr (6, [.ref aRd, .ref aC, .ref aD, .ref aL, .ref aM, .ref aS, .int nB, .int nN, .int nF])), (aC, .inr (0, [.int cT, .int cI, .int cG, .int cO, .int cK, .int cP, .int cQ, .ref aK, .ref aX, .ref aY, .ref aZ])), (aK, .inl (G.2.1 2, 12, .inl fK)), (aX, .inl (G.2.1 2, 12, .inl fX)), (aY, .inl (G.2.1 2, 12, .inl fY)), (aZ, .inl (G.2.1 2, 7, .inl fZ)), (aM, .inr (1, [.ref aN])), (aN, .inl (G.2.1 3, 18, .inr (.inl gN)))] sz) (fun u : Int32 × Int32 × (Nat → Int64) => [(aG, .inr (6, [.ref aRd, .ref aC, .ref aD, .ref aL, .ref aM, .ref aS, .int u.1, .int u.2.1, .int nF])), (aC, .inr (0, [.int cT, .int cI, .int cG, .int cO, .int cK, .int cP, .int cQ, .ref aK, .ref aX, .ref aY, .ref aZ])), (aK, .inl (G.2.1 2, 12, .inl fK)), (aX, .inl (G.2.1 2, 12, .inl fX)), (aY, .inl (G.2.1 2, 12, .inl fY)), (aZ, .inl (G.2.1 2, 7, .inl fZ)), (aM, .inr (1, [.ref aN])), (aN, .inl (G.2.1 3, 18, .inr (.inl u.2.2)))])) (va_A [(aG, .inr (6, [.ref aRd, .ref aC, .ref aD, .ref aL, .ref aM, .ref aS, .int nB, .int nN, .int nF])), (aC, .inr (0, [.int cT, .int cI, .int cG, .int cO, .int cK, .int cP, .int cQ, .ref aK, .ref aX, .ref aY, .ref aZ])), (aK, .inl (G.2.1 2, 12, .inl fK)), (aX, .inl (G.2.1 2, 12, .inl fX)), (aY, .inl (G.2.1 2, 12, .inl fY)), (aZ, .inl (G.2.1 2, 7, .inl fZ)), (aM, .inr (1, [.ref aN])), (aN, .inl (G.2.1 3, 18, .inr (.inl gN)))] sz)) 0 0 (va_A [(aG, .inr (6, [.ref aRd, .ref aC, .ref aD, .ref aL, .ref aM, .ref aS, .int nB, .int nN, .int nF])), (aC, .inr (0, [.int cT, .int cI, .int cG, .int cO, .int cK, .int cP, .int cQ, .ref aK, .ref aX, .ref aY, .ref aZ])), (aK, .inl (G.2.1 2, 12, .inl fK)), (aX, .inl (G.2.1 2, 12, .inl fX)), (aY, .inl (G.2.1 2, 12, .inl fY)), (aZ, .inl (G.2.1 2, 7, .inl fZ)), (aM, .inr (1, [.ref aN])), (aN, .inl (G.2.1 3, 18, .inr (.inl gN)))] sz) := by
  refine met_go (cc := cX6_cures) (maxL := 5) (ret := (some .int)) (own := RX6) (by decide) rfl rfl (Nat.le_of_ble_eq_true rfl) ?_
  intro p e s m below meth c ls S hr hlocks hname hsz C w hl
  have hl : lv_has ls 5 [(0, .ref aG), (1, .int i0)] := hl
  refine lv_aload_n S.1 S.2.1 dX6_cures_0 rfl (lv_at hl 0 rfl) ?_
  refine lv_aload_n S.1 S.2.1 dX6_cures_1 rfl (lv_at hl 0 rfl) ?_
  refine lv_iload_n S.1 S.2.1 dX6_cures_2 rfl (lv_at hl 1 rfl) ?_
  refine cs_i (va_runV (As := [.int i0]) (rest := [.ref aG]) S (c_X6_isGate l G aG aC _ aRd aD aL aM aS nB nN nF cT cI cG cO cK cP cQ aK aX aY aZ i0) (cwV 1 S.2.2.2.2 gX6_cures_X6_isGate rfl rfl rfl (by decide +kernel) ⟨Nat.le_of_ble_eq_true rfl, Nat.le_of_ble_eq_true rfl⟩) ⟨wPre_blind, va_recv C.1 w.1 (ci := 6) (q0 := 0) rfl rfl, wPre_at C w [0, 1] rfl rfl⟩ rfl rfl hl.1 rfl (lv_room (Nat.le_of_ble_eq_true rfl)) dX6_cures_3 ⟨Nat.le_of_ble_eq_true rfl, Nat.le_of_ble_eq_true rfl⟩) (fun r3 h3 => ?_)
  refine w_topi (y := (isGateF cT cG i0)) h3 ?_
  refine cq_i C w [0, 1] [2, 3, 4, 5, 6, 7] [6, 7, 0, 1, 2, 3, 4, 5] (wr := [(aK, .inl (G.2.1 2, 12, .inl fK)), (aX, .inl (G.2.1 2, 12, .inl fX)), (aY, .inl (G.2.1 2, 12, .inl fY)), (aZ, .inl (G.2.1 2, 7, .inl fZ)), (aM, .inr (1, [.ref aN])), (aN, .inl (G.2.1 3, 18, .inr (.inl gN)))]) (w' := fun u : Unit => [(aG, .inr (6, [.ref aRd, .ref aC, .ref aD, .ref aL, .ref aM, .ref aS, .int (if (isGateF cT cG i0) = 0 then nB + 1 else nB), .int (if (isGateF cT cG i0) = 0 then nN else if cT = 0 then nN + 1 else nN), .int nF])), (aC, .inr (0, [.int cT, .int cI, .int cG, .int cO, .int cK, .int cP, .int cQ, .ref aK, .ref aX, .ref aY, .ref aZ]))]) (ws2 := fun u : Unit => [(aG, .inr (6, [.ref aRd, .ref aC, .ref aD, .ref aL, .ref aM, .ref aS, .int (if (isGateF cT cG i0) = 0 then nB + 1 else nB), .int (if (isGateF cT cG i0) = 0 then nN else if cT = 0 then nN + 1 else nN), .int nF])), (aC, .inr (0, [.int cT, .int cI, .int cG, .int cO, .int cK, .int cP, .int cQ, .ref aK, .ref aX, .ref aY, .ref aZ])), (aK, .inl (G.2.1 2, 12, .inl fK)), (aX, .inl (G.2.1 2, 12, .inl fX)), (aY, .inl (G.2.1 2, 12, .inl fY)), (aZ, .inl (G.2.1 2, 7, .inl fZ)), (aM, .inr (1, [.ref aN])), (aN, .inl (G.2.1 3, 18, .inr (.inl gN)))]) rfl rfl rfl (by decide) rfl (fun _ => rfl) (va_runV (As := [.int (isGateF cT cG i0)]) (rest := []) S (c_X6_refusal l G aG aC _ aRd aD aL aM aS nB nN nF cT cI cG cO cK cP cQ aK aX aY aZ (isGateF cT cG i0)) (cwV 1 S.2.2.2.2 gX6_cures_X6_refusal rfl rfl rfl (by decide +kernel) ⟨Nat.le_of_ble_eq_true rfl, Nat.le_of_ble_eq_true rfl⟩) ⟨wPre_blind, va_recv C.1 w.1 (ci := 6) (q0 := 0) rfl rfl, wPre_at C w [0, 1] rfl rfl⟩ rfl rfl hl.1 rfl (lv_room (Nat.le_of_ble_eq_true rfl)) dX6_cures_6 ⟨Nat.le_of_ble_eq_true rfl, Nat.le_of_ble_eq_true rfl⟩) (fun r6 u6 H locs h6 w => ?_)
  have w : Wd G _ s [(aG, .inr (6, [.ref aRd, .ref aC, .ref aD, .ref aL, .ref aM, .ref aS, .int (if (isGateF cT cG i0) = 0 then nB + 1 else nB), .int (if (isGateF cT cG i0) = 0 then nN else if cT = 0 then nN + 1 else nN), .int nF])), (aC, .inr (0, [.int cT, .int cI, .int cG, .int cO, .int cK, .int cP, .int cQ, .ref aK, .ref aX, .ref aY, .ref aZ])), (aK, .inl (G.2.1 2, 12, .inl fK)), (aX, .inl (G.2.1 2, 12, .inl fX)), (aY, .inl (G.2.1 2, 12, .inl fY)), (aZ, .inl (G.2.1 2, 7, .inl fZ)), (aM, .inr (1, [.ref aN])), (aN, .inl (G.2.1 3, 18, .inr (.inl gN)))] H locs := w
  refine lv_istore_n (lv' := [(2, .int r6), (0, .ref aG), (1, .int i0)]) S.1 S.2.1 dX6_cures_9 rfl hl (by decide) rfl (fun ls hl => ?_)
  refine lv_iload_n S.1 S.2.1 dX6_cures_10 rfl (lv_at hl 0 rfl) ?_
  refine lv_if_eq (tgt := 16) S.1 S.2.1 dX6_cures_11 (by decide) (fun c11 => ?_) (fun c11 => ?_)
  · have hr0 : refusalF cT (isGateF cT cG i0) = 0 := (h6).symm.trans c11
    obtain ⟨hz0, ht0⟩ := ref_00 hr0
    obtain ⟨ht1, hth, hrc, n_, g_, o_, e1, e2, ho, wf, wo, ga, go⟩ := hE.parts ht0
    obtain ⟨q0, q1, q2, q3, q4, q5, _⟩ := id hrc
    have hgm : ¬ gateM f i0 = 0 := by rw [← gate_th (q1.trans e1) e1 wf.2.2.1 hth, ← ht1]; exact hz0
    obtain ⟨kK, hk12, hie, hic, hak, _, _, g2, hkg, hg2, e3⟩ := rc_gate hrc hth hgm
    have eg : g_ = g2 := nI_inj (by have := wf.2.2.1; omega) (by omega) (e1.symm.trans e3)
    subst eg
    refine lv_iconst (v := 0) S.1 S.2.1 dX6_cures_16 (by decide) ?_
    refine lv_istore_n (lv' := [(3, .int 0), (2, .int r6), (0, .ref aG), (1, .int i0)]) S.1 S.2.1 dX6_cures_17 rfl hl (by decide) rfl (fun ls hl => ?_)
    refine lv_iconst (v := 0) S.1 S.2.1 dX6_cures_18 (by decide) ?_
    refine lv_istore (lv' := [(4, .int 0), (3, .int 0), (2, .int r6), (0, .ref aG), (1, .int i0)]) S.1 S.2.1 dX6_cures_19 hl (by decide) rfl (fun ls hl => ?_)
    refine w_loop (G := G) (σ := Nat × Int32 × (Nat → Int64)) (nL := 5) 21 (fun x21 => 8 - x21.1) (fun x21 => x21.1 ≤ 8 ∧ x21.2.1 = foldF (cu1 f g_ o_ kK) x21.1 0) (fun x21 => [(aG, .inr (6, [.ref aRd, .ref aC, .ref aD, .ref aL, .ref aM, .ref aS, .int (if (isGateF cT cG i0) = 0 then nB + 1 else nB), .int (if (isGateF cT cG i0) = 0 then nN else if cT = 0 then nN + 1 else nN), .int nF])), (aC, .inr (0, [.int cT, .int cI, .int cG, .int cO, .int cK, .int cP, .int cQ, .ref aK, .ref aX, .ref aY, .ref aZ])), (aK, .inl (G.2.1 2, 12, .inl fK)), (aX, .inl (G.2.1 2, 12, .inl fX)), (aY, .inl (G.2.1 2, 12, .inl fY)), (aZ, .inl (G.2.1 2, 7, .inl fZ)), (aM, .inr (1, [.ref aN])), (aN, .inl (G.2.1 3, 18, .inr (.inl x21.2.2)))]) (fun x21 => [(4, .int (nI x21.1)), (3, .int x21.2.1), (2, .int r6), (0, .ref aG), (1, .int i0)]) (fun _ => []) ?_ (0, 0, gN) ls _ _ (⟨Nat.zero_le _, rfl⟩) w (lv_sub hl [0, 1, 2, 3, 4] rfl)
    intro x21 ls H locs hI21 w hl ih21
    have w : Wd G _ s [(aG, .inr (6, [.ref aRd, .ref aC, .ref aD, .ref aL, .ref aM, .ref aS, .int (if (isGateF cT cG i0) = 0 then nB + 1 else nB), .int (if (isGateF cT cG i0) = 0 then nN else if cT = 0 then nN + 1 else nN), .int nF])), (aC, .inr (0, [.int cT, .int cI, .int cG, .int cO, .int cK, .int cP, .int cQ, .ref aK, .ref aX, .ref aY, .ref aZ])), (aK, .inl (G.2.1 2, 12, .inl fK)), (aX, .inl (G.2.1 2, 12, .inl fX)), (aY, .inl (G.2.1 2, 12, .inl fY)), (aZ, .inl (G.2.1 2, 7, .inl fZ)), (aM, .inr (1, [.ref aN])), (aN, .inl (G.2.1 3, 18, .inr (.inl x21.2.2)))] H locs := w
    have hl : lv_has ls 5 [(4, .int (nI x21.1)), (3, .int x21.2.1), (2, .int r6), (0, .ref aG), (1, .int i0)] := hl
    have hJ1 := hI21.1
    refine lv_iload S.1 S.2.1 dX6_cures_21 (lv_at hl 0 rfl) ?_
    refine lv_bipush (v := 8) S.1 S.2.1 dX6_cures_23 (by decide) ?_
    refine lv_icmp_ge (tgt := 87) S.1 S.2.1 dX6_cures_25 (by decide) (fun c25 => ?_) (fun c25 => ?_)
    · refine lv_iload_n S.1 S.2.1 dX6_cures_87 rfl (lv_at hl 1 rfl) ?_
      exact W.iret (v := x21.2.1) S.1 S.2.1 hr (fun t ht _ => ⟨⟨x21.2.1, ((if (isGateF cT cG i0) = 0 then nB + 1 else nB), (if (isGateF cT cG i0) = 0 then nN else if cT = 0 then nN + 1 else nN), x21.2.2), rfl, (by have e : x21.1 = 8 := (by have h := c25; rw [show (8 : Int32) = nI 8 from rfl, nI_leI (by decide) (by omega)] at h; omega); rw [if_pos hr0]; unfold cuV; rw [hic, e1, e2, nI_clamp (by have := wf.2.2.1; omega), nI_clamp (by omega), hI21.2, e]), by rw [ht]; exact w.1, w.2.1⟩, w.2.2.F ht⟩) w.2.2.2.2 dX6_cures_88
    · have hj8 : x21.1 < 8 := by have h := c25; rw [show (8 : Int32) = nI 8 from rfl, nI_leI (by decide) (by omega)] at h; omega
      have hm := may_c (f := f) (k := kK) hj8 hak
      refine lv_aload_n S.1 S.2.1 dX6_cures_28 rfl (lv_at hl 3 rfl) ?_
      refine w_get S C w (CC := RX6) (T := TX6) (N := 9) (ref := "GateSums") im_X6_cures_X6 0 rfl rfl 1 (by decide) (List.mem_of_getElem? (i := 1) rfl) (fun _ h => h) rfl dX6_cures_29 ?_
      refine lv_iload_n S.1 S.2.1 dX6_cures_32 rfl (lv_at hl 4 rfl) ?_
      refine lv_iload S.1 S.2.1 dX6_cures_33 (lv_at hl 0 rfl) ?_
      refine cs_i (va_runV (As := [.int i0, .int (nI x21.1)]) (rest := []) S (c_X0_mayPut l G aC aK _ cT cI cG cO cK cP cQ aX aY aZ fK i0 (nI x21.1)) (cwV 2 S.2.2.2.2 gX6_cures_X0_mayPut rfl rfl rfl (by decide +kernel) ⟨Nat.le_of_ble_eq_true rfl, Nat.le_of_ble_eq_true rfl⟩) ⟨wPre_blind, va_recv C.1 w.1 (ci := 0) (q0 := 1) rfl rfl, wPre_at C w [1, 2] rfl rfl⟩ rfl rfl hl.1 rfl (lv_room (Nat.le_of_ble_eq_true rfl)) dX6_cures_35 ⟨Nat.le_of_ble_eq_true rfl, Nat.le_of_ble_eq_true rfl⟩) (fun r35 h35 => ?_)
      refine w_topi (y := (mayPutF cT (atF fK 12 i0) (nI x21.1))) h35 ?_
      refine w_topi (y := (mayPutF 1 (atF fK 12 i0) (nI x21.1))) (by rw [ht1]) ?_
      refine lv_if_eq (tgt := 81) S.1 S.2.1 dX6_cures_38 (by decide) (fun c38 => ?_) (fun c38 => ?_)
      · refine lv_iinc (v := (nI (x21.1 + 1))) (lv' := [(4, .int (nI (x21.1 + 1))), (3, .int x21.2.1), (2, .int r6), (0, .ref aG), (1, .int i0)]) S.1 S.2.1 dX6_cures_81 hl (k := 0) rfl (nI_1 _) (by decide) rfl (fun ls hl => ?_)
        refine lv_goto (tgt := 21) S.1 S.2.1 dX6_cures_84 (by decide) ?_
        exact ih21 (x21.1 + 1, x21.2.1, x21.2.2) ls _ _ (by first | exact ⟨hj8, (by dsimp only; rw [hI21.2]; exact (cu_no (may_n hm c38)).symm)⟩ | exact ⟨hj8, (by dsimp only; rw [hz79, hI21.2]; exact (cu_yes (may_y hm c38)).symm)⟩) (by dsimp only; omega) w (lv_sub hl [0, 1, 2, 3, 4] rfl)
      · refine lv_aload_n S.1 S.2.1 dX6_cures_41 rfl (lv_at hl 3 rfl) ?_
        refine w_get S C w (CC := RX6) (T := TX6) (N := 9) (ref := "GateSums") im_X6_cures_X6 0 rfl rfl 4 (by decide) (List.mem_of_getElem? (i := 2) rfl) (fun _ h => h) rfl dX6_cures_42 ?_
        refine lv_aload_n S.1 S.2.1 dX6_cures_45 rfl (lv_at hl 3 rfl) ?_
        refine w_get S C w (CC := RX6) (T := TX6) (N := 9) (ref := "GateSums") im_X6_cures_X6 0 rfl rfl 1 (by decide) (List.mem_of_getElem? (i := 1) rfl) (fun _ h => h) rfl dX6_cures_46 ?_
        refine lv_iload_n S.1 S.2.1 dX6_cures_49 rfl (lv_at hl 4 rfl) ?_
        refine lv_iload S.1 S.2.1 dX6_cures_50 (lv_at hl 0 rfl) ?_
        refine cq_v C w [6, 7, 1, 2, 3, 4] [0, 5] [0, 4, 5, 6, 7, 1, 2, 3] (wr := [(aG, .inr (6, [.ref aRd, .ref aC, .ref aD, .ref aL, .ref aM, .ref aS, .int (if (isGateF cT cG i0) = 0 then nB + 1 else nB), .int (if (isGateF cT cG i0) = 0 then nN else if cT = 0 then nN + 1 else nN), .int nF])), (aZ, .inl (G.2.1 2, 7, .inl fZ))]) (w' := fun u : Unit => [(aM, .inr (1, [.ref aN])), (aN, .inl (G.2.1 3, 18, .inr (.inl (colsF cI cG fK fX fY i0 (nI x21.1) x21.2.2)))), (aC, .inr (0, [.int cT, .int cI, .int cG, .int cO, .int cK, .int cP, .int cQ, .ref aK, .ref aX, .ref aY, .ref aZ])), (aK, .inl (G.2.1 2, 12, .inl fK)), (aX, .inl (G.2.1 2, 12, .inl fX)), (aY, .inl (G.2.1 2, 12, .inl fY))]) (ws2 := fun u : Unit => [(aG, .inr (6, [.ref aRd, .ref aC, .ref aD, .ref aL, .ref aM, .ref aS, .int (if (isGateF cT cG i0) = 0 then nB + 1 else nB), .int (if (isGateF cT cG i0) = 0 then nN else if cT = 0 then nN + 1 else nN), .int nF])), (aC, .inr (0, [.int cT, .int cI, .int cG, .int cO, .int cK, .int cP, .int cQ, .ref aK, .ref aX, .ref aY, .ref aZ])), (aK, .inl (G.2.1 2, 12, .inl fK)), (aX, .inl (G.2.1 2, 12, .inl fX)), (aY, .inl (G.2.1 2, 12, .inl fY)), (aZ, .inl (G.2.1 2, 7, .inl fZ)), (aM, .inr (1, [.ref aN])), (aN, .inl (G.2.1 3, 18, .inr (.inl (colsF cI cG fK fX fY i0 (nI x21.1) x21.2.2))))]) rfl rfl rfl (by decide) rfl (fun _ => rfl) (va_runV (As := [.ref aC, .int i0, .int (nI x21.1)]) (rest := []) S (c_X1_fill l G aM aN aC aK aX aY _ x21.2.2 cT cI cG cO cK cP cQ aZ fK fX fY i0 (nI x21.1)) (cwV 3 S.2.2.2.2 gX6_cures_X1_fill rfl rfl rfl (by decide +kernel) ⟨Nat.le_of_ble_eq_true rfl, Nat.le_of_ble_eq_true rfl⟩) ⟨wPre_blind, va_recv C.1 w.1 (ci := 1) (q0 := 6) rfl rfl, wPre_at C w [6, 7, 1, 2, 3, 4] rfl rfl⟩ rfl rfl hl.1 rfl (lv_room (Nat.le_of_ble_eq_true rfl)) dX6_cures_52 ⟨Nat.le_of_ble_eq_true rfl, Nat.le_of_ble_eq_true rfl⟩) (fun u52 H locs h52 w => ?_)
        have w : Wd G _ s [(aG, .inr (6, [.ref aRd, .ref aC, .ref aD, .ref aL, .ref aM, .ref aS, .int (if (isGateF cT cG i0) = 0 then nB + 1 else nB), .int (if (isGateF cT cG i0) = 0 then nN else if cT = 0 then nN + 1 else nN), .int nF])), (aC, .inr (0, [.int cT, .int cI, .int cG, .int cO, .int cK, .int cP, .int cQ, .ref aK, .ref aX, .ref aY, .ref aZ])), (aK, .inl (G.2.1 2, 12, .inl fK)), (aX, .inl (G.2.1 2, 12, .inl fX)), (aY, .inl (G.2.1 2, 12, .inl fY)), (aZ, .inl (G.2.1 2, 7, .inl fZ)), (aM, .inr (1, [.ref aN])), (aN, .inl (G.2.1 3, 18, .inr (.inl (colsF cI cG fK fX fY i0 (nI x21.1) x21.2.2))))] H locs := w
        refine lv_iload_n S.1 S.2.1 dX6_cures_55 rfl (lv_at hl 1 rfl) ?_
        refine lv_aload_n S.1 S.2.1 dX6_cures_56 rfl (lv_at hl 3 rfl) ?_
        refine w_get S C w (CC := RX6) (T := TX6) (N := 9) (ref := "GateSums") im_X6_cures_X6 0 rfl rfl 4 (by decide) (List.mem_of_getElem? (i := 2) rfl) (fun _ h => h) rfl dX6_cures_57 ?_
        refine lv_aload_n S.1 S.2.1 dX6_cures_60 rfl (lv_at hl 3 rfl) ?_
        refine w_get S C w (CC := RX6) (T := TX6) (N := 9) (ref := "GateSums") im_X6_cures_X6 0 rfl rfl 1 (by decide) (List.mem_of_getElem? (i := 1) rfl) (fun _ h => h) rfl dX6_cures_61 ?_
        refine cs_i (va_runV (As := [.ref aC]) (rest := [.int x21.2.1]) S (c_X1_firstWrong l G aM aN aC aZ _ (colsF cI cG fK fX fY i0 (nI x21.1) x21.2.2) cT cI cG cO cK cP cQ aK aX aY fZ) (cwV 1 S.2.2.2.2 gX6_cures_X1_firstWrong rfl rfl rfl (by decide +kernel) ⟨Nat.le_of_ble_eq_true rfl, Nat.le_of_ble_eq_true rfl⟩) ⟨wPre_blind, va_recv C.1 w.1 (ci := 1) (q0 := 6) rfl rfl, wPre_at C w [6, 7, 1, 5] rfl rfl⟩ rfl rfl hl.1 rfl (lv_room (Nat.le_of_ble_eq_true rfl)) dX6_cures_64 ⟨Nat.le_of_ble_eq_true rfl, Nat.le_of_ble_eq_true rfl⟩) (fun r64 h64 => ?_)
        refine w_topi (y := (firstW (fun j => isWrongF (colsF cI cG fK fX fY i0 (nI x21.1) x21.2.2) cO cK cP cQ fZ (nI j)) (allN cI) 0)) h64 ?_
        refine lv_iconst (v := (-1)) S.1 S.2.1 dX6_cures_67 (by decide) ?_
        refine w_joini 79 [.int x21.2.1] (fun z79 => z79 = cuB f g_ o_ kK x21.1) (fun z79 hz79 => ?_) (fun J79 => ?_)
        · refine lv_ior S.1 S.2.1 dX6_cures_79 ?_
          refine lv_istore_n (lv' := [(3, .int (x21.2.1 ||| z79)), (4, .int (nI x21.1)), (2, .int r6), (0, .ref aG), (1, .int i0)]) S.1 S.2.1 dX6_cures_80 rfl hl (by decide) rfl (fun ls hl => ?_)
          refine lv_iinc (v := (nI (x21.1 + 1))) (lv' := [(4, .int (nI (x21.1 + 1))), (3, .int (x21.2.1 ||| z79)), (2, .int r6), (0, .ref aG), (1, .int i0)]) S.1 S.2.1 dX6_cures_81 hl (k := 1) rfl (nI_1 _) (by decide) rfl (fun ls hl => ?_)
          refine lv_goto (tgt := 21) S.1 S.2.1 dX6_cures_84 (by decide) ?_
          exact ih21 (x21.1 + 1, (x21.2.1 ||| z79), (colsF cI cG fK fX fY i0 (nI x21.1) x21.2.2)) ls _ _ (by first | exact ⟨hj8, (by dsimp only; rw [hI21.2]; exact (cu_no (may_n hm c38)).symm)⟩ | exact ⟨hj8, (by dsimp only; rw [hz79, hI21.2]; exact (cu_yes (may_y hm c38)).symm)⟩) (by dsimp only; omega) w (lv_sub hl [0, 1, 2, 3, 4] rfl)
        · refine lv_icmp_ne (tgt := 78) S.1 S.2.1 dX6_cures_68 (by decide) (fun c68 => ?_) (fun c68 => ?_)
          · refine lv_iconst (v := 0) S.1 S.2.1 dX6_cures_78 (by decide) ?_
            exact J79 0 (by unfold cuB; rw [← cure_eq (w := x21.2.2) wf ga go ho wo q0 (q1.trans e1) (q2.trans e2) q3 q4 q5 hkg (may_y hm c38), ← hie]; first | exact (if_neg c68).symm | exact (if_pos c68).symm)
          · refine lv_iconst (v := 1) S.1 S.2.1 dX6_cures_71 (by decide) ?_
            refine lv_iload S.1 S.2.1 dX6_cures_72 (lv_at hl 0 rfl) ?_
            refine lv_ishl S.1 S.2.1 dX6_cures_74 ?_
            refine lv_goto (tgt := 79) S.1 S.2.1 dX6_cures_75 (by decide) ?_
            exact J79 ((1 : Int32) <<< ((nI x21.1) &&& 31)) (by unfold cuB; rw [← cure_eq (w := x21.2.2) wf ga go ho wo q0 (q1.trans e1) (q2.trans e2) q3 q4 q5 hkg (may_y hm c38), ← hie]; first | exact (if_neg c68).symm | exact (if_pos c68).symm)
  · refine lv_iload_n S.1 S.2.1 dX6_cures_14 rfl (lv_at hl 0 rfl) ?_
    exact W.iret (v := r6) S.1 S.2.1 hr (fun t ht _ => ⟨⟨r6, ((if (isGateF cT cG i0) = 0 then nB + 1 else nB), (if (isGateF cT cG i0) = 0 then nN else if cT = 0 then nN + 1 else nN), gN), rfl, by rw [h6, if_neg (fun q => c11 ((h6).trans q))], by rw [ht]; exact w.1, w.2.1⟩, w.2.2.F ht⟩) w.2.2.2.2 dX6_cures_15
set_option maxHeartbeats 4000000 in
set_option maxRecDepth 100000 in
theorem k_X7_cures (l : Launch) (G : GT) (mO mS mR : Nat) (sz : Nat) (mD mT mW mQ mC mU mV : Nat) (mt ma mn my mm mf mg : Int32) (fS fR : Nat → Int32) (i0 : Int32) (hok : okM fS) : Met l yX7_cures wsX7_cures ({ frames := 4, cells := 0, slots := 0, locals := 96 }) (va_Pc [.ref mO, .int i0] (wPre G [(mO, .inr (7, [.ref mS, .ref mD, .ref mR, .ref mT, .int mt, .int ma, .int mn, .ref mW, .ref mQ, .ref mC, .int my, .ref mU, .ref mV, .int mm, .int mf, .int mg])), (mS, .inl (G.2.1 2, 49, .inl fS)), (mR, .inl (G.2.1 2, 3, .inl fR))] sz)) (va_Qi (fun (r : Int32) (u : (Nat → Int32) × (Nat → Int32)) => r = cuS fS i0 ∧ u.1 = fS) (bW G (va_A [(mO, .inr (7, [.ref mS, .ref mD, .ref mR, .ref mT, .int mt, .int ma, .int mn, .ref mW, .ref mQ, .ref mC, .int my, .ref mU, .ref mV, .int mm, .int mf, .int mg])), (mS, .inl (G.2.1 2, 49, .inl fS)), (mR, .inl (G.2.1 2, 3, .inl fR))] sz) (fun u : (Nat → Int32) × (Nat → Int32) => [(mO, .inr (7, [.ref mS, .ref mD, .ref mR, .ref mT, .int mt, .int ma, .int mn, .ref mW, .ref mQ, .ref mC, .int my, .ref mU, .ref mV, .int mm, .int mf, .int mg])), (mS, .inl (G.2.1 2, 49, .inl u.1)), (mR, .inl (G.2.1 2, 3, .inl u.2))])) (va_A [(mO, .inr (7, [.ref mS, .ref mD, .ref mR, .ref mT, .int mt, .int ma, .int mn, .ref mW, .ref mQ, .ref mC, .int my, .ref mU, .ref mV, .int mm, .int mf, .int mg])), (mS, .inl (G.2.1 2, 49, .inl fS)), (mR, .inl (G.2.1 2, 3, .inl fR))] sz)) 0 0 (va_A [(mO, .inr (7, [.ref mS, .ref mD, .ref mR, .ref mT, .int mt, .int ma, .int mn, .ref mW, .ref mQ, .ref mC, .int my, .ref mU, .ref mV, .int mm, .int mf, .int mg])), (mS, .inl (G.2.1 2, 49, .inl fS)), (mR, .inl (G.2.1 2, 3, .inl fR))] sz) := by
  refine met_go (cc := cX7_cures) (maxL := 6) (ret := (some .int)) (own := RX7) (by decide) rfl rfl (Nat.le_of_ble_eq_true rfl) ?_
  intro p e s m below meth c ls S hr hlocks hname hsz C w hl
  obtain ⟨nN, gN, oN, pN, qN, h0_, hnN, hg, hgN, ho, hoN, hp, hpN, hq, hqN⟩ := id hok
  have hl : lv_has ls 6 [(0, .ref mO), (1, .int i0)] := hl
  refine lv_aload_n S.1 S.2.1 dX7_cures_0 rfl (lv_at hl 0 rfl) ?_
  refine lv_iload_n S.1 S.2.1 dX7_cures_1 rfl (lv_at hl 1 rfl) ?_
  refine cs_i (va_runV (As := [.int i0]) (rest := []) S (c_X7_isGate l G mO mS _ mD mR mT mW mQ mC mU mV mt ma mn my mm mf mg fS i0) (cwV 1 S.2.2.2.2 gX7_cures_X7_isGate rfl rfl rfl (by decide +kernel) ⟨Nat.le_of_ble_eq_true rfl, Nat.le_of_ble_eq_true rfl⟩) ⟨wPre_blind, va_recv C.1 w.1 (ci := 7) (q0 := 0) rfl rfl, wPre_at C w [0, 1] rfl rfl⟩ rfl rfl hl.1 rfl (lv_room (Nat.le_of_ble_eq_true rfl)) dX7_cures_2 ⟨Nat.le_of_ble_eq_true rfl, Nat.le_of_ble_eq_true rfl⟩) (fun r2 h2 => ?_)
  refine w_topi (y := (gateM fS i0)) h2 ?_
  refine lv_istore_n (lv' := [(2, .int (gateM fS i0)), (0, .ref mO), (1, .int i0)]) S.1 S.2.1 dX7_cures_5 rfl hl (by decide) rfl (fun ls hl => ?_)
  refine lv_iload_n S.1 S.2.1 dX7_cures_6 rfl (lv_at hl 0 rfl) ?_
  refine lv_if_eq (tgt := 17) S.1 S.2.1 dX7_cures_7 (by decide) (fun c7 => ?_) (fun c7 => ?_)
  · refine lv_aload_n S.1 S.2.1 dX7_cures_17 rfl (lv_at hl 1 rfl) ?_
    refine lv_iload_n S.1 S.2.1 dX7_cures_18 rfl (lv_at hl 0 rfl) ?_
    refine cq_i C w [0, 2] [1] [1, 0, 2] (wr := [(mS, .inl (G.2.1 2, 49, .inl fS))]) (w' := fun u : (Nat → Int32) => [(mO, .inr (7, [.ref mS, .ref mD, .ref mR, .ref mT, .int mt, .int ma, .int mn, .ref mW, .ref mQ, .ref mC, .int my, .ref mU, .ref mV, .int mm, .int mf, .int mg])), (mR, .inl (G.2.1 2, 3, .inl u))]) (ws2 := fun u : (Nat → Int32) => [(mO, .inr (7, [.ref mS, .ref mD, .ref mR, .ref mT, .int mt, .int ma, .int mn, .ref mW, .ref mQ, .ref mC, .int my, .ref mU, .ref mV, .int mm, .int mf, .int mg])), (mS, .inl (G.2.1 2, 49, .inl fS)), (mR, .inl (G.2.1 2, 3, .inl u))]) rfl rfl rfl (by decide) rfl (fun _ => rfl) (va_runV (As := [.int (gateM fS i0)]) (rest := []) S (c_X7_none l G mO mR _ mS mD mT mW mQ mC mU mV mt ma mn my mm mf mg fR (gateM fS i0)) (cwV 1 S.2.2.2.2 gX7_cures_X7_none rfl rfl rfl (by decide +kernel) ⟨Nat.le_of_ble_eq_true rfl, Nat.le_of_ble_eq_true rfl⟩) ⟨wPre_blind, va_recv C.1 w.1 (ci := 7) (q0 := 0) rfl rfl, wPre_at C w [0, 2] rfl rfl⟩ rfl rfl hl.1 rfl (lv_room (Nat.le_of_ble_eq_true rfl)) dX7_cures_19 ⟨Nat.le_of_ble_eq_true rfl, Nat.le_of_ble_eq_true rfl⟩) (fun r19 u19 H locs h19 w => ?_)
    have w : Wd G _ s [(mO, .inr (7, [.ref mS, .ref mD, .ref mR, .ref mT, .int mt, .int ma, .int mn, .ref mW, .ref mQ, .ref mC, .int my, .ref mU, .ref mV, .int mm, .int mf, .int mg])), (mS, .inl (G.2.1 2, 49, .inl fS)), (mR, .inl (G.2.1 2, 3, .inl u19))] H locs := w
    exact W.iret (v := r19) S.1 S.2.1 hr (fun t ht _ => ⟨⟨r19, (fS, u19), rfl, by first | exact ⟨(by rw [h19]; unfold cuS noneF; rw [if_pos c7, if_pos c7]), rfl⟩ | exact ⟨(by rw [h19]; unfold cuS noneF; rw [if_neg c7, if_neg c7, if_pos @c14]), rfl⟩, by rw [ht]; exact w.1, w.2.1⟩, w.2.2.F ht⟩) w.2.2.2.2 dX7_cures_22
  · refine lv_aload_n S.1 S.2.1 dX7_cures_10 rfl (lv_at hl 1 rfl) ?_
    refine cs_i (va_runV (As := []) (rest := []) S (c_X7_isThere l G mO mS _ mD mR mT mW mQ mC mU mV mt ma mn my mm mf mg fS) (cwV 0 S.2.2.2.2 gX7_cures_X7_isThere rfl rfl rfl (by decide +kernel) ⟨Nat.le_of_ble_eq_true rfl, Nat.le_of_ble_eq_true rfl⟩) ⟨wPre_blind, va_recv C.1 w.1 (ci := 7) (q0 := 0) rfl rfl, wPre_at C w [0, 1] rfl rfl⟩ rfl rfl hl.1 rfl (lv_room (Nat.le_of_ble_eq_true rfl)) dX7_cures_11 ⟨Nat.le_of_ble_eq_true rfl, Nat.le_of_ble_eq_true rfl⟩) (fun r11 h11 => ?_)
    refine w_topi (y := (thereM fS)) h11 ?_
    refine lv_if_ne (tgt := 23) S.1 S.2.1 dX7_cures_14 (by decide) (fun c14 => ?_) (fun c14 => ?_)
    · obtain ⟨kN, hkN, hke⟩ := gate_ok hg hgN c7 c14
      have hic : i0.toNatClampNeg = kN := by rw [hke]; exact nIc (by omega)
      refine lv_aload_n S.1 S.2.1 dX7_cures_23 rfl (lv_at hl 1 rfl) ?_
      refine w_get S C w (CC := RX7) (T := TX7) (N := 16) (ref := "GateSumsModel") im_X7_cures_X7 0 rfl rfl 0 (by decide) (List.mem_of_getElem? (i := 1) rfl) (fun _ h => h) rfl dX7_cures_24 ?_
      refine lv_bipush (v := 6) S.1 S.2.1 dX7_cures_27 (by decide) ?_
      refine lv_iload_n S.1 S.2.1 dX7_cures_29 rfl (lv_at hl 2 rfl) ?_
      refine lv_iadd S.1 S.2.1 dX7_cures_30 ?_
      refine w_topi (y := (nI (6 + kN))) (iadd 6 hke) ?_
      refine w_iald S C w 1 rfl (nIin (by omega) (by decide)) dX7_cures_31 ?_
      refine w_topi (y := (fS (6 + kN))) (congrArg fS (nIc (by omega))) ?_
      refine lv_istore_n (lv' := [(3, .int (fS (6 + kN))), (2, .int (gateM fS i0)), (0, .ref mO), (1, .int i0)]) S.1 S.2.1 dX7_cures_32 rfl hl (by decide) rfl (fun ls hl => ?_)
      refine lv_iconst (v := 0) S.1 S.2.1 dX7_cures_33 (by decide) ?_
      refine lv_istore (lv' := [(4, .int 0), (3, .int (fS (6 + kN))), (2, .int (gateM fS i0)), (0, .ref mO), (1, .int i0)]) S.1 S.2.1 dX7_cures_34 hl (by decide) rfl (fun ls hl => ?_)
      refine w_joini 45 [] (fun z45 => z45 = nI (if fS (6 + kN) = 0 then 0 else 1)) (fun z45 hz45 => ?_) (fun J45 => ?_)
      · refine w_topi (y := (nI (if fS (6 + kN) = 0 then 0 else 1))) (hz45) ?_
        refine lv_istore (lv' := [(5, .int (nI (if fS (6 + kN) = 0 then 0 else 1))), (4, .int 0), (3, .int (fS (6 + kN))), (2, .int (gateM fS i0)), (0, .ref mO), (1, .int i0)]) S.1 S.2.1 dX7_cures_45 hl (by decide) rfl (fun ls hl => ?_)
        refine w_loop (G := G) (σ := Nat × Int32 × (Nat → Int32)) (nL := 6) 47 (fun x47 => 8 - x47.1) (fun x47 => x47.1 ≤ (if fS (6 + kN) = 0 then 1 else 8) ∧ (∀ i, ¬ i = 6 + kN → x47.2.2 i = fS i) ∧ (if fS (6 + kN) = 0 then 0 else 1) ≤ x47.1 ∧ x47.2.1 = foldF (cu1 fS gN oN kN) x47.1 0) (fun x47 => [(mO, .inr (7, [.ref mS, .ref mD, .ref mR, .ref mT, .int mt, .int ma, .int mn, .ref mW, .ref mQ, .ref mC, .int my, .ref mU, .ref mV, .int mm, .int mf, .int mg])), (mS, .inl (G.2.1 2, 49, .inl x47.2.2)), (mR, .inl (G.2.1 2, 3, .inl fR))]) (fun x47 => [(5, .int (nI x47.1)), (4, .int x47.2.1), (3, .int (fS (6 + kN))), (2, .int (gateM fS i0)), (0, .ref mO), (1, .int i0)]) (fun _ => []) ?_ ((if fS (6 + kN) = 0 then 0 else 1), 0, fS) ls _ _ (⟨cu_be.1, fun _ _ => rfl, Nat.le_refl _, cu_start2.symm⟩) w (lv_sub hl [0, 1, 2, 3, 4, 5] rfl)
        intro x47 ls H locs hI47 w hl ih47
        have w : Wd G _ s [(mO, .inr (7, [.ref mS, .ref mD, .ref mR, .ref mT, .int mt, .int ma, .int mn, .ref mW, .ref mQ, .ref mC, .int my, .ref mU, .ref mV, .int mm, .int mf, .int mg])), (mS, .inl (G.2.1 2, 49, .inl x47.2.2)), (mR, .inl (G.2.1 2, 3, .inl fR))] H locs := w
        have hl : lv_has ls 6 [(5, .int (nI x47.1)), (4, .int x47.2.1), (3, .int (fS (6 + kN))), (2, .int (gateM fS i0)), (0, .ref mO), (1, .int i0)] := hl
        have hJ1 := hI47.1
        have hJ8 := (cu_be (x := fS (6 + kN))).2
        refine lv_iload S.1 S.2.1 dX7_cures_47 (lv_at hl 0 rfl) ?_
        refine w_joini 59 [.int (nI x47.1)] (fun z59 => z59 = nI (if fS (6 + kN) = 0 then 1 else 8)) (fun z59 hz59 => ?_) (fun J59 => ?_)
        · refine w_topi (y := (nI (if fS (6 + kN) = 0 then 1 else 8))) (hz59) ?_
          refine lv_icmp_ge (tgt := 101) S.1 S.2.1 dX7_cures_59 (by decide) (fun c59 => ?_) (fun c59 => ?_)
          · refine lv_aload_n S.1 S.2.1 dX7_cures_101 rfl (lv_at hl 4 rfl) ?_
            refine w_get S C w (CC := RX7) (T := TX7) (N := 16) (ref := "GateSumsModel") im_X7_cures_X7 0 rfl rfl 0 (by decide) (List.mem_of_getElem? (i := 1) rfl) (fun _ h => h) rfl dX7_cures_102 ?_
            refine lv_bipush (v := 6) S.1 S.2.1 dX7_cures_105 (by decide) ?_
            refine lv_iload_n S.1 S.2.1 dX7_cures_107 rfl (lv_at hl 5 rfl) ?_
            refine lv_iadd S.1 S.2.1 dX7_cures_108 ?_
            refine w_topi (y := (nI (6 + kN))) (iadd 6 hke) ?_
            refine lv_iload_n S.1 S.2.1 dX7_cures_109 rfl (lv_at hl 2 rfl) ?_
            refine w_iast S C w 1 rfl (nIin (by omega) (by decide)) (ws2 := [(mO, .inr (7, [.ref mS, .ref mD, .ref mR, .ref mT, .int mt, .int ma, .int mn, .ref mW, .ref mQ, .ref mC, .int my, .ref mU, .ref mV, .int mm, .int mf, .int mg])), (mS, .inl (G.2.1 2, 49, .inl (upd x47.2.2 (nI (6 + kN)).toNatClampNeg (fS (6 + kN))))), (mR, .inl (G.2.1 2, 3, .inl fR))]) rfl dX7_cures_110 (fun H locs w => ?_)
            have w : Wd G (va_A [(mO, .inr (7, [.ref mS, .ref mD, .ref mR, .ref mT, .int mt, .int ma, .int mn, .ref mW, .ref mQ, .ref mC, .int my, .ref mU, .ref mV, .int mm, .int mf, .int mg])), (mS, .inl (G.2.1 2, 49, .inl fS)), (mR, .inl (G.2.1 2, 3, .inl fR))] sz) s [(mO, .inr (7, [.ref mS, .ref mD, .ref mR, .ref mT, .int mt, .int ma, .int mn, .ref mW, .ref mQ, .ref mC, .int my, .ref mU, .ref mV, .int mm, .int mf, .int mg])), (mS, .inl (G.2.1 2, 49, .inl (upd x47.2.2 (6 + kN) (fS (6 + kN))))), (mR, .inl (G.2.1 2, 3, .inl fR))] H locs := by have h := nIc (j := 6 + kN) (by omega); rw [h] at w; exact w
            refine lv_iload S.1 S.2.1 dX7_cures_111 (lv_at hl 1 rfl) ?_
            exact W.iret (v := x47.2.1) S.1 S.2.1 hr (fun t ht _ => ⟨⟨x47.2.1, ((upd x47.2.2 (6 + kN) (fS (6 + kN))), fR), rfl, ⟨(by have e : x47.1 = (if fS (6 + kN) = 0 then 1 else 8) := (by have h := c59; rw [nI_leI (by omega) (by omega)] at h; omega); unfold cuS cuV; rw [if_neg c7, if_neg c14, hic, hg, ho, nI_clamp (by omega), nI_clamp (by omega), hI47.2.2.2, e]; exact cu_end2), upd_back hI47.2.1⟩, by rw [ht]; exact w.1, w.2.1⟩, w.2.2.F ht⟩) w.2.2.2.2 dX7_cures_113
          · refine lv_aload_n S.1 S.2.1 dX7_cures_62 rfl (lv_at hl 4 rfl) ?_
            refine w_get S C w (CC := RX7) (T := TX7) (N := 16) (ref := "GateSumsModel") im_X7_cures_X7 0 rfl rfl 0 (by decide) (List.mem_of_getElem? (i := 1) rfl) (fun _ h => h) rfl dX7_cures_63 ?_
            refine lv_bipush (v := 6) S.1 S.2.1 dX7_cures_66 (by decide) ?_
            refine lv_iload_n S.1 S.2.1 dX7_cures_68 rfl (lv_at hl 5 rfl) ?_
            refine lv_iadd S.1 S.2.1 dX7_cures_69 ?_
            refine w_topi (y := (nI (6 + kN))) (iadd 6 hke) ?_
            refine lv_iload S.1 S.2.1 dX7_cures_70 (lv_at hl 0 rfl) ?_
            refine w_iast S C w 1 rfl (nIin (by omega) (by decide)) (ws2 := [(mO, .inr (7, [.ref mS, .ref mD, .ref mR, .ref mT, .int mt, .int ma, .int mn, .ref mW, .ref mQ, .ref mC, .int my, .ref mU, .ref mV, .int mm, .int mf, .int mg])), (mS, .inl (G.2.1 2, 49, .inl (upd x47.2.2 (nI (6 + kN)).toNatClampNeg (nI x47.1)))), (mR, .inl (G.2.1 2, 3, .inl fR))]) rfl dX7_cures_72 (fun H locs w => ?_)
            have w : Wd G (va_A [(mO, .inr (7, [.ref mS, .ref mD, .ref mR, .ref mT, .int mt, .int ma, .int mn, .ref mW, .ref mQ, .ref mC, .int my, .ref mU, .ref mV, .int mm, .int mf, .int mg])), (mS, .inl (G.2.1 2, 49, .inl fS)), (mR, .inl (G.2.1 2, 3, .inl fR))] sz) s [(mO, .inr (7, [.ref mS, .ref mD, .ref mR, .ref mT, .int mt, .int ma, .int mn, .ref mW, .ref mQ, .ref mC, .int my, .ref mU, .ref mV, .int mm, .int mf, .int mg])), (mS, .inl (G.2.1 2, 49, .inl (upd x47.2.2 (6 + kN) (nI x47.1)))), (mR, .inl (G.2.1 2, 3, .inl fR))] H locs := by have h := nIc (j := 6 + kN) (by omega); rw [h] at w; exact w
            refine lv_iload S.1 S.2.1 dX7_cures_73 (lv_at hl 1 rfl) ?_
            refine lv_aload_n S.1 S.2.1 dX7_cures_75 rfl (lv_at hl 4 rfl) ?_
            refine lv_iconst (v := 1) S.1 S.2.1 dX7_cures_76 (by decide) ?_
            refine cs_i (va_runV (As := [.int 1]) (rest := [.int x47.2.1]) S (s_X7_wrongOnes l G mO mS _ mD mR mT mW mQ mC mU mV mt ma mn my mm mf mg (upd x47.2.2 (6 + kN) (nI x47.1)) gN oN 1 (by rw [pk_un (by omega)]; exact (hI47.2.1 1 (by omega)).trans hg) (hgN) (by rw [pk_un (by omega)]; exact (hI47.2.1 2 (by omega)).trans ho) (hoN)) (cwV 1 S.2.2.2.2 gX7_cures_X7_wrongOnes rfl rfl rfl (by decide +kernel) ⟨Nat.le_of_ble_eq_true rfl, Nat.le_of_ble_eq_true rfl⟩) ⟨wPre_blind, va_recv C.1 w.1 (ci := 7) (q0 := 0) rfl rfl, wPre_at C w [0, 1] rfl rfl⟩ rfl rfl hl.1 rfl (lv_room (Nat.le_of_ble_eq_true rfl)) dX7_cures_77 ⟨Nat.le_of_ble_eq_true rfl, Nat.le_of_ble_eq_true rfl⟩) (fun r77 h77 => ?_)
            refine w_topi (y := (if 1 = 0 then foldF (countW1 (wqM (upd x47.2.2 (6 + kN) (nI x47.1)) gN oN)) (allN ((upd x47.2.2 (6 + kN) (nI x47.1)) 0)) 0 else firstW (wqM (upd x47.2.2 (6 + kN) (nI x47.1)) gN oN) (allN ((upd x47.2.2 (6 + kN) (nI x47.1)) 0)) 0)) h77 ?_
            refine w_topi (y := (firstW (wqM (upd fS (6 + kN) (nI x47.1)) gN oN) (allN (fS 0)) 0)) ((if_neg (by decide)).trans (by rw [upd_same hI47.2.1, pk_un (by omega)])) ?_
            refine lv_iconst (v := (-1)) S.1 S.2.1 dX7_cures_80 (by decide) ?_
            refine w_joini 92 [.int x47.2.1] (fun z92 => z92 = cuB fS gN oN kN x47.1) (fun z92 hz92 => ?_) (fun J92 => ?_)
            · refine lv_ior S.1 S.2.1 dX7_cures_92 ?_
              refine lv_istore (lv' := [(4, .int (x47.2.1 ||| z92)), (5, .int (nI x47.1)), (3, .int (fS (6 + kN))), (2, .int (gateM fS i0)), (0, .ref mO), (1, .int i0)]) S.1 S.2.1 dX7_cures_93 hl (by decide) rfl (fun ls hl => ?_)
              refine lv_iinc (v := (nI (x47.1 + 1))) (lv' := [(5, .int (nI (x47.1 + 1))), (4, .int (x47.2.1 ||| z92)), (3, .int (fS (6 + kN))), (2, .int (gateM fS i0)), (0, .ref mO), (1, .int i0)]) S.1 S.2.1 dX7_cures_95 hl (k := 1) rfl (nI_1 _) (by decide) rfl (fun ls hl => ?_)
              refine lv_goto (tgt := 47) S.1 S.2.1 dX7_cures_98 (by decide) ?_
              have hlt : x47.1 < (if fS (6 + kN) = 0 then 1 else 8) := by have h := c59; rw [nI_leI (by omega) (by omega)] at h; omega
              exact ih47 (x47.1 + 1, (x47.2.1 ||| z92), (upd x47.2.2 (6 + kN) (nI x47.1))) ls _ _ (⟨hlt, fun i hi => (by dsimp only; rw [pk_un hi]; exact hI47.2.1 i hi), (by have := hI47.2.2.1; dsimp only; omega), (by dsimp only; rw [hz92, hI47.2.2.2]; exact (cu_yes (cu_in2 hI47.2.2.1 hlt)).symm)⟩) (by dsimp only; omega) w (lv_sub hl [0, 1, 2, 3, 4, 5] rfl)
            · refine lv_icmp_ne (tgt := 91) S.1 S.2.1 dX7_cures_81 (by decide) (fun c81 => ?_) (fun c81 => ?_)
              · refine lv_iconst (v := 0) S.1 S.2.1 dX7_cures_91 (by decide) ?_
                exact J92 0 (by unfold cuB; first | exact (if_pos c81).symm | exact (if_neg c81).symm)
              · refine lv_iconst (v := 1) S.1 S.2.1 dX7_cures_84 (by decide) ?_
                refine lv_iload S.1 S.2.1 dX7_cures_85 (lv_at hl 0 rfl) ?_
                refine lv_ishl S.1 S.2.1 dX7_cures_87 ?_
                refine lv_goto (tgt := 92) S.1 S.2.1 dX7_cures_88 (by decide) ?_
                exact J92 ((1 : Int32) <<< ((nI x47.1) &&& 31)) (by unfold cuB; first | exact (if_pos c81).symm | exact (if_neg c81).symm)
        · refine lv_iload_n S.1 S.2.1 dX7_cures_49 rfl (lv_at hl 2 rfl) ?_
          refine lv_if_ne (tgt := 57) S.1 S.2.1 dX7_cures_50 (by decide) (fun c50 => ?_) (fun c50 => ?_)
          · refine lv_bipush (v := 8) S.1 S.2.1 dX7_cures_57 (by decide) ?_
            exact J59 8 (by first | exact congrArg nI (if_pos c50).symm | exact congrArg nI (if_neg c50).symm)
          · refine lv_iconst (v := 1) S.1 S.2.1 dX7_cures_53 (by decide) ?_
            refine lv_goto (tgt := 59) S.1 S.2.1 dX7_cures_54 (by decide) ?_
            exact J59 1 (by first | exact congrArg nI (if_pos c50).symm | exact congrArg nI (if_neg c50).symm)
      · refine lv_iload_n S.1 S.2.1 dX7_cures_36 rfl (lv_at hl 1 rfl) ?_
        refine lv_if_ne (tgt := 44) S.1 S.2.1 dX7_cures_37 (by decide) (fun c37 => ?_) (fun c37 => ?_)
        · refine lv_iconst (v := 1) S.1 S.2.1 dX7_cures_44 (by decide) ?_
          exact J45 1 (by first | exact congrArg nI (if_pos c37).symm | exact congrArg nI (if_neg c37).symm)
        · refine lv_iconst (v := 0) S.1 S.2.1 dX7_cures_40 (by decide) ?_
          refine lv_goto (tgt := 45) S.1 S.2.1 dX7_cures_41 (by decide) ?_
          exact J45 0 (by first | exact congrArg nI (if_pos c37).symm | exact congrArg nI (if_neg c37).symm)
    · refine lv_aload_n S.1 S.2.1 dX7_cures_17 rfl (lv_at hl 1 rfl) ?_
      refine lv_iload_n S.1 S.2.1 dX7_cures_18 rfl (lv_at hl 0 rfl) ?_
      refine cq_i C w [0, 2] [1] [1, 0, 2] (wr := [(mS, .inl (G.2.1 2, 49, .inl fS))]) (w' := fun u : (Nat → Int32) => [(mO, .inr (7, [.ref mS, .ref mD, .ref mR, .ref mT, .int mt, .int ma, .int mn, .ref mW, .ref mQ, .ref mC, .int my, .ref mU, .ref mV, .int mm, .int mf, .int mg])), (mR, .inl (G.2.1 2, 3, .inl u))]) (ws2 := fun u : (Nat → Int32) => [(mO, .inr (7, [.ref mS, .ref mD, .ref mR, .ref mT, .int mt, .int ma, .int mn, .ref mW, .ref mQ, .ref mC, .int my, .ref mU, .ref mV, .int mm, .int mf, .int mg])), (mS, .inl (G.2.1 2, 49, .inl fS)), (mR, .inl (G.2.1 2, 3, .inl u))]) rfl rfl rfl (by decide) rfl (fun _ => rfl) (va_runV (As := [.int (gateM fS i0)]) (rest := []) S (c_X7_none l G mO mR _ mS mD mT mW mQ mC mU mV mt ma mn my mm mf mg fR (gateM fS i0)) (cwV 1 S.2.2.2.2 gX7_cures_X7_none rfl rfl rfl (by decide +kernel) ⟨Nat.le_of_ble_eq_true rfl, Nat.le_of_ble_eq_true rfl⟩) ⟨wPre_blind, va_recv C.1 w.1 (ci := 7) (q0 := 0) rfl rfl, wPre_at C w [0, 2] rfl rfl⟩ rfl rfl hl.1 rfl (lv_room (Nat.le_of_ble_eq_true rfl)) dX7_cures_19 ⟨Nat.le_of_ble_eq_true rfl, Nat.le_of_ble_eq_true rfl⟩) (fun r19_1 u19_1 H locs h19_1 w => ?_)
      have w : Wd G _ s [(mO, .inr (7, [.ref mS, .ref mD, .ref mR, .ref mT, .int mt, .int ma, .int mn, .ref mW, .ref mQ, .ref mC, .int my, .ref mU, .ref mV, .int mm, .int mf, .int mg])), (mS, .inl (G.2.1 2, 49, .inl fS)), (mR, .inl (G.2.1 2, 3, .inl u19_1))] H locs := w
      exact W.iret (v := r19_1) S.1 S.2.1 hr (fun t ht _ => ⟨⟨r19_1, (fS, u19_1), rfl, by first | exact ⟨(by rw [h19_1]; unfold cuS noneF; rw [if_pos c7, if_pos c7]), rfl⟩ | exact ⟨(by rw [h19_1]; unfold cuS noneF; rw [if_neg c7, if_neg c7, if_pos c14]), rfl⟩, by rw [ht]; exact w.1, w.2.1⟩, w.2.2.F ht⟩) w.2.2.2.2 dX7_cures_22
