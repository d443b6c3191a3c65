set_option maxHeartbeats 4000000 in
set_option maxRecDepth 100000 in
theorem y_X6_of (l : Launch) (G : GT) (aG aC aK aX aY aZ : Nat) (sz : Nat) (aRd aD aL aM aS : Nat) (nB nN nF : Int32) (cT cI cG cO cK cP cQ : Int32) (fK fX fY fZ : Nat → Int32) (i0 j0 : Int32) : Met l yX6_of wsX6_of ({ frames := 3, cells := 0, slots := 0, locals := 65 }) (va_Pc [.ref aG, .int i0, .int j0] (wPre G [(aG, .inr (6, [.ref aRd, .ref aC, .ref aD, .ref aL, .ref aM, .ref aS, .int nB, .int nN, .int nF])), (aC, .inr (0, [.int cT, .int cI, .int cG, .int cO, .int cK, .int cP, .int cQ, .ref aK, .ref aX, .ref aY, .ref aZ])), (aK, .inl (G.2.1 2, 12, .inl fK)), (aX, .inl (G.2.1 2, 12, .inl fX)), (aY, .inl (G.2.1 2, 12, .inl fY)), (aZ, .inl (G.2.1 2, 7, .inl fZ))] sz)) (va_Qi (fun (r : Int32) (u : Int32 × Int32) => r = (if refusalF cT (zOf (isGateF cT cG i0) j0) = 0 then (if j0.toInt = 0 then atF fK 12 i0 else if j0.toInt = 1 then atF fX 12 i0 else if j0.toInt = 2 then atF fY 12 i0 else usesF cG cO fX fY fZ (cI + i0)) else refusalF cT (zOf (isGateF cT cG i0) j0))) (bW G (va_A [(aG, .inr (6, [.ref aRd, .ref aC, .ref aD, .ref aL, .ref aM, .ref aS, .int nB, .int nN, .int nF])), (aC, .inr (0, [.int cT, .int cI, .int cG, .int cO, .int cK, .int cP, .int cQ, .ref aK, .ref aX, .ref aY, .ref aZ])), (aK, .inl (G.2.1 2, 12, .inl fK)), (aX, .inl (G.2.1 2, 12, .inl fX)), (aY, .inl (G.2.1 2, 12, .inl fY)), (aZ, .inl (G.2.1 2, 7, .inl fZ))] sz) (fun u : Int32 × Int32 => [(aG, .inr (6, [.ref aRd, .ref aC, .ref aD, .ref aL, .ref aM, .ref aS, .int u.1, .int u.2, .int nF])), (aC, .inr (0, [.int cT, .int cI, .int cG, .int cO, .int cK, .int cP, .int cQ, .ref aK, .ref aX, .ref aY, .ref aZ])), (aK, .inl (G.2.1 2, 12, .inl fK)), (aX, .inl (G.2.1 2, 12, .inl fX)), (aY, .inl (G.2.1 2, 12, .inl fY)), (aZ, .inl (G.2.1 2, 7, .inl fZ))])) (va_A [(aG, .inr (6, [.ref aRd, .ref aC, .ref aD, .ref aL, .ref aM, .ref aS, .int nB, .int nN, .int nF])), (aC, .inr (0, [.int cT, .int cI, .int cG, .int cO, .int cK, .int cP, .int cQ, .ref aK, .ref aX, .ref aY, .ref aZ])), (aK, .inl (G.2.1 2, 12, .inl fK)), (aX, .inl (G.2.1 2, 12, .inl fX)), (aY, .inl (G.2.1 2, 12, .inl fY)), (aZ, .inl (G.2.1 2, 7, .inl fZ))] sz)) 0 0 (va_A [(aG, .inr (6, [.ref aRd, .ref aC, .ref aD, .ref aL, .ref aM, .ref aS, .int nB, .int nN, .int nF])), (aC, .inr (0, [.int cT, .int cI, .int cG, .int cO, .int cK, .int cP, .int cQ, .ref aK, .ref aX, .ref aY, .ref aZ])), (aK, .inl (G.2.1 2, 12, .inl fK)), (aX, .inl (G.2.1 2, 12, .inl fX)), (aY, .inl (G.2.1 2, 12, .inl fY)), (aZ, .inl (G.2.1 2, 7, .inl fZ))] sz) := by
  refine met_go (cc := cX6_of) (maxL := 4) (ret := (some .int)) (own := RX6) (by decide) rfl rfl (Nat.le_of_ble_eq_true rfl) ?_
  intro p e s m below meth c ls S hr hlocks hname hsz C w hl
  have hl : lv_has ls 4 [(0, .ref aG), (1, .int i0), (2, .int j0)] := hl
  refine lv_aload_n S.1 S.2.1 dX6_of_0 rfl (lv_at hl 0 rfl) ?_
  refine w_joini 23 [.ref aG] (fun z23 => z23 = (zOf (isGateF cT cG i0) j0)) (fun z23 hz23 => ?_) (fun J23 => ?_)
  · refine cq_i C w [0, 1] [2, 3, 4, 5] [4, 5, 0, 1, 2, 3] (wr := [(aK, .inl (G.2.1 2, 12, .inl fK)), (aX, .inl (G.2.1 2, 12, .inl fX)), (aY, .inl (G.2.1 2, 12, .inl fY)), (aZ, .inl (G.2.1 2, 7, .inl fZ))]) (w' := fun u : Unit => [(aG, .inr (6, [.ref aRd, .ref aC, .ref aD, .ref aL, .ref aM, .ref aS, .int (if z23 = 0 then nB + 1 else nB), .int (if z23 = 0 then nN else if cT = 0 then nN + 1 else nN), .int nF])), (aC, .inr (0, [.int cT, .int cI, .int cG, .int cO, .int cK, .int cP, .int cQ, .ref aK, .ref aX, .ref aY, .ref aZ]))]) (ws2 := fun u : Unit => [(aG, .inr (6, [.ref aRd, .ref aC, .ref aD, .ref aL, .ref aM, .ref aS, .int (if z23 = 0 then nB + 1 else nB), .int (if z23 = 0 then nN else if cT = 0 then nN + 1 else nN), .int nF])), (aC, .inr (0, [.int cT, .int cI, .int cG, .int cO, .int cK, .int cP, .int cQ, .ref aK, .ref aX, .ref aY, .ref aZ])), (aK, .inl (G.2.1 2, 12, .inl fK)), (aX, .inl (G.2.1 2, 12, .inl fX)), (aY, .inl (G.2.1 2, 12, .inl fY)), (aZ, .inl (G.2.1 2, 7, .inl fZ))]) rfl rfl rfl (by decide) rfl (fun _ => rfl) (va_runV (As := [.int z23]) (rest := []) S (c_X6_refusal l G aG aC _ aRd aD aL aM aS nB nN nF cT cI cG cO cK cP cQ aK aX aY aZ z23) (cwV 1 S.2.2.2.2 gX6_of_X6_refusal rfl rfl rfl (by decide +kernel) ⟨Nat.le_of_ble_eq_true rfl, Nat.le_of_ble_eq_true rfl⟩) ⟨wPre_blind, va_recv C.1 w.1 (ci := 6) (q0 := 0) rfl rfl, wPre_at C w [0, 1] rfl rfl⟩ rfl rfl hl.1 rfl (lv_room (Nat.le_of_ble_eq_true rfl)) dX6_of_23 ⟨Nat.le_of_ble_eq_true rfl, Nat.le_of_ble_eq_true rfl⟩) (fun r23 u23 H locs h23 w => ?_)
    have w : Wd G _ s [(aG, .inr (6, [.ref aRd, .ref aC, .ref aD, .ref aL, .ref aM, .ref aS, .int (if z23 = 0 then nB + 1 else nB), .int (if z23 = 0 then nN else if cT = 0 then nN + 1 else nN), .int nF])), (aC, .inr (0, [.int cT, .int cI, .int cG, .int cO, .int cK, .int cP, .int cQ, .ref aK, .ref aX, .ref aY, .ref aZ])), (aK, .inl (G.2.1 2, 12, .inl fK)), (aX, .inl (G.2.1 2, 12, .inl fX)), (aY, .inl (G.2.1 2, 12, .inl fY)), (aZ, .inl (G.2.1 2, 7, .inl fZ))] H locs := w
    refine lv_istore_n (lv' := [(3, .int r23), (0, .ref aG), (1, .int i0), (2, .int j0)]) S.1 S.2.1 dX6_of_26 rfl hl (by decide) rfl (fun ls hl => ?_)
    refine lv_iload_n S.1 S.2.1 dX6_of_27 rfl (lv_at hl 0 rfl) ?_
    refine lv_if_eq (tgt := 33) S.1 S.2.1 dX6_of_28 (by decide) (fun c28 => ?_) (fun c28 => ?_)
    · refine lv_iload_n S.1 S.2.1 dX6_of_33 rfl (lv_at hl 3 rfl) ?_
      rcases sw_cases 0 2 j0.toInt (by decide) with c34 | ⟨c34n, c34l, c34q⟩
      · refine lv_tableOut (tgt := 87) S.1 S.2.1 dX6_of_34 c34 (by decide) ?_
        refine lv_aload_n S.1 S.2.1 dX6_of_87 rfl (lv_at hl 1 rfl) ?_
        refine w_get S C w (CC := RX6) (T := TX6) (N := 9) (ref := "GateSums") im_X6_of_X6 0 rfl rfl 1 (by decide) (List.mem_of_getElem? (i := 1) rfl) (fun _ h => h) rfl dX6_of_88 ?_
        refine lv_aload_n S.1 S.2.1 dX6_of_91 rfl (lv_at hl 1 rfl) ?_
        refine w_get S C w (CC := RX6) (T := TX6) (N := 9) (ref := "GateSums") im_X6_of_X6 0 rfl rfl 1 (by decide) (List.mem_of_getElem? (i := 1) rfl) (fun _ h => h) rfl dX6_of_92 ?_
        refine w_get S C w (CC := RX0) (T := TX0) (N := 11) (ref := "GateSums$Circuit") im_X6_of_X0 1 rfl rfl 1 (by decide) (List.mem_of_getElem? (i := 2) rfl) (fun _ h => h) rfl dX6_of_95 ?_
        refine lv_iload_n S.1 S.2.1 dX6_of_98 rfl (lv_at hl 2 rfl) ?_
        refine lv_iadd S.1 S.2.1 dX6_of_99 ?_
        refine cs_i (va_runV (As := [.int (cI + i0)]) (rest := []) S (c_X0_usesOf l G aC aX aY aZ _ cT cI cG cO cK cP cQ aK fX fY fZ (cI + i0)) (cwV 1 S.2.2.2.2 gX6_of_X0_usesOf rfl rfl rfl (by decide +kernel) ⟨Nat.le_of_ble_eq_true rfl, Nat.le_of_ble_eq_true rfl⟩) ⟨wPre_blind, va_recv C.1 w.1 (ci := 0) (q0 := 1) rfl rfl, wPre_at C w [1, 3, 4, 5] rfl rfl⟩ rfl rfl hl.1 rfl (lv_room (Nat.le_of_ble_eq_true rfl)) dX6_of_100 ⟨Nat.le_of_ble_eq_true rfl, Nat.le_of_ble_eq_true rfl⟩) (fun r100 h100 => ?_)
        refine w_topi (y := (usesF cG cO fX fY fZ (cI + i0))) h100 ?_
        exact W.iret (v := (usesF cG cO fX fY fZ (cI + i0))) S.1 S.2.1 hr (fun t ht _ => ⟨⟨(usesF cG cO fX fY fZ (cI + i0)), ((if z23 = 0 then nB + 1 else nB), (if z23 = 0 then nN else if cT = 0 then nN + 1 else nN)), rfl, by rw [← hz23, ← h23, if_pos c28]; rw [if_neg (by omega), if_neg (by omega), if_neg (by omega)], by rw [ht]; exact w.1, w.2.1⟩, w.2.2.F ht⟩) w.2.2.2.2 dX6_of_103
      · have c34l2 : c34n < 3 := by omega
        rcases Nat.lt_or_ge c34n 1 with c34a | c34a
        · have c34e : c34n = 0 := by omega
          subst c34e
          have c34 : j0.toInt = 0 := by omega
          refine lv_tableIn (off := 26) (tgt := 60) S.1 S.2.1 dX6_of_34 (by omega) (by omega) (by rw [c34]; rfl) (by decide) ?_
          refine lv_aload_n S.1 S.2.1 dX6_of_60 rfl (lv_at hl 1 rfl) ?_
          refine w_get S C w (CC := RX6) (T := TX6) (N := 9) (ref := "GateSums") im_X6_of_X6 0 rfl rfl 1 (by decide) (List.mem_of_getElem? (i := 1) rfl) (fun _ h => h) rfl dX6_of_61 ?_
          refine lv_iload_n S.1 S.2.1 dX6_of_64 rfl (lv_at hl 2 rfl) ?_
          refine cs_i (va_runV (As := [.int i0]) (rest := []) S (c_X0_kindOf l G aC aK _ cT cI cG cO cK cP cQ aX aY aZ fK i0) (cwV 1 S.2.2.2.2 gX6_of_X0_kindOf rfl rfl rfl (by decide +kernel) ⟨Nat.le_of_ble_eq_true rfl, Nat.le_of_ble_eq_true rfl⟩) ⟨wPre_blind, va_recv C.1 w.1 (ci := 0) (q0 := 1) rfl rfl, wPre_at C w [1, 2] rfl rfl⟩ rfl rfl hl.1 rfl (lv_room (Nat.le_of_ble_eq_true rfl)) dX6_of_65 ⟨Nat.le_of_ble_eq_true rfl, Nat.le_of_ble_eq_true rfl⟩) (fun r65 h65 => ?_)
          refine w_topi (y := (atF fK 12 i0)) h65 ?_
          exact W.iret (v := (atF fK 12 i0)) S.1 S.2.1 hr (fun t ht _ => ⟨⟨(atF fK 12 i0), ((if z23 = 0 then nB + 1 else nB), (if z23 = 0 then nN else if cT = 0 then nN + 1 else nN)), rfl, by rw [← hz23, ← h23, if_pos c28]; rw [if_pos @c34], by rw [ht]; exact w.1, w.2.1⟩, w.2.2.F ht⟩) w.2.2.2.2 dX6_of_68
        rcases Nat.lt_or_ge c34n 2 with c34a | c34a
        · have c34e : c34n = 1 := by omega
          subst c34e
          have c34 : j0.toInt = 1 := by omega
          refine lv_tableIn (off := 35) (tgt := 69) S.1 S.2.1 dX6_of_34 (by omega) (by omega) (by rw [c34]; rfl) (by decide) ?_
          refine lv_aload_n S.1 S.2.1 dX6_of_69 rfl (lv_at hl 1 rfl) ?_
          refine w_get S C w (CC := RX6) (T := TX6) (N := 9) (ref := "GateSums") im_X6_of_X6 0 rfl rfl 1 (by decide) (List.mem_of_getElem? (i := 1) rfl) (fun _ h => h) rfl dX6_of_70 ?_
          refine lv_iload_n S.1 S.2.1 dX6_of_73 rfl (lv_at hl 2 rfl) ?_
          refine cs_i (va_runV (As := [.int i0]) (rest := []) S (c_X0_xOf l G aC aX _ cT cI cG cO cK cP cQ aK aY aZ fX i0) (cwV 1 S.2.2.2.2 gX6_of_X0_xOf rfl rfl rfl (by decide +kernel) ⟨Nat.le_of_ble_eq_true rfl, Nat.le_of_ble_eq_true rfl⟩) ⟨wPre_blind, va_recv C.1 w.1 (ci := 0) (q0 := 1) rfl rfl, wPre_at C w [1, 3] rfl rfl⟩ rfl rfl hl.1 rfl (lv_room (Nat.le_of_ble_eq_true rfl)) dX6_of_74 ⟨Nat.le_of_ble_eq_true rfl, Nat.le_of_ble_eq_true rfl⟩) (fun r74 h74 => ?_)
          refine w_topi (y := (atF fX 12 i0)) h74 ?_
          exact W.iret (v := (atF fX 12 i0)) S.1 S.2.1 hr (fun t ht _ => ⟨⟨(atF fX 12 i0), ((if z23 = 0 then nB + 1 else nB), (if z23 = 0 then nN else if cT = 0 then nN + 1 else nN)), rfl, by rw [← hz23, ← h23, if_pos c28]; rw [if_neg (by omega), if_pos @c34], by rw [ht]; exact w.1, w.2.1⟩, w.2.2.F ht⟩) w.2.2.2.2 dX6_of_77
        have c34e : c34n = 2 := by omega
        subst c34e
        have c34 : j0.toInt = 2 := by omega
        refine lv_tableIn (off := 44) (tgt := 78) S.1 S.2.1 dX6_of_34 (by omega) (by omega) (by rw [c34]; rfl) (by decide) ?_
        refine lv_aload_n S.1 S.2.1 dX6_of_78 rfl (lv_at hl 1 rfl) ?_
        refine w_get S C w (CC := RX6) (T := TX6) (N := 9) (ref := "GateSums") im_X6_of_X6 0 rfl rfl 1 (by decide) (List.mem_of_getElem? (i := 1) rfl) (fun _ h => h) rfl dX6_of_79 ?_
        refine lv_iload_n S.1 S.2.1 dX6_of_82 rfl (lv_at hl 2 rfl) ?_
        refine cs_i (va_runV (As := [.int i0]) (rest := []) S (c_X0_yOf l G aC aY _ cT cI cG cO cK cP cQ aK aX aZ fY i0) (cwV 1 S.2.2.2.2 gX6_of_X0_yOf rfl rfl rfl (by decide +kernel) ⟨Nat.le_of_ble_eq_true rfl, Nat.le_of_ble_eq_true rfl⟩) ⟨wPre_blind, va_recv C.1 w.1 (ci := 0) (q0 := 1) rfl rfl, wPre_at C w [1, 4] rfl rfl⟩ rfl rfl hl.1 rfl (lv_room (Nat.le_of_ble_eq_true rfl)) dX6_of_83 ⟨Nat.le_of_ble_eq_true rfl, Nat.le_of_ble_eq_true rfl⟩) (fun r83 h83 => ?_)
        refine w_topi (y := (atF fY 12 i0)) h83 ?_
        exact W.iret (v := (atF fY 12 i0)) S.1 S.2.1 hr (fun t ht _ => ⟨⟨(atF fY 12 i0), ((if z23 = 0 then nB + 1 else nB), (if z23 = 0 then nN else if cT = 0 then nN + 1 else nN)), rfl, by rw [← hz23, ← h23, if_pos c28]; rw [if_neg (by omega), if_neg (by omega), if_pos @c34], by rw [ht]; exact w.1, w.2.1⟩, w.2.2.F ht⟩) w.2.2.2.2 dX6_of_86
    · refine lv_iload_n S.1 S.2.1 dX6_of_31 rfl (lv_at hl 0 rfl) ?_
      exact W.iret (v := r23) S.1 S.2.1 hr (fun t ht _ => ⟨⟨r23, ((if z23 = 0 then nB + 1 else nB), (if z23 = 0 then nN else if cT = 0 then nN + 1 else nN)), rfl, by rw [← hz23, ← h23, if_neg c28], by rw [ht]; exact w.1, w.2.1⟩, w.2.2.F ht⟩) w.2.2.2.2 dX6_of_32
  · refine lv_aload_n S.1 S.2.1 dX6_of_1 rfl (lv_at hl 0 rfl) ?_
    refine lv_iload_n S.1 S.2.1 dX6_of_2 rfl (lv_at hl 1 rfl) ?_
    refine cs_i (va_runV (As := [.int i0]) (rest := [.ref aG]) S (c_X6_isGate l G aG aC _ aRd aD aL aM aS nB nN nF cT cI cG cO cK cP cQ aK aX aY aZ i0) (cwV 1 S.2.2.2.2 gX6_of_X6_isGate rfl rfl rfl (by decide +kernel) ⟨Nat.le_of_ble_eq_true rfl, Nat.le_of_ble_eq_true rfl⟩) ⟨wPre_blind, va_recv C.1 w.1 (ci := 6) (q0 := 0) rfl rfl, wPre_at C w [0, 1] rfl rfl⟩ rfl rfl hl.1 rfl (lv_room (Nat.le_of_ble_eq_true rfl)) dX6_of_3 ⟨Nat.le_of_ble_eq_true rfl, Nat.le_of_ble_eq_true rfl⟩) (fun r3 h3 => ?_)
    refine w_topi (y := (isGateF cT cG i0)) h3 ?_
    refine lv_if_eq (tgt := 22) S.1 S.2.1 dX6_of_6 (by decide) (fun c6 => ?_) (fun c6 => ?_)
    · refine lv_iconst (v := 0) S.1 S.2.1 dX6_of_22 (by decide) ?_
      exact J23 0 (by simp only [zOf, if_pos c6])
    · refine lv_iload_n S.1 S.2.1 dX6_of_9 rfl (lv_at hl 2 rfl) ?_
      refine lv_if_lt (tgt := 22) S.1 S.2.1 dX6_of_10 (by decide) (fun c10 => ?_) (fun c10 => ?_)
      · refine lv_iconst (v := 0) S.1 S.2.1 dX6_of_22 (by decide) ?_
        exact J23 0 (by simp only [zOf, if_neg c6, if_pos c10])
      · refine lv_iload_n S.1 S.2.1 dX6_of_13 rfl (lv_at hl 2 rfl) ?_
        refine lv_iconst (v := 3) S.1 S.2.1 dX6_of_14 (by decide) ?_
        refine lv_icmp_gt (tgt := 22) S.1 S.2.1 dX6_of_15 (by decide) (fun c15 => ?_) (fun c15 => ?_)
        · refine lv_iconst (v := 0) S.1 S.2.1 dX6_of_22 (by decide) ?_
          exact J23 0 (by simp only [zOf, if_neg c6, if_neg c10, if_pos c15])
        · refine lv_iconst (v := 1) S.1 S.2.1 dX6_of_18 (by decide) ?_
          refine lv_goto (tgt := 23) S.1 S.2.1 dX6_of_19 (by decide) ?_
          exact J23 1 (by simp only [zOf, if_neg c6, if_neg c10, if_neg c15])
set_option maxHeartbeats 4000000 in
set_option maxRecDepth 100000 in
theorem y_X6_told (l : Launch) (G : GT) (aG aC aZ : Nat) (sz : Nat) (aRd aD aL aM aS : Nat) (nB nN nF : Int32) (cT cI cG cO cK cP cQ : Int32) (aK aX aY : Nat) (fZ : Nat → Int32) (i0 j0 : Int32) : Met l yX6_told wsX6_told ({ frames := 2, cells := 0, slots := 0, locals := 42 }) (va_Pc [.ref aG, .int i0, .int j0] (wPre G [(aG, .inr (6, [.ref aRd, .ref aC, .ref aD, .ref aL, .ref aM, .ref aS, .int nB, .int nN, .int nF])), (aC, .inr (0, [.int cT, .int cI, .int cG, .int cO, .int cK, .int cP, .int cQ, .ref aK, .ref aX, .ref aY, .ref aZ])), (aZ, .inl (G.2.1 2, 7, .inl fZ))] sz)) (va_Qi (fun (r : Int32) (u : Int32 × Int32) => r = (if refusalF cT (zTold (isPlaceF cT cO j0) i0 j0) = 0 then (if i0.toInt = 0 then atF fZ 7 j0 else if i0.toInt = 1 then cK else if i0.toInt = 2 then cP else cQ) else refusalF cT (zTold (isPlaceF cT cO j0) i0 j0))) (bW G (va_A [(aG, .inr (6, [.ref aRd, .ref aC, .ref aD, .ref aL, .ref aM, .ref aS, .int nB, .int nN, .int nF])), (aC, .inr (0, [.int cT, .int cI, .int cG, .int cO, .int cK, .int cP, .int cQ, .ref aK, .ref aX, .ref aY, .ref aZ])), (aZ, .inl (G.2.1 2, 7, .inl fZ))] sz) (fun u : Int32 × Int32 => [(aG, .inr (6, [.ref aRd, .ref aC, .ref aD, .ref aL, .ref aM, .ref aS, .int u.1, .int u.2, .int nF])), (aC, .inr (0, [.int cT, .int cI, .int cG, .int cO, .int cK, .int cP, .int cQ, .ref aK, .ref aX, .ref aY, .ref aZ])), (aZ, .inl (G.2.1 2, 7, .inl fZ))])) (va_A [(aG, .inr (6, [.ref aRd, .ref aC, .ref aD, .ref aL, .ref aM, .ref aS, .int nB, .int nN, .int nF])), (aC, .inr (0, [.int cT, .int cI, .int cG, .int cO, .int cK, .int cP, .int cQ, .ref aK, .ref aX, .ref aY, .ref aZ])), (aZ, .inl (G.2.1 2, 7, .inl fZ))] sz)) 0 0 (va_A [(aG, .inr (6, [.ref aRd, .ref aC, .ref aD, .ref aL, .ref aM, .ref aS, .int nB, .int nN, .int nF])), (aC, .inr (0, [.int cT, .int cI, .int cG, .int cO, .int cK, .int cP, .int cQ, .ref aK, .ref aX, .ref aY, .ref aZ])), (aZ, .inl (G.2.1 2, 7, .inl fZ))] sz) := by
  refine met_go (cc := cX6_told) (maxL := 5) (ret := (some .int)) (own := RX6) (by decide) rfl rfl (Nat.le_of_ble_eq_true rfl) ?_
  intro p e s m below meth c ls S hr hlocks hname hsz C w hl
  have hl : lv_has ls 5 [(0, .ref aG), (1, .int i0), (2, .int j0)] := hl
  refine w_joini 31 [] (fun z31 => z31 = (zTold (isPlaceF cT cO j0) i0 j0)) (fun z31 hz31 => ?_) (fun J31 => ?_)
  · refine lv_istore_n (lv' := [(3, .int z31), (0, .ref aG), (1, .int i0), (2, .int j0)]) S.1 S.2.1 dX6_told_31 rfl hl (by decide) rfl (fun ls hl => ?_)
    refine lv_aload_n S.1 S.2.1 dX6_told_32 rfl (lv_at hl 1 rfl) ?_
    refine lv_iload_n S.1 S.2.1 dX6_told_33 rfl (lv_at hl 0 rfl) ?_
    refine cq_i C w [0, 1] [2] [1, 2, 0] (wr := [(aZ, .inl (G.2.1 2, 7, .inl fZ))]) (w' := fun u : Unit => [(aG, .inr (6, [.ref aRd, .ref aC, .ref aD, .ref aL, .ref aM, .ref aS, .int (if z31 = 0 then nB + 1 else nB), .int (if z31 = 0 then nN else if cT = 0 then nN + 1 else nN), .int nF])), (aC, .inr (0, [.int cT, .int cI, .int cG, .int cO, .int cK, .int cP, .int cQ, .ref aK, .ref aX, .ref aY, .ref aZ]))]) (ws2 := fun u : Unit => [(aG, .inr (6, [.ref aRd, .ref aC, .ref aD, .ref aL, .ref aM, .ref aS, .int (if z31 = 0 then nB + 1 else nB), .int (if z31 = 0 then nN else if cT = 0 then nN + 1 else nN), .int nF])), (aC, .inr (0, [.int cT, .int cI, .int cG, .int cO, .int cK, .int cP, .int cQ, .ref aK, .ref aX, .ref aY, .ref aZ])), (aZ, .inl (G.2.1 2, 7, .inl fZ))]) rfl rfl rfl (by decide) rfl (fun _ => rfl) (va_runV (As := [.int z31]) (rest := []) S (c_X6_refusal l G aG aC _ aRd aD aL aM aS nB nN nF cT cI cG cO cK cP cQ aK aX aY aZ z31) (cwV 1 S.2.2.2.2 gX6_told_X6_refusal rfl rfl rfl (by decide +kernel) ⟨Nat.le_of_ble_eq_true rfl, Nat.le_of_ble_eq_true rfl⟩) ⟨wPre_blind, va_recv C.1 w.1 (ci := 6) (q0 := 0) rfl rfl, wPre_at C w [0, 1] rfl rfl⟩ rfl rfl hl.1 rfl (lv_room (Nat.le_of_ble_eq_true rfl)) dX6_told_34 ⟨Nat.le_of_ble_eq_true rfl, Nat.le_of_ble_eq_true rfl⟩) (fun r34 u34 H locs h34 w => ?_)
    have w : Wd G _ s [(aG, .inr (6, [.ref aRd, .ref aC, .ref aD, .ref aL, .ref aM, .ref aS, .int (if z31 = 0 then nB + 1 else nB), .int (if z31 = 0 then nN else if cT = 0 then nN + 1 else nN), .int nF])), (aC, .inr (0, [.int cT, .int cI, .int cG, .int cO, .int cK, .int cP, .int cQ, .ref aK, .ref aX, .ref aY, .ref aZ])), (aZ, .inl (G.2.1 2, 7, .inl fZ))] H locs := w
    refine lv_istore (lv' := [(4, .int r34), (3, .int z31), (0, .ref aG), (1, .int i0), (2, .int j0)]) S.1 S.2.1 dX6_told_37 hl (by decide) rfl (fun ls hl => ?_)
    refine lv_iload S.1 S.2.1 dX6_told_39 (lv_at hl 0 rfl) ?_
    refine lv_if_eq (tgt := 47) S.1 S.2.1 dX6_told_41 (by decide) (fun c41 => ?_) (fun c41 => ?_)
    · refine lv_iload_n S.1 S.2.1 dX6_told_47 rfl (lv_at hl 3 rfl) ?_
      rcases sw_cases 0 2 i0.toInt (by decide) with c48 | ⟨c48n, c48l, c48q⟩
      · refine lv_tableOut (tgt := 101) S.1 S.2.1 dX6_told_48 c48 (by decide) ?_
        refine lv_aload_n S.1 S.2.1 dX6_told_101 rfl (lv_at hl 2 rfl) ?_
        refine w_get S C w (CC := RX6) (T := TX6) (N := 9) (ref := "GateSums") im_X6_told_X6 0 rfl rfl 1 (by decide) (List.mem_of_getElem? (i := 1) rfl) (fun _ h => h) rfl dX6_told_102 ?_
        refine w_get S C w (CC := RX0) (T := TX0) (N := 11) (ref := "GateSums$Circuit") im_X6_told_X0 1 rfl rfl 6 (by decide) (List.mem_of_getElem? (i := 4) rfl) (fun _ h => h) rfl dX6_told_105 ?_
        exact W.iret (v := cQ) S.1 S.2.1 hr (fun t ht _ => ⟨⟨cQ, ((if z31 = 0 then nB + 1 else nB), (if z31 = 0 then nN else if cT = 0 then nN + 1 else nN)), rfl, by rw [← hz31, ← h34, if_pos c41]; rw [if_neg (by omega), if_neg (by omega), if_neg (by omega)], by rw [ht]; exact w.1, w.2.1⟩, w.2.2.F ht⟩) w.2.2.2.2 dX6_told_108
      · have c48l2 : c48n < 3 := by omega
        rcases Nat.lt_or_ge c48n 1 with c48a | c48a
        · have c48e : c48n = 0 := by omega
          subst c48e
          have c48 : i0.toInt = 0 := by omega
          refine lv_tableIn (off := 28) (tgt := 76) S.1 S.2.1 dX6_told_48 (by omega) (by omega) (by rw [c48]; rfl) (by decide) ?_
          refine lv_aload_n S.1 S.2.1 dX6_told_76 rfl (lv_at hl 2 rfl) ?_
          refine w_get S C w (CC := RX6) (T := TX6) (N := 9) (ref := "GateSums") im_X6_told_X6 0 rfl rfl 1 (by decide) (List.mem_of_getElem? (i := 1) rfl) (fun _ h => h) rfl dX6_told_77 ?_
          refine lv_iload_n S.1 S.2.1 dX6_told_80 rfl (lv_at hl 4 rfl) ?_
          refine cs_i (va_runV (As := [.int j0]) (rest := []) S (c_X0_outputAt l G aC aZ _ cT cI cG cO cK cP cQ aK aX aY fZ j0) (cwV 1 S.2.2.2.2 gX6_told_X0_outputAt rfl rfl rfl (by decide +kernel) ⟨Nat.le_of_ble_eq_true rfl, Nat.le_of_ble_eq_true rfl⟩) ⟨wPre_blind, va_recv C.1 w.1 (ci := 0) (q0 := 1) rfl rfl, wPre_at C w [1, 2] rfl rfl⟩ rfl rfl hl.1 rfl (lv_room (Nat.le_of_ble_eq_true rfl)) dX6_told_81 ⟨Nat.le_of_ble_eq_true rfl, Nat.le_of_ble_eq_true rfl⟩) (fun r81 h81 => ?_)
          refine w_topi (y := (atF fZ 7 j0)) h81 ?_
          exact W.iret (v := (atF fZ 7 j0)) S.1 S.2.1 hr (fun t ht _ => ⟨⟨(atF fZ 7 j0), ((if z31 = 0 then nB + 1 else nB), (if z31 = 0 then nN else if cT = 0 then nN + 1 else nN)), rfl, by rw [← hz31, ← h34, if_pos c41]; rw [if_pos @c48], by rw [ht]; exact w.1, w.2.1⟩, w.2.2.F ht⟩) w.2.2.2.2 dX6_told_84
        rcases Nat.lt_or_ge c48n 2 with c48a | c48a
        · have c48e : c48n = 1 := by omega
          subst c48e
          have c48 : i0.toInt = 1 := by omega
          refine lv_tableIn (off := 37) (tgt := 85) S.1 S.2.1 dX6_told_48 (by omega) (by omega) (by rw [c48]; rfl) (by decide) ?_
          refine lv_aload_n S.1 S.2.1 dX6_told_85 rfl (lv_at hl 2 rfl) ?_
          refine w_get S C w (CC := RX6) (T := TX6) (N := 9) (ref := "GateSums") im_X6_told_X6 0 rfl rfl 1 (by decide) (List.mem_of_getElem? (i := 1) rfl) (fun _ h => h) rfl dX6_told_86 ?_
          refine w_get S C w (CC := RX0) (T := TX0) (N := 11) (ref := "GateSums$Circuit") im_X6_told_X0 1 rfl rfl 4 (by decide) (List.mem_of_getElem? (i := 2) rfl) (fun _ h => h) rfl dX6_told_89 ?_
          exact W.iret (v := cK) S.1 S.2.1 hr (fun t ht _ => ⟨⟨cK, ((if z31 = 0 then nB + 1 else nB), (if z31 = 0 then nN else if cT = 0 then nN + 1 else nN)), rfl, by rw [← hz31, ← h34, if_pos c41]; rw [if_neg (by omega), if_pos @c48], by rw [ht]; exact w.1, w.2.1⟩, w.2.2.F ht⟩) w.2.2.2.2 dX6_told_92
        have c48e : c48n = 2 := by omega
        subst c48e
        have c48 : i0.toInt = 2 := by omega
        refine lv_tableIn (off := 45) (tgt := 93) S.1 S.2.1 dX6_told_48 (by omega) (by omega) (by rw [c48]; rfl) (by decide) ?_
        refine lv_aload_n S.1 S.2.1 dX6_told_93 rfl (lv_at hl 2 rfl) ?_
        refine w_get S C w (CC := RX6) (T := TX6) (N := 9) (ref := "GateSums") im_X6_told_X6 0 rfl rfl 1 (by decide) (List.mem_of_getElem? (i := 1) rfl) (fun _ h => h) rfl dX6_told_94 ?_
        refine w_get S C w (CC := RX0) (T := TX0) (N := 11) (ref := "GateSums$Circuit") im_X6_told_X0 1 rfl rfl 5 (by decide) (List.mem_of_getElem? (i := 3) rfl) (fun _ h => h) rfl dX6_told_97 ?_
        exact W.iret (v := cP) S.1 S.2.1 hr (fun t ht _ => ⟨⟨cP, ((if z31 = 0 then nB + 1 else nB), (if z31 = 0 then nN else if cT = 0 then nN + 1 else nN)), rfl, by rw [← hz31, ← h34, if_pos c41]; rw [if_neg (by omega), if_neg (by omega), if_pos @c48], by rw [ht]; exact w.1, w.2.1⟩, w.2.2.F ht⟩) w.2.2.2.2 dX6_told_100
    · refine lv_iload S.1 S.2.1 dX6_told_44 (lv_at hl 0 rfl) ?_
      exact W.iret (v := r34) S.1 S.2.1 hr (fun t ht _ => ⟨⟨r34, ((if z31 = 0 then nB + 1 else nB), (if z31 = 0 then nN else if cT = 0 then nN + 1 else nN)), rfl, by rw [← hz31, ← h34, if_neg c41], by rw [ht]; exact w.1, w.2.1⟩, w.2.2.F ht⟩) w.2.2.2.2 dX6_told_46
  · refine lv_iload_n S.1 S.2.1 dX6_told_0 rfl (lv_at hl 1 rfl) ?_
    refine lv_if_ne (tgt := 12) S.1 S.2.1 dX6_told_1 (by decide) (fun c1 => ?_) (fun c1 => ?_)
    · refine lv_iload_n S.1 S.2.1 dX6_told_12 rfl (lv_at hl 1 rfl) ?_
      refine lv_iconst (v := 1) S.1 S.2.1 dX6_told_13 (by decide) ?_
      refine lv_icmp_lt (tgt := 30) S.1 S.2.1 dX6_told_14 (by decide) (fun c14 => ?_) (fun c14 => ?_)
      · refine lv_iconst (v := 0) S.1 S.2.1 dX6_told_30 (by decide) ?_
        exact J31 0 (by simp only [zTold, if_neg c1, if_pos c14])
      · refine lv_iload_n S.1 S.2.1 dX6_told_17 rfl (lv_at hl 1 rfl) ?_
        refine lv_iconst (v := 3) S.1 S.2.1 dX6_told_18 (by decide) ?_
        refine lv_icmp_gt (tgt := 30) S.1 S.2.1 dX6_told_19 (by decide) (fun c19 => ?_) (fun c19 => ?_)
        · refine lv_iconst (v := 0) S.1 S.2.1 dX6_told_30 (by decide) ?_
          exact J31 0 (by simp only [zTold, if_neg c1, if_neg c14, if_pos c19])
        · refine lv_iload_n S.1 S.2.1 dX6_told_22 rfl (lv_at hl 2 rfl) ?_
          refine lv_if_ne (tgt := 30) S.1 S.2.1 dX6_told_23 (by decide) (fun c23 => ?_) (fun c23 => ?_)
          · refine lv_iconst (v := 0) S.1 S.2.1 dX6_told_30 (by decide) ?_
            exact J31 0 (by simp only [zTold, if_neg c1, if_neg c14, if_neg c19, if_neg c23])
          · refine lv_iconst (v := 1) S.1 S.2.1 dX6_told_26 (by decide) ?_
            refine lv_goto (tgt := 31) S.1 S.2.1 dX6_told_27 (by decide) ?_
            exact J31 1 (by simp only [zTold, if_neg c1, if_neg c14, if_neg c19, if_pos c23])
    · refine lv_aload_n S.1 S.2.1 dX6_told_4 rfl (lv_at hl 0 rfl) ?_
      refine lv_iload_n S.1 S.2.1 dX6_told_5 rfl (lv_at hl 2 rfl) ?_
      refine cs_i (va_runV (As := [.int j0]) (rest := []) S (c_X6_isPlace l G aG aC _ aRd aD aL aM aS nB nN nF cT cI cG cO cK cP cQ aK aX aY aZ j0) (cwV 1 S.2.2.2.2 gX6_told_X6_isPlace rfl rfl rfl (by decide +kernel) ⟨Nat.le_of_ble_eq_true rfl, Nat.le_of_ble_eq_true rfl⟩) ⟨wPre_blind, va_recv C.1 w.1 (ci := 6) (q0 := 0) rfl rfl, wPre_at C w [0, 1] rfl rfl⟩ rfl rfl hl.1 rfl (lv_room (Nat.le_of_ble_eq_true rfl)) dX6_told_6 ⟨Nat.le_of_ble_eq_true rfl, Nat.le_of_ble_eq_true rfl⟩) (fun r6 h6 => ?_)
      refine w_topi (y := (isPlaceF cT cO j0)) h6 ?_
      refine lv_goto (tgt := 31) S.1 S.2.1 dX6_told_9 (by decide) ?_
      exact J31 (isPlaceF cT cO j0) (by simp only [zTold, if_pos c1])
set_option maxHeartbeats 4000000 in
set_option maxRecDepth 100000 in
theorem y_X7_kind (l : Launch) (G : GT) (mO mS mR : Nat) (sz : Nat) (mD mT mW mQ mC mU mV : Nat) (mt ma mn my mm mf mg : Int32) (fS fR : Nat → Int32) (i0 j0 : Int32) (hok : okM fS) : Met l yX7_kind wsX7_kind ({ frames := 2, cells := 0, slots := 0, locals := 43 }) (va_Pc [.ref mO, .int i0, .int j0] (wPre G [(mO, .inr (7, [.ref mS, .ref mD, .ref mR, .ref mT, .int mt, .int ma, .int mn, .ref mW, .ref mQ, .ref mC, .int my, .ref mU, .ref mV, .int mm, .int mf, .int mg])), (mS, .inl (G.2.1 2, 49, .inl fS)), (mR, .inl (G.2.1 2, 3, .inl fR))] sz)) (va_Qi (fun (r : Int32) (u : (Nat → Int32) × (Nat → Int32)) => (r = kindS fS i0 j0 ∧ u.1 = kindT fS i0 j0) ∧ okM u.1) (bW G (va_A [(mO, .inr (7, [.ref mS, .ref mD, .ref mR, .ref mT, .int mt, .int ma, .int mn, .ref mW, .ref mQ, .ref mC, .int my, .ref mU, .ref mV, .int mm, .int mf, .int mg])), (mS, .inl (G.2.1 2, 49, .inl fS)), (mR, .inl (G.2.1 2, 3, .inl fR))] sz) (fun u : (Nat → Int32) × (Nat → Int32) => [(mO, .inr (7, [.ref mS, .ref mD, .ref mR, .ref mT, .int mt, .int ma, .int mn, .ref mW, .ref mQ, .ref mC, .int my, .ref mU, .ref mV, .int mm, .int mf, .int mg])), (mS, .inl (G.2.1 2, 49, .inl u.1)), (mR, .inl (G.2.1 2, 3, .inl u.2))])) (va_A [(mO, .inr (7, [.ref mS, .ref mD, .ref mR, .ref mT, .int mt, .int ma, .int mn, .ref mW, .ref mQ, .ref mC, .int my, .ref mU, .ref mV, .int mm, .int mf, .int mg])), (mS, .inl (G.2.1 2, 49, .inl fS)), (mR, .inl (G.2.1 2, 3, .inl fR))] sz)) 0 0 (va_A [(mO, .inr (7, [.ref mS, .ref mD, .ref mR, .ref mT, .int mt, .int ma, .int mn, .ref mW, .ref mQ, .ref mC, .int my, .ref mU, .ref mV, .int mm, .int mf, .int mg])), (mS, .inl (G.2.1 2, 49, .inl fS)), (mR, .inl (G.2.1 2, 3, .inl fR))] sz) := by
  refine met_go (cc := cX7_kind) (maxL := 5) (ret := (some .int)) (own := RX7) (by decide) rfl rfl (Nat.le_of_ble_eq_true rfl) ?_
  intro p e s m below meth c ls S hr hlocks hname hsz C w hl
  obtain ⟨nN, gN, oN, pN, qN, h0_, hnN, hg, hgN, ho, hoN, hp, hpN, hq, hqN⟩ := id hok
  have hl : lv_has ls 5 [(0, .ref mO), (1, .int i0), (2, .int j0)] := hl
  refine w_joini 59 [] (fun z59 => z59 = kzM fS i0 j0) (fun z59 hz59 => ?_) (fun J59 => ?_)
  · refine lv_istore_n (lv' := [(3, .int z59), (0, .ref mO), (1, .int i0), (2, .int j0)]) S.1 S.2.1 dX7_kind_59 rfl hl (by decide) rfl (fun ls hl => ?_)
    refine lv_iload_n S.1 S.2.1 dX7_kind_60 rfl (lv_at hl 0 rfl) ?_
    refine lv_if_eq (tgt := 71) S.1 S.2.1 dX7_kind_61 (by decide) (fun c61 => ?_) (fun c61 => ?_)
    · refine lv_aload_n S.1 S.2.1 dX7_kind_71 rfl (lv_at hl 1 rfl) ?_
      refine lv_iload_n S.1 S.2.1 dX7_kind_72 rfl (lv_at hl 0 rfl) ?_
      refine cq_i C w [0, 2] [1] [1, 0, 2] (wr := [(mS, .inl (G.2.1 2, 49, .inl fS))]) (w' := fun u : (Nat → Int32) => [(mO, .inr (7, [.ref mS, .ref mD, .ref mR, .ref mT, .int mt, .int ma, .int mn, .ref mW, .ref mQ, .ref mC, .int my, .ref mU, .ref mV, .int mm, .int mf, .int mg])), (mR, .inl (G.2.1 2, 3, .inl u))]) (ws2 := fun u : (Nat → Int32) => [(mO, .inr (7, [.ref mS, .ref mD, .ref mR, .ref mT, .int mt, .int ma, .int mn, .ref mW, .ref mQ, .ref mC, .int my, .ref mU, .ref mV, .int mm, .int mf, .int mg])), (mS, .inl (G.2.1 2, 49, .inl fS)), (mR, .inl (G.2.1 2, 3, .inl u))]) rfl rfl rfl (by decide) rfl (fun _ => rfl) (va_runV (As := [.int z59]) (rest := []) S (c_X7_none l G mO mR _ mS mD mT mW mQ mC mU mV mt ma mn my mm mf mg fR z59) (cwV 1 S.2.2.2.2 gX7_kind_X7_none rfl rfl rfl (by decide +kernel) ⟨Nat.le_of_ble_eq_true rfl, Nat.le_of_ble_eq_true rfl⟩) ⟨wPre_blind, va_recv C.1 w.1 (ci := 7) (q0 := 0) rfl rfl, wPre_at C w [0, 2] rfl rfl⟩ rfl rfl hl.1 rfl (lv_room (Nat.le_of_ble_eq_true rfl)) dX7_kind_73 ⟨Nat.le_of_ble_eq_true rfl, Nat.le_of_ble_eq_true rfl⟩) (fun r73 u73 H locs h73 w => ?_)
      have w : Wd G _ s [(mO, .inr (7, [.ref mS, .ref mD, .ref mR, .ref mT, .int mt, .int ma, .int mn, .ref mW, .ref mQ, .ref mC, .int my, .ref mU, .ref mV, .int mm, .int mf, .int mg])), (mS, .inl (G.2.1 2, 49, .inl fS)), (mR, .inl (G.2.1 2, 3, .inl u73))] H locs := w
      exact W.iret (v := r73) S.1 S.2.1 hr (fun t ht _ => ⟨⟨r73, (fS, u73), rfl, ⟨by first | exact ⟨by rw [h73]; unfold kindS noneF; rw [← hz59, if_pos c61, if_pos c61], by unfold kindT; rw [← hz59, if_pos c61]⟩ | exact ⟨by rw [h73]; unfold kindS noneF; rw [← hz59, if_neg c61, if_neg c61, if_pos @c68], by unfold kindT; rw [← hz59, if_neg c61, if_pos @c68]⟩, hok⟩, by rw [ht]; exact w.1, w.2.1⟩, w.2.2.F ht⟩) w.2.2.2.2 dX7_kind_76
    · refine lv_aload_n S.1 S.2.1 dX7_kind_64 rfl (lv_at hl 1 rfl) ?_
      refine cs_i (va_runV (As := []) (rest := []) S (c_X7_isThere l G mO mS _ mD mR mT mW mQ mC mU mV mt ma mn my mm mf mg fS) (cwV 0 S.2.2.2.2 gX7_kind_X7_isThere rfl rfl rfl (by decide +kernel) ⟨Nat.le_of_ble_eq_true rfl, Nat.le_of_ble_eq_true rfl⟩) ⟨wPre_blind, va_recv C.1 w.1 (ci := 7) (q0 := 0) rfl rfl, wPre_at C w [0, 1] rfl rfl⟩ rfl rfl hl.1 rfl (lv_room (Nat.le_of_ble_eq_true rfl)) dX7_kind_65 ⟨Nat.le_of_ble_eq_true rfl, Nat.le_of_ble_eq_true rfl⟩) (fun r65 h65 => ?_)
      refine w_topi (y := (thereM fS)) h65 ?_
      refine lv_if_ne (tgt := 77) S.1 S.2.1 dX7_kind_68 (by decide) (fun c68 => ?_) (fun c68 => ?_)
      · obtain ⟨kN, hkN, hke⟩ := gate_ok hg hgN (kzM_g (fun q => c61 (hz59.trans q))) c68
        have hic : i0.toNatClampNeg = kN := by rw [hke]; exact nIc (by omega)
        refine lv_aload_n S.1 S.2.1 dX7_kind_77 rfl (lv_at hl 1 rfl) ?_
        refine w_get S C w (CC := RX7) (T := TX7) (N := 16) (ref := "GateSumsModel") im_X7_kind_X7 0 rfl rfl 0 (by decide) (List.mem_of_getElem? (i := 1) rfl) (fun _ h => h) rfl dX7_kind_78 ?_
        refine lv_bipush (v := 6) S.1 S.2.1 dX7_kind_81 (by decide) ?_
        refine lv_iload_n S.1 S.2.1 dX7_kind_83 rfl (lv_at hl 2 rfl) ?_
        refine lv_iadd S.1 S.2.1 dX7_kind_84 ?_
        refine w_topi (y := (nI (6 + kN))) (iadd 6 hke) ?_
        refine w_iald S C w 1 rfl (nIin (by omega) (by decide)) dX7_kind_85 ?_
        refine w_topi (y := (fS (6 + kN))) (congrArg fS (nIc (by omega))) ?_
        refine lv_istore (lv' := [(4, .int (fS (6 + kN))), (3, .int z59), (0, .ref mO), (1, .int i0), (2, .int j0)]) S.1 S.2.1 dX7_kind_86 hl (by decide) rfl (fun ls hl => ?_)
        refine lv_aload_n S.1 S.2.1 dX7_kind_88 rfl (lv_at hl 2 rfl) ?_
        refine w_get S C w (CC := RX7) (T := TX7) (N := 16) (ref := "GateSumsModel") im_X7_kind_X7 0 rfl rfl 0 (by decide) (List.mem_of_getElem? (i := 1) rfl) (fun _ h => h) rfl dX7_kind_89 ?_
        refine lv_bipush (v := 6) S.1 S.2.1 dX7_kind_92 (by decide) ?_
        refine lv_iload_n S.1 S.2.1 dX7_kind_94 rfl (lv_at hl 3 rfl) ?_
        refine lv_iadd S.1 S.2.1 dX7_kind_95 ?_
        refine w_topi (y := (nI (6 + kN))) (iadd 6 hke) ?_
        refine lv_iload_n S.1 S.2.1 dX7_kind_96 rfl (lv_at hl 4 rfl) ?_
        refine w_iast S C w 1 rfl (nIin (by omega) (by decide)) (ws2 := [(mO, .inr (7, [.ref mS, .ref mD, .ref mR, .ref mT, .int mt, .int ma, .int mn, .ref mW, .ref mQ, .ref mC, .int my, .ref mU, .ref mV, .int mm, .int mf, .int mg])), (mS, .inl (G.2.1 2, 49, .inl (upd fS (nI (6 + kN)).toNatClampNeg j0))), (mR, .inl (G.2.1 2, 3, .inl fR))]) rfl dX7_kind_97 (fun H locs w => ?_)
        have w : Wd G (va_A [(mO, .inr (7, [.ref mS, .ref mD, .ref mR, .ref mT, .int mt, .int ma, .int mn, .ref mW, .ref mQ, .ref mC, .int my, .ref mU, .ref mV, .int mm, .int mf, .int mg])), (mS, .inl (G.2.1 2, 49, .inl fS)), (mR, .inl (G.2.1 2, 3, .inl fR))] sz) s [(mO, .inr (7, [.ref mS, .ref mD, .ref mR, .ref mT, .int mt, .int ma, .int mn, .ref mW, .ref mQ, .ref mC, .int my, .ref mU, .ref mV, .int mm, .int mf, .int mg])), (mS, .inl (G.2.1 2, 49, .inl (upd fS (6 + kN) j0))), (mR, .inl (G.2.1 2, 3, .inl fR))] H locs := by have h := nIc (j := 6 + kN) (by omega); rw [h] at w; exact w
        refine lv_iload S.1 S.2.1 dX7_kind_98 (lv_at hl 0 rfl) ?_
        exact W.iret (v := (fS (6 + kN))) S.1 S.2.1 hr (fun t ht _ => ⟨⟨(fS (6 + kN)), ((upd fS (6 + kN) j0), fR), rfl, ⟨⟨by unfold kindS; rw [← hz59, if_neg c61, if_neg c68, hic], by unfold kindT; rw [← hz59, if_neg c61, if_neg c68, hic]⟩, okM.upd hok (by omega) _⟩, by rw [ht]; exact w.1, w.2.1⟩, w.2.2.F ht⟩) w.2.2.2.2 dX7_kind_100
      · refine lv_aload_n S.1 S.2.1 dX7_kind_71 rfl (lv_at hl 1 rfl) ?_
        refine lv_iload_n S.1 S.2.1 dX7_kind_72 rfl (lv_at hl 0 rfl) ?_
        refine cq_i C w [0, 2] [1] [1, 0, 2] (wr := [(mS, .inl (G.2.1 2, 49, .inl fS))]) (w' := fun u : (Nat → Int32) => [(mO, .inr (7, [.ref mS, .ref mD, .ref mR, .ref mT, .int mt, .int ma, .int mn, .ref mW, .ref mQ, .ref mC, .int my, .ref mU, .ref mV, .int mm, .int mf, .int mg])), (mR, .inl (G.2.1 2, 3, .inl u))]) (ws2 := fun u : (Nat → Int32) => [(mO, .inr (7, [.ref mS, .ref mD, .ref mR, .ref mT, .int mt, .int ma, .int mn, .ref mW, .ref mQ, .ref mC, .int my, .ref mU, .ref mV, .int mm, .int mf, .int mg])), (mS, .inl (G.2.1 2, 49, .inl fS)), (mR, .inl (G.2.1 2, 3, .inl u))]) rfl rfl rfl (by decide) rfl (fun _ => rfl) (va_runV (As := [.int z59]) (rest := []) S (c_X7_none l G mO mR _ mS mD mT mW mQ mC mU mV mt ma mn my mm mf mg fR z59) (cwV 1 S.2.2.2.2 gX7_kind_X7_none rfl rfl rfl (by decide +kernel) ⟨Nat.le_of_ble_eq_true rfl, Nat.le_of_ble_eq_true rfl⟩) ⟨wPre_blind, va_recv C.1 w.1 (ci := 7) (q0 := 0) rfl rfl, wPre_at C w [0, 2] rfl rfl⟩ rfl rfl hl.1 rfl (lv_room (Nat.le_of_ble_eq_true rfl)) dX7_kind_73 ⟨Nat.le_of_ble_eq_true rfl, Nat.le_of_ble_eq_true rfl⟩) (fun r73_1 u73_1 H locs h73_1 w => ?_)
        have w : Wd G _ s [(mO, .inr (7, [.ref mS, .ref mD, .ref mR, .ref mT, .int mt, .int ma, .int mn, .ref mW, .ref mQ, .ref mC, .int my, .ref mU, .ref mV, .int mm, .int mf, .int mg])), (mS, .inl (G.2.1 2, 49, .inl fS)), (mR, .inl (G.2.1 2, 3, .inl u73_1))] H locs := w
        exact W.iret (v := r73_1) S.1 S.2.1 hr (fun t ht _ => ⟨⟨r73_1, (fS, u73_1), rfl, ⟨by first | exact ⟨by rw [h73_1]; unfold kindS noneF; rw [← hz59, if_pos c61, if_pos c61], by unfold kindT; rw [← hz59, if_pos c61]⟩ | exact ⟨by rw [h73_1]; unfold kindS noneF; rw [← hz59, if_neg c61, if_neg c61, if_pos c68], by unfold kindT; rw [← hz59, if_neg c61, if_pos c68]⟩, hok⟩, by rw [ht]; exact w.1, w.2.1⟩, w.2.2.F ht⟩) w.2.2.2.2 dX7_kind_76
  · refine lv_aload_n S.1 S.2.1 dX7_kind_0 rfl (lv_at hl 0 rfl) ?_
    refine lv_iload_n S.1 S.2.1 dX7_kind_1 rfl (lv_at hl 1 rfl) ?_
    refine cs_i (va_runV (As := [.int i0]) (rest := []) S (c_X7_isGate l G mO mS _ mD mR mT mW mQ mC mU mV mt ma mn my mm mf mg fS i0) (cwV 1 S.2.2.2.2 gX7_kind_X7_isGate rfl rfl rfl (by decide +kernel) ⟨Nat.le_of_ble_eq_true rfl, Nat.le_of_ble_eq_true rfl⟩) ⟨wPre_blind, va_recv C.1 w.1 (ci := 7) (q0 := 0) rfl rfl, wPre_at C w [0, 1] rfl rfl⟩ rfl rfl hl.1 rfl (lv_room (Nat.le_of_ble_eq_true rfl)) dX7_kind_2 ⟨Nat.le_of_ble_eq_true rfl, Nat.le_of_ble_eq_true rfl⟩) (fun r2 h2 => ?_)
    refine w_topi (y := (gateM fS i0)) h2 ?_
    refine lv_if_eq (tgt := 58) S.1 S.2.1 dX7_kind_5 (by decide) (fun c5 => ?_) (fun c5 => ?_)
    · refine lv_iconst (v := 0) S.1 S.2.1 dX7_kind_58 (by decide) ?_
      exact J59 0 (by first | (simp only [kzM, if_pos c5]; done) | (simp only [kzM, if_neg c5, if_neg c15, if_neg c22, hic]; first | exact (if_pos (by rw [← hz42, ← hz51]; exact @c51)).symm | exact (if_neg (by rw [← hz42, ← hz51]; exact @c51)).symm))
    · refine lv_iload_n S.1 S.2.1 dX7_kind_8 rfl (lv_at hl 2 rfl) ?_
      refine lv_iconst (v := 0) S.1 S.2.1 dX7_kind_9 (by decide) ?_
      refine lv_bipush (v := 7) S.1 S.2.1 dX7_kind_10 (by decide) ?_
      refine cs_i (va_runS (As := [.int j0, .int 0, .int 7]) (rest := []) S (c_X7_in l G _ j0 0 7) (va_cwS 3 S.2.2.2.2 gX7_kind_X7_in rfl rfl rfl (by decide +kernel) ⟨Nat.le_of_ble_eq_true rfl, Nat.le_of_ble_eq_true rfl⟩) ⟨wPre_blind, wPre_at C w [] rfl rfl⟩ rfl rfl hl.1 rfl (lv_room (Nat.le_of_ble_eq_true rfl)) dX7_kind_12 ⟨Nat.le_of_ble_eq_true rfl, Nat.le_of_ble_eq_true rfl⟩) (fun r12 h12 => ?_)
      refine w_topi (y := (inF j0 0 7)) h12 ?_
      refine lv_if_eq (tgt := 58) S.1 S.2.1 dX7_kind_15 (by decide) (fun c15 => ?_) (fun c15 => ?_)
      · refine lv_iconst (v := 0) S.1 S.2.1 dX7_kind_58 (by decide) ?_
        exact J59 0 (by first | (simp only [kzM, if_neg c5, if_pos c15]; done) | (simp only [kzM, if_neg c5, if_neg c15, if_neg c22, hic]; first | exact (if_pos (by rw [← hz42, ← hz51]; exact @c51)).symm | exact (if_neg (by rw [← hz42, ← hz51]; exact @c51)).symm))
      · refine lv_aload_n S.1 S.2.1 dX7_kind_18 rfl (lv_at hl 0 rfl) ?_
        refine cs_i (va_runV (As := []) (rest := []) S (c_X7_isThere l G mO mS _ mD mR mT mW mQ mC mU mV mt ma mn my mm mf mg fS) (cwV 0 S.2.2.2.2 gX7_kind_X7_isThere rfl rfl rfl (by decide +kernel) ⟨Nat.le_of_ble_eq_true rfl, Nat.le_of_ble_eq_true rfl⟩) ⟨wPre_blind, va_recv C.1 w.1 (ci := 7) (q0 := 0) rfl rfl, wPre_at C w [0, 1] rfl rfl⟩ rfl rfl hl.1 rfl (lv_room (Nat.le_of_ble_eq_true rfl)) dX7_kind_19 ⟨Nat.le_of_ble_eq_true rfl, Nat.le_of_ble_eq_true rfl⟩) (fun r19 h19 => ?_)
        refine w_topi (y := (thereM fS)) h19 ?_
        refine lv_if_eq (tgt := 54) S.1 S.2.1 dX7_kind_22 (by decide) (fun c22 => ?_) (fun c22 => ?_)
        · refine lv_iconst (v := 1) S.1 S.2.1 dX7_kind_54 (by decide) ?_
          refine lv_goto (tgt := 59) S.1 S.2.1 dX7_kind_55 (by decide) ?_
          exact J59 1 (by first | (simp only [kzM, if_neg c5, if_neg c15, if_pos c22]; done) | (simp only [kzM, if_neg c5, if_neg c15, if_neg c22, hic]; first | exact (if_pos (by rw [← hz42, ← hz51]; exact @c51)).symm | exact (if_neg (by rw [← hz42, ← hz51]; exact @c51)).symm))
        · obtain ⟨kN, hkN, hke⟩ := gate_ok hg hgN c5 c22
          have hic : i0.toNatClampNeg = kN := by rw [hke]; exact nIc (by omega)
          refine lv_aload_n S.1 S.2.1 dX7_kind_25 rfl (lv_at hl 0 rfl) ?_
          refine w_get S C w (CC := RX7) (T := TX7) (N := 16) (ref := "GateSumsModel") im_X7_kind_X7 0 rfl rfl 0 (by decide) (List.mem_of_getElem? (i := 1) rfl) (fun _ h => h) rfl dX7_kind_26 ?_
          refine lv_bipush (v := 6) S.1 S.2.1 dX7_kind_29 (by decide) ?_
          refine lv_iload_n S.1 S.2.1 dX7_kind_31 rfl (lv_at hl 1 rfl) ?_
          refine lv_iadd S.1 S.2.1 dX7_kind_32 ?_
          refine w_topi (y := (nI (6 + kN))) (iadd 6 hke) ?_
          refine w_iald S C w 1 rfl (nIin (by omega) (by decide)) dX7_kind_33 ?_
          refine w_joini 42 [] (fun z42 => z42 = if fS (6 + kN) = 0 then 1 else 0) (fun z42 hz42 => ?_) (fun J42 => ?_)
          · refine lv_iload_n S.1 S.2.1 dX7_kind_42 rfl (lv_at hl 2 rfl) ?_
            refine w_joini 51 [.int z42] (fun z51 => z51 = if j0 = 0 then 1 else 0) (fun z51 hz51 => ?_) (fun J51 => ?_)
            · refine lv_icmp_ne (tgt := 58) S.1 S.2.1 dX7_kind_51 (by decide) (fun c51 => ?_) (fun c51 => ?_)
              · refine lv_iconst (v := 0) S.1 S.2.1 dX7_kind_58 (by decide) ?_
                exact J59 0 (by first | (simp only [kzM, if_neg c5, if_neg c15, if_neg c22, if_neg c51]; done) | (simp only [kzM, if_neg c5, if_neg c15, if_neg c22, hic]; first | exact (if_pos (by rw [← hz42, ← hz51]; exact c51)).symm | exact (if_neg (by rw [← hz42, ← hz51]; exact c51)).symm))
              · refine lv_iconst (v := 1) S.1 S.2.1 dX7_kind_54 (by decide) ?_
                refine lv_goto (tgt := 59) S.1 S.2.1 dX7_kind_55 (by decide) ?_
                exact J59 1 (by first | (simp only [kzM, if_neg c5, if_neg c15, if_neg c22, if_pos c51]; done) | (simp only [kzM, if_neg c5, if_neg c15, if_neg c22, hic]; first | exact (if_pos (by rw [← hz42, ← hz51]; exact c51)).symm | exact (if_neg (by rw [← hz42, ← hz51]; exact c51)).symm))
            · refine lv_if_ne (tgt := 50) S.1 S.2.1 dX7_kind_43 (by decide) (fun c43 => ?_) (fun c43 => ?_)
              · refine lv_iconst (v := 0) S.1 S.2.1 dX7_kind_50 (by decide) ?_
                exact J51 0 (by first | exact (if_pos c43).symm | exact (if_neg c43).symm)
              · refine lv_iconst (v := 1) S.1 S.2.1 dX7_kind_46 (by decide) ?_
                refine lv_goto (tgt := 51) S.1 S.2.1 dX7_kind_47 (by decide) ?_
                exact J51 1 (by first | exact (if_pos c43).symm | exact (if_neg c43).symm)
          · refine w_topi (y := (fS (6 + kN))) (congrArg fS (nIc (by omega))) ?_
            refine lv_if_ne (tgt := 41) S.1 S.2.1 dX7_kind_34 (by decide) (fun c34 => ?_) (fun c34 => ?_)
            · refine lv_iconst (v := 0) S.1 S.2.1 dX7_kind_41 (by decide) ?_
              exact J42 0 (by first | exact (if_pos c34).symm | exact (if_neg c34).symm)
            · refine lv_iconst (v := 1) S.1 S.2.1 dX7_kind_37 (by decide) ?_
              refine lv_goto (tgt := 42) S.1 S.2.1 dX7_kind_38 (by decide) ?_
              exact J42 1 (by first | exact (if_pos c34).symm | exact (if_neg c34).symm)
set_option maxHeartbeats 4000000 in
set_option maxRecDepth 100000 in
theorem y_X7_wire (l : Launch) (G : GT) (mO mS mR : Nat) (sz : Nat) (mD mT mW mQ mC mU mV : Nat) (mt ma mn my mm mf mg : Int32) (fS fR : Nat → Int32) (i0 j0 k0 : Int32) (hok : okM fS) : Met l yX7_wire wsX7_wire ({ frames := 2, cells := 0, slots := 0, locals := 43 }) (va_Pc [.ref mO, .int i0, .int j0, .int k0] (wPre G [(mO, .inr (7, [.ref mS, .ref mD, .ref mR, .ref mT, .int mt, .int ma, .int mn, .ref mW, .ref mQ, .ref mC, .int my, .ref mU, .ref mV, .int mm, .int mf, .int mg])), (mS, .inl (G.2.1 2, 49, .inl fS)), (mR, .inl (G.2.1 2, 3, .inl fR))] sz)) (va_Qi (fun (r : Int32) (u : (Nat → Int32) × (Nat → Int32)) => (r = wireS fS i0 j0 k0 ∧ u.1 = wireT fS i0 j0 k0) ∧ okM u.1) (bW G (va_A [(mO, .inr (7, [.ref mS, .ref mD, .ref mR, .ref mT, .int mt, .int ma, .int mn, .ref mW, .ref mQ, .ref mC, .int my, .ref mU, .ref mV, .int mm, .int mf, .int mg])), (mS, .inl (G.2.1 2, 49, .inl fS)), (mR, .inl (G.2.1 2, 3, .inl fR))] sz) (fun u : (Nat → Int32) × (Nat → Int32) => [(mO, .inr (7, [.ref mS, .ref mD, .ref mR, .ref mT, .int mt, .int ma, .int mn, .ref mW, .ref mQ, .ref mC, .int my, .ref mU, .ref mV, .int mm, .int mf, .int mg])), (mS, .inl (G.2.1 2, 49, .inl u.1)), (mR, .inl (G.2.1 2, 3, .inl u.2))])) (va_A [(mO, .inr (7, [.ref mS, .ref mD, .ref mR, .ref mT, .int mt, .int ma, .int mn, .ref mW, .ref mQ, .ref mC, .int my, .ref mU, .ref mV, .int mm, .int mf, .int mg])), (mS, .inl (G.2.1 2, 49, .inl fS)), (mR, .inl (G.2.1 2, 3, .inl fR))] sz)) 0 0 (va_A [(mO, .inr (7, [.ref mS, .ref mD, .ref mR, .ref mT, .int mt, .int ma, .int mn, .ref mW, .ref mQ, .ref mC, .int my, .ref mU, .ref mV, .int mm, .int mf, .int mg])), (mS, .inl (G.2.1 2, 49, .inl fS)), (mR, .inl (G.2.1 2, 3, .inl fR))] sz) := by
  refine met_go (cc := cX7_wire) (maxL := 7) (ret := (some .int)) (own := RX7) (by decide) rfl rfl (Nat.le_of_ble_eq_true rfl) ?_
  intro p e s m below meth c ls S hr hlocks hname hsz C w hl
  obtain ⟨nN, gN, oN, pN, qN, h0_, hnN, hg, hgN, ho, hoN, hp, hpN, hq, hqN⟩ := id hok
  have hl : lv_has ls 7 [(0, .ref mO), (1, .int i0), (2, .int j0), (3, .int k0)] := hl
  refine w_joini 76 [] (fun z76 => z76 = wzM fS i0 j0 k0) (fun z76 hz76 => ?_) (fun J76 => ?_)
  · refine lv_istore (lv' := [(4, .int z76), (0, .ref mO), (1, .int i0), (2, .int j0), (3, .int k0)]) S.1 S.2.1 dX7_wire_76 hl (by decide) rfl (fun ls hl => ?_)
    refine lv_iload S.1 S.2.1 dX7_wire_78 (lv_at hl 0 rfl) ?_
    refine lv_if_eq (tgt := 90) S.1 S.2.1 dX7_wire_80 (by decide) (fun c80 => ?_) (fun c80 => ?_)
    · refine lv_aload_n S.1 S.2.1 dX7_wire_90 rfl (lv_at hl 1 rfl) ?_
      refine lv_iload S.1 S.2.1 dX7_wire_91 (lv_at hl 0 rfl) ?_
      refine cq_i C w [0, 2] [1] [1, 0, 2] (wr := [(mS, .inl (G.2.1 2, 49, .inl fS))]) (w' := fun u : (Nat → Int32) => [(mO, .inr (7, [.ref mS, .ref mD, .ref mR, .ref mT, .int mt, .int ma, .int mn, .ref mW, .ref mQ, .ref mC, .int my, .ref mU, .ref mV, .int mm, .int mf, .int mg])), (mR, .inl (G.2.1 2, 3, .inl u))]) (ws2 := fun u : (Nat → Int32) => [(mO, .inr (7, [.ref mS, .ref mD, .ref mR, .ref mT, .int mt, .int ma, .int mn, .ref mW, .ref mQ, .ref mC, .int my, .ref mU, .ref mV, .int mm, .int mf, .int mg])), (mS, .inl (G.2.1 2, 49, .inl fS)), (mR, .inl (G.2.1 2, 3, .inl u))]) rfl rfl rfl (by decide) rfl (fun _ => rfl) (va_runV (As := [.int z76]) (rest := []) S (c_X7_none l G mO mR _ mS mD mT mW mQ mC mU mV mt ma mn my mm mf mg fR z76) (cwV 1 S.2.2.2.2 gX7_wire_X7_none rfl rfl rfl (by decide +kernel) ⟨Nat.le_of_ble_eq_true rfl, Nat.le_of_ble_eq_true rfl⟩) ⟨wPre_blind, va_recv C.1 w.1 (ci := 7) (q0 := 0) rfl rfl, wPre_at C w [0, 2] rfl rfl⟩ rfl rfl hl.1 rfl (lv_room (Nat.le_of_ble_eq_true rfl)) dX7_wire_93 ⟨Nat.le_of_ble_eq_true rfl, Nat.le_of_ble_eq_true rfl⟩) (fun r93 u93 H locs h93 w => ?_)
      have w : Wd G _ s [(mO, .inr (7, [.ref mS, .ref mD, .ref mR, .ref mT, .int mt, .int ma, .int mn, .ref mW, .ref mQ, .ref mC, .int my, .ref mU, .ref mV, .int mm, .int mf, .int mg])), (mS, .inl (G.2.1 2, 49, .inl fS)), (mR, .inl (G.2.1 2, 3, .inl u93))] H locs := w
      exact W.iret (v := r93) S.1 S.2.1 hr (fun t ht _ => ⟨⟨r93, (fS, u93), rfl, ⟨by first | exact ⟨by rw [h93]; unfold wireS noneF; rw [← hz76, if_pos c80, if_pos c80], by unfold wireT; rw [← hz76, if_pos c80]⟩ | exact ⟨by rw [h93]; unfold wireS noneF; rw [← hz76, if_neg c80, if_neg c80, if_pos @c87], by unfold wireT; rw [← hz76, if_neg c80, if_pos @c87]⟩, hok⟩, by rw [ht]; exact w.1, w.2.1⟩, w.2.2.F ht⟩) w.2.2.2.2 dX7_wire_96
    · refine lv_aload_n S.1 S.2.1 dX7_wire_83 rfl (lv_at hl 1 rfl) ?_
      refine cs_i (va_runV (As := []) (rest := []) S (c_X7_isThere l G mO mS _ mD mR mT mW mQ mC mU mV mt ma mn my mm mf mg fS) (cwV 0 S.2.2.2.2 gX7_wire_X7_isThere rfl rfl rfl (by decide +kernel) ⟨Nat.le_of_ble_eq_true rfl, Nat.le_of_ble_eq_true rfl⟩) ⟨wPre_blind, va_recv C.1 w.1 (ci := 7) (q0 := 0) rfl rfl, wPre_at C w [0, 1] rfl rfl⟩ rfl rfl hl.1 rfl (lv_room (Nat.le_of_ble_eq_true rfl)) dX7_wire_84 ⟨Nat.le_of_ble_eq_true rfl, Nat.le_of_ble_eq_true rfl⟩) (fun r84 h84 => ?_)
      refine w_topi (y := (thereM fS)) h84 ?_
      refine lv_if_ne (tgt := 97) S.1 S.2.1 dX7_wire_87 (by decide) (fun c87 => ?_) (fun c87 => ?_)
      · refine w_joini 108 [] (fun z108 => ∃ b : Nat, z108 = nI b ∧ 6 ≤ b ∧ b ≤ 30 ∧ wireP j0 = b) (fun z108 hz108 => ?_) (fun J108 => ?_)
        · obtain ⟨kN, hkN, hke⟩ := gate_ok hg hgN (wzM_g (fun q => c80 (hz76.trans q))) c87
          obtain ⟨bN, hbe, hb1, hb2, hbw⟩ := hz108
          have hic : i0.toNatClampNeg = kN := by rw [hke]; exact nIc (by omega)
          refine w_topi (y := (nI bN)) (hbe) ?_
          refine lv_iload_n S.1 S.2.1 dX7_wire_108 rfl (lv_at hl 2 rfl) ?_
          refine lv_iadd S.1 S.2.1 dX7_wire_109 ?_
          refine w_topi (y := (nI (bN + kN))) (by rw [hke]; exact nI_add _ _) ?_
          refine lv_istore (lv' := [(5, .int (nI (bN + kN))), (4, .int z76), (0, .ref mO), (1, .int i0), (2, .int j0), (3, .int k0)]) S.1 S.2.1 dX7_wire_110 hl (by decide) rfl (fun ls hl => ?_)
          refine lv_aload_n S.1 S.2.1 dX7_wire_112 rfl (lv_at hl 2 rfl) ?_
          refine w_get S C w (CC := RX7) (T := TX7) (N := 16) (ref := "GateSumsModel") im_X7_wire_X7 0 rfl rfl 0 (by decide) (List.mem_of_getElem? (i := 1) rfl) (fun _ h => h) rfl dX7_wire_113 ?_
          refine lv_iload S.1 S.2.1 dX7_wire_116 (lv_at hl 0 rfl) ?_
          refine w_iald S C w 1 rfl (nIin (by omega) (by decide)) dX7_wire_118 ?_
          refine w_topi (y := (fS (bN + kN))) (congrArg fS (nIc (by omega))) ?_
          refine lv_istore (lv' := [(6, .int (fS (bN + kN))), (5, .int (nI (bN + kN))), (4, .int z76), (0, .ref mO), (1, .int i0), (2, .int j0), (3, .int k0)]) S.1 S.2.1 dX7_wire_119 hl (by decide) rfl (fun ls hl => ?_)
          refine lv_aload_n S.1 S.2.1 dX7_wire_121 rfl (lv_at hl 3 rfl) ?_
          refine w_get S C w (CC := RX7) (T := TX7) (N := 16) (ref := "GateSumsModel") im_X7_wire_X7 0 rfl rfl 0 (by decide) (List.mem_of_getElem? (i := 1) rfl) (fun _ h => h) rfl dX7_wire_122 ?_
          refine lv_iload S.1 S.2.1 dX7_wire_125 (lv_at hl 1 rfl) ?_
          refine lv_iload_n S.1 S.2.1 dX7_wire_127 rfl (lv_at hl 6 rfl) ?_
          refine w_iast S C w 1 rfl (nIin (by omega) (by decide)) (ws2 := [(mO, .inr (7, [.ref mS, .ref mD, .ref mR, .ref mT, .int mt, .int ma, .int mn, .ref mW, .ref mQ, .ref mC, .int my, .ref mU, .ref mV, .int mm, .int mf, .int mg])), (mS, .inl (G.2.1 2, 49, .inl (upd fS (nI (bN + kN)).toNatClampNeg k0))), (mR, .inl (G.2.1 2, 3, .inl fR))]) rfl dX7_wire_128 (fun H locs w => ?_)
          have w : Wd G (va_A [(mO, .inr (7, [.ref mS, .ref mD, .ref mR, .ref mT, .int mt, .int ma, .int mn, .ref mW, .ref mQ, .ref mC, .int my, .ref mU, .ref mV, .int mm, .int mf, .int mg])), (mS, .inl (G.2.1 2, 49, .inl fS)), (mR, .inl (G.2.1 2, 3, .inl fR))] sz) s [(mO, .inr (7, [.ref mS, .ref mD, .ref mR, .ref mT, .int mt, .int ma, .int mn, .ref mW, .ref mQ, .ref mC, .int my, .ref mU, .ref mV, .int mm, .int mf, .int mg])), (mS, .inl (G.2.1 2, 49, .inl (upd fS (bN + kN) k0))), (mR, .inl (G.2.1 2, 3, .inl fR))] H locs := by have h := nIc (j := bN + kN) (by omega); rw [h] at w; exact w
          refine lv_iload S.1 S.2.1 dX7_wire_129 (lv_at hl 0 rfl) ?_
          exact W.iret (v := (fS (bN + kN))) S.1 S.2.1 hr (fun t ht _ => ⟨⟨(fS (bN + kN)), ((upd fS (bN + kN) k0), fR), rfl, ⟨⟨by unfold wireS; rw [← hz76, if_neg c80, if_neg c87, hic, hbw], by unfold wireT; rw [← hz76, if_neg c80, if_neg c87, hic, hbw]⟩, okM.upd hok (by omega) _⟩, by rw [ht]; exact w.1, w.2.1⟩, w.2.2.F ht⟩) w.2.2.2.2 dX7_wire_131
        · refine lv_iload_n S.1 S.2.1 dX7_wire_97 rfl (lv_at hl 3 rfl) ?_
          refine lv_if_ne (tgt := 106) S.1 S.2.1 dX7_wire_98 (by decide) (fun c98 => ?_) (fun c98 => ?_)
          · refine lv_bipush (v := 30) S.1 S.2.1 dX7_wire_106 (by decide) ?_
            exact J108 30 (by first | exact ⟨18, rfl, by decide, by decide, if_pos c98⟩ | exact ⟨30, rfl, by decide, by decide, if_neg c98⟩)
          · refine lv_bipush (v := 18) S.1 S.2.1 dX7_wire_101 (by decide) ?_
            refine lv_goto (tgt := 108) S.1 S.2.1 dX7_wire_103 (by decide) ?_
            exact J108 18 (by first | exact ⟨18, rfl, by decide, by decide, if_pos c98⟩ | exact ⟨30, rfl, by decide, by decide, if_neg c98⟩)
      · refine lv_aload_n S.1 S.2.1 dX7_wire_90 rfl (lv_at hl 1 rfl) ?_
        refine lv_iload S.1 S.2.1 dX7_wire_91 (lv_at hl 0 rfl) ?_
        refine cq_i C w [0, 2] [1] [1, 0, 2] (wr := [(mS, .inl (G.2.1 2, 49, .inl fS))]) (w' := fun u : (Nat → Int32) => [(mO, .inr (7, [.ref mS, .ref mD, .ref mR, .ref mT, .int mt, .int ma, .int mn, .ref mW, .ref mQ, .ref mC, .int my, .ref mU, .ref mV, .int mm, .int mf, .int mg])), (mR, .inl (G.2.1 2, 3, .inl u))]) (ws2 := fun u : (Nat → Int32) => [(mO, .inr (7, [.ref mS, .ref mD, .ref mR, .ref mT, .int mt, .int ma, .int mn, .ref mW, .ref mQ, .ref mC, .int my, .ref mU, .ref mV, .int mm, .int mf, .int mg])), (mS, .inl (G.2.1 2, 49, .inl fS)), (mR, .inl (G.2.1 2, 3, .inl u))]) rfl rfl rfl (by decide) rfl (fun _ => rfl) (va_runV (As := [.int z76]) (rest := []) S (c_X7_none l G mO mR _ mS mD mT mW mQ mC mU mV mt ma mn my mm mf mg fR z76) (cwV 1 S.2.2.2.2 gX7_wire_X7_none rfl rfl rfl (by decide +kernel) ⟨Nat.le_of_ble_eq_true rfl, Nat.le_of_ble_eq_true rfl⟩) ⟨wPre_blind, va_recv C.1 w.1 (ci := 7) (q0 := 0) rfl rfl, wPre_at C w [0, 2] rfl rfl⟩ rfl rfl hl.1 rfl (lv_room (Nat.le_of_ble_eq_true rfl)) dX7_wire_93 ⟨Nat.le_of_ble_eq_true rfl, Nat.le_of_ble_eq_true rfl⟩) (fun r93_1 u93_1 H locs h93_1 w => ?_)
        have w : Wd G _ s [(mO, .inr (7, [.ref mS, .ref mD, .ref mR, .ref mT, .int mt, .int ma, .int mn, .ref mW, .ref mQ, .ref mC, .int my, .ref mU, .ref mV, .int mm, .int mf, .int mg])), (mS, .inl (G.2.1 2, 49, .inl fS)), (mR, .inl (G.2.1 2, 3, .inl u93_1))] H locs := w
        exact W.iret (v := r93_1) S.1 S.2.1 hr (fun t ht _ => ⟨⟨r93_1, (fS, u93_1), rfl, ⟨by first | exact ⟨by rw [h93_1]; unfold wireS noneF; rw [← hz76, if_pos c80, if_pos c80], by unfold wireT; rw [← hz76, if_pos c80]⟩ | exact ⟨by rw [h93_1]; unfold wireS noneF; rw [← hz76, if_neg c80, if_neg c80, if_pos c87], by unfold wireT; rw [← hz76, if_neg c80, if_pos c87]⟩, hok⟩, by rw [ht]; exact w.1, w.2.1⟩, w.2.2.F ht⟩) w.2.2.2.2 dX7_wire_96
  · refine lv_aload_n S.1 S.2.1 dX7_wire_0 rfl (lv_at hl 0 rfl) ?_
    refine lv_iload_n S.1 S.2.1 dX7_wire_1 rfl (lv_at hl 1 rfl) ?_
    refine cs_i (va_runV (As := [.int i0]) (rest := []) S (c_X7_isGate l G mO mS _ mD mR mT mW mQ mC mU mV mt ma mn my mm mf mg fS i0) (cwV 1 S.2.2.2.2 gX7_wire_X7_isGate rfl rfl rfl (by decide +kernel) ⟨Nat.le_of_ble_eq_true rfl, Nat.le_of_ble_eq_true rfl⟩) ⟨wPre_blind, va_recv C.1 w.1 (ci := 7) (q0 := 0) rfl rfl, wPre_at C w [0, 1] rfl rfl⟩ rfl rfl hl.1 rfl (lv_room (Nat.le_of_ble_eq_true rfl)) dX7_wire_2 ⟨Nat.le_of_ble_eq_true rfl, Nat.le_of_ble_eq_true rfl⟩) (fun r2 h2 => ?_)
    refine w_topi (y := (gateM fS i0)) h2 ?_
    refine lv_if_eq (tgt := 75) S.1 S.2.1 dX7_wire_5 (by decide) (fun c5 => ?_) (fun c5 => ?_)
    · refine lv_iconst (v := 0) S.1 S.2.1 dX7_wire_75 (by decide) ?_
      exact J76 0 (by first | (simp only [wzM, if_pos c5]; done) | (simp only [wzM, if_pos c5, hic]; done) | (unfold wzM; rw [if_neg c5, if_neg @c14, if_neg @c21]; first | exact (if_pos @c39).symm | exact ((if_neg @c39).trans (if_pos @c43)).symm | exact ((if_neg @c39).trans ((if_neg @c43).trans (by rw [hic]; first | exact if_pos @c55 | exact if_neg @c55))).symm))
    · refine lv_iload_n S.1 S.2.1 dX7_wire_8 rfl (lv_at hl 2 rfl) ?_
      refine lv_iconst (v := 0) S.1 S.2.1 dX7_wire_9 (by decide) ?_
      refine lv_iconst (v := 1) S.1 S.2.1 dX7_wire_10 (by decide) ?_
      refine cs_i (va_runS (As := [.int j0, .int 0, .int 1]) (rest := []) S (c_X7_in l G _ j0 0 1) (va_cwS 3 S.2.2.2.2 gX7_wire_X7_in rfl rfl rfl (by decide +kernel) ⟨Nat.le_of_ble_eq_true rfl, Nat.le_of_ble_eq_true rfl⟩) ⟨wPre_blind, wPre_at C w [] rfl rfl⟩ rfl rfl hl.1 rfl (lv_room (Nat.le_of_ble_eq_true rfl)) dX7_wire_11 ⟨Nat.le_of_ble_eq_true rfl, Nat.le_of_ble_eq_true rfl⟩) (fun r11 h11 => ?_)
      refine w_topi (y := (inF j0 0 1)) h11 ?_
      refine lv_if_eq (tgt := 75) S.1 S.2.1 dX7_wire_14 (by decide) (fun c14 => ?_) (fun c14 => ?_)
      · refine lv_iconst (v := 0) S.1 S.2.1 dX7_wire_75 (by decide) ?_
        exact J76 0 (by first | (simp only [wzM, if_neg c5, if_pos c14]; done) | (simp only [wzM, if_neg c5, if_pos c14, hic]; done) | (unfold wzM; rw [if_neg c5, if_neg c14, if_neg @c21]; first | exact (if_pos @c39).symm | exact ((if_neg @c39).trans (if_pos @c43)).symm | exact ((if_neg @c39).trans ((if_neg @c43).trans (by rw [hic]; first | exact if_pos @c55 | exact if_neg @c55))).symm))
      · refine lv_aload_n S.1 S.2.1 dX7_wire_17 rfl (lv_at hl 0 rfl) ?_
        refine cs_i (va_runV (As := []) (rest := []) S (c_X7_isThere l G mO mS _ mD mR mT mW mQ mC mU mV mt ma mn my mm mf mg fS) (cwV 0 S.2.2.2.2 gX7_wire_X7_isThere rfl rfl rfl (by decide +kernel) ⟨Nat.le_of_ble_eq_true rfl, Nat.le_of_ble_eq_true rfl⟩) ⟨wPre_blind, va_recv C.1 w.1 (ci := 7) (q0 := 0) rfl rfl, wPre_at C w [0, 1] rfl rfl⟩ rfl rfl hl.1 rfl (lv_room (Nat.le_of_ble_eq_true rfl)) dX7_wire_18 ⟨Nat.le_of_ble_eq_true rfl, Nat.le_of_ble_eq_true rfl⟩) (fun r18 h18 => ?_)
        refine w_topi (y := (thereM fS)) h18 ?_
        refine lv_if_eq (tgt := 61) S.1 S.2.1 dX7_wire_21 (by decide) (fun c21 => ?_) (fun c21 => ?_)
        · refine lv_iload_n S.1 S.2.1 dX7_wire_61 rfl (lv_at hl 3 rfl) ?_
          refine lv_iconst (v := 0) S.1 S.2.1 dX7_wire_62 (by decide) ?_
          refine lv_bipush (v := 17) S.1 S.2.1 dX7_wire_63 (by decide) ?_
          refine cs_i (va_runS (As := [.int k0, .int 0, .int 17]) (rest := []) S (c_X7_in l G _ k0 0 17) (va_cwS 3 S.2.2.2.2 gX7_wire_X7_in rfl rfl rfl (by decide +kernel) ⟨Nat.le_of_ble_eq_true rfl, Nat.le_of_ble_eq_true rfl⟩) ⟨wPre_blind, wPre_at C w [] rfl rfl⟩ rfl rfl hl.1 rfl (lv_room (Nat.le_of_ble_eq_true rfl)) dX7_wire_65 ⟨Nat.le_of_ble_eq_true rfl, Nat.le_of_ble_eq_true rfl⟩) (fun r65 h65 => ?_)
          refine w_topi (y := (inF k0 0 17)) h65 ?_
          refine lv_if_eq (tgt := 75) S.1 S.2.1 dX7_wire_68 (by decide) (fun c68 => ?_) (fun c68 => ?_)
          · refine lv_iconst (v := 0) S.1 S.2.1 dX7_wire_75 (by decide) ?_
            exact J76 0 (by first | (simp only [wzM, if_neg c5, if_neg c14, if_pos c21, if_pos c68]; done) | (simp only [wzM, if_neg c5, if_neg c14, if_pos c21, if_pos c68, hic]; done) | (unfold wzM; rw [if_neg c5, if_neg c14, if_neg c21]; first | exact (if_pos @c39).symm | exact ((if_neg @c39).trans (if_pos @c43)).symm | exact ((if_neg @c39).trans ((if_neg @c43).trans (by rw [hic]; first | exact if_pos @c55 | exact if_neg @c55))).symm))
          · refine lv_iconst (v := 1) S.1 S.2.1 dX7_wire_71 (by decide) ?_
            refine lv_goto (tgt := 76) S.1 S.2.1 dX7_wire_72 (by decide) ?_
            exact J76 1 (by first | (simp only [wzM, if_neg c5, if_neg c14, if_pos c21, if_neg c68]; done) | (simp only [wzM, if_neg c5, if_neg c14, if_pos c21, if_neg c68, hic]; done) | (unfold wzM; rw [if_neg c5, if_neg c14, if_neg c21]; first | exact (if_pos @c39).symm | exact ((if_neg @c39).trans (if_pos @c43)).symm | exact ((if_neg @c39).trans ((if_neg @c43).trans (by rw [hic]; first | exact if_pos @c55 | exact if_neg @c55))).symm))
        · refine lv_iload_n S.1 S.2.1 dX7_wire_24 rfl (lv_at hl 3 rfl) ?_
          refine lv_iconst (v := 0) S.1 S.2.1 dX7_wire_25 (by decide) ?_
          refine lv_aload_n S.1 S.2.1 dX7_wire_26 rfl (lv_at hl 0 rfl) ?_
          refine w_get S C w (CC := RX7) (T := TX7) (N := 16) (ref := "GateSumsModel") im_X7_wire_X7 0 rfl rfl 0 (by decide) (List.mem_of_getElem? (i := 1) rfl) (fun _ h => h) rfl dX7_wire_27 ?_
          refine lv_iconst (v := 0) S.1 S.2.1 dX7_wire_30 (by decide) ?_
          refine w_iald S C w 1 rfl (by unfold vp_in; decide) dX7_wire_31 ?_
          refine lv_iload_n S.1 S.2.1 dX7_wire_32 rfl (lv_at hl 1 rfl) ?_
          refine lv_iadd S.1 S.2.1 dX7_wire_33 ?_
          refine lv_iconst (v := 1) S.1 S.2.1 dX7_wire_34 (by decide) ?_
          refine lv_isub S.1 S.2.1 dX7_wire_35 ?_
          refine cs_i (va_runS (As := [.int k0, .int 0, .int (((fS (0 : Int32).toNatClampNeg) + i0) - 1)]) (rest := []) S (c_X7_in l G _ k0 0 (((fS (0 : Int32).toNatClampNeg) + i0) - 1)) (va_cwS 3 S.2.2.2.2 gX7_wire_X7_in rfl rfl rfl (by decide +kernel) ⟨Nat.le_of_ble_eq_true rfl, Nat.le_of_ble_eq_true rfl⟩) ⟨wPre_blind, wPre_at C w [] rfl rfl⟩ rfl rfl hl.1 rfl (lv_room (Nat.le_of_ble_eq_true rfl)) dX7_wire_36 ⟨Nat.le_of_ble_eq_true rfl, Nat.le_of_ble_eq_true rfl⟩) (fun r36 h36 => ?_)
          refine w_topi (y := (inF k0 0 (((fS (0 : Int32).toNatClampNeg) + i0) - 1))) h36 ?_
          refine lv_if_eq (tgt := 75) S.1 S.2.1 dX7_wire_39 (by decide) (fun c39 => ?_) (fun c39 => ?_)
          · refine lv_iconst (v := 0) S.1 S.2.1 dX7_wire_75 (by decide) ?_
            exact J76 0 (by first | (simp only [wzM, if_neg c5, if_neg c14, if_neg c21, if_pos c39]; done) | (simp only [wzM, if_neg c5, if_neg c14, if_neg c21, if_pos c39, hic]; done) | (unfold wzM; rw [if_neg c5, if_neg c14, if_neg c21]; first | exact (if_pos c39).symm | exact ((if_neg c39).trans (if_pos @c43)).symm | exact ((if_neg c39).trans ((if_neg @c43).trans (by rw [hic]; first | exact if_pos @c55 | exact if_neg @c55))).symm))
          · refine lv_iload_n S.1 S.2.1 dX7_wire_42 rfl (lv_at hl 2 rfl) ?_
            refine lv_if_eq (tgt := 71) S.1 S.2.1 dX7_wire_43 (by decide) (fun c43 => ?_) (fun c43 => ?_)
            · refine lv_iconst (v := 1) S.1 S.2.1 dX7_wire_71 (by decide) ?_
              refine lv_goto (tgt := 76) S.1 S.2.1 dX7_wire_72 (by decide) ?_
              exact J76 1 (by first | (simp only [wzM, if_neg c5, if_neg c14, if_neg c21, if_neg c39, if_pos c43]; done) | (simp only [wzM, if_neg c5, if_neg c14, if_neg c21, if_neg c39, if_pos c43, hic]; done) | (unfold wzM; rw [if_neg c5, if_neg c14, if_neg c21]; first | exact (if_pos c39).symm | exact ((if_neg c39).trans (if_pos c43)).symm | exact ((if_neg c39).trans ((if_neg c43).trans (by rw [hic]; first | exact if_pos @c55 | exact if_neg @c55))).symm))
            · obtain ⟨kN, hkN, hke⟩ := gate_ok hg hgN c5 c21
              have hic : i0.toNatClampNeg = kN := by rw [hke]; exact nIc (by omega)
              refine lv_aload_n S.1 S.2.1 dX7_wire_46 rfl (lv_at hl 0 rfl) ?_
              refine w_get S C w (CC := RX7) (T := TX7) (N := 16) (ref := "GateSumsModel") im_X7_wire_X7 0 rfl rfl 0 (by decide) (List.mem_of_getElem? (i := 1) rfl) (fun _ h => h) rfl dX7_wire_47 ?_
              refine lv_bipush (v := 6) S.1 S.2.1 dX7_wire_50 (by decide) ?_
              refine lv_iload_n S.1 S.2.1 dX7_wire_52 rfl (lv_at hl 1 rfl) ?_
              refine lv_iadd S.1 S.2.1 dX7_wire_53 ?_
              refine w_topi (y := (nI (6 + kN))) (iadd 6 hke) ?_
              refine w_iald S C w 1 rfl (nIin (by omega) (by decide)) dX7_wire_54 ?_
              refine w_topi (y := (fS (6 + kN))) (congrArg fS (nIc (by omega))) ?_
              refine lv_if_eq (tgt := 75) S.1 S.2.1 dX7_wire_55 (by decide) (fun c55 => ?_) (fun c55 => ?_)
              · refine lv_iconst (v := 0) S.1 S.2.1 dX7_wire_75 (by decide) ?_
                exact J76 0 (by first | (simp only [wzM, if_neg c5, if_neg c14, if_neg c21, if_neg c39, if_neg c43, if_pos c55]; done) | (simp only [wzM, if_neg c5, if_neg c14, if_neg c21, if_neg c39, if_neg c43, if_pos c55, hic]; done) | (unfold wzM; rw [if_neg c5, if_neg c14, if_neg c21]; first | exact (if_pos c39).symm | exact ((if_neg c39).trans (if_pos c43)).symm | exact ((if_neg c39).trans ((if_neg c43).trans (by rw [hic]; first | exact if_pos c55 | exact if_neg c55))).symm))
              · refine lv_goto (tgt := 71) S.1 S.2.1 dX7_wire_58 (by decide) ?_
                refine lv_iconst (v := 1) S.1 S.2.1 dX7_wire_71 (by decide) ?_
                refine lv_goto (tgt := 76) S.1 S.2.1 dX7_wire_72 (by decide) ?_
                exact J76 1 (by first | (simp only [wzM, if_neg c5, if_neg c14, if_neg c21, if_neg c39, if_neg c43, if_neg c55]; done) | (simp only [wzM, if_neg c5, if_neg c14, if_neg c21, if_neg c39, if_neg c43, if_neg c55, hic]; done) | (unfold wzM; rw [if_neg c5, if_neg c14, if_neg c21]; first | exact (if_pos c39).symm | exact ((if_neg c39).trans (if_pos c43)).symm | exact ((if_neg c39).trans ((if_neg c43).trans (by rw [hic]; first | exact if_pos c55 | exact if_neg c55))).symm))
set_option maxHeartbeats 4000000 in
set_option maxRecDepth 100000 in
theorem y_X7_cures (l : Launch) (G : GT) (mO mS mR : Nat) (sz : Nat) (mD mT mW mQ mC mU mV : Nat) (mt ma mn my mm mf mg : Int32) (fS fR : Nat → Int32) (i0 : Int32) (hok : okM fS) : Met l yX7_cures wsX7_cures ({ frames := 4, cells := 0, slots := 0, locals := 96 }) (va_Pc [.ref mO, .int i0] (wPre G [(mO, .inr (7, [.ref mS, .ref mD, .ref mR, .ref mT, .int mt, .int ma, .int mn, .ref mW, .ref mQ, .ref mC, .int my, .ref mU, .ref mV, .int mm, .int mf, .int mg])), (mS, .inl (G.2.1 2, 49, .inl fS)), (mR, .inl (G.2.1 2, 3, .inl fR))] sz)) (va_Qi (fun (r : Int32) (u : (Nat → Int32) × (Nat → Int32)) => u.1 = fS) (bW G (va_A [(mO, .inr (7, [.ref mS, .ref mD, .ref mR, .ref mT, .int mt, .int ma, .int mn, .ref mW, .ref mQ, .ref mC, .int my, .ref mU, .ref mV, .int mm, .int mf, .int mg])), (mS, .inl (G.2.1 2, 49, .inl fS)), (mR, .inl (G.2.1 2, 3, .inl fR))] sz) (fun u : (Nat → Int32) × (Nat → Int32) => [(mO, .inr (7, [.ref mS, .ref mD, .ref mR, .ref mT, .int mt, .int ma, .int mn, .ref mW, .ref mQ, .ref mC, .int my, .ref mU, .ref mV, .int mm, .int mf, .int mg])), (mS, .inl (G.2.1 2, 49, .inl u.1)), (mR, .inl (G.2.1 2, 3, .inl u.2))])) (va_A [(mO, .inr (7, [.ref mS, .ref mD, .ref mR, .ref mT, .int mt, .int ma, .int mn, .ref mW, .ref mQ, .ref mC, .int my, .ref mU, .ref mV, .int mm, .int mf, .int mg])), (mS, .inl (G.2.1 2, 49, .inl fS)), (mR, .inl (G.2.1 2, 3, .inl fR))] sz)) 0 0 (va_A [(mO, .inr (7, [.ref mS, .ref mD, .ref mR, .ref mT, .int mt, .int ma, .int mn, .ref mW, .ref mQ, .ref mC, .int my, .ref mU, .ref mV, .int mm, .int mf, .int mg])), (mS, .inl (G.2.1 2, 49, .inl fS)), (mR, .inl (G.2.1 2, 3, .inl fR))] sz) := by
  refine met_go (cc := cX7_cures) (maxL := 6) (ret := (some .int)) (own := RX7) (by decide) rfl rfl (Nat.le_of_ble_eq_true rfl) ?_
  intro p e s m below meth c ls S hr hlocks hname hsz C w hl
  obtain ⟨nN, gN, oN, pN, qN, h0_, hnN, hg, hgN, ho, hoN, hp, hpN, hq, hqN⟩ := id hok
  have hl : lv_has ls 6 [(0, .ref mO), (1, .int i0)] := hl
  refine lv_aload_n S.1 S.2.1 dX7_cures_0 rfl (lv_at hl 0 rfl) ?_
  refine lv_iload_n S.1 S.2.1 dX7_cures_1 rfl (lv_at hl 1 rfl) ?_
  refine cs_i (va_runV (As := [.int i0]) (rest := []) S (c_X7_isGate l G mO mS _ mD mR mT mW mQ mC mU mV mt ma mn my mm mf mg fS i0) (cwV 1 S.2.2.2.2 gX7_cures_X7_isGate rfl rfl rfl (by decide +kernel) ⟨Nat.le_of_ble_eq_true rfl, Nat.le_of_ble_eq_true rfl⟩) ⟨wPre_blind, va_recv C.1 w.1 (ci := 7) (q0 := 0) rfl rfl, wPre_at C w [0, 1] rfl rfl⟩ rfl rfl hl.1 rfl (lv_room (Nat.le_of_ble_eq_true rfl)) dX7_cures_2 ⟨Nat.le_of_ble_eq_true rfl, Nat.le_of_ble_eq_true rfl⟩) (fun r2 h2 => ?_)
  refine w_topi (y := (gateM fS i0)) h2 ?_
  refine lv_istore_n (lv' := [(2, .int (gateM fS i0)), (0, .ref mO), (1, .int i0)]) S.1 S.2.1 dX7_cures_5 rfl hl (by decide) rfl (fun ls hl => ?_)
  refine lv_iload_n S.1 S.2.1 dX7_cures_6 rfl (lv_at hl 0 rfl) ?_
  refine lv_if_eq (tgt := 17) S.1 S.2.1 dX7_cures_7 (by decide) (fun c7 => ?_) (fun c7 => ?_)
  · refine lv_aload_n S.1 S.2.1 dX7_cures_17 rfl (lv_at hl 1 rfl) ?_
    refine lv_iload_n S.1 S.2.1 dX7_cures_18 rfl (lv_at hl 0 rfl) ?_
    refine cq_i C w [0, 2] [1] [1, 0, 2] (wr := [(mS, .inl (G.2.1 2, 49, .inl fS))]) (w' := fun u : (Nat → Int32) => [(mO, .inr (7, [.ref mS, .ref mD, .ref mR, .ref mT, .int mt, .int ma, .int mn, .ref mW, .ref mQ, .ref mC, .int my, .ref mU, .ref mV, .int mm, .int mf, .int mg])), (mR, .inl (G.2.1 2, 3, .inl u))]) (ws2 := fun u : (Nat → Int32) => [(mO, .inr (7, [.ref mS, .ref mD, .ref mR, .ref mT, .int mt, .int ma, .int mn, .ref mW, .ref mQ, .ref mC, .int my, .ref mU, .ref mV, .int mm, .int mf, .int mg])), (mS, .inl (G.2.1 2, 49, .inl fS)), (mR, .inl (G.2.1 2, 3, .inl u))]) rfl rfl rfl (by decide) rfl (fun _ => rfl) (va_runV (As := [.int (gateM fS i0)]) (rest := []) S (c_X7_none l G mO mR _ mS mD mT mW mQ mC mU mV mt ma mn my mm mf mg fR (gateM fS i0)) (cwV 1 S.2.2.2.2 gX7_cures_X7_none rfl rfl rfl (by decide +kernel) ⟨Nat.le_of_ble_eq_true rfl, Nat.le_of_ble_eq_true rfl⟩) ⟨wPre_blind, va_recv C.1 w.1 (ci := 7) (q0 := 0) rfl rfl, wPre_at C w [0, 2] rfl rfl⟩ rfl rfl hl.1 rfl (lv_room (Nat.le_of_ble_eq_true rfl)) dX7_cures_19 ⟨Nat.le_of_ble_eq_true rfl, Nat.le_of_ble_eq_true rfl⟩) (fun r19 u19 H locs h19 w => ?_)
    have w : Wd G _ s [(mO, .inr (7, [.ref mS, .ref mD, .ref mR, .ref mT, .int mt, .int ma, .int mn, .ref mW, .ref mQ, .ref mC, .int my, .ref mU, .ref mV, .int mm, .int mf, .int mg])), (mS, .inl (G.2.1 2, 49, .inl fS)), (mR, .inl (G.2.1 2, 3, .inl u19))] H locs := w
    exact W.iret (v := r19) S.1 S.2.1 hr (fun t ht _ => ⟨⟨r19, (fS, u19), rfl, rfl, by rw [ht]; exact w.1, w.2.1⟩, w.2.2.F ht⟩) w.2.2.2.2 dX7_cures_22
  · refine lv_aload_n S.1 S.2.1 dX7_cures_10 rfl (lv_at hl 1 rfl) ?_
    refine cs_i (va_runV (As := []) (rest := []) S (c_X7_isThere l G mO mS _ mD mR mT mW mQ mC mU mV mt ma mn my mm mf mg fS) (cwV 0 S.2.2.2.2 gX7_cures_X7_isThere rfl rfl rfl (by decide +kernel) ⟨Nat.le_of_ble_eq_true rfl, Nat.le_of_ble_eq_true rfl⟩) ⟨wPre_blind, va_recv C.1 w.1 (ci := 7) (q0 := 0) rfl rfl, wPre_at C w [0, 1] rfl rfl⟩ rfl rfl hl.1 rfl (lv_room (Nat.le_of_ble_eq_true rfl)) dX7_cures_11 ⟨Nat.le_of_ble_eq_true rfl, Nat.le_of_ble_eq_true rfl⟩) (fun r11 h11 => ?_)
    refine w_topi (y := (thereM fS)) h11 ?_
    refine lv_if_ne (tgt := 23) S.1 S.2.1 dX7_cures_14 (by decide) (fun c14 => ?_) (fun c14 => ?_)
    · obtain ⟨kN, hkN, hke⟩ := gate_ok hg hgN c7 c14
      refine lv_aload_n S.1 S.2.1 dX7_cures_23 rfl (lv_at hl 1 rfl) ?_
      refine w_get S C w (CC := RX7) (T := TX7) (N := 16) (ref := "GateSumsModel") im_X7_cures_X7 0 rfl rfl 0 (by decide) (List.mem_of_getElem? (i := 1) rfl) (fun _ h => h) rfl dX7_cures_24 ?_
      refine lv_bipush (v := 6) S.1 S.2.1 dX7_cures_27 (by decide) ?_
      refine lv_iload_n S.1 S.2.1 dX7_cures_29 rfl (lv_at hl 2 rfl) ?_
      refine lv_iadd S.1 S.2.1 dX7_cures_30 ?_
      refine w_topi (y := (nI (6 + kN))) (iadd 6 hke) ?_
      refine w_iald S C w 1 rfl (nIin (by omega) (by decide)) dX7_cures_31 ?_
      refine w_topi (y := (fS (6 + kN))) (congrArg fS (nIc (by omega))) ?_
      refine lv_istore_n (lv' := [(3, .int (fS (6 + kN))), (2, .int (gateM fS i0)), (0, .ref mO), (1, .int i0)]) S.1 S.2.1 dX7_cures_32 rfl hl (by decide) rfl (fun ls hl => ?_)
      refine lv_iconst (v := 0) S.1 S.2.1 dX7_cures_33 (by decide) ?_
      refine lv_istore (lv' := [(4, .int 0), (3, .int (fS (6 + kN))), (2, .int (gateM fS i0)), (0, .ref mO), (1, .int i0)]) S.1 S.2.1 dX7_cures_34 hl (by decide) rfl (fun ls hl => ?_)
      refine w_joini 45 [] (fun z45 => ∃ b : Nat, z45 = nI b ∧ b ≤ 1) (fun z45 hz45 => ?_) (fun J45 => ?_)
      · obtain ⟨bN, hbe, hb1⟩ := hz45
        refine w_topi (y := (nI bN)) (hbe) ?_
        refine lv_istore (lv' := [(5, .int (nI bN)), (4, .int 0), (3, .int (fS (6 + kN))), (2, .int (gateM fS i0)), (0, .ref mO), (1, .int i0)]) S.1 S.2.1 dX7_cures_45 hl (by decide) rfl (fun ls hl => ?_)
        refine w_loop (G := G) (σ := Nat × Int32 × (Nat → Int32)) (nL := 6) 47 (fun x47 => 8 - x47.1) (fun x47 => x47.1 ≤ 8 ∧ ∀ i, ¬ i = 6 + kN → x47.2.2 i = fS i) (fun x47 => [(mO, .inr (7, [.ref mS, .ref mD, .ref mR, .ref mT, .int mt, .int ma, .int mn, .ref mW, .ref mQ, .ref mC, .int my, .ref mU, .ref mV, .int mm, .int mf, .int mg])), (mS, .inl (G.2.1 2, 49, .inl x47.2.2)), (mR, .inl (G.2.1 2, 3, .inl fR))]) (fun x47 => [(5, .int (nI x47.1)), (4, .int x47.2.1), (3, .int (fS (6 + kN))), (2, .int (gateM fS i0)), (0, .ref mO), (1, .int i0)]) (fun _ => []) ?_ (bN, 0, fS) ls _ _ (⟨by dsimp only; omega, fun _ _ => rfl⟩) w (lv_sub hl [0, 1, 2, 3, 4, 5] rfl)
        intro x47 ls H locs hI47 w hl ih47
        have w : Wd G _ s [(mO, .inr (7, [.ref mS, .ref mD, .ref mR, .ref mT, .int mt, .int ma, .int mn, .ref mW, .ref mQ, .ref mC, .int my, .ref mU, .ref mV, .int mm, .int mf, .int mg])), (mS, .inl (G.2.1 2, 49, .inl x47.2.2)), (mR, .inl (G.2.1 2, 3, .inl fR))] H locs := w
        have hl : lv_has ls 6 [(5, .int (nI x47.1)), (4, .int x47.2.1), (3, .int (fS (6 + kN))), (2, .int (gateM fS i0)), (0, .ref mO), (1, .int i0)] := hl
        refine lv_iload S.1 S.2.1 dX7_cures_47 (lv_at hl 0 rfl) ?_
        refine w_joini 59 [.int (nI x47.1)] (fun z59 => ∃ b : Nat, z59 = nI b ∧ b ≤ 8) (fun z59 hz59 => ?_) (fun J59 => ?_)
        · obtain ⟨eN, hee, he8⟩ := hz59
          refine w_topi (y := (nI eN)) (hee) ?_
          refine lv_icmp_ge (tgt := 101) S.1 S.2.1 dX7_cures_59 (by decide) (fun c59 => ?_) (fun c59 => ?_)
          · refine lv_aload_n S.1 S.2.1 dX7_cures_101 rfl (lv_at hl 4 rfl) ?_
            refine w_get S C w (CC := RX7) (T := TX7) (N := 16) (ref := "GateSumsModel") im_X7_cures_X7 0 rfl rfl 0 (by decide) (List.mem_of_getElem? (i := 1) rfl) (fun _ h => h) rfl dX7_cures_102 ?_
            refine lv_bipush (v := 6) S.1 S.2.1 dX7_cures_105 (by decide) ?_
            refine lv_iload_n S.1 S.2.1 dX7_cures_107 rfl (lv_at hl 5 rfl) ?_
            refine lv_iadd S.1 S.2.1 dX7_cures_108 ?_
            refine w_topi (y := (nI (6 + kN))) (iadd 6 hke) ?_
            refine lv_iload_n S.1 S.2.1 dX7_cures_109 rfl (lv_at hl 2 rfl) ?_
            refine w_iast S C w 1 rfl (nIin (by omega) (by decide)) (ws2 := [(mO, .inr (7, [.ref mS, .ref mD, .ref mR, .ref mT, .int mt, .int ma, .int mn, .ref mW, .ref mQ, .ref mC, .int my, .ref mU, .ref mV, .int mm, .int mf, .int mg])), (mS, .inl (G.2.1 2, 49, .inl (upd x47.2.2 (nI (6 + kN)).toNatClampNeg (fS (6 + kN))))), (mR, .inl (G.2.1 2, 3, .inl fR))]) rfl dX7_cures_110 (fun H locs w => ?_)
            have w : Wd G (va_A [(mO, .inr (7, [.ref mS, .ref mD, .ref mR, .ref mT, .int mt, .int ma, .int mn, .ref mW, .ref mQ, .ref mC, .int my, .ref mU, .ref mV, .int mm, .int mf, .int mg])), (mS, .inl (G.2.1 2, 49, .inl fS)), (mR, .inl (G.2.1 2, 3, .inl fR))] sz) s [(mO, .inr (7, [.ref mS, .ref mD, .ref mR, .ref mT, .int mt, .int ma, .int mn, .ref mW, .ref mQ, .ref mC, .int my, .ref mU, .ref mV, .int mm, .int mf, .int mg])), (mS, .inl (G.2.1 2, 49, .inl (upd x47.2.2 (6 + kN) (fS (6 + kN))))), (mR, .inl (G.2.1 2, 3, .inl fR))] H locs := by have h := nIc (j := 6 + kN) (by omega); rw [h] at w; exact w
            refine lv_iload S.1 S.2.1 dX7_cures_111 (lv_at hl 1 rfl) ?_
            exact W.iret (v := x47.2.1) S.1 S.2.1 hr (fun t ht _ => ⟨⟨x47.2.1, ((upd x47.2.2 (6 + kN) (fS (6 + kN))), fR), rfl, upd_back hI47.2, by rw [ht]; exact w.1, w.2.1⟩, w.2.2.F ht⟩) w.2.2.2.2 dX7_cures_113
          · refine lv_aload_n S.1 S.2.1 dX7_cures_62 rfl (lv_at hl 4 rfl) ?_
            refine w_get S C w (CC := RX7) (T := TX7) (N := 16) (ref := "GateSumsModel") im_X7_cures_X7 0 rfl rfl 0 (by decide) (List.mem_of_getElem? (i := 1) rfl) (fun _ h => h) rfl dX7_cures_63 ?_
            refine lv_bipush (v := 6) S.1 S.2.1 dX7_cures_66 (by decide) ?_
            refine lv_iload_n S.1 S.2.1 dX7_cures_68 rfl (lv_at hl 5 rfl) ?_
            refine lv_iadd S.1 S.2.1 dX7_cures_69 ?_
            refine w_topi (y := (nI (6 + kN))) (iadd 6 hke) ?_
            refine lv_iload S.1 S.2.1 dX7_cures_70 (lv_at hl 0 rfl) ?_
            refine w_iast S C w 1 rfl (nIin (by omega) (by decide)) (ws2 := [(mO, .inr (7, [.ref mS, .ref mD, .ref mR, .ref mT, .int mt, .int ma, .int mn, .ref mW, .ref mQ, .ref mC, .int my, .ref mU, .ref mV, .int mm, .int mf, .int mg])), (mS, .inl (G.2.1 2, 49, .inl (upd x47.2.2 (nI (6 + kN)).toNatClampNeg (nI x47.1)))), (mR, .inl (G.2.1 2, 3, .inl fR))]) rfl dX7_cures_72 (fun H locs w => ?_)
            have w : Wd G (va_A [(mO, .inr (7, [.ref mS, .ref mD, .ref mR, .ref mT, .int mt, .int ma, .int mn, .ref mW, .ref mQ, .ref mC, .int my, .ref mU, .ref mV, .int mm, .int mf, .int mg])), (mS, .inl (G.2.1 2, 49, .inl fS)), (mR, .inl (G.2.1 2, 3, .inl fR))] sz) s [(mO, .inr (7, [.ref mS, .ref mD, .ref mR, .ref mT, .int mt, .int ma, .int mn, .ref mW, .ref mQ, .ref mC, .int my, .ref mU, .ref mV, .int mm, .int mf, .int mg])), (mS, .inl (G.2.1 2, 49, .inl (upd x47.2.2 (6 + kN) (nI x47.1)))), (mR, .inl (G.2.1 2, 3, .inl fR))] H locs := by have h := nIc (j := 6 + kN) (by omega); rw [h] at w; exact w
            refine lv_iload S.1 S.2.1 dX7_cures_73 (lv_at hl 1 rfl) ?_
            refine lv_aload_n S.1 S.2.1 dX7_cures_75 rfl (lv_at hl 4 rfl) ?_
            refine lv_iconst (v := 1) S.1 S.2.1 dX7_cures_76 (by decide) ?_
            refine cs_i (va_runV (As := [.int 1]) (rest := [.int x47.2.1]) S (c_X7_wrongOnes l G mO mS _ mD mR mT mW mQ mC mU mV mt ma mn my mm mf mg (upd x47.2.2 (6 + kN) (nI x47.1)) gN oN 1 (by rw [pk_un (by omega)]; exact (hI47.2 1 (by omega)).trans hg) (hgN) (by rw [pk_un (by omega)]; exact (hI47.2 2 (by omega)).trans ho) (hoN)) (cwV 1 S.2.2.2.2 gX7_cures_X7_wrongOnes rfl rfl rfl (by decide +kernel) ⟨Nat.le_of_ble_eq_true rfl, Nat.le_of_ble_eq_true rfl⟩) ⟨wPre_blind, va_recv C.1 w.1 (ci := 7) (q0 := 0) rfl rfl, wPre_at C w [0, 1] rfl rfl⟩ rfl rfl hl.1 rfl (lv_room (Nat.le_of_ble_eq_true rfl)) dX7_cures_77 ⟨Nat.le_of_ble_eq_true rfl, Nat.le_of_ble_eq_true rfl⟩) (fun r77 h77 => ?_)
            refine lv_iconst (v := (-1)) S.1 S.2.1 dX7_cures_80 (by decide) ?_
            refine lv_icmp_ne (tgt := 91) S.1 S.2.1 dX7_cures_81 (by decide) (fun c81 => ?_) (fun c81 => ?_)
            · refine lv_iconst (v := 0) S.1 S.2.1 dX7_cures_91 (by decide) ?_
              refine lv_ior S.1 S.2.1 dX7_cures_92 ?_
              refine lv_istore (lv' := [(4, .int (x47.2.1 ||| 0)), (5, .int (nI x47.1)), (3, .int (fS (6 + kN))), (2, .int (gateM fS i0)), (0, .ref mO), (1, .int i0)]) S.1 S.2.1 dX7_cures_93 hl (by decide) rfl (fun ls hl => ?_)
              refine lv_iinc (v := (nI (x47.1 + 1))) (lv' := [(5, .int (nI (x47.1 + 1))), (4, .int (x47.2.1 ||| 0)), (3, .int (fS (6 + kN))), (2, .int (gateM fS i0)), (0, .ref mO), (1, .int i0)]) S.1 S.2.1 dX7_cures_95 hl (k := 1) rfl (nI_1 _) (by decide) rfl (fun ls hl => ?_)
              refine lv_goto (tgt := 47) S.1 S.2.1 dX7_cures_98 (by decide) ?_
              have hj8 := hI47.1
              have hlt : x47.1 < eN := by have h := c59; rw [nI_leI (by omega) (by omega)] at h; omega
              exact ih47 (x47.1 + 1, (x47.2.1 ||| 0), (upd x47.2.2 (6 + kN) (nI x47.1))) ls _ _ (⟨(by dsimp only; omega), fun i hi => (by dsimp only; rw [pk_un hi]; exact hI47.2 i hi)⟩) (by dsimp only; omega) w (lv_sub hl [0, 1, 2, 3, 4, 5] rfl)
            · refine lv_iconst (v := 1) S.1 S.2.1 dX7_cures_84 (by decide) ?_
              refine lv_iload S.1 S.2.1 dX7_cures_85 (lv_at hl 0 rfl) ?_
              refine lv_ishl S.1 S.2.1 dX7_cures_87 ?_
              refine lv_goto (tgt := 92) S.1 S.2.1 dX7_cures_88 (by decide) ?_
              refine lv_ior S.1 S.2.1 dX7_cures_92 ?_
              refine lv_istore (lv' := [(4, .int (x47.2.1 ||| ((1 : Int32) <<< ((nI x47.1) &&& 31)))), (5, .int (nI x47.1)), (3, .int (fS (6 + kN))), (2, .int (gateM fS i0)), (0, .ref mO), (1, .int i0)]) S.1 S.2.1 dX7_cures_93 hl (by decide) rfl (fun ls hl => ?_)
              refine lv_iinc (v := (nI (x47.1 + 1))) (lv' := [(5, .int (nI (x47.1 + 1))), (4, .int (x47.2.1 ||| ((1 : Int32) <<< ((nI x47.1) &&& 31)))), (3, .int (fS (6 + kN))), (2, .int (gateM fS i0)), (0, .ref mO), (1, .int i0)]) S.1 S.2.1 dX7_cures_95 hl (k := 1) rfl (nI_1 _) (by decide) rfl (fun ls hl => ?_)
              refine lv_goto (tgt := 47) S.1 S.2.1 dX7_cures_98 (by decide) ?_
              have hj8 := hI47.1
              have hlt : x47.1 < eN := by have h := c59; rw [nI_leI (by omega) (by omega)] at h; omega
              exact ih47 (x47.1 + 1, (x47.2.1 ||| ((1 : Int32) <<< ((nI x47.1) &&& 31))), (upd x47.2.2 (6 + kN) (nI x47.1))) ls _ _ (⟨(by dsimp only; omega), fun i hi => (by dsimp only; rw [pk_un hi]; exact hI47.2 i hi)⟩) (by dsimp only; omega) w (lv_sub hl [0, 1, 2, 3, 4, 5] rfl)
        · refine lv_iload_n S.1 S.2.1 dX7_cures_49 rfl (lv_at hl 2 rfl) ?_
          refine lv_if_ne (tgt := 57) S.1 S.2.1 dX7_cures_50 (by decide) (fun c50 => ?_) (fun c50 => ?_)
          · refine lv_bipush (v := 8) S.1 S.2.1 dX7_cures_57 (by decide) ?_
            exact J59 8 (by first | exact ⟨1, rfl, by decide⟩ | exact ⟨8, rfl, by decide⟩)
          · refine lv_iconst (v := 1) S.1 S.2.1 dX7_cures_53 (by decide) ?_
            refine lv_goto (tgt := 59) S.1 S.2.1 dX7_cures_54 (by decide) ?_
            exact J59 1 (by first | exact ⟨1, rfl, by decide⟩ | exact ⟨8, rfl, by decide⟩)
      · refine lv_iload_n S.1 S.2.1 dX7_cures_36 rfl (lv_at hl 1 rfl) ?_
        refine lv_if_ne (tgt := 44) S.1 S.2.1 dX7_cures_37 (by decide) (fun c37 => ?_) (fun c37 => ?_)
        · refine lv_iconst (v := 1) S.1 S.2.1 dX7_cures_44 (by decide) ?_
          exact J45 1 (by first | exact ⟨0, rfl, by decide⟩ | exact ⟨1, rfl, by decide⟩)
        · refine lv_iconst (v := 0) S.1 S.2.1 dX7_cures_40 (by decide) ?_
          refine lv_goto (tgt := 45) S.1 S.2.1 dX7_cures_41 (by decide) ?_
          exact J45 0 (by first | exact ⟨0, rfl, by decide⟩ | exact ⟨1, rfl, by decide⟩)
    · refine lv_aload_n S.1 S.2.1 dX7_cures_17 rfl (lv_at hl 1 rfl) ?_
      refine lv_iload_n S.1 S.2.1 dX7_cures_18 rfl (lv_at hl 0 rfl) ?_
      refine cq_i C w [0, 2] [1] [1, 0, 2] (wr := [(mS, .inl (G.2.1 2, 49, .inl fS))]) (w' := fun u : (Nat → Int32) => [(mO, .inr (7, [.ref mS, .ref mD, .ref mR, .ref mT, .int mt, .int ma, .int mn, .ref mW, .ref mQ, .ref mC, .int my, .ref mU, .ref mV, .int mm, .int mf, .int mg])), (mR, .inl (G.2.1 2, 3, .inl u))]) (ws2 := fun u : (Nat → Int32) => [(mO, .inr (7, [.ref mS, .ref mD, .ref mR, .ref mT, .int mt, .int ma, .int mn, .ref mW, .ref mQ, .ref mC, .int my, .ref mU, .ref mV, .int mm, .int mf, .int mg])), (mS, .inl (G.2.1 2, 49, .inl fS)), (mR, .inl (G.2.1 2, 3, .inl u))]) rfl rfl rfl (by decide) rfl (fun _ => rfl) (va_runV (As := [.int (gateM fS i0)]) (rest := []) S (c_X7_none l G mO mR _ mS mD mT mW mQ mC mU mV mt ma mn my mm mf mg fR (gateM fS i0)) (cwV 1 S.2.2.2.2 gX7_cures_X7_none rfl rfl rfl (by decide +kernel) ⟨Nat.le_of_ble_eq_true rfl, Nat.le_of_ble_eq_true rfl⟩) ⟨wPre_blind, va_recv C.1 w.1 (ci := 7) (q0 := 0) rfl rfl, wPre_at C w [0, 2] rfl rfl⟩ rfl rfl hl.1 rfl (lv_room (Nat.le_of_ble_eq_true rfl)) dX7_cures_19 ⟨Nat.le_of_ble_eq_true rfl, Nat.le_of_ble_eq_true rfl⟩) (fun r19_1 u19_1 H locs h19_1 w => ?_)
      have w : Wd G _ s [(mO, .inr (7, [.ref mS, .ref mD, .ref mR, .ref mT, .int mt, .int ma, .int mn, .ref mW, .ref mQ, .ref mC, .int my, .ref mU, .ref mV, .int mm, .int mf, .int mg])), (mS, .inl (G.2.1 2, 49, .inl fS)), (mR, .inl (G.2.1 2, 3, .inl u19_1))] H locs := w
      exact W.iret (v := r19_1) S.1 S.2.1 hr (fun t ht _ => ⟨⟨r19_1, (fS, u19_1), rfl, rfl, by rw [ht]; exact w.1, w.2.1⟩, w.2.2.F ht⟩) w.2.2.2.2 dX7_cures_22
set_option maxHeartbeats 4000000 in
set_option maxRecDepth 100000 in
theorem y_X7_of (l : Launch) (G : GT) (mO mS mR : Nat) (sz : Nat) (mD mT mW mQ mC mU mV : Nat) (mt ma mn my mm mf mg : Int32) (fS fR : Nat → Int32) (i0 j0 : Int32) (hok : okM fS) : Met l yX7_of wsX7_of ({ frames := 2, cells := 0, slots := 0, locals := 43 }) (va_Pc [.ref mO, .int i0, .int j0] (wPre G [(mO, .inr (7, [.ref mS, .ref mD, .ref mR, .ref mT, .int mt, .int ma, .int mn, .ref mW, .ref mQ, .ref mC, .int my, .ref mU, .ref mV, .int mm, .int mf, .int mg])), (mS, .inl (G.2.1 2, 49, .inl fS)), (mR, .inl (G.2.1 2, 3, .inl fR))] sz)) (va_Qi (fun (r : Int32) (u : (Nat → Int32)) => r = ofS fS i0 j0) (bW G (va_A [(mO, .inr (7, [.ref mS, .ref mD, .ref mR, .ref mT, .int mt, .int ma, .int mn, .ref mW, .ref mQ, .ref mC, .int my, .ref mU, .ref mV, .int mm, .int mf, .int mg])), (mS, .inl (G.2.1 2, 49, .inl fS)), (mR, .inl (G.2.1 2, 3, .inl fR))] sz) (fun u : (Nat → Int32) => [(mO, .inr (7, [.ref mS, .ref mD, .ref mR, .ref mT, .int mt, .int ma, .int mn, .ref mW, .ref mQ, .ref mC, .int my, .ref mU, .ref mV, .int mm, .int mf, .int mg])), (mS, .inl (G.2.1 2, 49, .inl fS)), (mR, .inl (G.2.1 2, 3, .inl u))])) (va_A [(mO, .inr (7, [.ref mS, .ref mD, .ref mR, .ref mT, .int mt, .int ma, .int mn, .ref mW, .ref mQ, .ref mC, .int my, .ref mU, .ref mV, .int mm, .int mf, .int mg])), (mS, .inl (G.2.1 2, 49, .inl fS)), (mR, .inl (G.2.1 2, 3, .inl fR))] sz)) 0 0 (va_A [(mO, .inr (7, [.ref mS, .ref mD, .ref mR, .ref mT, .int mt, .int ma, .int mn, .ref mW, .ref mQ, .ref mC, .int my, .ref mU, .ref mV, .int mm, .int mf, .int mg])), (mS, .inl (G.2.1 2, 49, .inl fS)), (mR, .inl (G.2.1 2, 3, .inl fR))] sz) := by
  refine met_go (cc := cX7_of) (maxL := 7) (ret := (some .int)) (own := RX7) (by decide) rfl rfl (Nat.le_of_ble_eq_true rfl) ?_
  intro p e s m below meth c ls S hr hlocks hname hsz C w hl
  obtain ⟨nN, gN, oN, pN, qN, h0_, hnN, hg, hgN, ho, hoN, hp, hpN, hq, hqN⟩ := id hok
  have hl : lv_has ls 7 [(0, .ref mO), (1, .int i0), (2, .int j0)] := hl
  refine w_joini 22 [] (fun z22 => z22 = ozM fS i0 j0) (fun z22 hz22 => ?_) (fun J22 => ?_)
  · refine lv_istore_n (lv' := [(3, .int z22), (0, .ref mO), (1, .int i0), (2, .int j0)]) S.1 S.2.1 dX7_of_22 rfl hl (by decide) rfl (fun ls hl => ?_)
    refine lv_iload_n S.1 S.2.1 dX7_of_23 rfl (lv_at hl 0 rfl) ?_
    refine lv_if_eq (tgt := 34) S.1 S.2.1 dX7_of_24 (by decide) (fun c24 => ?_) (fun c24 => ?_)
    · refine lv_aload_n S.1 S.2.1 dX7_of_34 rfl (lv_at hl 1 rfl) ?_
      refine lv_iload_n S.1 S.2.1 dX7_of_35 rfl (lv_at hl 0 rfl) ?_
      refine cq_i C w [0, 2] [1] [1, 0, 2] (wr := [(mS, .inl (G.2.1 2, 49, .inl fS))]) (w' := fun u : (Nat → Int32) => [(mO, .inr (7, [.ref mS, .ref mD, .ref mR, .ref mT, .int mt, .int ma, .int mn, .ref mW, .ref mQ, .ref mC, .int my, .ref mU, .ref mV, .int mm, .int mf, .int mg])), (mR, .inl (G.2.1 2, 3, .inl u))]) (ws2 := fun u : (Nat → Int32) => [(mO, .inr (7, [.ref mS, .ref mD, .ref mR, .ref mT, .int mt, .int ma, .int mn, .ref mW, .ref mQ, .ref mC, .int my, .ref mU, .ref mV, .int mm, .int mf, .int mg])), (mS, .inl (G.2.1 2, 49, .inl fS)), (mR, .inl (G.2.1 2, 3, .inl u))]) rfl rfl rfl (by decide) rfl (fun _ => rfl) (va_runV (As := [.int z22]) (rest := []) S (c_X7_none l G mO mR _ mS mD mT mW mQ mC mU mV mt ma mn my mm mf mg fR z22) (cwV 1 S.2.2.2.2 gX7_of_X7_none rfl rfl rfl (by decide +kernel) ⟨Nat.le_of_ble_eq_true rfl, Nat.le_of_ble_eq_true rfl⟩) ⟨wPre_blind, va_recv C.1 w.1 (ci := 7) (q0 := 0) rfl rfl, wPre_at C w [0, 2] rfl rfl⟩ rfl rfl hl.1 rfl (lv_room (Nat.le_of_ble_eq_true rfl)) dX7_of_36 ⟨Nat.le_of_ble_eq_true rfl, Nat.le_of_ble_eq_true rfl⟩) (fun r36 u36 H locs h36 w => ?_)
      have w : Wd G _ s [(mO, .inr (7, [.ref mS, .ref mD, .ref mR, .ref mT, .int mt, .int ma, .int mn, .ref mW, .ref mQ, .ref mC, .int my, .ref mU, .ref mV, .int mm, .int mf, .int mg])), (mS, .inl (G.2.1 2, 49, .inl fS)), (mR, .inl (G.2.1 2, 3, .inl u36))] H locs := w
      exact W.iret (v := r36) S.1 S.2.1 hr (fun t ht _ => ⟨⟨r36, u36, rfl, by first | exact (by rw [h36]; unfold ofS noneF; rw [← hz22, if_pos c24, if_pos c24]) | exact (by rw [h36]; unfold ofS noneF; rw [← hz22, if_neg c24, if_neg c24, if_pos @c31]), by rw [ht]; exact w.1, w.2.1⟩, w.2.2.F ht⟩) w.2.2.2.2 dX7_of_39
    · refine lv_aload_n S.1 S.2.1 dX7_of_27 rfl (lv_at hl 1 rfl) ?_
      refine cs_i (va_runV (As := []) (rest := []) S (c_X7_isThere l G mO mS _ mD mR mT mW mQ mC mU mV mt ma mn my mm mf mg fS) (cwV 0 S.2.2.2.2 gX7_of_X7_isThere rfl rfl rfl (by decide +kernel) ⟨Nat.le_of_ble_eq_true rfl, Nat.le_of_ble_eq_true rfl⟩) ⟨wPre_blind, va_recv C.1 w.1 (ci := 7) (q0 := 0) rfl rfl, wPre_at C w [0, 1] rfl rfl⟩ rfl rfl hl.1 rfl (lv_room (Nat.le_of_ble_eq_true rfl)) dX7_of_28 ⟨Nat.le_of_ble_eq_true rfl, Nat.le_of_ble_eq_true rfl⟩) (fun r28 h28 => ?_)
      refine w_topi (y := (thereM fS)) h28 ?_
      refine lv_if_ne (tgt := 40) S.1 S.2.1 dX7_of_31 (by decide) (fun c31 => ?_) (fun c31 => ?_)
      · obtain ⟨kN, hkN, hke⟩ := gate_ok hg hgN (ozM_g (fun q => c24 (hz22.trans q))) c31
        have hic : i0.toNatClampNeg = kN := by rw [hke]; exact nIc (by omega)
        refine lv_iload_n S.1 S.2.1 dX7_of_40 rfl (lv_at hl 3 rfl) ?_
        refine lv_iconst (v := 3) S.1 S.2.1 dX7_of_41 (by decide) ?_
        refine lv_icmp_ge (tgt := 88) S.1 S.2.1 dX7_of_42 (by decide) (fun c42 => ?_) (fun c42 => ?_)
        · refine lv_aload_n S.1 S.2.1 dX7_of_88 rfl (lv_at hl 1 rfl) ?_
          refine w_get S C w (CC := RX7) (T := TX7) (N := 16) (ref := "GateSumsModel") im_X7_of_X7 0 rfl rfl 0 (by decide) (List.mem_of_getElem? (i := 1) rfl) (fun _ h => h) rfl dX7_of_89 ?_
          refine lv_iconst (v := 0) S.1 S.2.1 dX7_of_92 (by decide) ?_
          refine w_iald S C w 1 rfl (by unfold vp_in; decide) dX7_of_93 ?_
          refine lv_iload_n S.1 S.2.1 dX7_of_94 rfl (lv_at hl 2 rfl) ?_
          refine lv_iadd S.1 S.2.1 dX7_of_95 ?_
          refine w_topi (y := (fS 0 + i0)) (rfl) ?_
          refine lv_istore (lv' := [(4, .int (fS 0 + i0)), (3, .int z22), (0, .ref mO), (1, .int i0), (2, .int j0)]) S.1 S.2.1 dX7_of_96 hl (by decide) rfl (fun ls hl => ?_)
          refine lv_iconst (v := 0) S.1 S.2.1 dX7_of_98 (by decide) ?_
          refine lv_istore (lv' := [(5, .int 0), (4, .int (fS 0 + i0)), (3, .int z22), (0, .ref mO), (1, .int i0), (2, .int j0)]) S.1 S.2.1 dX7_of_99 hl (by decide) rfl (fun ls hl => ?_)
          refine lv_iconst (v := 0) S.1 S.2.1 dX7_of_101 (by decide) ?_
          refine lv_istore (lv' := [(6, .int 0), (5, .int 0), (4, .int (fS 0 + i0)), (3, .int z22), (0, .ref mO), (1, .int i0), (2, .int j0)]) S.1 S.2.1 dX7_of_102 hl (by decide) rfl (fun ls hl => ?_)
          refine w_loop (G := G) (σ := Nat × Int32) (nL := 7) 104 (fun x104 => gN - x104.1) (fun x104 => x104.1 ≤ gN ∧ x104.2 = um1 fS (fS 0 + i0) x104.1) (fun x104 => [(mO, .inr (7, [.ref mS, .ref mD, .ref mR, .ref mT, .int mt, .int ma, .int mn, .ref mW, .ref mQ, .ref mC, .int my, .ref mU, .ref mV, .int mm, .int mf, .int mg])), (mS, .inl (G.2.1 2, 49, .inl fS)), (mR, .inl (G.2.1 2, 3, .inl fR))]) (fun x104 => [(6, .int (nI x104.1)), (5, .int x104.2), (4, .int (fS 0 + i0)), (3, .int z22), (0, .ref mO), (1, .int i0), (2, .int j0)]) (fun _ => []) ?_ (0, 0) ls _ _ (⟨Nat.zero_le _, rfl⟩) w (lv_sub hl [0, 1, 2, 3, 4, 5, 6] rfl)
          intro x104 ls H locs hI104 w hl ih104
          have w : Wd G _ s [(mO, .inr (7, [.ref mS, .ref mD, .ref mR, .ref mT, .int mt, .int ma, .int mn, .ref mW, .ref mQ, .ref mC, .int my, .ref mU, .ref mV, .int mm, .int mf, .int mg])), (mS, .inl (G.2.1 2, 49, .inl fS)), (mR, .inl (G.2.1 2, 3, .inl fR))] H locs := w
          have hl : lv_has ls 7 [(6, .int (nI x104.1)), (5, .int x104.2), (4, .int (fS 0 + i0)), (3, .int z22), (0, .ref mO), (1, .int i0), (2, .int j0)] := hl
          have hA1 := hI104.1
          refine lv_iload S.1 S.2.1 dX7_of_104 (lv_at hl 0 rfl) ?_
          refine lv_aload_n S.1 S.2.1 dX7_of_106 rfl (lv_at hl 4 rfl) ?_
          refine w_get S C w (CC := RX7) (T := TX7) (N := 16) (ref := "GateSumsModel") im_X7_of_X7 0 rfl rfl 0 (by decide) (List.mem_of_getElem? (i := 1) rfl) (fun _ h => h) rfl dX7_of_107 ?_
          refine lv_iconst (v := 1) S.1 S.2.1 dX7_of_110 (by decide) ?_
          refine w_iald S C w 1 rfl (by unfold vp_in; decide) dX7_of_111 ?_
          refine w_topi (y := (nI gN)) (hg) ?_
          refine lv_icmp_ge (tgt := 161) S.1 S.2.1 dX7_of_112 (by decide) (fun c112 => ?_) (fun c112 => ?_)
          · have hjg : x104.1 = gN := by have h := c112; rw [nI_leI (by omega) (by omega)] at h; omega
            refine lv_iconst (v := 0) S.1 S.2.1 dX7_of_161 (by decide) ?_
            refine lv_istore (lv' := [(6, .int 0), (5, .int x104.2), (4, .int (fS 0 + i0)), (3, .int z22), (0, .ref mO), (1, .int i0), (2, .int j0)]) S.1 S.2.1 dX7_of_162 hl (by decide) rfl (fun ls hl => ?_)
            refine w_loop (G := G) (σ := Nat × Int32) (nL := 7) 164 (fun x164 => oN - x164.1) (fun x164 => x164.1 ≤ oN ∧ x164.2 = um2 fS (fS 0 + i0) (um1 fS (fS 0 + i0) gN) x164.1) (fun x164 => [(mO, .inr (7, [.ref mS, .ref mD, .ref mR, .ref mT, .int mt, .int ma, .int mn, .ref mW, .ref mQ, .ref mC, .int my, .ref mU, .ref mV, .int mm, .int mf, .int mg])), (mS, .inl (G.2.1 2, 49, .inl fS)), (mR, .inl (G.2.1 2, 3, .inl fR))]) (fun x164 => [(6, .int (nI x164.1)), (5, .int x164.2), (4, .int (fS 0 + i0)), (3, .int z22), (0, .ref mO), (1, .int i0), (2, .int j0)]) (fun _ => []) ?_ (0, x104.2) ls _ _ (⟨Nat.zero_le _, (by dsimp only; rw [hI104.2, hjg]; rfl)⟩) w (lv_sub hl [0, 1, 2, 3, 4, 5, 6] rfl)
            intro x164 ls H locs hI164 w hl ih164
            have w : Wd G _ s [(mO, .inr (7, [.ref mS, .ref mD, .ref mR, .ref mT, .int mt, .int ma, .int mn, .ref mW, .ref mQ, .ref mC, .int my, .ref mU, .ref mV, .int mm, .int mf, .int mg])), (mS, .inl (G.2.1 2, 49, .inl fS)), (mR, .inl (G.2.1 2, 3, .inl fR))] H locs := w
            have hl : lv_has ls 7 [(6, .int (nI x164.1)), (5, .int x164.2), (4, .int (fS 0 + i0)), (3, .int z22), (0, .ref mO), (1, .int i0), (2, .int j0)] := hl
            have hB1 := hI164.1
            refine lv_iload S.1 S.2.1 dX7_of_164 (lv_at hl 0 rfl) ?_
            refine lv_aload_n S.1 S.2.1 dX7_of_166 rfl (lv_at hl 4 rfl) ?_
            refine w_get S C w (CC := RX7) (T := TX7) (N := 16) (ref := "GateSumsModel") im_X7_of_X7 0 rfl rfl 0 (by decide) (List.mem_of_getElem? (i := 1) rfl) (fun _ h => h) rfl dX7_of_167 ?_
            refine lv_iconst (v := 2) S.1 S.2.1 dX7_of_170 (by decide) ?_
            refine w_iald S C w 1 rfl (by unfold vp_in; decide) dX7_of_171 ?_
            refine w_topi (y := (nI oN)) (ho) ?_
            refine lv_icmp_ge (tgt := 206) S.1 S.2.1 dX7_of_172 (by decide) (fun c172 => ?_) (fun c172 => ?_)
            · have hko : x164.1 = oN := by have h := c172; rw [nI_leI (by omega) (by omega)] at h; omega
              refine lv_iload S.1 S.2.1 dX7_of_206 (lv_at hl 1 rfl) ?_
              exact W.iret (v := x164.2) S.1 S.2.1 hr (fun t ht _ => ⟨⟨x164.2, fR, rfl, by unfold ofS ofV; rw [← hz22, if_neg c24, if_neg c31, if_pos c42, hg, ho, nI_clamp (by omega), nI_clamp (by omega), hI164.2, hko], by rw [ht]; exact w.1, w.2.1⟩, w.2.2.F ht⟩) w.2.2.2.2 dX7_of_208
            · refine lv_iload S.1 S.2.1 dX7_of_175 (lv_at hl 1 rfl) ?_
              refine w_joini 197 [.int x164.2] (fun z197 => z197 = if fS (42 + x164.1) = (fS 0 + i0) then 1 else 0) (fun z197 hz197 => ?_) (fun J197 => ?_)
              · refine lv_iadd S.1 S.2.1 dX7_of_197 ?_
                refine lv_istore (lv' := [(5, .int (x164.2 + z197)), (6, .int (nI x164.1)), (4, .int (fS 0 + i0)), (3, .int z22), (0, .ref mO), (1, .int i0), (2, .int j0)]) S.1 S.2.1 dX7_of_198 hl (by decide) rfl (fun ls hl => ?_)
                refine lv_iinc (v := (nI (x164.1 + 1))) (lv' := [(6, .int (nI (x164.1 + 1))), (5, .int (x164.2 + z197)), (4, .int (fS 0 + i0)), (3, .int z22), (0, .ref mO), (1, .int i0), (2, .int j0)]) S.1 S.2.1 dX7_of_200 hl (k := 1) rfl (nI_1 _) (by decide) rfl (fun ls hl => ?_)
                refine lv_goto (tgt := 164) S.1 S.2.1 dX7_of_203 (by decide) ?_
                have hlt2 : x164.1 < oN := by have h := c172; rw [nI_leI (by omega) (by omega)] at h; omega
                exact ih164 (x164.1 + 1, (x164.2 + z197)) ls _ _ (⟨hlt2, (by dsimp only; rw [hz197, hI164.2]; rfl)⟩) (by dsimp only; omega) w (lv_sub hl [0, 1, 2, 3, 4, 5, 6] rfl)
              · refine lv_aload_n S.1 S.2.1 dX7_of_177 rfl (lv_at hl 4 rfl) ?_
                refine w_get S C w (CC := RX7) (T := TX7) (N := 16) (ref := "GateSumsModel") im_X7_of_X7 0 rfl rfl 0 (by decide) (List.mem_of_getElem? (i := 1) rfl) (fun _ h => h) rfl dX7_of_178 ?_
                refine lv_bipush (v := 42) S.1 S.2.1 dX7_of_181 (by decide) ?_
                refine lv_iload S.1 S.2.1 dX7_of_183 (lv_at hl 0 rfl) ?_
                refine lv_iadd S.1 S.2.1 dX7_of_185 ?_
                refine w_iald S C w 1 rfl (ixA 42 _ (by have h := c172; rw [nI_leI (by omega) (by omega)] at h; omega)) dX7_of_186 ?_
                refine w_topi (y := (fS (42 + x164.1))) (congrArg fS (ixc 42 _ (by have h := c172; rw [nI_leI (by omega) (by omega)] at h; omega))) ?_
                refine lv_iload S.1 S.2.1 dX7_of_187 (lv_at hl 2 rfl) ?_
                refine lv_icmp_ne (tgt := 196) S.1 S.2.1 dX7_of_189 (by decide) (fun c189 => ?_) (fun c189 => ?_)
                · refine lv_iconst (v := 0) S.1 S.2.1 dX7_of_196 (by decide) ?_
                  exact J197 0 (by simp only [if_neg c24, if_neg c31, if_pos c42, if_pos c112, if_neg c172, if_neg c189])
                · refine lv_iconst (v := 1) S.1 S.2.1 dX7_of_192 (by decide) ?_
                  refine lv_goto (tgt := 197) S.1 S.2.1 dX7_of_193 (by decide) ?_
                  exact J197 1 (by simp only [if_neg c24, if_neg c31, if_pos c42, if_pos c112, if_neg c172, if_pos c189])
          · refine lv_iload S.1 S.2.1 dX7_of_115 (lv_at hl 1 rfl) ?_
            refine w_joini 152 [.int x104.2] (fun z152 => z152 = if fS (18 + x104.1) = (fS 0 + i0) then 1 else if fS (30 + x104.1) = (fS 0 + i0) then 1 else 0) (fun z152 hz152 => ?_) (fun J152 => ?_)
            · refine lv_iadd S.1 S.2.1 dX7_of_152 ?_
              refine lv_istore (lv' := [(5, .int (x104.2 + z152)), (6, .int (nI x104.1)), (4, .int (fS 0 + i0)), (3, .int z22), (0, .ref mO), (1, .int i0), (2, .int j0)]) S.1 S.2.1 dX7_of_153 hl (by decide) rfl (fun ls hl => ?_)
              refine lv_iinc (v := (nI (x104.1 + 1))) (lv' := [(6, .int (nI (x104.1 + 1))), (5, .int (x104.2 + z152)), (4, .int (fS 0 + i0)), (3, .int z22), (0, .ref mO), (1, .int i0), (2, .int j0)]) S.1 S.2.1 dX7_of_155 hl (k := 1) rfl (nI_1 _) (by decide) rfl (fun ls hl => ?_)
              refine lv_goto (tgt := 104) S.1 S.2.1 dX7_of_158 (by decide) ?_
              have hlt : x104.1 < gN := by have h := c112; rw [nI_leI (by omega) (by omega)] at h; omega
              exact ih104 (x104.1 + 1, (x104.2 + z152)) ls _ _ (⟨hlt, (by dsimp only; rw [hz152, hI104.2]; rfl)⟩) (by dsimp only; omega) w (lv_sub hl [0, 1, 2, 3, 4, 5, 6] rfl)
            · refine lv_aload_n S.1 S.2.1 dX7_of_117 rfl (lv_at hl 4 rfl) ?_
              refine w_get S C w (CC := RX7) (T := TX7) (N := 16) (ref := "GateSumsModel") im_X7_of_X7 0 rfl rfl 0 (by decide) (List.mem_of_getElem? (i := 1) rfl) (fun _ h => h) rfl dX7_of_118 ?_
              refine lv_bipush (v := 18) S.1 S.2.1 dX7_of_121 (by decide) ?_
              refine lv_iload S.1 S.2.1 dX7_of_123 (lv_at hl 0 rfl) ?_
              refine lv_iadd S.1 S.2.1 dX7_of_125 ?_
              refine w_iald S C w 1 rfl (ixA 18 _ (by have h := c112; rw [nI_leI (by omega) (by omega)] at h; omega)) dX7_of_126 ?_
              refine w_topi (y := (fS (18 + x104.1))) (congrArg fS (ixc 18 _ (by have h := c112; rw [nI_leI (by omega) (by omega)] at h; omega))) ?_
              refine lv_iload S.1 S.2.1 dX7_of_127 (lv_at hl 2 rfl) ?_
              refine lv_icmp_eq (tgt := 147) S.1 S.2.1 dX7_of_129 (by decide) (fun c129 => ?_) (fun c129 => ?_)
              · refine lv_iconst (v := 1) S.1 S.2.1 dX7_of_147 (by decide) ?_
                refine lv_goto (tgt := 152) S.1 S.2.1 dX7_of_148 (by decide) ?_
                exact J152 1 (by simp only [if_neg c24, if_neg c31, if_pos c42, if_neg c112, if_pos c129])
              · refine lv_aload_n S.1 S.2.1 dX7_of_132 rfl (lv_at hl 4 rfl) ?_
                refine w_get S C w (CC := RX7) (T := TX7) (N := 16) (ref := "GateSumsModel") im_X7_of_X7 0 rfl rfl 0 (by decide) (List.mem_of_getElem? (i := 1) rfl) (fun _ h => h) rfl dX7_of_133 ?_
                refine lv_bipush (v := 30) S.1 S.2.1 dX7_of_136 (by decide) ?_
                refine lv_iload S.1 S.2.1 dX7_of_138 (lv_at hl 0 rfl) ?_
                refine lv_iadd S.1 S.2.1 dX7_of_140 ?_
                refine w_iald S C w 1 rfl (ixA 30 _ (by have h := c112; rw [nI_leI (by omega) (by omega)] at h; omega)) dX7_of_141 ?_
                refine w_topi (y := (fS (30 + x104.1))) (congrArg fS (ixc 30 _ (by have h := c112; rw [nI_leI (by omega) (by omega)] at h; omega))) ?_
                refine lv_iload S.1 S.2.1 dX7_of_142 (lv_at hl 2 rfl) ?_
                refine lv_icmp_ne (tgt := 151) S.1 S.2.1 dX7_of_144 (by decide) (fun c144 => ?_) (fun c144 => ?_)
                · refine lv_iconst (v := 0) S.1 S.2.1 dX7_of_151 (by decide) ?_
                  exact J152 0 (by simp only [if_neg c24, if_neg c31, if_pos c42, if_neg c112, if_neg c129, if_neg c144])
                · refine lv_iconst (v := 1) S.1 S.2.1 dX7_of_147 (by decide) ?_
                  refine lv_goto (tgt := 152) S.1 S.2.1 dX7_of_148 (by decide) ?_
                  exact J152 1 (by simp only [if_neg c24, if_neg c31, if_pos c42, if_neg c112, if_neg c129, if_pos c144])
        · refine lv_iload_n S.1 S.2.1 dX7_of_45 rfl (lv_at hl 3 rfl) ?_
          refine lv_if_ne (tgt := 61) S.1 S.2.1 dX7_of_46 (by decide) (fun c46 => ?_) (fun c46 => ?_)
          · refine lv_iload_n S.1 S.2.1 dX7_of_61 rfl (lv_at hl 3 rfl) ?_
            refine lv_iconst (v := 1) S.1 S.2.1 dX7_of_62 (by decide) ?_
            refine lv_icmp_ne (tgt := 78) S.1 S.2.1 dX7_of_63 (by decide) (fun c63 => ?_) (fun c63 => ?_)
            · refine lv_aload_n S.1 S.2.1 dX7_of_78 rfl (lv_at hl 1 rfl) ?_
              refine w_get S C w (CC := RX7) (T := TX7) (N := 16) (ref := "GateSumsModel") im_X7_of_X7 0 rfl rfl 0 (by decide) (List.mem_of_getElem? (i := 1) rfl) (fun _ h => h) rfl dX7_of_79 ?_
              refine lv_bipush (v := 30) S.1 S.2.1 dX7_of_82 (by decide) ?_
              refine lv_iload_n S.1 S.2.1 dX7_of_84 rfl (lv_at hl 2 rfl) ?_
              refine lv_iadd S.1 S.2.1 dX7_of_85 ?_
              refine w_topi (y := (nI (30 + kN))) (iadd 30 hke) ?_
              refine w_iald S C w 1 rfl (nIin (by omega) (by decide)) dX7_of_86 ?_
              refine w_topi (y := (fS (30 + kN))) (congrArg fS (nIc (by omega))) ?_
              exact W.iret (v := (fS (30 + kN))) S.1 S.2.1 hr (fun t ht _ => ⟨⟨(fS (30 + kN)), fR, rfl, by first | (unfold ofS ofV; rw [← hz22, if_neg c24, if_neg c31, if_neg c42, if_pos c46, hic]; done) | (unfold ofS ofV; rw [← hz22, if_neg c24, if_neg c31, if_neg c42, if_neg c46, if_pos c63, hic]; done) | (unfold ofS ofV; rw [← hz22, if_neg c24, if_neg c31, if_neg c42, if_neg c46, if_neg c63, hic]; done), by rw [ht]; exact w.1, w.2.1⟩, w.2.2.F ht⟩) w.2.2.2.2 dX7_of_87
            · refine lv_aload_n S.1 S.2.1 dX7_of_66 rfl (lv_at hl 1 rfl) ?_
              refine w_get S C w (CC := RX7) (T := TX7) (N := 16) (ref := "GateSumsModel") im_X7_of_X7 0 rfl rfl 0 (by decide) (List.mem_of_getElem? (i := 1) rfl) (fun _ h => h) rfl dX7_of_67 ?_
              refine lv_bipush (v := 18) S.1 S.2.1 dX7_of_70 (by decide) ?_
              refine lv_iload_n S.1 S.2.1 dX7_of_72 rfl (lv_at hl 2 rfl) ?_
              refine lv_iadd S.1 S.2.1 dX7_of_73 ?_
              refine w_topi (y := (nI (18 + kN))) (iadd 18 hke) ?_
              refine w_iald S C w 1 rfl (nIin (by omega) (by decide)) dX7_of_74 ?_
              refine w_topi (y := (fS (18 + kN))) (congrArg fS (nIc (by omega))) ?_
              refine lv_goto (tgt := 87) S.1 S.2.1 dX7_of_75 (by decide) ?_
              refine w_topi (y := (fS (18 + kN))) (rfl) ?_
              exact W.iret (v := (fS (18 + kN))) S.1 S.2.1 hr (fun t ht _ => ⟨⟨(fS (18 + kN)), fR, rfl, by first | (unfold ofS ofV; rw [← hz22, if_neg c24, if_neg c31, if_neg c42, if_pos c46, hic]; done) | (unfold ofS ofV; rw [← hz22, if_neg c24, if_neg c31, if_neg c42, if_neg c46, if_pos c63, hic]; done) | (unfold ofS ofV; rw [← hz22, if_neg c24, if_neg c31, if_neg c42, if_neg c46, if_neg c63, hic]; done), by rw [ht]; exact w.1, w.2.1⟩, w.2.2.F ht⟩) w.2.2.2.2 dX7_of_87
          · refine lv_aload_n S.1 S.2.1 dX7_of_49 rfl (lv_at hl 1 rfl) ?_
            refine w_get S C w (CC := RX7) (T := TX7) (N := 16) (ref := "GateSumsModel") im_X7_of_X7 0 rfl rfl 0 (by decide) (List.mem_of_getElem? (i := 1) rfl) (fun _ h => h) rfl dX7_of_50 ?_
            refine lv_bipush (v := 6) S.1 S.2.1 dX7_of_53 (by decide) ?_
            refine lv_iload_n S.1 S.2.1 dX7_of_55 rfl (lv_at hl 2 rfl) ?_
            refine lv_iadd S.1 S.2.1 dX7_of_56 ?_
            refine w_topi (y := (nI (6 + kN))) (iadd 6 hke) ?_
            refine w_iald S C w 1 rfl (nIin (by omega) (by decide)) dX7_of_57 ?_
            refine w_topi (y := (fS (6 + kN))) (congrArg fS (nIc (by omega))) ?_
            refine lv_goto (tgt := 87) S.1 S.2.1 dX7_of_58 (by decide) ?_
            refine w_topi (y := (fS (6 + kN))) (rfl) ?_
            exact W.iret (v := (fS (6 + kN))) S.1 S.2.1 hr (fun t ht _ => ⟨⟨(fS (6 + kN)), fR, rfl, by first | (unfold ofS ofV; rw [← hz22, if_neg c24, if_neg c31, if_neg c42, if_pos c46, hic]; done) | (unfold ofS ofV; rw [← hz22, if_neg c24, if_neg c31, if_neg c42, if_neg c46, if_pos @c63, hic]; done) | (unfold ofS ofV; rw [← hz22, if_neg c24, if_neg c31, if_neg c42, if_neg c46, if_neg @c63, hic]; done), by rw [ht]; exact w.1, w.2.1⟩, w.2.2.F ht⟩) w.2.2.2.2 dX7_of_87
      · refine lv_aload_n S.1 S.2.1 dX7_of_34 rfl (lv_at hl 1 rfl) ?_
        refine lv_iload_n S.1 S.2.1 dX7_of_35 rfl (lv_at hl 0 rfl) ?_
        refine cq_i C w [0, 2] [1] [1, 0, 2] (wr := [(mS, .inl (G.2.1 2, 49, .inl fS))]) (w' := fun u : (Nat → Int32) => [(mO, .inr (7, [.ref mS, .ref mD, .ref mR, .ref mT, .int mt, .int ma, .int mn, .ref mW, .ref mQ, .ref mC, .int my, .ref mU, .ref mV, .int mm, .int mf, .int mg])), (mR, .inl (G.2.1 2, 3, .inl u))]) (ws2 := fun u : (Nat → Int32) => [(mO, .inr (7, [.ref mS, .ref mD, .ref mR, .ref mT, .int mt, .int ma, .int mn, .ref mW, .ref mQ, .ref mC, .int my, .ref mU, .ref mV, .int mm, .int mf, .int mg])), (mS, .inl (G.2.1 2, 49, .inl fS)), (mR, .inl (G.2.1 2, 3, .inl u))]) rfl rfl rfl (by decide) rfl (fun _ => rfl) (va_runV (As := [.int z22]) (rest := []) S (c_X7_none l G mO mR _ mS mD mT mW mQ mC mU mV mt ma mn my mm mf mg fR z22) (cwV 1 S.2.2.2.2 gX7_of_X7_none rfl rfl rfl (by decide +kernel) ⟨Nat.le_of_ble_eq_true rfl, Nat.le_of_ble_eq_true rfl⟩) ⟨wPre_blind, va_recv C.1 w.1 (ci := 7) (q0 := 0) rfl rfl, wPre_at C w [0, 2] rfl rfl⟩ rfl rfl hl.1 rfl (lv_room (Nat.le_of_ble_eq_true rfl)) dX7_of_36 ⟨Nat.le_of_ble_eq_true rfl, Nat.le_of_ble_eq_true rfl⟩) (fun r36_1 u36_1 H locs h36_1 w => ?_)
        have w : Wd G _ s [(mO, .inr (7, [.ref mS, .ref mD, .ref mR, .ref mT, .int mt, .int ma, .int mn, .ref mW, .ref mQ, .ref mC, .int my, .ref mU, .ref mV, .int mm, .int mf, .int mg])), (mS, .inl (G.2.1 2, 49, .inl fS)), (mR, .inl (G.2.1 2, 3, .inl u36_1))] H locs := w
        exact W.iret (v := r36_1) S.1 S.2.1 hr (fun t ht _ => ⟨⟨r36_1, u36_1, rfl, by first | exact (by rw [h36_1]; unfold ofS noneF; rw [← hz22, if_pos c24, if_pos c24]) | exact (by rw [h36_1]; unfold ofS noneF; rw [← hz22, if_neg c24, if_neg c24, if_pos c31]), by rw [ht]; exact w.1, w.2.1⟩, w.2.2.F ht⟩) w.2.2.2.2 dX7_of_39
  · refine lv_aload_n S.1 S.2.1 dX7_of_0 rfl (lv_at hl 0 rfl) ?_
    refine lv_iload_n S.1 S.2.1 dX7_of_1 rfl (lv_at hl 1 rfl) ?_
    refine cs_i (va_runV (As := [.int i0]) (rest := []) S (c_X7_isGate l G mO mS _ mD mR mT mW mQ mC mU mV mt ma mn my mm mf mg fS i0) (cwV 1 S.2.2.2.2 gX7_of_X7_isGate rfl rfl rfl (by decide +kernel) ⟨Nat.le_of_ble_eq_true rfl, Nat.le_of_ble_eq_true rfl⟩) ⟨wPre_blind, va_recv C.1 w.1 (ci := 7) (q0 := 0) rfl rfl, wPre_at C w [0, 1] rfl rfl⟩ rfl rfl hl.1 rfl (lv_room (Nat.le_of_ble_eq_true rfl)) dX7_of_2 ⟨Nat.le_of_ble_eq_true rfl, Nat.le_of_ble_eq_true rfl⟩) (fun r2 h2 => ?_)
    refine w_topi (y := (gateM fS i0)) h2 ?_
    refine lv_if_eq (tgt := 21) S.1 S.2.1 dX7_of_5 (by decide) (fun c5 => ?_) (fun c5 => ?_)
    · refine lv_iconst (v := 0) S.1 S.2.1 dX7_of_21 (by decide) ?_
      exact J22 0 (by simp only [ozM, if_pos c5])
    · refine lv_iload_n S.1 S.2.1 dX7_of_8 rfl (lv_at hl 2 rfl) ?_
      refine lv_iconst (v := 0) S.1 S.2.1 dX7_of_9 (by decide) ?_
      refine lv_iconst (v := 3) S.1 S.2.1 dX7_of_10 (by decide) ?_
      refine cs_i (va_runS (As := [.int j0, .int 0, .int 3]) (rest := []) S (c_X7_in l G _ j0 0 3) (va_cwS 3 S.2.2.2.2 gX7_of_X7_in rfl rfl rfl (by decide +kernel) ⟨Nat.le_of_ble_eq_true rfl, Nat.le_of_ble_eq_true rfl⟩) ⟨wPre_blind, wPre_at C w [] rfl rfl⟩ rfl rfl hl.1 rfl (lv_room (Nat.le_of_ble_eq_true rfl)) dX7_of_11 ⟨Nat.le_of_ble_eq_true rfl, Nat.le_of_ble_eq_true rfl⟩) (fun r11 h11 => ?_)
      refine w_topi (y := (inF j0 0 3)) h11 ?_
      refine lv_if_eq (tgt := 21) S.1 S.2.1 dX7_of_14 (by decide) (fun c14 => ?_) (fun c14 => ?_)
      · refine lv_iconst (v := 0) S.1 S.2.1 dX7_of_21 (by decide) ?_
        exact J22 0 (by simp only [ozM, if_neg c5, if_pos c14])
      · refine lv_iconst (v := 1) S.1 S.2.1 dX7_of_17 (by decide) ?_
        refine lv_goto (tgt := 22) S.1 S.2.1 dX7_of_18 (by decide) ?_
        exact J22 1 (by simp only [ozM, if_neg c5, if_neg c14])
set_option maxHeartbeats 4000000 in
set_option maxRecDepth 100000 in
theorem y_X7_told (l : Launch) (G : GT) (mO mS mR : Nat) (sz : Nat) (mD mT mW mQ mC mU mV : Nat) (mt ma mn my mm mf mg : Int32) (fS fR : Nat → Int32) (i0 j0 : Int32) (hok : okM fS) : Met l yX7_told wsX7_told ({ frames := 2, cells := 0, slots := 0, locals := 42 }) (va_Pc [.ref mO, .int i0, .int j0] (wPre G [(mO, .inr (7, [.ref mS, .ref mD, .ref mR, .ref mT, .int mt, .int ma, .int mn, .ref mW, .ref mQ, .ref mC, .int my, .ref mU, .ref mV, .int mm, .int mf, .int mg])), (mS, .inl (G.2.1 2, 49, .inl fS)), (mR, .inl (G.2.1 2, 3, .inl fR))] sz)) (va_Qi (fun (r : Int32) (u : (Nat → Int32)) => r = toldS fS i0 j0) (bW G (va_A [(mO, .inr (7, [.ref mS, .ref mD, .ref mR, .ref mT, .int mt, .int ma, .int mn, .ref mW, .ref mQ, .ref mC, .int my, .ref mU, .ref mV, .int mm, .int mf, .int mg])), (mS, .inl (G.2.1 2, 49, .inl fS)), (mR, .inl (G.2.1 2, 3, .inl fR))] sz) (fun u : (Nat → Int32) => [(mO, .inr (7, [.ref mS, .ref mD, .ref mR, .ref mT, .int mt, .int ma, .int mn, .ref mW, .ref mQ, .ref mC, .int my, .ref mU, .ref mV, .int mm, .int mf, .int mg])), (mS, .inl (G.2.1 2, 49, .inl fS)), (mR, .inl (G.2.1 2, 3, .inl u))])) (va_A [(mO, .inr (7, [.ref mS, .ref mD, .ref mR, .ref mT, .int mt, .int ma, .int mn, .ref mW, .ref mQ, .ref mC, .int my, .ref mU, .ref mV, .int mm, .int mf, .int mg])), (mS, .inl (G.2.1 2, 49, .inl fS)), (mR, .inl (G.2.1 2, 3, .inl fR))] sz)) 0 0 (va_A [(mO, .inr (7, [.ref mS, .ref mD, .ref mR, .ref mT, .int mt, .int ma, .int mn, .ref mW, .ref mQ, .ref mC, .int my, .ref mU, .ref mV, .int mm, .int mf, .int mg])), (mS, .inl (G.2.1 2, 49, .inl fS)), (mR, .inl (G.2.1 2, 3, .inl fR))] sz) := by
  refine met_go (cc := cX7_told) (maxL := 4) (ret := (some .int)) (own := RX7) (by decide) rfl rfl (Nat.le_of_ble_eq_true rfl) ?_
  intro p e s m below meth c ls S hr hlocks hname hsz C w hl
  obtain ⟨nN, gN, oN, pN, qN, h0_, hnN, hg, hgN, ho, hoN, hp, hpN, hq, hqN⟩ := id hok
  have hl : lv_has ls 4 [(0, .ref mO), (1, .int i0), (2, .int j0)] := hl
  refine w_joini 50 [] (fun z50 => z50 = tzM fS i0 j0) (fun z50 hz50 => ?_) (fun J50 => ?_)
  · refine lv_istore_n (lv' := [(3, .int z50), (0, .ref mO), (1, .int i0), (2, .int j0)]) S.1 S.2.1 dX7_told_50 rfl hl (by decide) rfl (fun ls hl => ?_)
    refine lv_iload_n S.1 S.2.1 dX7_told_51 rfl (lv_at hl 0 rfl) ?_
    refine lv_if_eq (tgt := 62) S.1 S.2.1 dX7_told_52 (by decide) (fun c52 => ?_) (fun c52 => ?_)
    · refine lv_aload_n S.1 S.2.1 dX7_told_62 rfl (lv_at hl 1 rfl) ?_
      refine lv_iload_n S.1 S.2.1 dX7_told_63 rfl (lv_at hl 0 rfl) ?_
      refine cq_i C w [0, 2] [1] [1, 0, 2] (wr := [(mS, .inl (G.2.1 2, 49, .inl fS))]) (w' := fun u : (Nat → Int32) => [(mO, .inr (7, [.ref mS, .ref mD, .ref mR, .ref mT, .int mt, .int ma, .int mn, .ref mW, .ref mQ, .ref mC, .int my, .ref mU, .ref mV, .int mm, .int mf, .int mg])), (mR, .inl (G.2.1 2, 3, .inl u))]) (ws2 := fun u : (Nat → Int32) => [(mO, .inr (7, [.ref mS, .ref mD, .ref mR, .ref mT, .int mt, .int ma, .int mn, .ref mW, .ref mQ, .ref mC, .int my, .ref mU, .ref mV, .int mm, .int mf, .int mg])), (mS, .inl (G.2.1 2, 49, .inl fS)), (mR, .inl (G.2.1 2, 3, .inl u))]) rfl rfl rfl (by decide) rfl (fun _ => rfl) (va_runV (As := [.int z50]) (rest := []) S (c_X7_none l G mO mR _ mS mD mT mW mQ mC mU mV mt ma mn my mm mf mg fR z50) (cwV 1 S.2.2.2.2 gX7_told_X7_none rfl rfl rfl (by decide +kernel) ⟨Nat.le_of_ble_eq_true rfl, Nat.le_of_ble_eq_true rfl⟩) ⟨wPre_blind, va_recv C.1 w.1 (ci := 7) (q0 := 0) rfl rfl, wPre_at C w [0, 2] rfl rfl⟩ rfl rfl hl.1 rfl (lv_room (Nat.le_of_ble_eq_true rfl)) dX7_told_64 ⟨Nat.le_of_ble_eq_true rfl, Nat.le_of_ble_eq_true rfl⟩) (fun r64 u64 H locs h64 w => ?_)
      have w : Wd G _ s [(mO, .inr (7, [.ref mS, .ref mD, .ref mR, .ref mT, .int mt, .int ma, .int mn, .ref mW, .ref mQ, .ref mC, .int my, .ref mU, .ref mV, .int mm, .int mf, .int mg])), (mS, .inl (G.2.1 2, 49, .inl fS)), (mR, .inl (G.2.1 2, 3, .inl u64))] H locs := w
      exact W.iret (v := r64) S.1 S.2.1 hr (fun t ht _ => ⟨⟨r64, u64, rfl, by first | exact (by rw [h64]; unfold toldS noneF; rw [← hz50, if_pos c52, if_pos c52]) | exact (by rw [h64]; unfold toldS noneF; rw [← hz50, if_neg c52, if_neg c52, if_pos @c59]), by rw [ht]; exact w.1, w.2.1⟩, w.2.2.F ht⟩) w.2.2.2.2 dX7_told_67
    · refine lv_aload_n S.1 S.2.1 dX7_told_55 rfl (lv_at hl 1 rfl) ?_
      refine cs_i (va_runV (As := []) (rest := []) S (c_X7_isThere l G mO mS _ mD mR mT mW mQ mC mU mV mt ma mn my mm mf mg fS) (cwV 0 S.2.2.2.2 gX7_told_X7_isThere rfl rfl rfl (by decide +kernel) ⟨Nat.le_of_ble_eq_true rfl, Nat.le_of_ble_eq_true rfl⟩) ⟨wPre_blind, va_recv C.1 w.1 (ci := 7) (q0 := 0) rfl rfl, wPre_at C w [0, 1] rfl rfl⟩ rfl rfl hl.1 rfl (lv_room (Nat.le_of_ble_eq_true rfl)) dX7_told_56 ⟨Nat.le_of_ble_eq_true rfl, Nat.le_of_ble_eq_true rfl⟩) (fun r56 h56 => ?_)
      refine w_topi (y := (thereM fS)) h56 ?_
      refine lv_if_ne (tgt := 68) S.1 S.2.1 dX7_told_59 (by decide) (fun c59 => ?_) (fun c59 => ?_)
      · refine lv_iload_n S.1 S.2.1 dX7_told_68 rfl (lv_at hl 2 rfl) ?_
        refine lv_if_ne (tgt := 84) S.1 S.2.1 dX7_told_69 (by decide) (fun c69 => ?_) (fun c69 => ?_)
        · obtain ⟨mN, hm1, hm3, hme⟩ := inF_ok (lo := 1) (hi := 3) (L := 1) (M := 3) rfl rfl (by decide) (by decide) (fun q => c52 (hz50.trans ((if_neg c69).trans (if_pos q))))
          have him : i0.toNatClampNeg = mN := by rw [hme]; exact nIc (by omega)
          refine lv_aload_n S.1 S.2.1 dX7_told_84 rfl (lv_at hl 1 rfl) ?_
          refine w_get S C w (CC := RX7) (T := TX7) (N := 16) (ref := "GateSumsModel") im_X7_told_X7 0 rfl rfl 0 (by decide) (List.mem_of_getElem? (i := 1) rfl) (fun _ h => h) rfl dX7_told_85 ?_
          refine lv_iconst (v := 3) S.1 S.2.1 dX7_told_88 (by decide) ?_
          refine lv_iload_n S.1 S.2.1 dX7_told_89 rfl (lv_at hl 2 rfl) ?_
          refine lv_iadd S.1 S.2.1 dX7_told_90 ?_
          refine lv_iconst (v := 1) S.1 S.2.1 dX7_told_91 (by decide) ?_
          refine lv_isub S.1 S.2.1 dX7_told_92 ?_
          refine w_topi (y := (nI (2 + mN))) (t31 hme) ?_
          refine w_iald S C w 1 rfl (nIin (by omega) (by decide)) dX7_told_93 ?_
          refine w_topi (y := (fS (2 + mN))) (congrArg fS (nIc (by omega))) ?_
          exact W.iret (v := (fS (2 + mN))) S.1 S.2.1 hr (fun t ht _ => ⟨⟨(fS (2 + mN)), fR, rfl, by first | (unfold toldS; rw [← hz50, if_neg c52, if_neg c59, if_pos c69, hjc]; done) | (unfold toldS; rw [← hz50, if_neg c52, if_neg c59, if_neg c69, him]; done), by rw [ht]; exact w.1, w.2.1⟩, w.2.2.F ht⟩) w.2.2.2.2 dX7_told_94
        · obtain ⟨kN, hkN, hke⟩ := place_ok ho hoN (fun q => c52 (hz50.trans ((if_pos c69).trans q))) c59
          have hjc : j0.toNatClampNeg = kN := by rw [hke]; exact nIc (by omega)
          refine lv_aload_n S.1 S.2.1 dX7_told_72 rfl (lv_at hl 1 rfl) ?_
          refine w_get S C w (CC := RX7) (T := TX7) (N := 16) (ref := "GateSumsModel") im_X7_told_X7 0 rfl rfl 0 (by decide) (List.mem_of_getElem? (i := 1) rfl) (fun _ h => h) rfl dX7_told_73 ?_
          refine lv_bipush (v := 42) S.1 S.2.1 dX7_told_76 (by decide) ?_
          refine lv_iload_n S.1 S.2.1 dX7_told_78 rfl (lv_at hl 3 rfl) ?_
          refine lv_iadd S.1 S.2.1 dX7_told_79 ?_
          refine w_topi (y := (nI (42 + kN))) (iadd 42 hke) ?_
          refine w_iald S C w 1 rfl (nIin (by omega) (by decide)) dX7_told_80 ?_
          refine w_topi (y := (fS (42 + kN))) (congrArg fS (nIc (by omega))) ?_
          refine lv_goto (tgt := 94) S.1 S.2.1 dX7_told_81 (by decide) ?_
          refine w_topi (y := (fS (42 + kN))) (rfl) ?_
          exact W.iret (v := (fS (42 + kN))) S.1 S.2.1 hr (fun t ht _ => ⟨⟨(fS (42 + kN)), fR, rfl, by first | (unfold toldS; rw [← hz50, if_neg c52, if_neg c59, if_pos c69, hjc]; done) | (unfold toldS; rw [← hz50, if_neg c52, if_neg c59, if_neg c69, him]; done), by rw [ht]; exact w.1, w.2.1⟩, w.2.2.F ht⟩) w.2.2.2.2 dX7_told_94
      · refine lv_aload_n S.1 S.2.1 dX7_told_62 rfl (lv_at hl 1 rfl) ?_
        refine lv_iload_n S.1 S.2.1 dX7_told_63 rfl (lv_at hl 0 rfl) ?_
        refine cq_i C w [0, 2] [1] [1, 0, 2] (wr := [(mS, .inl (G.2.1 2, 49, .inl fS))]) (w' := fun u : (Nat → Int32) => [(mO, .inr (7, [.ref mS, .ref mD, .ref mR, .ref mT, .int mt, .int ma, .int mn, .ref mW, .ref mQ, .ref mC, .int my, .ref mU, .ref mV, .int mm, .int mf, .int mg])), (mR, .inl (G.2.1 2, 3, .inl u))]) (ws2 := fun u : (Nat → Int32) => [(mO, .inr (7, [.ref mS, .ref mD, .ref mR, .ref mT, .int mt, .int ma, .int mn, .ref mW, .ref mQ, .ref mC, .int my, .ref mU, .ref mV, .int mm, .int mf, .int mg])), (mS, .inl (G.2.1 2, 49, .inl fS)), (mR, .inl (G.2.1 2, 3, .inl u))]) rfl rfl rfl (by decide) rfl (fun _ => rfl) (va_runV (As := [.int z50]) (rest := []) S (c_X7_none l G mO mR _ mS mD mT mW mQ mC mU mV mt ma mn my mm mf mg fR z50) (cwV 1 S.2.2.2.2 gX7_told_X7_none rfl rfl rfl (by decide +kernel) ⟨Nat.le_of_ble_eq_true rfl, Nat.le_of_ble_eq_true rfl⟩) ⟨wPre_blind, va_recv C.1 w.1 (ci := 7) (q0 := 0) rfl rfl, wPre_at C w [0, 2] rfl rfl⟩ rfl rfl hl.1 rfl (lv_room (Nat.le_of_ble_eq_true rfl)) dX7_told_64 ⟨Nat.le_of_ble_eq_true rfl, Nat.le_of_ble_eq_true rfl⟩) (fun r64_1 u64_1 H locs h64_1 w => ?_)
        have w : Wd G _ s [(mO, .inr (7, [.ref mS, .ref mD, .ref mR, .ref mT, .int mt, .int ma, .int mn, .ref mW, .ref mQ, .ref mC, .int my, .ref mU, .ref mV, .int mm, .int mf, .int mg])), (mS, .inl (G.2.1 2, 49, .inl fS)), (mR, .inl (G.2.1 2, 3, .inl u64_1))] H locs := w
        exact W.iret (v := r64_1) S.1 S.2.1 hr (fun t ht _ => ⟨⟨r64_1, u64_1, rfl, by first | exact (by rw [h64_1]; unfold toldS noneF; rw [← hz50, if_pos c52, if_pos c52]) | exact (by rw [h64_1]; unfold toldS noneF; rw [← hz50, if_neg c52, if_neg c52, if_pos c59]), by rw [ht]; exact w.1, w.2.1⟩, w.2.2.F ht⟩) w.2.2.2.2 dX7_told_67
  · refine lv_iload_n S.1 S.2.1 dX7_told_0 rfl (lv_at hl 1 rfl) ?_
    refine lv_if_ne (tgt := 32) S.1 S.2.1 dX7_told_1 (by decide) (fun c1 => ?_) (fun c1 => ?_)
    · refine lv_iload_n S.1 S.2.1 dX7_told_32 rfl (lv_at hl 1 rfl) ?_
      refine lv_iconst (v := 1) S.1 S.2.1 dX7_told_33 (by decide) ?_
      refine lv_iconst (v := 3) S.1 S.2.1 dX7_told_34 (by decide) ?_
      refine cs_i (va_runS (As := [.int i0, .int 1, .int 3]) (rest := []) S (c_X7_in l G _ i0 1 3) (va_cwS 3 S.2.2.2.2 gX7_told_X7_in rfl rfl rfl (by decide +kernel) ⟨Nat.le_of_ble_eq_true rfl, Nat.le_of_ble_eq_true rfl⟩) ⟨wPre_blind, wPre_at C w [] rfl rfl⟩ rfl rfl hl.1 rfl (lv_room (Nat.le_of_ble_eq_true rfl)) dX7_told_35 ⟨Nat.le_of_ble_eq_true rfl, Nat.le_of_ble_eq_true rfl⟩) (fun r35 h35 => ?_)
      refine w_topi (y := (inF i0 1 3)) h35 ?_
      refine lv_if_eq (tgt := 49) S.1 S.2.1 dX7_told_38 (by decide) (fun c38 => ?_) (fun c38 => ?_)
      · refine lv_iconst (v := 0) S.1 S.2.1 dX7_told_49 (by decide) ?_
        exact J50 0 (by first | (unfold tzM outM; rw [if_pos c1, if_pos @c10]; done) | (unfold tzM outM; rw [if_pos c1, if_neg @c10]; first | done | rfl) | (simp only [tzM, if_neg c1, if_pos c38]; done))
      · refine lv_iload_n S.1 S.2.1 dX7_told_41 rfl (lv_at hl 2 rfl) ?_
        refine lv_if_ne (tgt := 49) S.1 S.2.1 dX7_told_42 (by decide) (fun c42 => ?_) (fun c42 => ?_)
        · refine lv_iconst (v := 0) S.1 S.2.1 dX7_told_49 (by decide) ?_
          exact J50 0 (by first | (unfold tzM outM; rw [if_pos c1, if_pos @c10]; done) | (unfold tzM outM; rw [if_pos c1, if_neg @c10]; first | done | rfl) | (simp only [tzM, if_neg c1, if_neg c38, if_neg c42]; done))
        · refine lv_iconst (v := 1) S.1 S.2.1 dX7_told_45 (by decide) ?_
          refine lv_goto (tgt := 50) S.1 S.2.1 dX7_told_46 (by decide) ?_
          exact J50 1 (by first | (unfold tzM outM; rw [if_pos c1, if_pos @c10]; done) | (unfold tzM outM; rw [if_pos c1, if_neg @c10]; first | done | rfl) | (simp only [tzM, if_neg c1, if_neg c38, if_pos c42]; done))
    · refine lv_iload_n S.1 S.2.1 dX7_told_4 rfl (lv_at hl 2 rfl) ?_
      refine lv_iconst (v := 0) S.1 S.2.1 dX7_told_5 (by decide) ?_
      refine lv_aload_n S.1 S.2.1 dX7_told_6 rfl (lv_at hl 0 rfl) ?_
      refine cs_i (va_runV (As := []) (rest := [.int 0, .int j0]) S (c_X7_isThere l G mO mS _ mD mR mT mW mQ mC mU mV mt ma mn my mm mf mg fS) (cwV 0 S.2.2.2.2 gX7_told_X7_isThere rfl rfl rfl (by decide +kernel) ⟨Nat.le_of_ble_eq_true rfl, Nat.le_of_ble_eq_true rfl⟩) ⟨wPre_blind, va_recv C.1 w.1 (ci := 7) (q0 := 0) rfl rfl, wPre_at C w [0, 1] rfl rfl⟩ rfl rfl hl.1 rfl (lv_room (Nat.le_of_ble_eq_true rfl)) dX7_told_7 ⟨Nat.le_of_ble_eq_true rfl, Nat.le_of_ble_eq_true rfl⟩) (fun r7 h7 => ?_)
      refine w_topi (y := (thereM fS)) h7 ?_
      refine lv_if_eq (tgt := 24) S.1 S.2.1 dX7_told_10 (by decide) (fun c10 => ?_) (fun c10 => ?_)
      · refine lv_bipush (v := 6) S.1 S.2.1 dX7_told_24 (by decide) ?_
        refine cs_i (va_runS (As := [.int j0, .int 0, .int 6]) (rest := []) S (c_X7_in l G _ j0 0 6) (va_cwS 3 S.2.2.2.2 gX7_told_X7_in rfl rfl rfl (by decide +kernel) ⟨Nat.le_of_ble_eq_true rfl, Nat.le_of_ble_eq_true rfl⟩) ⟨wPre_blind, wPre_at C w [] rfl rfl⟩ rfl rfl hl.1 rfl (lv_room (Nat.le_of_ble_eq_true rfl)) dX7_told_26 ⟨Nat.le_of_ble_eq_true rfl, Nat.le_of_ble_eq_true rfl⟩) (fun r26 h26 => ?_)
        refine w_topi (y := (inF j0 0 6)) h26 ?_
        refine lv_goto (tgt := 50) S.1 S.2.1 dX7_told_29 (by decide) ?_
        exact J50 (inF j0 0 6) (by first | (unfold tzM outM; rw [if_pos c1, if_pos c10]; done) | (unfold tzM outM; rw [if_pos c1, if_neg c10]; first | done | rfl) | (simp only [tzM, if_pos c1, if_pos c10]; done))
      · refine lv_aload_n S.1 S.2.1 dX7_told_13 rfl (lv_at hl 0 rfl) ?_
        refine w_get S C w (CC := RX7) (T := TX7) (N := 16) (ref := "GateSumsModel") im_X7_told_X7 0 rfl rfl 0 (by decide) (List.mem_of_getElem? (i := 1) rfl) (fun _ h => h) rfl dX7_told_14 ?_
        refine lv_iconst (v := 2) S.1 S.2.1 dX7_told_17 (by decide) ?_
        refine w_iald S C w 1 rfl (by unfold vp_in; decide) dX7_told_18 ?_
        refine lv_iconst (v := 1) S.1 S.2.1 dX7_told_19 (by decide) ?_
        refine lv_isub S.1 S.2.1 dX7_told_20 ?_
        refine lv_goto (tgt := 26) S.1 S.2.1 dX7_told_21 (by decide) ?_
        refine cs_i (va_runS (As := [.int j0, .int 0, .int ((fS (2 : Int32).toNatClampNeg) - 1)]) (rest := []) S (c_X7_in l G _ j0 0 ((fS (2 : Int32).toNatClampNeg) - 1)) (va_cwS 3 S.2.2.2.2 gX7_told_X7_in rfl rfl rfl (by decide +kernel) ⟨Nat.le_of_ble_eq_true rfl, Nat.le_of_ble_eq_true rfl⟩) ⟨wPre_blind, wPre_at C w [] rfl rfl⟩ rfl rfl hl.1 rfl (lv_room (Nat.le_of_ble_eq_true rfl)) dX7_told_26 ⟨Nat.le_of_ble_eq_true rfl, Nat.le_of_ble_eq_true rfl⟩) (fun r26_1 h26_1 => ?_)
        refine w_topi (y := (inF j0 0 ((fS (2 : Int32).toNatClampNeg) - 1))) h26_1 ?_
        refine lv_goto (tgt := 50) S.1 S.2.1 dX7_told_29 (by decide) ?_
        exact J50 (inF j0 0 ((fS (2 : Int32).toNatClampNeg) - 1)) (by first | (unfold tzM outM; rw [if_pos c1, if_pos c10]; done) | (unfold tzM outM; rw [if_pos c1, if_neg c10]; first | done | rfl) | (simp only [tzM, if_pos c1, if_neg c10]; done))
