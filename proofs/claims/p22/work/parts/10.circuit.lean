set_option maxHeartbeats 4000000 in
set_option maxRecDepth 100000 in
theorem c_X6_at (l : Launch) (G : GT) (aR : Nat) (sz : Nat) (nR : Nat) (fR : Nat → Int32) (i0 : Int32) (hn : nR < 2 ^ 31) : Met l yX6_at wsX6_at ({ frames := 0, cells := 0, slots := 0, locals := 0 }) (va_Pc [.ref aR, .int i0] (wPre G [(aR, .inl (G.2.1 2, nR, .inl fR))] sz)) (vp_Si (fun r : Int32 => r = atF fR nR i0)) 0 0 (fun _ => False) := by
  refine met_go (cc := cX6_at) (maxL := 2) (ret := (some .int)) (own := RX6) (by decide) rfl rfl (Nat.le_of_ble_eq_true rfl) ?_
  intro p e s m below meth c ls S hr hlocks hname hsz C w hl
  have hl : lv_has ls 2 [(0, .ref aR), (1, .int i0)] := hl
  refine lv_iload_n S.1 S.2.1 dX6_at_0 rfl (lv_at hl 1 rfl) ?_
  refine lv_if_lt (tgt := 16) S.1 S.2.1 dX6_at_1 (by decide) (fun c1 => ?_) (fun c1 => ?_)
  · refine lv_iconst (v := (-1)) S.1 S.2.1 dX6_at_16 (by decide) ?_
    exact W.iret (v := (-1)) S.1 S.2.1 hr (fun t ht _ => ⟨(-1), rfl, by first | exact (atF_pos c1 c7).symm | exact (atF_lo c1).symm | exact (atF_hi c7).symm, ht⟩) (fun q h => absurd h List.not_mem_nil) dX6_at_17
  · refine lv_iload_n S.1 S.2.1 dX6_at_4 rfl (lv_at hl 1 rfl) ?_
    refine lv_aload_n S.1 S.2.1 dX6_at_5 rfl (lv_at hl 0 rfl) ?_
    refine w_alen S C w 0 2 rfl rfl (v := (Int32.ofNat nR)) rfl dX6_at_6 ?_
    refine lv_icmp_ge (tgt := 16) S.1 S.2.1 dX6_at_7 (by decide) (fun c7 => ?_) (fun c7 => ?_)
    · refine lv_iconst (v := (-1)) S.1 S.2.1 dX6_at_16 (by decide) ?_
      exact W.iret (v := (-1)) S.1 S.2.1 hr (fun t ht _ => ⟨(-1), rfl, by first | exact (atF_pos c1 c7).symm | exact (atF_lo c1).symm | exact (atF_hi c7).symm, ht⟩) (fun q h => absurd h List.not_mem_nil) dX6_at_17
    · refine lv_aload_n S.1 S.2.1 dX6_at_10 rfl (lv_at hl 0 rfl) ?_
      refine lv_iload_n S.1 S.2.1 dX6_at_11 rfl (lv_at hl 1 rfl) ?_
      refine w_iald S C w 0 rfl (in_of2 hn c1 c7) dX6_at_12 ?_
      refine lv_goto (tgt := 17) S.1 S.2.1 dX6_at_13 (by decide) ?_
      exact W.iret (v := (fR i0.toNatClampNeg)) S.1 S.2.1 hr (fun t ht _ => ⟨(fR i0.toNatClampNeg), rfl, by first | exact (atF_pos c1 c7).symm | exact (atF_lo c1).symm | exact (atF_hi c7).symm, ht⟩) (fun q h => absurd h List.not_mem_nil) dX6_at_17
set_option maxHeartbeats 4000000 in
set_option maxRecDepth 100000 in
theorem c_X6_put (l : Launch) (G : GT) (aR : Nat) (sz : Nat) (nR : Nat) (fR : Nat → Int32) (i0 v0 : Int32) (hn : nR < 2 ^ 31) : Met l yX6_put wsX6_put ({ frames := 0, cells := 0, slots := 0, locals := 0 }) (va_Pc [.ref aR, .int i0, .int v0] (wPre G [(aR, .inl (G.2.1 2, nR, .inl fR))] sz)) (va_Qv (fun u : Unit => True) (bW G (va_A [(aR, .inl (G.2.1 2, nR, .inl fR))] sz) (fun u : Unit => [(aR, .inl (G.2.1 2, nR, .inl (putF fR nR i0 v0)))])) (va_A [(aR, .inl (G.2.1 2, nR, .inl fR))] sz)) 0 0 (va_A [(aR, .inl (G.2.1 2, nR, .inl fR))] sz) := by
  refine met_go (cc := cX6_put) (maxL := 3) (ret := none) (own := RX6) (by decide) rfl rfl (Nat.le_of_ble_eq_true rfl) ?_
  intro p e s m below meth c ls S hr hlocks hname hsz C w hl
  have hl : lv_has ls 3 [(0, .ref aR), (1, .int i0), (2, .int v0)] := hl
  refine lv_iload_n S.1 S.2.1 dX6_put_0 rfl (lv_at hl 1 rfl) ?_
  refine lv_if_lt (tgt := 14) S.1 S.2.1 dX6_put_1 (by decide) (fun c1 => ?_) (fun c1 => ?_)
  · have w : Wd G (va_A [(aR, .inl (G.2.1 2, nR, .inl fR))] sz) s [(aR, .inl (G.2.1 2, nR, .inl (putF fR nR i0 v0)))] s.heap [] := by first | (rw [putF_pos c1 c7]; exact w) | (rw [putF_lo c1]; exact w) | (rw [putF_hi c7]; exact w)
    exact W.vret S.1 S.2.1 hr (fun t ht _ => ⟨⟨(), rfl, trivial, by rw [ht]; exact w.1, w.2.1⟩, w.2.2.F ht⟩) w.2.2.2.2 dX6_put_14
  · refine lv_iload_n S.1 S.2.1 dX6_put_4 rfl (lv_at hl 1 rfl) ?_
    refine lv_aload_n S.1 S.2.1 dX6_put_5 rfl (lv_at hl 0 rfl) ?_
    refine w_alen S C w 0 2 rfl rfl (v := (Int32.ofNat nR)) rfl dX6_put_6 ?_
    refine lv_icmp_ge (tgt := 14) S.1 S.2.1 dX6_put_7 (by decide) (fun c7 => ?_) (fun c7 => ?_)
    · have w : Wd G (va_A [(aR, .inl (G.2.1 2, nR, .inl fR))] sz) s [(aR, .inl (G.2.1 2, nR, .inl (putF fR nR i0 v0)))] s.heap [] := by first | (rw [putF_pos c1 c7]; exact w) | (rw [putF_lo c1]; exact w) | (rw [putF_hi c7]; exact w)
      exact W.vret S.1 S.2.1 hr (fun t ht _ => ⟨⟨(), rfl, trivial, by rw [ht]; exact w.1, w.2.1⟩, w.2.2.F ht⟩) w.2.2.2.2 dX6_put_14
    · refine lv_aload_n S.1 S.2.1 dX6_put_10 rfl (lv_at hl 0 rfl) ?_
      refine lv_iload_n S.1 S.2.1 dX6_put_11 rfl (lv_at hl 1 rfl) ?_
      refine lv_iload_n S.1 S.2.1 dX6_put_12 rfl (lv_at hl 2 rfl) ?_
      refine w_iast S C w 0 rfl (in_of2 hn c1 c7) (ws2 := [(aR, .inl (G.2.1 2, nR, .inl (upd fR i0.toNatClampNeg v0)))]) rfl dX6_put_13 (fun H locs w => ?_)
      have w : Wd G (va_A [(aR, .inl (G.2.1 2, nR, .inl fR))] sz) s [(aR, .inl (G.2.1 2, nR, .inl (putF fR nR i0 v0)))] H locs := by first | (rw [putF_pos c1 c7]; exact w) | (rw [putF_lo c1]; exact w) | (rw [putF_hi c7]; exact w)
      exact W.vret S.1 S.2.1 hr (fun t ht _ => ⟨⟨(), rfl, trivial, by rw [ht]; exact w.1, w.2.1⟩, w.2.2.F ht⟩) w.2.2.2.2 dX6_put_14
theorem im_X0_begin_X0 : ∀ w ∈ u_ws RX0 TX0 11, w ∈ wsX0_begin := by decide +kernel
set_option maxHeartbeats 4000000 in
set_option maxRecDepth 100000 in
theorem c_X0_begin (l : Launch) (G : GT) (aC : Nat) (sz : Nat) (cT cI cG cO cK cP cQ : Int32) (aK aX aY aZ : Nat) (n0 : Int32) : Met l yX0_begin wsX0_begin ({ frames := 0, cells := 0, slots := 0, locals := 0 }) (va_Pc [.ref aC, .int n0] (wPre G [(aC, .inr (0, [.int cT, .int cI, .int cG, .int cO, .int cK, .int cP, .int cQ, .ref aK, .ref aX, .ref aY, .ref aZ]))] sz)) (va_Qv (fun u : Unit => True) (bW G (va_A [(aC, .inr (0, [.int cT, .int cI, .int cG, .int cO, .int cK, .int cP, .int cQ, .ref aK, .ref aX, .ref aY, .ref aZ]))] sz) (fun u : Unit => [(aC, .inr (0, [.int 0, .int n0, .int 0, .int 0, .int cK, .int cP, .int cQ, .ref aK, .ref aX, .ref aY, .ref aZ]))])) (va_A [(aC, .inr (0, [.int cT, .int cI, .int cG, .int cO, .int cK, .int cP, .int cQ, .ref aK, .ref aX, .ref aY, .ref aZ]))] sz)) 0 0 (va_A [(aC, .inr (0, [.int cT, .int cI, .int cG, .int cO, .int cK, .int cP, .int cQ, .ref aK, .ref aX, .ref aY, .ref aZ]))] sz) := by
  refine met_go (cc := cX0_begin) (maxL := 2) (ret := none) (own := RX0) (by decide) rfl rfl (Nat.le_of_ble_eq_true rfl) ?_
  intro p e s m below meth c ls S hr hlocks hname hsz C w hl
  have hl : lv_has ls 2 [(0, .ref aC), (1, .int n0)] := hl
  refine lv_aload_n S.1 S.2.1 dX0_begin_0 rfl (lv_at hl 0 rfl) ?_
  refine lv_iconst (v := 0) S.1 S.2.1 dX0_begin_1 (by decide) ?_
  refine w_put S C w (CC := RX0) (T := TX0) (N := 11) (ref := "GateSums$Circuit") im_X0_begin_X0 tyX0 tyX0_ok nmX0 0 rfl rfl 0 (by decide) (List.mem_of_getElem? (i := 1) rfl) (fun _ h => h) rfl (ws2 := [(aC, .inr (0, [.int 0, .int cI, .int cG, .int cO, .int cK, .int cP, .int cQ, .ref aK, .ref aX, .ref aY, .ref aZ]))]) (rfl) (rfl) (Nat.le_of_ble_eq_true rfl) rfl dX0_begin_2 (fun H locs w => ?_)
  refine lv_aload_n S.1 S.2.1 dX0_begin_5 rfl (lv_at hl 0 rfl) ?_
  refine lv_iload_n S.1 S.2.1 dX0_begin_6 rfl (lv_at hl 1 rfl) ?_
  refine w_put S C w (CC := RX0) (T := TX0) (N := 11) (ref := "GateSums$Circuit") im_X0_begin_X0 tyX0 tyX0_ok nmX0 0 rfl rfl 1 (by decide) (List.mem_of_getElem? (i := 2) rfl) (fun _ h => h) rfl (ws2 := [(aC, .inr (0, [.int 0, .int n0, .int cG, .int cO, .int cK, .int cP, .int cQ, .ref aK, .ref aX, .ref aY, .ref aZ]))]) (rfl) (rfl) (Nat.le_of_ble_eq_true rfl) rfl dX0_begin_7 (fun H locs w => ?_)
  refine lv_aload_n S.1 S.2.1 dX0_begin_10 rfl (lv_at hl 0 rfl) ?_
  refine lv_iconst (v := 0) S.1 S.2.1 dX0_begin_11 (by decide) ?_
  refine w_put S C w (CC := RX0) (T := TX0) (N := 11) (ref := "GateSums$Circuit") im_X0_begin_X0 tyX0 tyX0_ok nmX0 0 rfl rfl 2 (by decide) (List.mem_of_getElem? (i := 3) rfl) (fun _ h => h) rfl (ws2 := [(aC, .inr (0, [.int 0, .int n0, .int 0, .int cO, .int cK, .int cP, .int cQ, .ref aK, .ref aX, .ref aY, .ref aZ]))]) (rfl) (rfl) (Nat.le_of_ble_eq_true rfl) rfl dX0_begin_12 (fun H locs w => ?_)
  refine lv_aload_n S.1 S.2.1 dX0_begin_15 rfl (lv_at hl 0 rfl) ?_
  refine lv_iconst (v := 0) S.1 S.2.1 dX0_begin_16 (by decide) ?_
  refine w_put S C w (CC := RX0) (T := TX0) (N := 11) (ref := "GateSums$Circuit") im_X0_begin_X0 tyX0 tyX0_ok nmX0 0 rfl rfl 3 (by decide) (List.mem_of_getElem? (i := 4) rfl) (fun _ h => h) rfl (ws2 := [(aC, .inr (0, [.int 0, .int n0, .int 0, .int 0, .int cK, .int cP, .int cQ, .ref aK, .ref aX, .ref aY, .ref aZ]))]) (rfl) (rfl) (Nat.le_of_ble_eq_true rfl) rfl dX0_begin_17 (fun H locs w => ?_)
  exact W.vret S.1 S.2.1 hr (fun t ht _ => ⟨⟨(), rfl, trivial, by rw [ht]; exact w.1, w.2.1⟩, w.2.2.F ht⟩) w.2.2.2.2 dX0_begin_20
theorem im_X0_signals_X0 : ∀ w ∈ u_ws RX0 TX0 11, w ∈ wsX0_signals := by decide +kernel
set_option maxHeartbeats 4000000 in
set_option maxRecDepth 100000 in
theorem c_X0_signals (l : Launch) (G : GT) (aC : Nat) (sz : Nat) (cT cI cG cO cK cP cQ : Int32) (aK aX aY aZ : Nat) : Met l yX0_signals wsX0_signals ({ frames := 0, cells := 0, slots := 0, locals := 0 }) (va_Pc [.ref aC] (wPre G [(aC, .inr (0, [.int cT, .int cI, .int cG, .int cO, .int cK, .int cP, .int cQ, .ref aK, .ref aX, .ref aY, .ref aZ]))] sz)) (vp_Si (fun r : Int32 => r = (cI + cG))) 0 0 (fun _ => False) := by
  refine met_go (cc := cX0_signals) (maxL := 1) (ret := (some .int)) (own := RX0) (by decide) rfl rfl (Nat.le_of_ble_eq_true rfl) ?_
  intro p e s m below meth c ls S hr hlocks hname hsz C w hl
  have hl : lv_has ls 1 [(0, .ref aC)] := hl
  refine lv_aload_n S.1 S.2.1 dX0_signals_0 rfl (lv_at hl 0 rfl) ?_
  refine w_get S C w (CC := RX0) (T := TX0) (N := 11) (ref := "GateSums$Circuit") im_X0_signals_X0 0 rfl rfl 1 (by decide) (List.mem_of_getElem? (i := 1) rfl) (fun _ h => h) rfl dX0_signals_1 ?_
  refine lv_aload_n S.1 S.2.1 dX0_signals_4 rfl (lv_at hl 0 rfl) ?_
  refine w_get S C w (CC := RX0) (T := TX0) (N := 11) (ref := "GateSums$Circuit") im_X0_signals_X0 0 rfl rfl 2 (by decide) (List.mem_of_getElem? (i := 2) rfl) (fun _ h => h) rfl dX0_signals_5 ?_
  refine lv_iadd S.1 S.2.1 dX0_signals_8 ?_
  exact W.iret (v := (cI + cG)) S.1 S.2.1 hr (fun t ht _ => ⟨(cI + cG), rfl, rfl, ht⟩) (fun q h => absurd h List.not_mem_nil) dX0_signals_9
theorem im_X0_addGate_X0 : ∀ w ∈ u_ws RX0 TX0 11, w ∈ wsX0_addGate := by decide +kernel
set_option maxHeartbeats 4000000 in
set_option maxRecDepth 100000 in
theorem c_X0_addGate (l : Launch) (G : GT) (aC aK aX aY : Nat) (sz : Nat) (cT cI cG cO cK cP cQ : Int32) (aZ : Nat) (fK fX fY : Nat → Int32) (k0 x0 y0 : Int32) (hG : cG < 12) : Met l yX0_addGate wsX0_addGate ({ frames := 1, cells := 0, slots := 0, locals := 22 }) (va_Pc [.ref aC, .int k0, .int x0, .int y0] (wPre G [(aC, .inr (0, [.int cT, .int cI, .int cG, .int cO, .int cK, .int cP, .int cQ, .ref aK, .ref aX, .ref aY, .ref aZ])), (aK, .inl (G.2.1 2, 12, .inl fK)), (aX, .inl (G.2.1 2, 12, .inl fX)), (aY, .inl (G.2.1 2, 12, .inl fY))] sz)) (va_Qi (fun (r : Int32) (u : Unit) => r = cI + (cG + 1) - 1) (bW G (va_A [(aC, .inr (0, [.int cT, .int cI, .int cG, .int cO, .int cK, .int cP, .int cQ, .ref aK, .ref aX, .ref aY, .ref aZ])), (aK, .inl (G.2.1 2, 12, .inl fK)), (aX, .inl (G.2.1 2, 12, .inl fX)), (aY, .inl (G.2.1 2, 12, .inl fY))] sz) (fun u : Unit => [(aC, .inr (0, [.int cT, .int cI, .int (cG + 1), .int cO, .int cK, .int cP, .int cQ, .ref aK, .ref aX, .ref aY, .ref aZ])), (aK, .inl (G.2.1 2, 12, .inl (putF fK 12 cG k0))), (aX, .inl (G.2.1 2, 12, .inl (putF fX 12 cG x0))), (aY, .inl (G.2.1 2, 12, .inl (putF fY 12 cG y0)))])) (va_A [(aC, .inr (0, [.int cT, .int cI, .int cG, .int cO, .int cK, .int cP, .int cQ, .ref aK, .ref aX, .ref aY, .ref aZ])), (aK, .inl (G.2.1 2, 12, .inl fK)), (aX, .inl (G.2.1 2, 12, .inl fX)), (aY, .inl (G.2.1 2, 12, .inl fY))] sz)) 0 0 (va_A [(aC, .inr (0, [.int cT, .int cI, .int cG, .int cO, .int cK, .int cP, .int cQ, .ref aK, .ref aX, .ref aY, .ref aZ])), (aK, .inl (G.2.1 2, 12, .inl fK)), (aX, .inl (G.2.1 2, 12, .inl fX)), (aY, .inl (G.2.1 2, 12, .inl fY))] sz) := by
  refine met_go (cc := cX0_addGate) (maxL := 4) (ret := (some .int)) (own := RX0) (by decide) rfl rfl (Nat.le_of_ble_eq_true rfl) ?_
  intro p e s m below meth c ls S hr hlocks hname hsz C w hl
  have hl : lv_has ls 4 [(0, .ref aC), (1, .int k0), (2, .int x0), (3, .int y0)] := hl
  refine lv_aload_n S.1 S.2.1 dX0_addGate_0 rfl (lv_at hl 0 rfl) ?_
  refine w_get S C w (CC := RX0) (T := TX0) (N := 11) (ref := "GateSums$Circuit") im_X0_addGate_X0 0 rfl rfl 2 (by decide) (List.mem_of_getElem? (i := 1) rfl) (fun _ h => h) rfl dX0_addGate_1 ?_
  refine lv_bipush (v := 12) S.1 S.2.1 dX0_addGate_4 (by decide) ?_
  refine lv_icmp_lt (tgt := 11) S.1 S.2.1 dX0_addGate_6 (by decide) (fun c6 => ?_) (fun c6 => ?_)
  · refine lv_aload_n S.1 S.2.1 dX0_addGate_11 rfl (lv_at hl 0 rfl) ?_
    refine w_get S C w (CC := RX0) (T := TX0) (N := 11) (ref := "GateSums$Circuit") im_X0_addGate_X0 0 rfl rfl 7 (by decide) (List.mem_of_getElem? (i := 2) rfl) (fun _ h => h) rfl dX0_addGate_12 ?_
    refine lv_aload_n S.1 S.2.1 dX0_addGate_15 rfl (lv_at hl 0 rfl) ?_
    refine w_get S C w (CC := RX0) (T := TX0) (N := 11) (ref := "GateSums$Circuit") im_X0_addGate_X0 0 rfl rfl 2 (by decide) (List.mem_of_getElem? (i := 1) rfl) (fun _ h => h) rfl dX0_addGate_16 ?_
    refine lv_iload_n S.1 S.2.1 dX0_addGate_19 rfl (lv_at hl 1 rfl) ?_
    refine cq_v C w [1] [0, 2, 3] [0, 3, 1, 2] (wr := [(aC, .inr (0, [.int cT, .int cI, .int cG, .int cO, .int cK, .int cP, .int cQ, .ref aK, .ref aX, .ref aY, .ref aZ])), (aX, .inl (G.2.1 2, 12, .inl fX)), (aY, .inl (G.2.1 2, 12, .inl fY))]) (w' := fun u : Unit => [(aK, .inl (G.2.1 2, 12, .inl (putF fK 12 cG k0)))]) (ws2 := fun u : Unit => [(aC, .inr (0, [.int cT, .int cI, .int cG, .int cO, .int cK, .int cP, .int cQ, .ref aK, .ref aX, .ref aY, .ref aZ])), (aK, .inl (G.2.1 2, 12, .inl (putF fK 12 cG k0))), (aX, .inl (G.2.1 2, 12, .inl fX)), (aY, .inl (G.2.1 2, 12, .inl fY))]) rfl rfl rfl (by decide) rfl (fun _ => rfl) (va_runSN (As := [.ref aK, .int cG, .int k0]) (rest := []) S (c_X6_put l G aK _ 12 fK cG k0 (by decide)) ⟨va_cnB 3 S.2.2.2.2 gX0_addGate_X6_put_n38 rfl rfl rfl (nw_6 C.2.1) (S.2.2.2.2 _ (List.mem_of_getElem? (i := 6) rfl)) (by decide +kernel) ⟨Nat.le_of_ble_eq_true rfl, Nat.le_of_ble_eq_true rfl⟩, S.2.2.2.2 _ (List.mem_of_getElem? (i := 5) rfl), trivial⟩ ⟨wPre_blind, wPre_at C w [1] rfl rfl⟩ rfl rfl hl.1 rfl (lv_room (Nat.le_of_ble_eq_true rfl)) dX0_addGate_20 ⟨Nat.le_of_ble_eq_true rfl, Nat.le_of_ble_eq_true rfl⟩) (fun u20 H locs h20 w => ?_)
    have w : Wd G _ s [(aC, .inr (0, [.int cT, .int cI, .int cG, .int cO, .int cK, .int cP, .int cQ, .ref aK, .ref aX, .ref aY, .ref aZ])), (aK, .inl (G.2.1 2, 12, .inl (putF fK 12 cG k0))), (aX, .inl (G.2.1 2, 12, .inl fX)), (aY, .inl (G.2.1 2, 12, .inl fY))] H locs := w
    refine lv_aload_n S.1 S.2.1 dX0_addGate_23 rfl (lv_at hl 0 rfl) ?_
    refine w_get S C w (CC := RX0) (T := TX0) (N := 11) (ref := "GateSums$Circuit") im_X0_addGate_X0 0 rfl rfl 8 (by decide) (List.mem_of_getElem? (i := 3) rfl) (fun _ h => h) rfl dX0_addGate_24 ?_
    refine lv_aload_n S.1 S.2.1 dX0_addGate_27 rfl (lv_at hl 0 rfl) ?_
    refine w_get S C w (CC := RX0) (T := TX0) (N := 11) (ref := "GateSums$Circuit") im_X0_addGate_X0 0 rfl rfl 2 (by decide) (List.mem_of_getElem? (i := 1) rfl) (fun _ h => h) rfl dX0_addGate_28 ?_
    refine lv_iload_n S.1 S.2.1 dX0_addGate_31 rfl (lv_at hl 2 rfl) ?_
    refine cq_v C w [2] [0, 1, 3] [0, 1, 3, 2] (wr := [(aC, .inr (0, [.int cT, .int cI, .int cG, .int cO, .int cK, .int cP, .int cQ, .ref aK, .ref aX, .ref aY, .ref aZ])), (aK, .inl (G.2.1 2, 12, .inl (putF fK 12 cG k0))), (aY, .inl (G.2.1 2, 12, .inl fY))]) (w' := fun u : Unit => [(aX, .inl (G.2.1 2, 12, .inl (putF fX 12 cG x0)))]) (ws2 := fun u : Unit => [(aC, .inr (0, [.int cT, .int cI, .int cG, .int cO, .int cK, .int cP, .int cQ, .ref aK, .ref aX, .ref aY, .ref aZ])), (aK, .inl (G.2.1 2, 12, .inl (putF fK 12 cG k0))), (aX, .inl (G.2.1 2, 12, .inl (putF fX 12 cG x0))), (aY, .inl (G.2.1 2, 12, .inl fY))]) rfl rfl rfl (by decide) rfl (fun _ => rfl) (va_runSN (As := [.ref aX, .int cG, .int x0]) (rest := []) S (c_X6_put l G aX _ 12 fX cG x0 (by decide)) ⟨va_cnB 3 S.2.2.2.2 gX0_addGate_X6_put_n38 rfl rfl rfl (nw_6 C.2.1) (S.2.2.2.2 _ (List.mem_of_getElem? (i := 6) rfl)) (by decide +kernel) ⟨Nat.le_of_ble_eq_true rfl, Nat.le_of_ble_eq_true rfl⟩, S.2.2.2.2 _ (List.mem_of_getElem? (i := 5) rfl), trivial⟩ ⟨wPre_blind, wPre_at C w [2] rfl rfl⟩ rfl rfl hl.1 rfl (lv_room (Nat.le_of_ble_eq_true rfl)) dX0_addGate_32 ⟨Nat.le_of_ble_eq_true rfl, Nat.le_of_ble_eq_true rfl⟩) (fun u32 H locs h32 w => ?_)
    have w : Wd G _ s [(aC, .inr (0, [.int cT, .int cI, .int cG, .int cO, .int cK, .int cP, .int cQ, .ref aK, .ref aX, .ref aY, .ref aZ])), (aK, .inl (G.2.1 2, 12, .inl (putF fK 12 cG k0))), (aX, .inl (G.2.1 2, 12, .inl (putF fX 12 cG x0))), (aY, .inl (G.2.1 2, 12, .inl fY))] H locs := w
    refine lv_aload_n S.1 S.2.1 dX0_addGate_35 rfl (lv_at hl 0 rfl) ?_
    refine w_get S C w (CC := RX0) (T := TX0) (N := 11) (ref := "GateSums$Circuit") im_X0_addGate_X0 0 rfl rfl 9 (by decide) (List.mem_of_getElem? (i := 4) rfl) (fun _ h => h) rfl dX0_addGate_36 ?_
    refine lv_aload_n S.1 S.2.1 dX0_addGate_39 rfl (lv_at hl 0 rfl) ?_
    refine w_get S C w (CC := RX0) (T := TX0) (N := 11) (ref := "GateSums$Circuit") im_X0_addGate_X0 0 rfl rfl 2 (by decide) (List.mem_of_getElem? (i := 1) rfl) (fun _ h => h) rfl dX0_addGate_40 ?_
    refine lv_iload_n S.1 S.2.1 dX0_addGate_43 rfl (lv_at hl 3 rfl) ?_
    refine cq_v C w [3] [0, 1, 2] [0, 1, 2, 3] (wr := [(aC, .inr (0, [.int cT, .int cI, .int cG, .int cO, .int cK, .int cP, .int cQ, .ref aK, .ref aX, .ref aY, .ref aZ])), (aK, .inl (G.2.1 2, 12, .inl (putF fK 12 cG k0))), (aX, .inl (G.2.1 2, 12, .inl (putF fX 12 cG x0)))]) (w' := fun u : Unit => [(aY, .inl (G.2.1 2, 12, .inl (putF fY 12 cG y0)))]) (ws2 := fun u : Unit => [(aC, .inr (0, [.int cT, .int cI, .int cG, .int cO, .int cK, .int cP, .int cQ, .ref aK, .ref aX, .ref aY, .ref aZ])), (aK, .inl (G.2.1 2, 12, .inl (putF fK 12 cG k0))), (aX, .inl (G.2.1 2, 12, .inl (putF fX 12 cG x0))), (aY, .inl (G.2.1 2, 12, .inl (putF fY 12 cG y0)))]) rfl rfl rfl (by decide) rfl (fun _ => rfl) (va_runSN (As := [.ref aY, .int cG, .int y0]) (rest := []) S (c_X6_put l G aY _ 12 fY cG y0 (by decide)) ⟨va_cnB 3 S.2.2.2.2 gX0_addGate_X6_put_n38 rfl rfl rfl (nw_6 C.2.1) (S.2.2.2.2 _ (List.mem_of_getElem? (i := 6) rfl)) (by decide +kernel) ⟨Nat.le_of_ble_eq_true rfl, Nat.le_of_ble_eq_true rfl⟩, S.2.2.2.2 _ (List.mem_of_getElem? (i := 5) rfl), trivial⟩ ⟨wPre_blind, wPre_at C w [3] rfl rfl⟩ rfl rfl hl.1 rfl (lv_room (Nat.le_of_ble_eq_true rfl)) dX0_addGate_44 ⟨Nat.le_of_ble_eq_true rfl, Nat.le_of_ble_eq_true rfl⟩) (fun u44 H locs h44 w => ?_)
    have w : Wd G _ s [(aC, .inr (0, [.int cT, .int cI, .int cG, .int cO, .int cK, .int cP, .int cQ, .ref aK, .ref aX, .ref aY, .ref aZ])), (aK, .inl (G.2.1 2, 12, .inl (putF fK 12 cG k0))), (aX, .inl (G.2.1 2, 12, .inl (putF fX 12 cG x0))), (aY, .inl (G.2.1 2, 12, .inl (putF fY 12 cG y0)))] H locs := w
    refine lv_aload_n S.1 S.2.1 dX0_addGate_47 rfl (lv_at hl 0 rfl) ?_
    refine lv_dup S.1 S.2.1 dX0_addGate_48 rfl ?_
    refine w_get S C w (CC := RX0) (T := TX0) (N := 11) (ref := "GateSums$Circuit") im_X0_addGate_X0 0 rfl rfl 2 (by decide) (List.mem_of_getElem? (i := 1) rfl) (fun _ h => h) rfl dX0_addGate_49 ?_
    refine lv_iconst (v := 1) S.1 S.2.1 dX0_addGate_52 (by decide) ?_
    refine lv_iadd S.1 S.2.1 dX0_addGate_53 ?_
    refine w_put S C w (CC := RX0) (T := TX0) (N := 11) (ref := "GateSums$Circuit") im_X0_addGate_X0 tyX0 tyX0_ok nmX0 0 rfl rfl 2 (by decide) (List.mem_of_getElem? (i := 1) rfl) (fun _ h => h) rfl (ws2 := [(aC, .inr (0, [.int cT, .int cI, .int (cG + 1), .int cO, .int cK, .int cP, .int cQ, .ref aK, .ref aX, .ref aY, .ref aZ])), (aK, .inl (G.2.1 2, 12, .inl (putF fK 12 cG k0))), (aX, .inl (G.2.1 2, 12, .inl (putF fX 12 cG x0))), (aY, .inl (G.2.1 2, 12, .inl (putF fY 12 cG y0)))]) (rfl) (rfl) (Nat.le_of_ble_eq_true rfl) rfl dX0_addGate_54 (fun H locs w => ?_)
    refine lv_aload_n S.1 S.2.1 dX0_addGate_57 rfl (lv_at hl 0 rfl) ?_
    refine cs_i (va_runV (As := []) (rest := []) S (c_X0_signals l G aC _ cT cI (cG + 1) cO cK cP cQ aK aX aY aZ) (cwV 0 S.2.2.2.2 gX0_addGate_X0_signals rfl rfl rfl (by decide +kernel) ⟨Nat.le_of_ble_eq_true rfl, Nat.le_of_ble_eq_true rfl⟩) ⟨wPre_blind, va_recv C.1 w.1 (ci := 0) (q0 := 0) rfl rfl, wPre_at C w [0] rfl rfl⟩ rfl rfl hl.1 rfl (lv_room (Nat.le_of_ble_eq_true rfl)) dX0_addGate_58 ⟨Nat.le_of_ble_eq_true rfl, Nat.le_of_ble_eq_true rfl⟩) (fun r58 h58 => ?_)
    refine w_topi (y := (cI + (cG + 1))) h58 ?_
    refine lv_iconst (v := 1) S.1 S.2.1 dX0_addGate_61 (by decide) ?_
    refine lv_isub S.1 S.2.1 dX0_addGate_62 ?_
    exact W.iret (v := ((cI + (cG + 1)) - 1)) S.1 S.2.1 hr (fun t ht _ => ⟨⟨((cI + (cG + 1)) - 1), (), rfl, rfl, by rw [ht]; exact w.1, w.2.1⟩, w.2.2.F ht⟩) w.2.2.2.2 dX0_addGate_63
  · exact absurd hG c6
theorem im_X0_addOutput_X0 : ∀ w ∈ u_ws RX0 TX0 11, w ∈ wsX0_addOutput := by decide +kernel
set_option maxHeartbeats 4000000 in
set_option maxRecDepth 100000 in
theorem c_X0_addOutput (l : Launch) (G : GT) (aC aZ : Nat) (sz : Nat) (cT cI cG cO cK cP cQ : Int32) (aK aX aY : Nat) (fZ : Nat → Int32) (s0 : Int32) (hO : cO < 7) : Met l yX0_addOutput wsX0_addOutput ({ frames := 1, cells := 0, slots := 0, locals := 22 }) (va_Pc [.ref aC, .int s0] (wPre G [(aC, .inr (0, [.int cT, .int cI, .int cG, .int cO, .int cK, .int cP, .int cQ, .ref aK, .ref aX, .ref aY, .ref aZ])), (aZ, .inl (G.2.1 2, 7, .inl fZ))] sz)) (va_Qv (fun u : Unit => True) (bW G (va_A [(aC, .inr (0, [.int cT, .int cI, .int cG, .int cO, .int cK, .int cP, .int cQ, .ref aK, .ref aX, .ref aY, .ref aZ])), (aZ, .inl (G.2.1 2, 7, .inl fZ))] sz) (fun u : Unit => [(aC, .inr (0, [.int cT, .int cI, .int cG, .int (cO + 1), .int cK, .int cP, .int cQ, .ref aK, .ref aX, .ref aY, .ref aZ])), (aZ, .inl (G.2.1 2, 7, .inl (putF fZ 7 cO s0)))])) (va_A [(aC, .inr (0, [.int cT, .int cI, .int cG, .int cO, .int cK, .int cP, .int cQ, .ref aK, .ref aX, .ref aY, .ref aZ])), (aZ, .inl (G.2.1 2, 7, .inl fZ))] sz)) 0 0 (va_A [(aC, .inr (0, [.int cT, .int cI, .int cG, .int cO, .int cK, .int cP, .int cQ, .ref aK, .ref aX, .ref aY, .ref aZ])), (aZ, .inl (G.2.1 2, 7, .inl fZ))] sz) := by
  refine met_go (cc := cX0_addOutput) (maxL := 2) (ret := none) (own := RX0) (by decide) rfl rfl (Nat.le_of_ble_eq_true rfl) ?_
  intro p e s m below meth c ls S hr hlocks hname hsz C w hl
  have hl : lv_has ls 2 [(0, .ref aC), (1, .int s0)] := hl
  refine lv_aload_n S.1 S.2.1 dX0_addOutput_0 rfl (lv_at hl 0 rfl) ?_
  refine w_get S C w (CC := RX0) (T := TX0) (N := 11) (ref := "GateSums$Circuit") im_X0_addOutput_X0 0 rfl rfl 3 (by decide) (List.mem_of_getElem? (i := 1) rfl) (fun _ h => h) rfl dX0_addOutput_1 ?_
  refine lv_bipush (v := 7) S.1 S.2.1 dX0_addOutput_4 (by decide) ?_
  refine lv_icmp_ge (tgt := 31) S.1 S.2.1 dX0_addOutput_6 (by decide) (fun c6 => ?_) (fun c6 => ?_)
  · exact absurd hO (Int32.not_lt.mpr c6)
  · refine lv_aload_n S.1 S.2.1 dX0_addOutput_9 rfl (lv_at hl 0 rfl) ?_
    refine w_get S C w (CC := RX0) (T := TX0) (N := 11) (ref := "GateSums$Circuit") im_X0_addOutput_X0 0 rfl rfl 10 (by decide) (List.mem_of_getElem? (i := 2) rfl) (fun _ h => h) rfl dX0_addOutput_10 ?_
    refine lv_aload_n S.1 S.2.1 dX0_addOutput_13 rfl (lv_at hl 0 rfl) ?_
    refine w_get S C w (CC := RX0) (T := TX0) (N := 11) (ref := "GateSums$Circuit") im_X0_addOutput_X0 0 rfl rfl 3 (by decide) (List.mem_of_getElem? (i := 1) rfl) (fun _ h => h) rfl dX0_addOutput_14 ?_
    refine lv_iload_n S.1 S.2.1 dX0_addOutput_17 rfl (lv_at hl 1 rfl) ?_
    refine cq_v C w [1] [0] [0, 1] (wr := [(aC, .inr (0, [.int cT, .int cI, .int cG, .int cO, .int cK, .int cP, .int cQ, .ref aK, .ref aX, .ref aY, .ref aZ]))]) (w' := fun u : Unit => [(aZ, .inl (G.2.1 2, 7, .inl (putF fZ 7 cO s0)))]) (ws2 := fun u : Unit => [(aC, .inr (0, [.int cT, .int cI, .int cG, .int cO, .int cK, .int cP, .int cQ, .ref aK, .ref aX, .ref aY, .ref aZ])), (aZ, .inl (G.2.1 2, 7, .inl (putF fZ 7 cO s0)))]) rfl rfl rfl (by decide) rfl (fun _ => rfl) (va_runSN (As := [.ref aZ, .int cO, .int s0]) (rest := []) S (c_X6_put l G aZ _ 7 fZ cO s0 (by decide)) ⟨va_cnB 3 S.2.2.2.2 gX0_addOutput_X6_put_n38 rfl rfl rfl (nw_6 C.2.1) (S.2.2.2.2 _ (List.mem_of_getElem? (i := 4) rfl)) (by decide +kernel) ⟨Nat.le_of_ble_eq_true rfl, Nat.le_of_ble_eq_true rfl⟩, S.2.2.2.2 _ (List.mem_of_getElem? (i := 3) rfl), trivial⟩ ⟨wPre_blind, wPre_at C w [1] rfl rfl⟩ rfl rfl hl.1 rfl (lv_room (Nat.le_of_ble_eq_true rfl)) dX0_addOutput_18 ⟨Nat.le_of_ble_eq_true rfl, Nat.le_of_ble_eq_true rfl⟩) (fun u18 H locs h18 w => ?_)
    have w : Wd G _ s [(aC, .inr (0, [.int cT, .int cI, .int cG, .int cO, .int cK, .int cP, .int cQ, .ref aK, .ref aX, .ref aY, .ref aZ])), (aZ, .inl (G.2.1 2, 7, .inl (putF fZ 7 cO s0)))] H locs := w
    refine lv_aload_n S.1 S.2.1 dX0_addOutput_21 rfl (lv_at hl 0 rfl) ?_
    refine lv_dup S.1 S.2.1 dX0_addOutput_22 rfl ?_
    refine w_get S C w (CC := RX0) (T := TX0) (N := 11) (ref := "GateSums$Circuit") im_X0_addOutput_X0 0 rfl rfl 3 (by decide) (List.mem_of_getElem? (i := 1) rfl) (fun _ h => h) rfl dX0_addOutput_23 ?_
    refine lv_iconst (v := 1) S.1 S.2.1 dX0_addOutput_26 (by decide) ?_
    refine lv_iadd S.1 S.2.1 dX0_addOutput_27 ?_
    refine w_put S C w (CC := RX0) (T := TX0) (N := 11) (ref := "GateSums$Circuit") im_X0_addOutput_X0 tyX0 tyX0_ok nmX0 0 rfl rfl 3 (by decide) (List.mem_of_getElem? (i := 1) rfl) (fun _ h => h) rfl (ws2 := [(aC, .inr (0, [.int cT, .int cI, .int cG, .int (cO + 1), .int cK, .int cP, .int cQ, .ref aK, .ref aX, .ref aY, .ref aZ])), (aZ, .inl (G.2.1 2, 7, .inl (putF fZ 7 cO s0)))]) (rfl) (rfl) (Nat.le_of_ble_eq_true rfl) rfl dX0_addOutput_28 (fun H locs w => ?_)
    exact W.vret S.1 S.2.1 hr (fun t ht _ => ⟨⟨(), rfl, trivial, by rw [ht]; exact w.1, w.2.1⟩, w.2.2.F ht⟩) w.2.2.2.2 dX0_addOutput_31
theorem im_X0_end_X0 : ∀ w ∈ u_ws RX0 TX0 11, w ∈ wsX0_end := by decide +kernel
set_option maxHeartbeats 4000000 in
set_option maxRecDepth 100000 in
theorem c_X0_end (l : Launch) (G : GT) (aC : Nat) (sz : Nat) (cT cI cG cO cK cP cQ : Int32) (aK aX aY aZ : Nat) (k0 p0 q0 : Int32) : Met l yX0_end wsX0_end ({ frames := 0, cells := 0, slots := 0, locals := 0 }) (va_Pc [.ref aC, .int k0, .int p0, .int q0] (wPre G [(aC, .inr (0, [.int cT, .int cI, .int cG, .int cO, .int cK, .int cP, .int cQ, .ref aK, .ref aX, .ref aY, .ref aZ]))] sz)) (va_Qv (fun u : Unit => True) (bW G (va_A [(aC, .inr (0, [.int cT, .int cI, .int cG, .int cO, .int cK, .int cP, .int cQ, .ref aK, .ref aX, .ref aY, .ref aZ]))] sz) (fun u : Unit => [(aC, .inr (0, [.int 1, .int cI, .int cG, .int cO, .int k0, .int p0, .int q0, .ref aK, .ref aX, .ref aY, .ref aZ]))])) (va_A [(aC, .inr (0, [.int cT, .int cI, .int cG, .int cO, .int cK, .int cP, .int cQ, .ref aK, .ref aX, .ref aY, .ref aZ]))] sz)) 0 0 (va_A [(aC, .inr (0, [.int cT, .int cI, .int cG, .int cO, .int cK, .int cP, .int cQ, .ref aK, .ref aX, .ref aY, .ref aZ]))] sz) := by
  refine met_go (cc := cX0_end) (maxL := 4) (ret := none) (own := RX0) (by decide) rfl rfl (Nat.le_of_ble_eq_true rfl) ?_
  intro p e s m below meth c ls S hr hlocks hname hsz C w hl
  have hl : lv_has ls 4 [(0, .ref aC), (1, .int k0), (2, .int p0), (3, .int q0)] := hl
  refine lv_aload_n S.1 S.2.1 dX0_end_0 rfl (lv_at hl 0 rfl) ?_
  refine lv_iload_n S.1 S.2.1 dX0_end_1 rfl (lv_at hl 1 rfl) ?_
  refine w_put S C w (CC := RX0) (T := TX0) (N := 11) (ref := "GateSums$Circuit") im_X0_end_X0 tyX0 tyX0_ok nmX0 0 rfl rfl 4 (by decide) (List.mem_of_getElem? (i := 1) rfl) (fun _ h => h) rfl (ws2 := [(aC, .inr (0, [.int cT, .int cI, .int cG, .int cO, .int k0, .int cP, .int cQ, .ref aK, .ref aX, .ref aY, .ref aZ]))]) (rfl) (rfl) (Nat.le_of_ble_eq_true rfl) rfl dX0_end_2 (fun H locs w => ?_)
  refine lv_aload_n S.1 S.2.1 dX0_end_5 rfl (lv_at hl 0 rfl) ?_
  refine lv_iload_n S.1 S.2.1 dX0_end_6 rfl (lv_at hl 2 rfl) ?_
  refine w_put S C w (CC := RX0) (T := TX0) (N := 11) (ref := "GateSums$Circuit") im_X0_end_X0 tyX0 tyX0_ok nmX0 0 rfl rfl 5 (by decide) (List.mem_of_getElem? (i := 2) rfl) (fun _ h => h) rfl (ws2 := [(aC, .inr (0, [.int cT, .int cI, .int cG, .int cO, .int k0, .int p0, .int cQ, .ref aK, .ref aX, .ref aY, .ref aZ]))]) (rfl) (rfl) (Nat.le_of_ble_eq_true rfl) rfl dX0_end_7 (fun H locs w => ?_)
  refine lv_aload_n S.1 S.2.1 dX0_end_10 rfl (lv_at hl 0 rfl) ?_
  refine lv_iload_n S.1 S.2.1 dX0_end_11 rfl (lv_at hl 3 rfl) ?_
  refine w_put S C w (CC := RX0) (T := TX0) (N := 11) (ref := "GateSums$Circuit") im_X0_end_X0 tyX0 tyX0_ok nmX0 0 rfl rfl 6 (by decide) (List.mem_of_getElem? (i := 3) rfl) (fun _ h => h) rfl (ws2 := [(aC, .inr (0, [.int cT, .int cI, .int cG, .int cO, .int k0, .int p0, .int q0, .ref aK, .ref aX, .ref aY, .ref aZ]))]) (rfl) (rfl) (Nat.le_of_ble_eq_true rfl) rfl dX0_end_12 (fun H locs w => ?_)
  refine lv_aload_n S.1 S.2.1 dX0_end_15 rfl (lv_at hl 0 rfl) ?_
  refine lv_iconst (v := 1) S.1 S.2.1 dX0_end_16 (by decide) ?_
  refine w_put S C w (CC := RX0) (T := TX0) (N := 11) (ref := "GateSums$Circuit") im_X0_end_X0 tyX0 tyX0_ok nmX0 0 rfl rfl 0 (by decide) (List.mem_of_getElem? (i := 4) rfl) (fun _ h => h) rfl (ws2 := [(aC, .inr (0, [.int 1, .int cI, .int cG, .int cO, .int k0, .int p0, .int q0, .ref aK, .ref aX, .ref aY, .ref aZ]))]) (rfl) (rfl) (Nat.le_of_ble_eq_true rfl) rfl dX0_end_17 (fun H locs w => ?_)
  exact W.vret S.1 S.2.1 hr (fun t ht _ => ⟨⟨(), rfl, trivial, by rw [ht]; exact w.1, w.2.1⟩, w.2.2.F ht⟩) w.2.2.2.2 dX0_end_20
theorem im_X0_kindOf_X0 : ∀ w ∈ u_ws RX0 TX0 11, w ∈ wsX0_kindOf := by decide +kernel
set_option maxHeartbeats 4000000 in
set_option maxRecDepth 100000 in
theorem c_X0_kindOf (l : Launch) (G : GT) (aC aK : Nat) (sz : Nat) (cT cI cG cO cK cP cQ : Int32) (aX aY aZ : Nat) (fK : Nat → Int32) (i0 : Int32) : Met l yX0_kindOf wsX0_kindOf ({ frames := 1, cells := 0, slots := 0, locals := 21 }) (va_Pc [.ref aC, .int i0] (wPre G [(aC, .inr (0, [.int cT, .int cI, .int cG, .int cO, .int cK, .int cP, .int cQ, .ref aK, .ref aX, .ref aY, .ref aZ])), (aK, .inl (G.2.1 2, 12, .inl fK))] sz)) (vp_Si (fun r : Int32 => r = (atF fK 12 i0))) 0 0 (fun _ => False) := by
  refine met_go (cc := cX0_kindOf) (maxL := 2) (ret := (some .int)) (own := RX0) (by decide) rfl rfl (Nat.le_of_ble_eq_true rfl) ?_
  intro p e s m below meth c ls S hr hlocks hname hsz C w hl
  have hl : lv_has ls 2 [(0, .ref aC), (1, .int i0)] := hl
  refine lv_aload_n S.1 S.2.1 dX0_kindOf_0 rfl (lv_at hl 0 rfl) ?_
  refine w_get S C w (CC := RX0) (T := TX0) (N := 11) (ref := "GateSums$Circuit") im_X0_kindOf_X0 0 rfl rfl 7 (by decide) (List.mem_of_getElem? (i := 1) rfl) (fun _ h => h) rfl dX0_kindOf_1 ?_
  refine lv_iload_n S.1 S.2.1 dX0_kindOf_4 rfl (lv_at hl 1 rfl) ?_
  refine cs_i (va_runSN (As := [.ref aK, .int i0]) (rest := []) S (c_X6_at l G aK _ 12 fK i0 (by decide)) ⟨va_cnB 2 S.2.2.2.2 gX0_kindOf_X6_at_n83 rfl rfl rfl (nw_7 C.2.1) (S.2.2.2.2 _ (List.mem_of_getElem? (i := 3) rfl)) (by decide +kernel) ⟨Nat.le_of_ble_eq_true rfl, Nat.le_of_ble_eq_true rfl⟩, S.2.2.2.2 _ (List.mem_of_getElem? (i := 2) rfl), trivial⟩ ⟨wPre_blind, wPre_at C w [1] rfl rfl⟩ rfl rfl hl.1 rfl (lv_room (Nat.le_of_ble_eq_true rfl)) dX0_kindOf_5 ⟨Nat.le_of_ble_eq_true rfl, Nat.le_of_ble_eq_true rfl⟩) (fun r5 h5 => ?_)
  refine w_topi (y := atF fK 12 i0) h5 ?_
  exact W.iret (v := (atF fK 12 i0)) S.1 S.2.1 hr (fun t ht _ => ⟨(atF fK 12 i0), rfl, rfl, ht⟩) (fun q h => absurd h List.not_mem_nil) dX0_kindOf_8
theorem im_X0_xOf_X0 : ∀ w ∈ u_ws RX0 TX0 11, w ∈ wsX0_xOf := by decide +kernel
set_option maxHeartbeats 4000000 in
set_option maxRecDepth 100000 in
theorem c_X0_xOf (l : Launch) (G : GT) (aC aX : Nat) (sz : Nat) (cT cI cG cO cK cP cQ : Int32) (aK aY aZ : Nat) (fX : Nat → Int32) (i0 : Int32) : Met l yX0_xOf wsX0_xOf ({ frames := 1, cells := 0, slots := 0, locals := 21 }) (va_Pc [.ref aC, .int i0] (wPre G [(aC, .inr (0, [.int cT, .int cI, .int cG, .int cO, .int cK, .int cP, .int cQ, .ref aK, .ref aX, .ref aY, .ref aZ])), (aX, .inl (G.2.1 2, 12, .inl fX))] sz)) (vp_Si (fun r : Int32 => r = (atF fX 12 i0))) 0 0 (fun _ => False) := by
  refine met_go (cc := cX0_xOf) (maxL := 2) (ret := (some .int)) (own := RX0) (by decide) rfl rfl (Nat.le_of_ble_eq_true rfl) ?_
  intro p e s m below meth c ls S hr hlocks hname hsz C w hl
  have hl : lv_has ls 2 [(0, .ref aC), (1, .int i0)] := hl
  refine lv_aload_n S.1 S.2.1 dX0_xOf_0 rfl (lv_at hl 0 rfl) ?_
  refine w_get S C w (CC := RX0) (T := TX0) (N := 11) (ref := "GateSums$Circuit") im_X0_xOf_X0 0 rfl rfl 8 (by decide) (List.mem_of_getElem? (i := 1) rfl) (fun _ h => h) rfl dX0_xOf_1 ?_
  refine lv_iload_n S.1 S.2.1 dX0_xOf_4 rfl (lv_at hl 1 rfl) ?_
  refine cs_i (va_runSN (As := [.ref aX, .int i0]) (rest := []) S (c_X6_at l G aX _ 12 fX i0 (by decide)) ⟨va_cnB 2 S.2.2.2.2 gX0_xOf_X6_at_n83 rfl rfl rfl (nw_7 C.2.1) (S.2.2.2.2 _ (List.mem_of_getElem? (i := 3) rfl)) (by decide +kernel) ⟨Nat.le_of_ble_eq_true rfl, Nat.le_of_ble_eq_true rfl⟩, S.2.2.2.2 _ (List.mem_of_getElem? (i := 2) rfl), trivial⟩ ⟨wPre_blind, wPre_at C w [1] rfl rfl⟩ rfl rfl hl.1 rfl (lv_room (Nat.le_of_ble_eq_true rfl)) dX0_xOf_5 ⟨Nat.le_of_ble_eq_true rfl, Nat.le_of_ble_eq_true rfl⟩) (fun r5 h5 => ?_)
  refine w_topi (y := atF fX 12 i0) h5 ?_
  exact W.iret (v := (atF fX 12 i0)) S.1 S.2.1 hr (fun t ht _ => ⟨(atF fX 12 i0), rfl, rfl, ht⟩) (fun q h => absurd h List.not_mem_nil) dX0_xOf_8
theorem im_X0_yOf_X0 : ∀ w ∈ u_ws RX0 TX0 11, w ∈ wsX0_yOf := by decide +kernel
set_option maxHeartbeats 4000000 in
set_option maxRecDepth 100000 in
theorem c_X0_yOf (l : Launch) (G : GT) (aC aY : Nat) (sz : Nat) (cT cI cG cO cK cP cQ : Int32) (aK aX aZ : Nat) (fY : Nat → Int32) (i0 : Int32) : Met l yX0_yOf wsX0_yOf ({ frames := 1, cells := 0, slots := 0, locals := 21 }) (va_Pc [.ref aC, .int i0] (wPre G [(aC, .inr (0, [.int cT, .int cI, .int cG, .int cO, .int cK, .int cP, .int cQ, .ref aK, .ref aX, .ref aY, .ref aZ])), (aY, .inl (G.2.1 2, 12, .inl fY))] sz)) (vp_Si (fun r : Int32 => r = (atF fY 12 i0))) 0 0 (fun _ => False) := by
  refine met_go (cc := cX0_yOf) (maxL := 2) (ret := (some .int)) (own := RX0) (by decide) rfl rfl (Nat.le_of_ble_eq_true rfl) ?_
  intro p e s m below meth c ls S hr hlocks hname hsz C w hl
  have hl : lv_has ls 2 [(0, .ref aC), (1, .int i0)] := hl
  refine lv_aload_n S.1 S.2.1 dX0_yOf_0 rfl (lv_at hl 0 rfl) ?_
  refine w_get S C w (CC := RX0) (T := TX0) (N := 11) (ref := "GateSums$Circuit") im_X0_yOf_X0 0 rfl rfl 9 (by decide) (List.mem_of_getElem? (i := 1) rfl) (fun _ h => h) rfl dX0_yOf_1 ?_
  refine lv_iload_n S.1 S.2.1 dX0_yOf_4 rfl (lv_at hl 1 rfl) ?_
  refine cs_i (va_runSN (As := [.ref aY, .int i0]) (rest := []) S (c_X6_at l G aY _ 12 fY i0 (by decide)) ⟨va_cnB 2 S.2.2.2.2 gX0_yOf_X6_at_n83 rfl rfl rfl (nw_7 C.2.1) (S.2.2.2.2 _ (List.mem_of_getElem? (i := 3) rfl)) (by decide +kernel) ⟨Nat.le_of_ble_eq_true rfl, Nat.le_of_ble_eq_true rfl⟩, S.2.2.2.2 _ (List.mem_of_getElem? (i := 2) rfl), trivial⟩ ⟨wPre_blind, wPre_at C w [1] rfl rfl⟩ rfl rfl hl.1 rfl (lv_room (Nat.le_of_ble_eq_true rfl)) dX0_yOf_5 ⟨Nat.le_of_ble_eq_true rfl, Nat.le_of_ble_eq_true rfl⟩) (fun r5 h5 => ?_)
  refine w_topi (y := atF fY 12 i0) h5 ?_
  exact W.iret (v := (atF fY 12 i0)) S.1 S.2.1 hr (fun t ht _ => ⟨(atF fY 12 i0), rfl, rfl, ht⟩) (fun q h => absurd h List.not_mem_nil) dX0_yOf_8
theorem im_X0_outputAt_X0 : ∀ w ∈ u_ws RX0 TX0 11, w ∈ wsX0_outputAt := by decide +kernel
set_option maxHeartbeats 4000000 in
set_option maxRecDepth 100000 in
theorem c_X0_outputAt (l : Launch) (G : GT) (aC aZ : Nat) (sz : Nat) (cT cI cG cO cK cP cQ : Int32) (aK aX aY : Nat) (fZ : Nat → Int32) (i0 : Int32) : Met l yX0_outputAt wsX0_outputAt ({ frames := 1, cells := 0, slots := 0, locals := 21 }) (va_Pc [.ref aC, .int i0] (wPre G [(aC, .inr (0, [.int cT, .int cI, .int cG, .int cO, .int cK, .int cP, .int cQ, .ref aK, .ref aX, .ref aY, .ref aZ])), (aZ, .inl (G.2.1 2, 7, .inl fZ))] sz)) (vp_Si (fun r : Int32 => r = (atF fZ 7 i0))) 0 0 (fun _ => False) := by
  refine met_go (cc := cX0_outputAt) (maxL := 2) (ret := (some .int)) (own := RX0) (by decide) rfl rfl (Nat.le_of_ble_eq_true rfl) ?_
  intro p e s m below meth c ls S hr hlocks hname hsz C w hl
  have hl : lv_has ls 2 [(0, .ref aC), (1, .int i0)] := hl
  refine lv_aload_n S.1 S.2.1 dX0_outputAt_0 rfl (lv_at hl 0 rfl) ?_
  refine w_get S C w (CC := RX0) (T := TX0) (N := 11) (ref := "GateSums$Circuit") im_X0_outputAt_X0 0 rfl rfl 10 (by decide) (List.mem_of_getElem? (i := 1) rfl) (fun _ h => h) rfl dX0_outputAt_1 ?_
  refine lv_iload_n S.1 S.2.1 dX0_outputAt_4 rfl (lv_at hl 1 rfl) ?_
  refine cs_i (va_runSN (As := [.ref aZ, .int i0]) (rest := []) S (c_X6_at l G aZ _ 7 fZ i0 (by decide)) ⟨va_cnB 2 S.2.2.2.2 gX0_outputAt_X6_at_n83 rfl rfl rfl (nw_7 C.2.1) (S.2.2.2.2 _ (List.mem_of_getElem? (i := 3) rfl)) (by decide +kernel) ⟨Nat.le_of_ble_eq_true rfl, Nat.le_of_ble_eq_true rfl⟩, S.2.2.2.2 _ (List.mem_of_getElem? (i := 2) rfl), trivial⟩ ⟨wPre_blind, wPre_at C w [1] rfl rfl⟩ rfl rfl hl.1 rfl (lv_room (Nat.le_of_ble_eq_true rfl)) dX0_outputAt_5 ⟨Nat.le_of_ble_eq_true rfl, Nat.le_of_ble_eq_true rfl⟩) (fun r5 h5 => ?_)
  refine w_topi (y := atF fZ 7 i0) h5 ?_
  exact W.iret (v := (atF fZ 7 i0)) S.1 S.2.1 hr (fun t ht _ => ⟨(atF fZ 7 i0), rfl, rfl, ht⟩) (fun q h => absurd h List.not_mem_nil) dX0_outputAt_8
