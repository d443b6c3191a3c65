theorem im_X1_row_X1 : ∀ w ∈ u_ws RX1 TX1 1, w ∈ wsX1_row := by decide +kernel
set_option maxHeartbeats 4000000 in
set_option maxRecDepth 100000 in
theorem c_X1_row (l : Launch) (G : GT) (aL aW : Nat) (sz : Nat) (gW : Nat → Int64) (i0 : Int32) : Met l yX1_row wsX1_row ({ frames := 0, cells := 0, slots := 0, locals := 0 }) (va_Pc [.ref aL, .int i0] (wPre G [(aL, .inr (1, [.ref aW])), (aW, .inl (G.2.1 3, 18, .inr (.inl gW)))] sz)) (vp_Sl (fun r : Int64 => r = (rowF gW i0))) 0 0 (fun _ => False) := by
  refine met_go (cc := cX1_row) (maxL := 2) (ret := (some .long)) (own := RX1) (by decide) rfl rfl (Nat.le_of_ble_eq_true rfl) ?_
  intro p e s m below meth c ls S hr hlocks hname hsz C w hl
  have hl : lv_has ls 2 [(0, .ref aL), (1, .int i0)] := hl
  refine lv_iload_n S.1 S.2.1 dX1_row_0 rfl (lv_at hl 1 rfl) ?_
  refine lv_if_lt (tgt := 22) S.1 S.2.1 dX1_row_1 (by decide) (fun c1 => ?_) (fun c1 => ?_)
  · refine lv_lconst (v := 0) S.1 S.2.1 dX1_row_22 (by decide) ?_
    exact W.lret (v := 0) S.1 S.2.1 hr (fun t ht _ => ⟨0, rfl, by simp [rowF, c1], ht⟩) (fun q h => absurd h List.not_mem_nil) dX1_row_23
  · refine lv_iload_n S.1 S.2.1 dX1_row_4 rfl (lv_at hl 1 rfl) ?_
    refine lv_aload_n S.1 S.2.1 dX1_row_5 rfl (lv_at hl 0 rfl) ?_
    refine w_get S C w (CC := RX1) (T := TX1) (N := 1) (ref := "GateSums$Columns") im_X1_row_X1 0 rfl rfl 0 (by decide) (List.mem_of_getElem? (i := 1) rfl) (fun _ h => h) rfl dX1_row_6 ?_
    refine w_alen S C w 1 3 rfl rfl (v := 18) rfl dX1_row_9 ?_
    refine lv_icmp_ge (tgt := 22) S.1 S.2.1 dX1_row_10 (by decide) (fun c10 => ?_) (fun c10 => ?_)
    · refine lv_lconst (v := 0) S.1 S.2.1 dX1_row_22 (by decide) ?_
      exact W.lret (v := 0) S.1 S.2.1 hr (fun t ht _ => ⟨0, rfl, by simp [rowF, c1, c10], ht⟩) (fun q h => absurd h List.not_mem_nil) dX1_row_23
    · refine lv_aload_n S.1 S.2.1 dX1_row_13 rfl (lv_at hl 0 rfl) ?_
      refine w_get S C w (CC := RX1) (T := TX1) (N := 1) (ref := "GateSums$Columns") im_X1_row_X1 0 rfl rfl 0 (by decide) (List.mem_of_getElem? (i := 1) rfl) (fun _ h => h) rfl dX1_row_14 ?_
      refine lv_iload_n S.1 S.2.1 dX1_row_17 rfl (lv_at hl 1 rfl) ?_
      refine w_lald S C w 1 rfl (in_of2 (by decide) c1 c10) dX1_row_18 ?_
      refine lv_goto (tgt := 23) S.1 S.2.1 dX1_row_19 (by decide) ?_
      exact W.lret (v := (gW i0.toNatClampNeg)) S.1 S.2.1 hr (fun t ht _ => ⟨(gW i0.toNatClampNeg), rfl, by simp [rowF, c1, c10], ht⟩) (fun q h => absurd h List.not_mem_nil) dX1_row_23
set_option maxHeartbeats 4000000 in
set_option maxRecDepth 100000 in
theorem c_X1_column (l : Launch) (G : GT) (aL aW aC aX aY : Nat) (sz : Nat) (gW : Nat → Int64) (cT cI cG cO cK cP cQ : Int32) (aK aZ : Nat) (fX fY : Nat → Int32) (i0 k0 : Int32) : Met l yX1_column wsX1_column ({ frames := 2, cells := 0, slots := 0, locals := 42 }) (va_Pc [.ref aL, .ref aC, .int i0, .int k0] (wPre G [(aL, .inr (1, [.ref aW])), (aW, .inl (G.2.1 3, 18, .inr (.inl gW))), (aC, .inr (0, [.int cT, .int cI, .int cG, .int cO, .int cK, .int cP, .int cQ, .ref aK, .ref aX, .ref aY, .ref aZ])), (aX, .inl (G.2.1 2, 12, .inl fX)), (aY, .inl (G.2.1 2, 12, .inl fY))] sz)) (vp_Sl (fun r : Int64 => r = (columnF (rowF gW (atF fX 12 i0)) (rowF gW (atF fY 12 i0)) k0))) 0 0 (fun _ => False) := by
  refine met_go (cc := cX1_column) (maxL := 8) (ret := (some .long)) (own := RX1) (by decide) rfl rfl (Nat.le_of_ble_eq_true rfl) ?_
  intro p e s m below meth c ls S hr hlocks hname hsz C w hl
  have hl : lv_has ls 8 [(0, .ref aL), (1, .ref aC), (2, .int i0), (3, .int k0)] := hl
  refine lv_aload_n S.1 S.2.1 dX1_column_0 rfl (lv_at hl 0 rfl) ?_
  refine lv_aload_n S.1 S.2.1 dX1_column_1 rfl (lv_at hl 1 rfl) ?_
  refine lv_iload_n S.1 S.2.1 dX1_column_2 rfl (lv_at hl 2 rfl) ?_
  refine cs_i (va_runV (As := [.int i0]) (rest := [.ref aL]) S (c_X0_xOf l G aC aX _ cT cI cG cO cK cP cQ aK aY aZ fX i0) (cwV 1 S.2.2.2.2 gX1_column_X0_xOf rfl rfl rfl (by decide +kernel) ⟨Nat.le_of_ble_eq_true rfl, Nat.le_of_ble_eq_true rfl⟩) ⟨wPre_blind, va_recv C.1 w.1 (ci := 0) (q0 := 2) rfl rfl, wPre_at C w [2, 3] rfl rfl⟩ rfl rfl hl.1 rfl (lv_room (Nat.le_of_ble_eq_true rfl)) dX1_column_3 ⟨Nat.le_of_ble_eq_true rfl, Nat.le_of_ble_eq_true rfl⟩) (fun r3 h3 => ?_)
  refine w_topi (y := (atF fX 12 i0)) h3 ?_
  refine cs_l (va_runV (As := [.int (atF fX 12 i0)]) (rest := []) S (c_X1_row l G aL aW _ gW (atF fX 12 i0)) (cwV 1 S.2.2.2.2 gX1_column_X1_row rfl rfl rfl (by decide +kernel) ⟨Nat.le_of_ble_eq_true rfl, Nat.le_of_ble_eq_true rfl⟩) ⟨wPre_blind, va_recv C.1 w.1 (ci := 1) (q0 := 0) rfl rfl, wPre_at C w [0, 1] rfl rfl⟩ rfl rfl hl.1 rfl (lv_room (Nat.le_of_ble_eq_true rfl)) dX1_column_6 ⟨Nat.le_of_ble_eq_true rfl, Nat.le_of_ble_eq_true rfl⟩) (fun r6 h6 => ?_)
  refine w_topl (y := (rowF gW (atF fX 12 i0))) h6 ?_
  refine lv_lstore (lv' := [(4, .long (rowF gW (atF fX 12 i0))), (0, .ref aL), (1, .ref aC), (2, .int i0), (3, .int k0)]) S.1 S.2.1 dX1_column_9 hl (by decide) rfl (fun ls hl => ?_)
  refine lv_aload_n S.1 S.2.1 dX1_column_11 rfl (lv_at hl 1 rfl) ?_
  refine lv_aload_n S.1 S.2.1 dX1_column_12 rfl (lv_at hl 2 rfl) ?_
  refine lv_iload_n S.1 S.2.1 dX1_column_13 rfl (lv_at hl 3 rfl) ?_
  refine cs_i (va_runV (As := [.int i0]) (rest := [.ref aL]) S (c_X0_yOf l G aC aY _ cT cI cG cO cK cP cQ aK aX aZ fY i0) (cwV 1 S.2.2.2.2 gX1_column_X0_yOf rfl rfl rfl (by decide +kernel) ⟨Nat.le_of_ble_eq_true rfl, Nat.le_of_ble_eq_true rfl⟩) ⟨wPre_blind, va_recv C.1 w.1 (ci := 0) (q0 := 2) rfl rfl, wPre_at C w [2, 4] rfl rfl⟩ rfl rfl hl.1 rfl (lv_room (Nat.le_of_ble_eq_true rfl)) dX1_column_14 ⟨Nat.le_of_ble_eq_true rfl, Nat.le_of_ble_eq_true rfl⟩) (fun r14 h14 => ?_)
  refine w_topi (y := (atF fY 12 i0)) h14 ?_
  refine cs_l (va_runV (As := [.int (atF fY 12 i0)]) (rest := []) S (c_X1_row l G aL aW _ gW (atF fY 12 i0)) (cwV 1 S.2.2.2.2 gX1_column_X1_row rfl rfl rfl (by decide +kernel) ⟨Nat.le_of_ble_eq_true rfl, Nat.le_of_ble_eq_true rfl⟩) ⟨wPre_blind, va_recv C.1 w.1 (ci := 1) (q0 := 0) rfl rfl, wPre_at C w [0, 1] rfl rfl⟩ rfl rfl hl.1 rfl (lv_room (Nat.le_of_ble_eq_true rfl)) dX1_column_17 ⟨Nat.le_of_ble_eq_true rfl, Nat.le_of_ble_eq_true rfl⟩) (fun r17 h17 => ?_)
  refine w_topl (y := (rowF gW (atF fY 12 i0))) h17 ?_
  refine lv_lstore (lv' := [(6, .long (rowF gW (atF fY 12 i0))), (4, .long (rowF gW (atF fX 12 i0))), (0, .ref aL), (1, .ref aC), (2, .int i0), (3, .int k0)]) S.1 S.2.1 dX1_column_20 hl (by decide) rfl (fun ls hl => ?_)
  refine lv_iload_n S.1 S.2.1 dX1_column_22 rfl (lv_at hl 5 rfl) ?_
  rcases sw_cases 0 6 k0.toInt (by decide) with c23 | ⟨c23n, c23l, c23q⟩
  · refine lv_tableOut (tgt := 119) S.1 S.2.1 dX1_column_23 c23 (by decide) ?_
    refine lv_lload S.1 S.2.1 dX1_column_119 (lv_at hl 1 rfl) ?_
    refine lv_lload S.1 S.2.1 dX1_column_121 (lv_at hl 0 rfl) ?_
    refine lv_ldc2 (own := RX1) (v := (-1)) S.1 S.2.1 S.2.2.2.1 (S.2.2.2.2 _ (List.mem_of_getElem? (i := 1) rfl)) dX1_column_123 ?_
    refine lv_lxor S.1 S.2.1 dX1_column_126 ?_
    refine lv_land S.1 S.2.1 dX1_column_127 ?_
    exact W.lret (v := ((rowF gW (atF fX 12 i0)) &&& ((rowF gW (atF fY 12 i0)) ^^^ (-1)))) S.1 S.2.1 hr (fun t ht _ => ⟨((rowF gW (atF fX 12 i0)) &&& ((rowF gW (atF fY 12 i0)) ^^^ (-1))), rfl, by first | (simp only [columnF, c23]; done) | (simp [columnF, c23]; done) | (unfold columnF; rcases c23 with h | h <;> (repeat rw [if_neg (by omega)])), ht⟩) (fun q h => absurd h List.not_mem_nil) dX1_column_128
  · have c23l2 : c23n < 7 := by omega
    rcases Nat.lt_or_ge c23n 1 with c23a | c23a
    · have c23e : c23n = 0 := by omega
      subst c23e
      have c23 : k0.toInt = 0 := by omega
      refine lv_tableIn (off := 41) (tgt := 64) S.1 S.2.1 dX1_column_23 (by omega) (by omega) (by rw [c23]; rfl) (by decide) ?_
      refine lv_lload S.1 S.2.1 dX1_column_64 (lv_at hl 1 rfl) ?_
      refine lv_ldc2 (own := RX1) (v := (-1)) S.1 S.2.1 S.2.2.2.1 (S.2.2.2.2 _ (List.mem_of_getElem? (i := 1) rfl)) dX1_column_66 ?_
      refine lv_lxor S.1 S.2.1 dX1_column_69 ?_
      exact W.lret (v := ((rowF gW (atF fX 12 i0)) ^^^ (-1))) S.1 S.2.1 hr (fun t ht _ => ⟨((rowF gW (atF fX 12 i0)) ^^^ (-1)), rfl, by first | (simp only [columnF, c23]; done) | (simp [columnF, c23]; done) | (unfold columnF; rcases c23 with h | h <;> (repeat rw [if_neg (by omega)])), ht⟩) (fun q h => absurd h List.not_mem_nil) dX1_column_70
    rcases Nat.lt_or_ge c23n 2 with c23a | c23a
    · have c23e : c23n = 1 := by omega
      subst c23e
      have c23 : k0.toInt = 1 := by omega
      refine lv_tableIn (off := 48) (tgt := 71) S.1 S.2.1 dX1_column_23 (by omega) (by omega) (by rw [c23]; rfl) (by decide) ?_
      refine lv_lload S.1 S.2.1 dX1_column_71 (lv_at hl 1 rfl) ?_
      refine lv_lload S.1 S.2.1 dX1_column_73 (lv_at hl 0 rfl) ?_
      refine lv_land S.1 S.2.1 dX1_column_75 ?_
      exact W.lret (v := ((rowF gW (atF fX 12 i0)) &&& (rowF gW (atF fY 12 i0)))) S.1 S.2.1 hr (fun t ht _ => ⟨((rowF gW (atF fX 12 i0)) &&& (rowF gW (atF fY 12 i0))), rfl, by first | (simp only [columnF, c23]; done) | (simp [columnF, c23]; done) | (unfold columnF; rcases c23 with h | h <;> (repeat rw [if_neg (by omega)])), ht⟩) (fun q h => absurd h List.not_mem_nil) dX1_column_76
    rcases Nat.lt_or_ge c23n 3 with c23a | c23a
    · have c23e : c23n = 2 := by omega
      subst c23e
      have c23 : k0.toInt = 2 := by omega
      refine lv_tableIn (off := 54) (tgt := 77) S.1 S.2.1 dX1_column_23 (by omega) (by omega) (by rw [c23]; rfl) (by decide) ?_
      refine lv_lload S.1 S.2.1 dX1_column_77 (lv_at hl 1 rfl) ?_
      refine lv_lload S.1 S.2.1 dX1_column_79 (lv_at hl 0 rfl) ?_
      refine lv_lor S.1 S.2.1 dX1_column_81 ?_
      exact W.lret (v := ((rowF gW (atF fX 12 i0)) ||| (rowF gW (atF fY 12 i0)))) S.1 S.2.1 hr (fun t ht _ => ⟨((rowF gW (atF fX 12 i0)) ||| (rowF gW (atF fY 12 i0))), rfl, by first | (simp only [columnF, c23]; done) | (simp [columnF, c23]; done) | (unfold columnF; rcases c23 with h | h <;> (repeat rw [if_neg (by omega)])), ht⟩) (fun q h => absurd h List.not_mem_nil) dX1_column_82
    rcases Nat.lt_or_ge c23n 4 with c23a | c23a
    · have c23e : c23n = 3 := by omega
      subst c23e
      have c23 : k0.toInt = 3 := by omega
      refine lv_tableIn (off := 60) (tgt := 83) S.1 S.2.1 dX1_column_23 (by omega) (by omega) (by rw [c23]; rfl) (by decide) ?_
      refine lv_lload S.1 S.2.1 dX1_column_83 (lv_at hl 1 rfl) ?_
      refine lv_lload S.1 S.2.1 dX1_column_85 (lv_at hl 0 rfl) ?_
      refine lv_lxor S.1 S.2.1 dX1_column_87 ?_
      exact W.lret (v := ((rowF gW (atF fX 12 i0)) ^^^ (rowF gW (atF fY 12 i0)))) S.1 S.2.1 hr (fun t ht _ => ⟨((rowF gW (atF fX 12 i0)) ^^^ (rowF gW (atF fY 12 i0))), rfl, by first | (simp only [columnF, c23]; done) | (simp [columnF, c23]; done) | (unfold columnF; rcases c23 with h | h <;> (repeat rw [if_neg (by omega)])), ht⟩) (fun q h => absurd h List.not_mem_nil) dX1_column_88
    rcases Nat.lt_or_ge c23n 5 with c23a | c23a
    · have c23e : c23n = 4 := by omega
      subst c23e
      have c23 : k0.toInt = 4 := by omega
      refine lv_tableIn (off := 66) (tgt := 89) S.1 S.2.1 dX1_column_23 (by omega) (by omega) (by rw [c23]; rfl) (by decide) ?_
      refine lv_lload S.1 S.2.1 dX1_column_89 (lv_at hl 1 rfl) ?_
      refine lv_lload S.1 S.2.1 dX1_column_91 (lv_at hl 0 rfl) ?_
      refine lv_land S.1 S.2.1 dX1_column_93 ?_
      refine lv_ldc2 (own := RX1) (v := (-1)) S.1 S.2.1 S.2.2.2.1 (S.2.2.2.2 _ (List.mem_of_getElem? (i := 1) rfl)) dX1_column_94 ?_
      refine lv_lxor S.1 S.2.1 dX1_column_97 ?_
      exact W.lret (v := (((rowF gW (atF fX 12 i0)) &&& (rowF gW (atF fY 12 i0))) ^^^ (-1))) S.1 S.2.1 hr (fun t ht _ => ⟨(((rowF gW (atF fX 12 i0)) &&& (rowF gW (atF fY 12 i0))) ^^^ (-1)), rfl, by first | (simp only [columnF, c23]; done) | (simp [columnF, c23]; done) | (unfold columnF; rcases c23 with h | h <;> (repeat rw [if_neg (by omega)])), ht⟩) (fun q h => absurd h List.not_mem_nil) dX1_column_98
    rcases Nat.lt_or_ge c23n 6 with c23a | c23a
    · have c23e : c23n = 5 := by omega
      subst c23e
      have c23 : k0.toInt = 5 := by omega
      refine lv_tableIn (off := 76) (tgt := 99) S.1 S.2.1 dX1_column_23 (by omega) (by omega) (by rw [c23]; rfl) (by decide) ?_
      refine lv_lload S.1 S.2.1 dX1_column_99 (lv_at hl 1 rfl) ?_
      refine lv_lload S.1 S.2.1 dX1_column_101 (lv_at hl 0 rfl) ?_
      refine lv_lor S.1 S.2.1 dX1_column_103 ?_
      refine lv_ldc2 (own := RX1) (v := (-1)) S.1 S.2.1 S.2.2.2.1 (S.2.2.2.2 _ (List.mem_of_getElem? (i := 1) rfl)) dX1_column_104 ?_
      refine lv_lxor S.1 S.2.1 dX1_column_107 ?_
      exact W.lret (v := (((rowF gW (atF fX 12 i0)) ||| (rowF gW (atF fY 12 i0))) ^^^ (-1))) S.1 S.2.1 hr (fun t ht _ => ⟨(((rowF gW (atF fX 12 i0)) ||| (rowF gW (atF fY 12 i0))) ^^^ (-1)), rfl, by first | (simp only [columnF, c23]; done) | (simp [columnF, c23]; done) | (unfold columnF; rcases c23 with h | h <;> (repeat rw [if_neg (by omega)])), ht⟩) (fun q h => absurd h List.not_mem_nil) dX1_column_108
    have c23e : c23n = 6 := by omega
    subst c23e
    have c23 : k0.toInt = 6 := by omega
    refine lv_tableIn (off := 86) (tgt := 109) S.1 S.2.1 dX1_column_23 (by omega) (by omega) (by rw [c23]; rfl) (by decide) ?_
    refine lv_lload S.1 S.2.1 dX1_column_109 (lv_at hl 1 rfl) ?_
    refine lv_lload S.1 S.2.1 dX1_column_111 (lv_at hl 0 rfl) ?_
    refine lv_lxor S.1 S.2.1 dX1_column_113 ?_
    refine lv_ldc2 (own := RX1) (v := (-1)) S.1 S.2.1 S.2.2.2.1 (S.2.2.2.2 _ (List.mem_of_getElem? (i := 1) rfl)) dX1_column_114 ?_
    refine lv_lxor S.1 S.2.1 dX1_column_117 ?_
    exact W.lret (v := (((rowF gW (atF fX 12 i0)) ^^^ (rowF gW (atF fY 12 i0))) ^^^ (-1))) S.1 S.2.1 hr (fun t ht _ => ⟨(((rowF gW (atF fX 12 i0)) ^^^ (rowF gW (atF fY 12 i0))) ^^^ (-1)), rfl, by first | (simp only [columnF, c23]; done) | (simp [columnF, c23]; done) | (unfold columnF; rcases c23 with h | h <;> (repeat rw [if_neg (by omega)])), ht⟩) (fun q h => absurd h List.not_mem_nil) dX1_column_118
theorem im_X1_fill_X0 : ∀ w ∈ u_ws RX0 TX0 11, w ∈ wsX1_fill := by decide +kernel
theorem im_X1_fill_X1 : ∀ w ∈ u_ws RX1 TX1 1, w ∈ wsX1_fill := by decide +kernel
set_option maxHeartbeats 4000000 in
set_option maxRecDepth 100000 in
theorem c_X1_fill (l : Launch) (G : GT) (aL aW aC aK aX aY : Nat) (sz : Nat) (gW : Nat → Int64) (cT cI cG cO cK cP cQ : Int32) (aZ : Nat) (fK fX fY : Nat → Int32) (g0 k0 : Int32) : Met l yX1_fill wsX1_fill ({ frames := 3, cells := 0, slots := 0, locals := 69 }) (va_Pc [.ref aL, .ref aC, .int g0, .int k0] (wPre G [(aL, .inr (1, [.ref aW])), (aW, .inl (G.2.1 3, 18, .inr (.inl gW))), (aC, .inr (0, [.int cT, .int cI, .int cG, .int cO, .int cK, .int cP, .int cQ, .ref aK, .ref aX, .ref aY, .ref aZ])), (aK, .inl (G.2.1 2, 12, .inl fK)), (aX, .inl (G.2.1 2, 12, .inl fX)), (aY, .inl (G.2.1 2, 12, .inl fY))] sz)) (va_Qv (fun u : Unit => True) (bW G (va_A [(aL, .inr (1, [.ref aW])), (aW, .inl (G.2.1 3, 18, .inr (.inl gW))), (aC, .inr (0, [.int cT, .int cI, .int cG, .int cO, .int cK, .int cP, .int cQ, .ref aK, .ref aX, .ref aY, .ref aZ])), (aK, .inl (G.2.1 2, 12, .inl fK)), (aX, .inl (G.2.1 2, 12, .inl fX)), (aY, .inl (G.2.1 2, 12, .inl fY))] sz) (fun u : Unit => [(aL, .inr (1, [.ref aW])), (aW, .inl (G.2.1 3, 18, .inr (.inl (colsF cI cG fK fX fY g0 k0 gW)))), (aC, .inr (0, [.int cT, .int cI, .int cG, .int cO, .int cK, .int cP, .int cQ, .ref aK, .ref aX, .ref aY, .ref aZ])), (aK, .inl (G.2.1 2, 12, .inl fK)), (aX, .inl (G.2.1 2, 12, .inl fX)), (aY, .inl (G.2.1 2, 12, .inl fY))])) (va_A [(aL, .inr (1, [.ref aW])), (aW, .inl (G.2.1 3, 18, .inr (.inl gW))), (aC, .inr (0, [.int cT, .int cI, .int cG, .int cO, .int cK, .int cP, .int cQ, .ref aK, .ref aX, .ref aY, .ref aZ])), (aK, .inl (G.2.1 2, 12, .inl fK)), (aX, .inl (G.2.1 2, 12, .inl fX)), (aY, .inl (G.2.1 2, 12, .inl fY))] sz)) 0 0 (va_A [(aL, .inr (1, [.ref aW])), (aW, .inl (G.2.1 3, 18, .inr (.inl gW))), (aC, .inr (0, [.int cT, .int cI, .int cG, .int cO, .int cK, .int cP, .int cQ, .ref aK, .ref aX, .ref aY, .ref aZ])), (aK, .inl (G.2.1 2, 12, .inl fK)), (aX, .inl (G.2.1 2, 12, .inl fX)), (aY, .inl (G.2.1 2, 12, .inl fY))] sz) := by
  refine met_go (cc := cX1_fill) (maxL := 6) (ret := none) (own := RX1) (by decide) rfl rfl (Nat.le_of_ble_eq_true rfl) ?_
  intro p e s m below meth c ls S hr hlocks hname hsz C w hl
  have hl : lv_has ls 6 [(0, .ref aL), (1, .ref aC), (2, .int g0), (3, .int k0)] := hl
  refine w_joinW (G := G) (A := (va_A [(aL, .inr (1, [.ref aW])), (aW, .inl (G.2.1 3, 18, .inr (.inl gW))), (aC, .inr (0, [.int cT, .int cI, .int cG, .int cO, .int cK, .int cP, .int cQ, .ref aK, .ref aX, .ref aY, .ref aZ])), (aK, .inl (G.2.1 2, 12, .inl fK)), (aX, .inl (G.2.1 2, 12, .inl fX)), (aY, .inl (G.2.1 2, 12, .inl fY))] sz)) (nL := 6) (σ := Unit) 50 (fun _ => True) (fun _ => [(aL, .inr (1, [.ref aW])), (aW, .inl (G.2.1 3, 18, .inr (.inl (fillI (min cI.toNatClampNeg 6) gW)))), (aC, .inr (0, [.int cT, .int cI, .int cG, .int cO, .int cK, .int cP, .int cQ, .ref aK, .ref aX, .ref aY, .ref aZ])), (aK, .inl (G.2.1 2, 12, .inl fK)), (aX, .inl (G.2.1 2, 12, .inl fX)), (aY, .inl (G.2.1 2, 12, .inl fY))]) (fun _ => [(0, .ref aL), (1, .ref aC), (2, .int g0), (3, .int k0)]) (fun _ => []) (fun _ ls H locs hz50 w hl => ?_) (fun J50 => ?_)
  · refine lv_iconst (v := 0) S.1 S.2.1 dX1_fill_50 (by decide) ?_
    refine lv_istore (lv' := [(4, .int 0), (0, .ref aL), (1, .ref aC), (2, .int g0), (3, .int k0)]) S.1 S.2.1 dX1_fill_51 hl (by decide) rfl (fun ls hl => ?_)
    refine w_loop (G := G) (σ := Nat) (nL := 6) 53 (fun x53 => cG.toNatClampNeg - x53) (fun x53 => x53 ≤ cG.toNatClampNeg) (fun x53 => [(aL, .inr (1, [.ref aW])), (aW, .inl (G.2.1 3, 18, .inr (.inl (fillG cI fK fX fY g0 k0 x53 (fillI (min cI.toNatClampNeg 6) gW))))), (aC, .inr (0, [.int cT, .int cI, .int cG, .int cO, .int cK, .int cP, .int cQ, .ref aK, .ref aX, .ref aY, .ref aZ])), (aK, .inl (G.2.1 2, 12, .inl fK)), (aX, .inl (G.2.1 2, 12, .inl fX)), (aY, .inl (G.2.1 2, 12, .inl fY))]) (fun x53 => [(4, .int (nI x53)), (0, .ref aL), (1, .ref aC), (2, .int g0), (3, .int k0)]) (fun _ => []) ?_ 0 ls _ _ (Nat.zero_le _) w (lv_sub hl [0, 1, 2, 3, 4] rfl)
    intro x53 ls H locs hI53 w hl ih53
    have w : Wd G _ s [(aL, .inr (1, [.ref aW])), (aW, .inl (G.2.1 3, 18, .inr (.inl (fillG cI fK fX fY g0 k0 x53 (fillI (min cI.toNatClampNeg 6) gW))))), (aC, .inr (0, [.int cT, .int cI, .int cG, .int cO, .int cK, .int cP, .int cQ, .ref aK, .ref aX, .ref aY, .ref aZ])), (aK, .inl (G.2.1 2, 12, .inl fK)), (aX, .inl (G.2.1 2, 12, .inl fX)), (aY, .inl (G.2.1 2, 12, .inl fY))] H locs := w
    have hl : lv_has ls 6 [(4, .int (nI x53)), (0, .ref aL), (1, .ref aC), (2, .int g0), (3, .int k0)] := hl
    refine lv_iload S.1 S.2.1 dX1_fill_53 (lv_at hl 0 rfl) ?_
    refine lv_aload_n S.1 S.2.1 dX1_fill_55 rfl (lv_at hl 2 rfl) ?_
    refine w_get S C w (CC := RX0) (T := TX0) (N := 11) (ref := "GateSums$Circuit") im_X1_fill_X0 2 rfl rfl 2 (by decide) (List.mem_of_getElem? (i := 4) rfl) (fun _ h => h) rfl dX1_fill_56 ?_
    refine lv_icmp_ge (tgt := 122) S.1 S.2.1 dX1_fill_59 (by decide) (fun c59 => ?_) (fun c59 => ?_)
    · have w : Wd G (va_A [(aL, .inr (1, [.ref aW])), (aW, .inl (G.2.1 3, 18, .inr (.inl gW))), (aC, .inr (0, [.int cT, .int cI, .int cG, .int cO, .int cK, .int cP, .int cQ, .ref aK, .ref aX, .ref aY, .ref aZ])), (aK, .inl (G.2.1 2, 12, .inl fK)), (aX, .inl (G.2.1 2, 12, .inl fX)), (aY, .inl (G.2.1 2, 12, .inl fY))] sz) s [(aL, .inr (1, [.ref aW])), (aW, .inl (G.2.1 3, 18, .inr (.inl (colsF cI cG fK fX fY g0 k0 gW)))), (aC, .inr (0, [.int cT, .int cI, .int cG, .int cO, .int cK, .int cP, .int cQ, .ref aK, .ref aX, .ref aY, .ref aZ])), (aK, .inl (G.2.1 2, 12, .inl fK)), (aX, .inl (G.2.1 2, 12, .inl fX)), (aY, .inl (G.2.1 2, 12, .inl fY))] H locs := by rw [show colsF cI cG fK fX fY g0 k0 gW = fillG cI fK fX fY g0 k0 x53 (fillI (min cI.toNatClampNeg 6) gW) by unfold colsF; rw [show cG.toNatClampNeg = x53 by have := cge (by have := cl_lt cG; omega) c59; omega]]; exact w
      exact W.vret S.1 S.2.1 hr (fun t ht _ => ⟨⟨(), rfl, trivial, by rw [ht]; exact w.1, w.2.1⟩, w.2.2.F ht⟩) w.2.2.2.2 dX1_fill_122
    · refine lv_aload_n S.1 S.2.1 dX1_fill_62 rfl (lv_at hl 2 rfl) ?_
      refine w_get S C w (CC := RX0) (T := TX0) (N := 11) (ref := "GateSums$Circuit") im_X1_fill_X0 2 rfl rfl 1 (by decide) (List.mem_of_getElem? (i := 1) rfl) (fun _ h => h) rfl dX1_fill_63 ?_
      refine lv_iload S.1 S.2.1 dX1_fill_66 (lv_at hl 0 rfl) ?_
      refine lv_iadd S.1 S.2.1 dX1_fill_68 ?_
      refine lv_istore (lv' := [(5, .int (cI + (nI x53))), (4, .int (nI x53)), (0, .ref aL), (1, .ref aC), (2, .int g0), (3, .int k0)]) S.1 S.2.1 dX1_fill_69 hl (by decide) rfl (fun ls hl => ?_)
      refine lv_iload S.1 S.2.1 dX1_fill_71 (lv_at hl 0 rfl) ?_
      refine lv_if_lt (tgt := 116) S.1 S.2.1 dX1_fill_73 (by decide) (fun c73 => ?_) (fun c73 => ?_)
      · refine lv_iinc (v := (nI (x53 + 1))) (lv' := [(4, .int (nI (x53 + 1))), (5, .int (cI + (nI x53))), (0, .ref aL), (1, .ref aC), (2, .int g0), (3, .int k0)]) S.1 S.2.1 dX1_fill_116 hl (k := 1) rfl (nI_1 _) (by decide) rfl (fun ls hl => ?_)
        refine lv_goto (tgt := 53) S.1 S.2.1 dX1_fill_119 (by decide) ?_
        have w : Wd G (va_A [(aL, .inr (1, [.ref aW])), (aW, .inl (G.2.1 3, 18, .inr (.inl gW))), (aC, .inr (0, [.int cT, .int cI, .int cG, .int cO, .int cK, .int cP, .int cQ, .ref aK, .ref aX, .ref aY, .ref aZ])), (aK, .inl (G.2.1 2, 12, .inl fK)), (aX, .inl (G.2.1 2, 12, .inl fX)), (aY, .inl (G.2.1 2, 12, .inl fY))] sz) s [(aL, .inr (1, [.ref aW])), (aW, .inl (G.2.1 3, 18, .inr (.inl (fillG cI fK fX fY g0 k0 (x53 + 1) (fillI (min cI.toNatClampNeg 6) gW))))), (aC, .inr (0, [.int cT, .int cI, .int cG, .int cO, .int cK, .int cP, .int cQ, .ref aK, .ref aX, .ref aY, .ref aZ])), (aK, .inl (G.2.1 2, 12, .inl fK)), (aX, .inl (G.2.1 2, 12, .inl fX)), (aY, .inl (G.2.1 2, 12, .inl fY))] H locs := by rw [show (fillG cI fK fX fY g0 k0 (x53 + 1) (fillI (min cI.toNatClampNeg 6) gW)) = (fillG cI fK fX fY g0 k0 x53 (fillI (min cI.toNatClampNeg 6) gW)) from by simp only [fillG]; first | rw [if_neg c73, if_neg c83, if_pos c99] | rw [if_neg c73, if_neg c83, if_neg c99] | rw [if_neg c73, if_pos c83] | rw [if_pos c73]]; exact w
        exact ih53 (x53 + 1) ls _ _ (by have := clt (by have := cl_lt cG; omega) c59; omega) (by have := clt (by have := cl_lt cG; omega) c59; omega) w (lv_sub hl [0, 2, 3, 4, 5] rfl)
      · refine lv_iload S.1 S.2.1 dX1_fill_76 (lv_at hl 0 rfl) ?_
        refine lv_aload_n S.1 S.2.1 dX1_fill_78 rfl (lv_at hl 2 rfl) ?_
        refine w_get S C w (CC := RX1) (T := TX1) (N := 1) (ref := "GateSums$Columns") im_X1_fill_X1 0 rfl rfl 0 (by decide) (List.mem_of_getElem? (i := 3) rfl) (fun _ h => h) rfl dX1_fill_79 ?_
        refine w_alen S C w 1 3 rfl rfl (v := 18) rfl dX1_fill_82 ?_
        refine lv_icmp_ge (tgt := 116) S.1 S.2.1 dX1_fill_83 (by decide) (fun c83 => ?_) (fun c83 => ?_)
        · refine lv_iinc (v := (nI (x53 + 1))) (lv' := [(4, .int (nI (x53 + 1))), (5, .int (cI + (nI x53))), (0, .ref aL), (1, .ref aC), (2, .int g0), (3, .int k0)]) S.1 S.2.1 dX1_fill_116 hl (k := 1) rfl (nI_1 _) (by decide) rfl (fun ls hl => ?_)
          refine lv_goto (tgt := 53) S.1 S.2.1 dX1_fill_119 (by decide) ?_
          have w : Wd G (va_A [(aL, .inr (1, [.ref aW])), (aW, .inl (G.2.1 3, 18, .inr (.inl gW))), (aC, .inr (0, [.int cT, .int cI, .int cG, .int cO, .int cK, .int cP, .int cQ, .ref aK, .ref aX, .ref aY, .ref aZ])), (aK, .inl (G.2.1 2, 12, .inl fK)), (aX, .inl (G.2.1 2, 12, .inl fX)), (aY, .inl (G.2.1 2, 12, .inl fY))] sz) s [(aL, .inr (1, [.ref aW])), (aW, .inl (G.2.1 3, 18, .inr (.inl (fillG cI fK fX fY g0 k0 (x53 + 1) (fillI (min cI.toNatClampNeg 6) gW))))), (aC, .inr (0, [.int cT, .int cI, .int cG, .int cO, .int cK, .int cP, .int cQ, .ref aK, .ref aX, .ref aY, .ref aZ])), (aK, .inl (G.2.1 2, 12, .inl fK)), (aX, .inl (G.2.1 2, 12, .inl fX)), (aY, .inl (G.2.1 2, 12, .inl fY))] H locs := by rw [show (fillG cI fK fX fY g0 k0 (x53 + 1) (fillI (min cI.toNatClampNeg 6) gW)) = (fillG cI fK fX fY g0 k0 x53 (fillI (min cI.toNatClampNeg 6) gW)) from by simp only [fillG]; first | rw [if_neg c73, if_neg c83, if_pos c99] | rw [if_neg c73, if_neg c83, if_neg c99] | rw [if_neg c73, if_pos c83] | rw [if_pos c73]]; exact w
          exact ih53 (x53 + 1) ls _ _ (by have := clt (by have := cl_lt cG; omega) c59; omega) (by have := clt (by have := cl_lt cG; omega) c59; omega) w (lv_sub hl [0, 2, 3, 4, 5] rfl)
        · refine lv_aload_n S.1 S.2.1 dX1_fill_86 rfl (lv_at hl 2 rfl) ?_
          refine w_get S C w (CC := RX1) (T := TX1) (N := 1) (ref := "GateSums$Columns") im_X1_fill_X1 0 rfl rfl 0 (by decide) (List.mem_of_getElem? (i := 3) rfl) (fun _ h => h) rfl dX1_fill_87 ?_
          refine lv_iload S.1 S.2.1 dX1_fill_90 (lv_at hl 0 rfl) ?_
          refine lv_aload_n S.1 S.2.1 dX1_fill_92 rfl (lv_at hl 2 rfl) ?_
          refine lv_aload_n S.1 S.2.1 dX1_fill_93 rfl (lv_at hl 3 rfl) ?_
          refine lv_iload S.1 S.2.1 dX1_fill_94 (lv_at hl 1 rfl) ?_
          refine lv_iload S.1 S.2.1 dX1_fill_96 (lv_at hl 1 rfl) ?_
          refine lv_iload_n S.1 S.2.1 dX1_fill_98 rfl (lv_at hl 4 rfl) ?_
          refine lv_icmp_ne (tgt := 106) S.1 S.2.1 dX1_fill_99 (by decide) (fun c99 => ?_) (fun c99 => ?_)
          · refine lv_aload_n S.1 S.2.1 dX1_fill_106 rfl (lv_at hl 3 rfl) ?_
            refine lv_iload S.1 S.2.1 dX1_fill_107 (lv_at hl 1 rfl) ?_
            refine cs_i (va_runV (As := [.int (nI x53)]) (rest := [.int (nI x53), .ref aC, .ref aL, .int (cI + (nI x53)), .ref aW]) S (c_X0_kindOf l G aC aK _ cT cI cG cO cK cP cQ aX aY aZ fK (nI x53)) (cwV 1 S.2.2.2.2 gX1_fill_X0_kindOf rfl rfl rfl (by decide +kernel) ⟨Nat.le_of_ble_eq_true rfl, Nat.le_of_ble_eq_true rfl⟩) ⟨wPre_blind, va_recv C.1 w.1 (ci := 0) (q0 := 2) rfl rfl, wPre_at C w [2, 3] rfl rfl⟩ rfl rfl hl.1 rfl (lv_room (Nat.le_of_ble_eq_true rfl)) dX1_fill_109 ⟨Nat.le_of_ble_eq_true rfl, Nat.le_of_ble_eq_true rfl⟩) (fun r109 h109 => ?_)
            refine w_topi (y := (atF fK 12 (nI x53))) h109 ?_
            refine cs_l (va_runV (As := [.ref aC, .int (nI x53), .int (atF fK 12 (nI x53))]) (rest := [.int (cI + (nI x53)), .ref aW]) S (c_X1_column l G aL aW aC aX aY _ (fillG cI fK fX fY g0 k0 x53 (fillI (min cI.toNatClampNeg 6) gW)) cT cI cG cO cK cP cQ aK aZ fX fY (nI x53) (atF fK 12 (nI x53))) (cwV 3 S.2.2.2.2 gX1_fill_X1_column rfl rfl rfl (by decide +kernel) ⟨Nat.le_of_ble_eq_true rfl, Nat.le_of_ble_eq_true rfl⟩) ⟨wPre_blind, va_recv C.1 w.1 (ci := 1) (q0 := 0) rfl rfl, wPre_at C w [0, 1, 2, 4, 5] rfl rfl⟩ rfl rfl hl.1 rfl (lv_room (Nat.le_of_ble_eq_true rfl)) dX1_fill_112 ⟨Nat.le_of_ble_eq_true rfl, Nat.le_of_ble_eq_true rfl⟩) (fun r112 h112 => ?_)
            refine w_topl (y := (columnF (rowF (fillG cI fK fX fY g0 k0 x53 (fillI (min cI.toNatClampNeg 6) gW)) (atF fX 12 (nI x53))) (rowF (fillG cI fK fX fY g0 k0 x53 (fillI (min cI.toNatClampNeg 6) gW)) (atF fY 12 (nI x53))) (atF fK 12 (nI x53)))) h112 ?_
            refine w_last S C w 1 rfl (in_of2 (by decide) c73 c83) (ws2 := [(aL, .inr (1, [.ref aW])), (aW, .inl (G.2.1 3, 18, .inr (.inl (vp_updL (fillG cI fK fX fY g0 k0 x53 (fillI (min cI.toNatClampNeg 6) gW)) (cI + (nI x53)).toNatClampNeg (columnF (rowF (fillG cI fK fX fY g0 k0 x53 (fillI (min cI.toNatClampNeg 6) gW)) (atF fX 12 (nI x53))) (rowF (fillG cI fK fX fY g0 k0 x53 (fillI (min cI.toNatClampNeg 6) gW)) (atF fY 12 (nI x53))) (atF fK 12 (nI x53))))))), (aC, .inr (0, [.int cT, .int cI, .int cG, .int cO, .int cK, .int cP, .int cQ, .ref aK, .ref aX, .ref aY, .ref aZ])), (aK, .inl (G.2.1 2, 12, .inl fK)), (aX, .inl (G.2.1 2, 12, .inl fX)), (aY, .inl (G.2.1 2, 12, .inl fY))]) rfl dX1_fill_115 (fun H locs w => ?_)
            refine lv_iinc (v := (nI (x53 + 1))) (lv' := [(4, .int (nI (x53 + 1))), (5, .int (cI + (nI x53))), (0, .ref aL), (1, .ref aC), (2, .int g0), (3, .int k0)]) S.1 S.2.1 dX1_fill_116 hl (k := 1) rfl (nI_1 _) (by decide) rfl (fun ls hl => ?_)
            refine lv_goto (tgt := 53) S.1 S.2.1 dX1_fill_119 (by decide) ?_
            have w : Wd G (va_A [(aL, .inr (1, [.ref aW])), (aW, .inl (G.2.1 3, 18, .inr (.inl gW))), (aC, .inr (0, [.int cT, .int cI, .int cG, .int cO, .int cK, .int cP, .int cQ, .ref aK, .ref aX, .ref aY, .ref aZ])), (aK, .inl (G.2.1 2, 12, .inl fK)), (aX, .inl (G.2.1 2, 12, .inl fX)), (aY, .inl (G.2.1 2, 12, .inl fY))] sz) s [(aL, .inr (1, [.ref aW])), (aW, .inl (G.2.1 3, 18, .inr (.inl (fillG cI fK fX fY g0 k0 (x53 + 1) (fillI (min cI.toNatClampNeg 6) gW))))), (aC, .inr (0, [.int cT, .int cI, .int cG, .int cO, .int cK, .int cP, .int cQ, .ref aK, .ref aX, .ref aY, .ref aZ])), (aK, .inl (G.2.1 2, 12, .inl fK)), (aX, .inl (G.2.1 2, 12, .inl fX)), (aY, .inl (G.2.1 2, 12, .inl fY))] H locs := by rw [show (fillG cI fK fX fY g0 k0 (x53 + 1) (fillI (min cI.toNatClampNeg 6) gW)) = (vp_updL (fillG cI fK fX fY g0 k0 x53 (fillI (min cI.toNatClampNeg 6) gW)) (cI + (nI x53)).toNatClampNeg (columnF (rowF (fillG cI fK fX fY g0 k0 x53 (fillI (min cI.toNatClampNeg 6) gW)) (atF fX 12 (nI x53))) (rowF (fillG cI fK fX fY g0 k0 x53 (fillI (min cI.toNatClampNeg 6) gW)) (atF fY 12 (nI x53))) (atF fK 12 (nI x53)))) from by simp only [fillG]; first | rw [if_neg c73, if_neg c83, if_pos c99] | rw [if_neg c73, if_neg c83, if_neg c99] | rw [if_neg c73, if_pos c83] | rw [if_pos c73]]; exact w
            exact ih53 (x53 + 1) ls _ _ (by have := clt (by have := cl_lt cG; omega) c59; omega) (by have := clt (by have := cl_lt cG; omega) c59; omega) w (lv_sub hl [0, 2, 3, 4, 5] rfl)
          · refine lv_iload_n S.1 S.2.1 dX1_fill_102 rfl (lv_at hl 5 rfl) ?_
            refine lv_goto (tgt := 112) S.1 S.2.1 dX1_fill_103 (by decide) ?_
            refine cs_l (va_runV (As := [.ref aC, .int (nI x53), .int k0]) (rest := [.int (cI + (nI x53)), .ref aW]) S (c_X1_column l G aL aW aC aX aY _ (fillG cI fK fX fY g0 k0 x53 (fillI (min cI.toNatClampNeg 6) gW)) cT cI cG cO cK cP cQ aK aZ fX fY (nI x53) k0) (cwV 3 S.2.2.2.2 gX1_fill_X1_column rfl rfl rfl (by decide +kernel) ⟨Nat.le_of_ble_eq_true rfl, Nat.le_of_ble_eq_true rfl⟩) ⟨wPre_blind, va_recv C.1 w.1 (ci := 1) (q0 := 0) rfl rfl, wPre_at C w [0, 1, 2, 4, 5] rfl rfl⟩ rfl rfl hl.1 rfl (lv_room (Nat.le_of_ble_eq_true rfl)) dX1_fill_112 ⟨Nat.le_of_ble_eq_true rfl, Nat.le_of_ble_eq_true rfl⟩) (fun r112_1 h112_1 => ?_)
            refine w_topl (y := (columnF (rowF (fillG cI fK fX fY g0 k0 x53 (fillI (min cI.toNatClampNeg 6) gW)) (atF fX 12 (nI x53))) (rowF (fillG cI fK fX fY g0 k0 x53 (fillI (min cI.toNatClampNeg 6) gW)) (atF fY 12 (nI x53))) k0)) h112_1 ?_
            refine w_last S C w 1 rfl (in_of2 (by decide) c73 c83) (ws2 := [(aL, .inr (1, [.ref aW])), (aW, .inl (G.2.1 3, 18, .inr (.inl (vp_updL (fillG cI fK fX fY g0 k0 x53 (fillI (min cI.toNatClampNeg 6) gW)) (cI + (nI x53)).toNatClampNeg (columnF (rowF (fillG cI fK fX fY g0 k0 x53 (fillI (min cI.toNatClampNeg 6) gW)) (atF fX 12 (nI x53))) (rowF (fillG cI fK fX fY g0 k0 x53 (fillI (min cI.toNatClampNeg 6) gW)) (atF fY 12 (nI x53))) k0))))), (aC, .inr (0, [.int cT, .int cI, .int cG, .int cO, .int cK, .int cP, .int cQ, .ref aK, .ref aX, .ref aY, .ref aZ])), (aK, .inl (G.2.1 2, 12, .inl fK)), (aX, .inl (G.2.1 2, 12, .inl fX)), (aY, .inl (G.2.1 2, 12, .inl fY))]) rfl dX1_fill_115 (fun H locs w => ?_)
            refine lv_iinc (v := (nI (x53 + 1))) (lv' := [(4, .int (nI (x53 + 1))), (5, .int (cI + (nI x53))), (0, .ref aL), (1, .ref aC), (2, .int g0), (3, .int k0)]) S.1 S.2.1 dX1_fill_116 hl (k := 1) rfl (nI_1 _) (by decide) rfl (fun ls hl => ?_)
            refine lv_goto (tgt := 53) S.1 S.2.1 dX1_fill_119 (by decide) ?_
            have w : Wd G (va_A [(aL, .inr (1, [.ref aW])), (aW, .inl (G.2.1 3, 18, .inr (.inl gW))), (aC, .inr (0, [.int cT, .int cI, .int cG, .int cO, .int cK, .int cP, .int cQ, .ref aK, .ref aX, .ref aY, .ref aZ])), (aK, .inl (G.2.1 2, 12, .inl fK)), (aX, .inl (G.2.1 2, 12, .inl fX)), (aY, .inl (G.2.1 2, 12, .inl fY))] sz) s [(aL, .inr (1, [.ref aW])), (aW, .inl (G.2.1 3, 18, .inr (.inl (fillG cI fK fX fY g0 k0 (x53 + 1) (fillI (min cI.toNatClampNeg 6) gW))))), (aC, .inr (0, [.int cT, .int cI, .int cG, .int cO, .int cK, .int cP, .int cQ, .ref aK, .ref aX, .ref aY, .ref aZ])), (aK, .inl (G.2.1 2, 12, .inl fK)), (aX, .inl (G.2.1 2, 12, .inl fX)), (aY, .inl (G.2.1 2, 12, .inl fY))] H locs := by rw [show (fillG cI fK fX fY g0 k0 (x53 + 1) (fillI (min cI.toNatClampNeg 6) gW)) = (vp_updL (fillG cI fK fX fY g0 k0 x53 (fillI (min cI.toNatClampNeg 6) gW)) (cI + (nI x53)).toNatClampNeg (columnF (rowF (fillG cI fK fX fY g0 k0 x53 (fillI (min cI.toNatClampNeg 6) gW)) (atF fX 12 (nI x53))) (rowF (fillG cI fK fX fY g0 k0 x53 (fillI (min cI.toNatClampNeg 6) gW)) (atF fY 12 (nI x53))) k0)) from by simp only [fillG]; first | rw [if_neg c73, if_neg c83, if_pos c99] | rw [if_neg c73, if_neg c83, if_neg c99] | rw [if_neg c73, if_pos c83] | rw [if_pos c73]]; exact w
            exact ih53 (x53 + 1) ls _ _ (by have := clt (by have := cl_lt cG; omega) c59; omega) (by have := clt (by have := cl_lt cG; omega) c59; omega) w (lv_sub hl [0, 2, 3, 4, 5] rfl)
  · refine lv_iconst (v := 0) S.1 S.2.1 dX1_fill_0 (by decide) ?_
    refine lv_istore (lv' := [(4, .int 0), (0, .ref aL), (1, .ref aC), (2, .int g0), (3, .int k0)]) S.1 S.2.1 dX1_fill_1 hl (by decide) rfl (fun ls hl => ?_)
    refine w_loop (G := G) (σ := Nat) (nL := 6) 3 (fun x3 => 6 - x3) (fun x3 => x3 ≤ min cI.toNatClampNeg 6) (fun x3 => [(aL, .inr (1, [.ref aW])), (aW, .inl (G.2.1 3, 18, .inr (.inl (fillI x3 gW)))), (aC, .inr (0, [.int cT, .int cI, .int cG, .int cO, .int cK, .int cP, .int cQ, .ref aK, .ref aX, .ref aY, .ref aZ])), (aK, .inl (G.2.1 2, 12, .inl fK)), (aX, .inl (G.2.1 2, 12, .inl fX)), (aY, .inl (G.2.1 2, 12, .inl fY))]) (fun x3 => [(4, .int (nI x3)), (0, .ref aL), (1, .ref aC), (2, .int g0), (3, .int k0)]) (fun _ => []) ?_ 0 ls _ _ (Nat.zero_le _) w (lv_sub hl [0, 1, 2, 3, 4] rfl)
    intro x3 ls H locs hI3 w hl ih3
    have w : Wd G _ s [(aL, .inr (1, [.ref aW])), (aW, .inl (G.2.1 3, 18, .inr (.inl (fillI x3 gW)))), (aC, .inr (0, [.int cT, .int cI, .int cG, .int cO, .int cK, .int cP, .int cQ, .ref aK, .ref aX, .ref aY, .ref aZ])), (aK, .inl (G.2.1 2, 12, .inl fK)), (aX, .inl (G.2.1 2, 12, .inl fX)), (aY, .inl (G.2.1 2, 12, .inl fY))] H locs := w
    have hl : lv_has ls 6 [(4, .int (nI x3)), (0, .ref aL), (1, .ref aC), (2, .int g0), (3, .int k0)] := hl
    have hI3b : x3 < 7 := by omega
    refine lv_iload S.1 S.2.1 dX1_fill_3 (lv_at hl 0 rfl) ?_
    refine lv_aload_n S.1 S.2.1 dX1_fill_5 rfl (lv_at hl 2 rfl) ?_
    refine w_get S C w (CC := RX0) (T := TX0) (N := 11) (ref := "GateSums$Circuit") im_X1_fill_X0 2 rfl rfl 1 (by decide) (List.mem_of_getElem? (i := 1) rfl) (fun _ h => h) rfl dX1_fill_6 ?_
    refine lv_icmp_ge (tgt := 50) S.1 S.2.1 dX1_fill_9 (by decide) (fun c9 => ?_) (fun c9 => ?_)
    · have w : Wd G (va_A [(aL, .inr (1, [.ref aW])), (aW, .inl (G.2.1 3, 18, .inr (.inl gW))), (aC, .inr (0, [.int cT, .int cI, .int cG, .int cO, .int cK, .int cP, .int cQ, .ref aK, .ref aX, .ref aY, .ref aZ])), (aK, .inl (G.2.1 2, 12, .inl fK)), (aX, .inl (G.2.1 2, 12, .inl fX)), (aY, .inl (G.2.1 2, 12, .inl fY))] sz) s [(aL, .inr (1, [.ref aW])), (aW, .inl (G.2.1 3, 18, .inr (.inl (fillI (min cI.toNatClampNeg 6) gW)))), (aC, .inr (0, [.int cT, .int cI, .int cG, .int cO, .int cK, .int cP, .int cQ, .ref aK, .ref aX, .ref aY, .ref aZ])), (aK, .inl (G.2.1 2, 12, .inl fK)), (aX, .inl (G.2.1 2, 12, .inl fX)), (aY, .inl (G.2.1 2, 12, .inl fY))] H locs := by rw [show (fillI (min cI.toNatClampNeg 6) gW) = (fillI x3 gW) from by first | rw [show min cI.toNatClampNeg 6 = x3 by have := cge (by omega) c9; omega] | rw [show min cI.toNatClampNeg 6 = x3 by have h := c18; rw [show (6 : Int32) = nI 6 from rfl, nI_leI (by decide) (by omega)] at h; omega] | rw [show min cI.toNatClampNeg 6 = x3 by have h := c28; rw [show (18 : Int32) = nI 18 from rfl, nI_leI (by decide) (by omega)] at h; omega]]; exact w
      exact J50 () ls _ _ (trivial) w (lv_sub hl [1, 2, 3, 4] rfl)
    · refine lv_iload S.1 S.2.1 dX1_fill_12 (lv_at hl 0 rfl) ?_
      refine w_gets S C w 0 rfl (ref := "GateSums$Columns") (List.mem_of_getElem? (i := 2) rfl) (fun _ h => h) dX1_fill_14 ?_
      refine w_tlen S C w 0 rfl (v := 6) (by decide) dX1_fill_17 ?_
      refine lv_icmp_ge (tgt := 50) S.1 S.2.1 dX1_fill_18 (by decide) (fun c18 => ?_) (fun c18 => ?_)
      · have w : Wd G (va_A [(aL, .inr (1, [.ref aW])), (aW, .inl (G.2.1 3, 18, .inr (.inl gW))), (aC, .inr (0, [.int cT, .int cI, .int cG, .int cO, .int cK, .int cP, .int cQ, .ref aK, .ref aX, .ref aY, .ref aZ])), (aK, .inl (G.2.1 2, 12, .inl fK)), (aX, .inl (G.2.1 2, 12, .inl fX)), (aY, .inl (G.2.1 2, 12, .inl fY))] sz) s [(aL, .inr (1, [.ref aW])), (aW, .inl (G.2.1 3, 18, .inr (.inl (fillI (min cI.toNatClampNeg 6) gW)))), (aC, .inr (0, [.int cT, .int cI, .int cG, .int cO, .int cK, .int cP, .int cQ, .ref aK, .ref aX, .ref aY, .ref aZ])), (aK, .inl (G.2.1 2, 12, .inl fK)), (aX, .inl (G.2.1 2, 12, .inl fX)), (aY, .inl (G.2.1 2, 12, .inl fY))] H locs := by rw [show (fillI (min cI.toNatClampNeg 6) gW) = (fillI x3 gW) from by first | rw [show min cI.toNatClampNeg 6 = x3 by have := cge (by omega) c9; omega] | rw [show min cI.toNatClampNeg 6 = x3 by have h := c18; rw [show (6 : Int32) = nI 6 from rfl, nI_leI (by decide) (by omega)] at h; omega] | rw [show min cI.toNatClampNeg 6 = x3 by have h := c28; rw [show (18 : Int32) = nI 18 from rfl, nI_leI (by decide) (by omega)] at h; omega]]; exact w
        exact J50 () ls _ _ (trivial) w (lv_sub hl [1, 2, 3, 4] rfl)
      · refine lv_iload S.1 S.2.1 dX1_fill_21 (lv_at hl 0 rfl) ?_
        refine lv_aload_n S.1 S.2.1 dX1_fill_23 rfl (lv_at hl 1 rfl) ?_
        refine w_get S C w (CC := RX1) (T := TX1) (N := 1) (ref := "GateSums$Columns") im_X1_fill_X1 0 rfl rfl 0 (by decide) (List.mem_of_getElem? (i := 3) rfl) (fun _ h => h) rfl dX1_fill_24 ?_
        refine w_alen S C w 1 3 rfl rfl (v := 18) rfl dX1_fill_27 ?_
        refine lv_icmp_ge (tgt := 50) S.1 S.2.1 dX1_fill_28 (by decide) (fun c28 => ?_) (fun c28 => ?_)
        · have w : Wd G (va_A [(aL, .inr (1, [.ref aW])), (aW, .inl (G.2.1 3, 18, .inr (.inl gW))), (aC, .inr (0, [.int cT, .int cI, .int cG, .int cO, .int cK, .int cP, .int cQ, .ref aK, .ref aX, .ref aY, .ref aZ])), (aK, .inl (G.2.1 2, 12, .inl fK)), (aX, .inl (G.2.1 2, 12, .inl fX)), (aY, .inl (G.2.1 2, 12, .inl fY))] sz) s [(aL, .inr (1, [.ref aW])), (aW, .inl (G.2.1 3, 18, .inr (.inl (fillI (min cI.toNatClampNeg 6) gW)))), (aC, .inr (0, [.int cT, .int cI, .int cG, .int cO, .int cK, .int cP, .int cQ, .ref aK, .ref aX, .ref aY, .ref aZ])), (aK, .inl (G.2.1 2, 12, .inl fK)), (aX, .inl (G.2.1 2, 12, .inl fX)), (aY, .inl (G.2.1 2, 12, .inl fY))] H locs := by rw [show (fillI (min cI.toNatClampNeg 6) gW) = (fillI x3 gW) from by first | rw [show min cI.toNatClampNeg 6 = x3 by have := cge (by omega) c9; omega] | rw [show min cI.toNatClampNeg 6 = x3 by have h := c18; rw [show (6 : Int32) = nI 6 from rfl, nI_leI (by decide) (by omega)] at h; omega] | rw [show min cI.toNatClampNeg 6 = x3 by have h := c28; rw [show (18 : Int32) = nI 18 from rfl, nI_leI (by decide) (by omega)] at h; omega]]; exact w
          exact J50 () ls _ _ (trivial) w (lv_sub hl [1, 2, 3, 4] rfl)
        · refine lv_aload_n S.1 S.2.1 dX1_fill_31 rfl (lv_at hl 1 rfl) ?_
          refine w_get S C w (CC := RX1) (T := TX1) (N := 1) (ref := "GateSums$Columns") im_X1_fill_X1 0 rfl rfl 0 (by decide) (List.mem_of_getElem? (i := 3) rfl) (fun _ h => h) rfl dX1_fill_32 ?_
          refine lv_iload S.1 S.2.1 dX1_fill_35 (lv_at hl 0 rfl) ?_
          refine w_gets S C w 0 rfl (ref := "GateSums$Columns") (List.mem_of_getElem? (i := 2) rfl) (fun _ h => h) dX1_fill_37 ?_
          refine lv_iload S.1 S.2.1 dX1_fill_40 (lv_at hl 0 rfl) ?_
          refine w_tl S C w 0 rfl (nIin (n := 6) (by have h := c18; rw [show (6 : Int32) = nI 6 from rfl, nI_leI (by decide) (by omega)] at h; omega) (by decide)) (v := .long (icF x3)) (by rw [nIc (by omega)]; exact icF_val _ (by have h := c18; rw [show (6 : Int32) = nI 6 from rfl, nI_leI (by decide) (by omega)] at h; omega)) dX1_fill_42 ?_
          refine w_last S C w 1 rfl (nIin (n := 18) (by have h := c18; rw [show (6 : Int32) = nI 6 from rfl, nI_leI (by decide) (by omega)] at h; omega) (by decide)) (ws2 := [(aL, .inr (1, [.ref aW])), (aW, .inl (G.2.1 3, 18, .inr (.inl (vp_updL (fillI x3 gW) (nI x3).toNatClampNeg (icF x3))))), (aC, .inr (0, [.int cT, .int cI, .int cG, .int cO, .int cK, .int cP, .int cQ, .ref aK, .ref aX, .ref aY, .ref aZ])), (aK, .inl (G.2.1 2, 12, .inl fK)), (aX, .inl (G.2.1 2, 12, .inl fX)), (aY, .inl (G.2.1 2, 12, .inl fY))]) rfl dX1_fill_43 (fun H locs w => ?_)
          have w : Wd G (va_A [(aL, .inr (1, [.ref aW])), (aW, .inl (G.2.1 3, 18, .inr (.inl gW))), (aC, .inr (0, [.int cT, .int cI, .int cG, .int cO, .int cK, .int cP, .int cQ, .ref aK, .ref aX, .ref aY, .ref aZ])), (aK, .inl (G.2.1 2, 12, .inl fK)), (aX, .inl (G.2.1 2, 12, .inl fX)), (aY, .inl (G.2.1 2, 12, .inl fY))] sz) s [(aL, .inr (1, [.ref aW])), (aW, .inl (G.2.1 3, 18, .inr (.inl (vp_updL (fillI x3 gW) x3 (icF x3))))), (aC, .inr (0, [.int cT, .int cI, .int cG, .int cO, .int cK, .int cP, .int cQ, .ref aK, .ref aX, .ref aY, .ref aZ])), (aK, .inl (G.2.1 2, 12, .inl fK)), (aX, .inl (G.2.1 2, 12, .inl fX)), (aY, .inl (G.2.1 2, 12, .inl fY))] H locs := by have h := nIc (j := x3) (by omega); rw [h] at w; exact w
          refine lv_iinc (v := (nI (x3 + 1))) (lv' := [(4, .int (nI (x3 + 1))), (0, .ref aL), (1, .ref aC), (2, .int g0), (3, .int k0)]) S.1 S.2.1 dX1_fill_44 hl (k := 0) rfl (nI_1 _) (by decide) rfl (fun ls hl => ?_)
          refine lv_goto (tgt := 3) S.1 S.2.1 dX1_fill_47 (by decide) ?_
          have w : Wd G (va_A [(aL, .inr (1, [.ref aW])), (aW, .inl (G.2.1 3, 18, .inr (.inl gW))), (aC, .inr (0, [.int cT, .int cI, .int cG, .int cO, .int cK, .int cP, .int cQ, .ref aK, .ref aX, .ref aY, .ref aZ])), (aK, .inl (G.2.1 2, 12, .inl fK)), (aX, .inl (G.2.1 2, 12, .inl fX)), (aY, .inl (G.2.1 2, 12, .inl fY))] sz) s [(aL, .inr (1, [.ref aW])), (aW, .inl (G.2.1 3, 18, .inr (.inl (fillI (x3 + 1) gW)))), (aC, .inr (0, [.int cT, .int cI, .int cG, .int cO, .int cK, .int cP, .int cQ, .ref aK, .ref aX, .ref aY, .ref aZ])), (aK, .inl (G.2.1 2, 12, .inl fK)), (aX, .inl (G.2.1 2, 12, .inl fX)), (aY, .inl (G.2.1 2, 12, .inl fY))] H locs := by rw [show (fillI (x3 + 1) gW) = (vp_updL (fillI x3 gW) x3 (icF x3)) from rfl]; exact w
          exact ih3 (x3 + 1) ls _ _ (by have := clt (by omega) c9; have := cl_lt cI; have h := c18; rw [show (6 : Int32) = nI 6 from rfl, nI_leI (by decide) (by omega)] at h; omega) (by have h := c18; rw [show (6 : Int32) = nI 6 from rfl, nI_leI (by decide) (by omega)] at h; omega) w (lv_sub hl [0, 1, 2, 3, 4] rfl)
theorem im_X4_forget_X4 : ∀ w ∈ u_ws RX4 TX4 6, w ∈ wsX4_forget := by decide +kernel
set_option maxHeartbeats 4000000 in
set_option maxRecDepth 100000 in
theorem c_X4_forget (l : Launch) (G : GT) (aS : Nat) (sz : Nat) (s1 s2 s3 s4 : Nat) (sN sB : Int32) : Met l yX4_forget wsX4_forget ({ frames := 0, cells := 0, slots := 0, locals := 0 }) (va_Pc [.ref aS] (wPre G [(aS, .inr (4, [.ref s1, .ref s2, .ref s3, .ref s4, .int sN, .int sB]))] sz)) (va_Qv (fun u : Unit => True) (bW G (va_A [(aS, .inr (4, [.ref s1, .ref s2, .ref s3, .ref s4, .int sN, .int sB]))] sz) (fun u : Unit => [(aS, .inr (4, [.ref s1, .ref s2, .ref s3, .ref s4, .int 0, .int 0]))])) (va_A [(aS, .inr (4, [.ref s1, .ref s2, .ref s3, .ref s4, .int sN, .int sB]))] sz)) 0 0 (va_A [(aS, .inr (4, [.ref s1, .ref s2, .ref s3, .ref s4, .int sN, .int sB]))] sz) := by
  refine met_go (cc := cX4_forget) (maxL := 1) (ret := none) (own := RX4) (by decide) rfl rfl (Nat.le_of_ble_eq_true rfl) ?_
  intro p e s m below meth c ls S hr hlocks hname hsz C w hl
  have hl : lv_has ls 1 [(0, .ref aS)] := hl
  refine lv_aload_n S.1 S.2.1 dX4_forget_0 rfl (lv_at hl 0 rfl) ?_
  refine lv_iconst (v := 0) S.1 S.2.1 dX4_forget_1 (by decide) ?_
  refine w_put S C w (CC := RX4) (T := TX4) (N := 6) (ref := "GateSums$Stages") im_X4_forget_X4 tyX4 tyX4_ok nmX4 0 rfl rfl 4 (by decide) (List.mem_of_getElem? (i := 1) rfl) (fun _ h => h) rfl (ws2 := [(aS, .inr (4, [.ref s1, .ref s2, .ref s3, .ref s4, .int 0, .int sB]))]) (rfl) (rfl) (Nat.le_of_ble_eq_true rfl) rfl dX4_forget_2 (fun H locs w => ?_)
  refine lv_aload_n S.1 S.2.1 dX4_forget_5 rfl (lv_at hl 0 rfl) ?_
  refine lv_iconst (v := 0) S.1 S.2.1 dX4_forget_6 (by decide) ?_
  refine w_put S C w (CC := RX4) (T := TX4) (N := 6) (ref := "GateSums$Stages") im_X4_forget_X4 tyX4 tyX4_ok nmX4 0 rfl rfl 5 (by decide) (List.mem_of_getElem? (i := 2) rfl) (fun _ h => h) rfl (ws2 := [(aS, .inr (4, [.ref s1, .ref s2, .ref s3, .ref s4, .int 0, .int 0]))]) (rfl) (rfl) (Nat.le_of_ble_eq_true rfl) rfl dX4_forget_7 (fun H locs w => ?_)
  exact W.vret S.1 S.2.1 hr (fun t ht _ => ⟨⟨(), rfl, trivial, by rw [ht]; exact w.1, w.2.1⟩, w.2.2.F ht⟩) w.2.2.2.2 dX4_forget_10
theorem im_X6_changed_X0 : ∀ w ∈ u_ws RX0 TX0 11, w ∈ wsX6_changed := by decide +kernel
theorem im_X6_changed_X6 : ∀ w ∈ u_ws RX6 TX6 9, w ∈ wsX6_changed := by decide +kernel
set_option maxHeartbeats 4000000 in
set_option maxRecDepth 100000 in
theorem c_X6_changed (l : Launch) (G : GT) (aG aC aK aX aY aL aW aS : Nat) (sz : Nat) (aRd aD aM : Nat) (nB nN nF : Int32) (cT cI cG cO cK cP cQ : Int32) (aZ : Nat) (fK fX fY : Nat → Int32) (gW : Nat → Int64) (s1 s2 s3 s4 : Nat) (sN sB : Int32) : Met l yX6_changed wsX6_changed ({ frames := 4, cells := 0, slots := 0, locals := 94 }) (va_Pc [.ref aG] (wPre G [(aG, .inr (6, [.ref aRd, .ref aC, .ref aD, .ref aL, .ref aM, .ref aS, .int nB, .int nN, .int nF])), (aC, .inr (0, [.int cT, .int cI, .int cG, .int cO, .int cK, .int cP, .int cQ, .ref aK, .ref aX, .ref aY, .ref aZ])), (aK, .inl (G.2.1 2, 12, .inl fK)), (aX, .inl (G.2.1 2, 12, .inl fX)), (aY, .inl (G.2.1 2, 12, .inl fY)), (aL, .inr (1, [.ref aW])), (aW, .inl (G.2.1 3, 18, .inr (.inl gW))), (aS, .inr (4, [.ref s1, .ref s2, .ref s3, .ref s4, .int sN, .int sB]))] sz)) (va_Qi (fun (r : Int32) (u : Unit) => r = cG) (bW G (va_A [(aG, .inr (6, [.ref aRd, .ref aC, .ref aD, .ref aL, .ref aM, .ref aS, .int nB, .int nN, .int nF])), (aC, .inr (0, [.int cT, .int cI, .int cG, .int cO, .int cK, .int cP, .int cQ, .ref aK, .ref aX, .ref aY, .ref aZ])), (aK, .inl (G.2.1 2, 12, .inl fK)), (aX, .inl (G.2.1 2, 12, .inl fX)), (aY, .inl (G.2.1 2, 12, .inl fY)), (aL, .inr (1, [.ref aW])), (aW, .inl (G.2.1 3, 18, .inr (.inl gW))), (aS, .inr (4, [.ref s1, .ref s2, .ref s3, .ref s4, .int sN, .int sB]))] sz) (fun u : Unit => [(aG, .inr (6, [.ref aRd, .ref aC, .ref aD, .ref aL, .ref aM, .ref aS, .int nB, .int nN, .int nF])), (aC, .inr (0, [.int cT, .int cI, .int cG, .int cO, .int cK, .int cP, .int cQ, .ref aK, .ref aX, .ref aY, .ref aZ])), (aK, .inl (G.2.1 2, 12, .inl fK)), (aX, .inl (G.2.1 2, 12, .inl fX)), (aY, .inl (G.2.1 2, 12, .inl fY)), (aL, .inr (1, [.ref aW])), (aW, .inl (G.2.1 3, 18, .inr (.inl (colsF cI cG fK fX fY (-1) (-1) gW)))), (aS, .inr (4, [.ref s1, .ref s2, .ref s3, .ref s4, .int 0, .int 0]))])) (va_A [(aG, .inr (6, [.ref aRd, .ref aC, .ref aD, .ref aL, .ref aM, .ref aS, .int nB, .int nN, .int nF])), (aC, .inr (0, [.int cT, .int cI, .int cG, .int cO, .int cK, .int cP, .int cQ, .ref aK, .ref aX, .ref aY, .ref aZ])), (aK, .inl (G.2.1 2, 12, .inl fK)), (aX, .inl (G.2.1 2, 12, .inl fX)), (aY, .inl (G.2.1 2, 12, .inl fY)), (aL, .inr (1, [.ref aW])), (aW, .inl (G.2.1 3, 18, .inr (.inl gW))), (aS, .inr (4, [.ref s1, .ref s2, .ref s3, .ref s4, .int sN, .int sB]))] sz)) 0 0 (va_A [(aG, .inr (6, [.ref aRd, .ref aC, .ref aD, .ref aL, .ref aM, .ref aS, .int nB, .int nN, .int nF])), (aC, .inr (0, [.int cT, .int cI, .int cG, .int cO, .int cK, .int cP, .int cQ, .ref aK, .ref aX, .ref aY, .ref aZ])), (aK, .inl (G.2.1 2, 12, .inl fK)), (aX, .inl (G.2.1 2, 12, .inl fX)), (aY, .inl (G.2.1 2, 12, .inl fY)), (aL, .inr (1, [.ref aW])), (aW, .inl (G.2.1 3, 18, .inr (.inl gW))), (aS, .inr (4, [.ref s1, .ref s2, .ref s3, .ref s4, .int sN, .int sB]))] sz) := by
  refine met_go (cc := cX6_changed) (maxL := 1) (ret := (some .int)) (own := RX6) (by decide) rfl rfl (Nat.le_of_ble_eq_true rfl) ?_
  intro p e s m below meth c ls S hr hlocks hname hsz C w hl
  have hl : lv_has ls 1 [(0, .ref aG)] := hl
  refine lv_aload_n S.1 S.2.1 dX6_changed_0 rfl (lv_at hl 0 rfl) ?_
  refine w_get S C w (CC := RX6) (T := TX6) (N := 9) (ref := "GateSums") im_X6_changed_X6 0 rfl rfl 3 (by decide) (List.mem_of_getElem? (i := 1) rfl) (fun _ h => h) rfl dX6_changed_1 ?_
  refine lv_aload_n S.1 S.2.1 dX6_changed_4 rfl (lv_at hl 0 rfl) ?_
  refine w_get S C w (CC := RX6) (T := TX6) (N := 9) (ref := "GateSums") im_X6_changed_X6 0 rfl rfl 1 (by decide) (List.mem_of_getElem? (i := 2) rfl) (fun _ h => h) rfl dX6_changed_5 ?_
  refine lv_iconst (v := (-1)) S.1 S.2.1 dX6_changed_8 (by decide) ?_
  refine lv_iconst (v := (-1)) S.1 S.2.1 dX6_changed_9 (by decide) ?_
  refine cq_v C w [5, 6, 1, 2, 3, 4] [0, 7] [0, 4, 5, 6, 7, 2, 3, 1] (wr := [(aG, .inr (6, [.ref aRd, .ref aC, .ref aD, .ref aL, .ref aM, .ref aS, .int nB, .int nN, .int nF])), (aS, .inr (4, [.ref s1, .ref s2, .ref s3, .ref s4, .int sN, .int sB]))]) (w' := fun u : Unit => [(aL, .inr (1, [.ref aW])), (aW, .inl (G.2.1 3, 18, .inr (.inl (colsF cI cG fK fX fY (-1) (-1) gW)))), (aC, .inr (0, [.int cT, .int cI, .int cG, .int cO, .int cK, .int cP, .int cQ, .ref aK, .ref aX, .ref aY, .ref aZ])), (aK, .inl (G.2.1 2, 12, .inl fK)), (aX, .inl (G.2.1 2, 12, .inl fX)), (aY, .inl (G.2.1 2, 12, .inl fY))]) (ws2 := fun u : Unit => [(aG, .inr (6, [.ref aRd, .ref aC, .ref aD, .ref aL, .ref aM, .ref aS, .int nB, .int nN, .int nF])), (aC, .inr (0, [.int cT, .int cI, .int cG, .int cO, .int cK, .int cP, .int cQ, .ref aK, .ref aX, .ref aY, .ref aZ])), (aK, .inl (G.2.1 2, 12, .inl fK)), (aX, .inl (G.2.1 2, 12, .inl fX)), (aY, .inl (G.2.1 2, 12, .inl fY)), (aL, .inr (1, [.ref aW])), (aW, .inl (G.2.1 3, 18, .inr (.inl (colsF cI cG fK fX fY (-1) (-1) gW)))), (aS, .inr (4, [.ref s1, .ref s2, .ref s3, .ref s4, .int sN, .int sB]))]) rfl rfl rfl (by decide) rfl (fun _ => rfl) (va_runV (As := [.ref aC, .int (-1), .int (-1)]) (rest := []) S (c_X1_fill l G aL aW aC aK aX aY _ gW cT cI cG cO cK cP cQ aZ fK fX fY (-1) (-1)) (cwV 3 S.2.2.2.2 gX6_changed_X1_fill rfl rfl rfl (by decide +kernel) ⟨Nat.le_of_ble_eq_true rfl, Nat.le_of_ble_eq_true rfl⟩) ⟨wPre_blind, va_recv C.1 w.1 (ci := 1) (q0 := 5) rfl rfl, wPre_at C w [5, 6, 1, 2, 3, 4] rfl rfl⟩ rfl rfl hl.1 rfl (lv_room (Nat.le_of_ble_eq_true rfl)) dX6_changed_10 ⟨Nat.le_of_ble_eq_true rfl, Nat.le_of_ble_eq_true rfl⟩) (fun u10 H locs h10 w => ?_)
  have w : Wd G _ s [(aG, .inr (6, [.ref aRd, .ref aC, .ref aD, .ref aL, .ref aM, .ref aS, .int nB, .int nN, .int nF])), (aC, .inr (0, [.int cT, .int cI, .int cG, .int cO, .int cK, .int cP, .int cQ, .ref aK, .ref aX, .ref aY, .ref aZ])), (aK, .inl (G.2.1 2, 12, .inl fK)), (aX, .inl (G.2.1 2, 12, .inl fX)), (aY, .inl (G.2.1 2, 12, .inl fY)), (aL, .inr (1, [.ref aW])), (aW, .inl (G.2.1 3, 18, .inr (.inl (colsF cI cG fK fX fY (-1) (-1) gW)))), (aS, .inr (4, [.ref s1, .ref s2, .ref s3, .ref s4, .int sN, .int sB]))] H locs := w
  refine lv_aload_n S.1 S.2.1 dX6_changed_13 rfl (lv_at hl 0 rfl) ?_
  refine w_get S C w (CC := RX6) (T := TX6) (N := 9) (ref := "GateSums") im_X6_changed_X6 0 rfl rfl 5 (by decide) (List.mem_of_getElem? (i := 3) rfl) (fun _ h => h) rfl dX6_changed_14 ?_
  refine cq_v C w [7] [0, 1, 2, 3, 4, 5, 6] [0, 1, 2, 3, 4, 5, 6, 7] (wr := [(aG, .inr (6, [.ref aRd, .ref aC, .ref aD, .ref aL, .ref aM, .ref aS, .int nB, .int nN, .int nF])), (aC, .inr (0, [.int cT, .int cI, .int cG, .int cO, .int cK, .int cP, .int cQ, .ref aK, .ref aX, .ref aY, .ref aZ])), (aK, .inl (G.2.1 2, 12, .inl fK)), (aX, .inl (G.2.1 2, 12, .inl fX)), (aY, .inl (G.2.1 2, 12, .inl fY)), (aL, .inr (1, [.ref aW])), (aW, .inl (G.2.1 3, 18, .inr (.inl (colsF cI cG fK fX fY (-1) (-1) gW))))]) (w' := fun u : Unit => [(aS, .inr (4, [.ref s1, .ref s2, .ref s3, .ref s4, .int 0, .int 0]))]) (ws2 := fun u : Unit => [(aG, .inr (6, [.ref aRd, .ref aC, .ref aD, .ref aL, .ref aM, .ref aS, .int nB, .int nN, .int nF])), (aC, .inr (0, [.int cT, .int cI, .int cG, .int cO, .int cK, .int cP, .int cQ, .ref aK, .ref aX, .ref aY, .ref aZ])), (aK, .inl (G.2.1 2, 12, .inl fK)), (aX, .inl (G.2.1 2, 12, .inl fX)), (aY, .inl (G.2.1 2, 12, .inl fY)), (aL, .inr (1, [.ref aW])), (aW, .inl (G.2.1 3, 18, .inr (.inl (colsF cI cG fK fX fY (-1) (-1) gW)))), (aS, .inr (4, [.ref s1, .ref s2, .ref s3, .ref s4, .int 0, .int 0]))]) rfl rfl rfl (by decide) rfl (fun _ => rfl) (va_runV (As := []) (rest := []) S (c_X4_forget l G aS _ s1 s2 s3 s4 sN sB) (cwV 0 S.2.2.2.2 gX6_changed_X4_forget rfl rfl rfl (by decide +kernel) ⟨Nat.le_of_ble_eq_true rfl, Nat.le_of_ble_eq_true rfl⟩) ⟨wPre_blind, va_recv C.1 w.1 (ci := 4) (q0 := 7) rfl rfl, wPre_at C w [7] rfl rfl⟩ rfl rfl hl.1 rfl (lv_room (Nat.le_of_ble_eq_true rfl)) dX6_changed_17 ⟨Nat.le_of_ble_eq_true rfl, Nat.le_of_ble_eq_true rfl⟩) (fun u17 H locs h17 w => ?_)
  have w : Wd G _ s [(aG, .inr (6, [.ref aRd, .ref aC, .ref aD, .ref aL, .ref aM, .ref aS, .int nB, .int nN, .int nF])), (aC, .inr (0, [.int cT, .int cI, .int cG, .int cO, .int cK, .int cP, .int cQ, .ref aK, .ref aX, .ref aY, .ref aZ])), (aK, .inl (G.2.1 2, 12, .inl fK)), (aX, .inl (G.2.1 2, 12, .inl fX)), (aY, .inl (G.2.1 2, 12, .inl fY)), (aL, .inr (1, [.ref aW])), (aW, .inl (G.2.1 3, 18, .inr (.inl (colsF cI cG fK fX fY (-1) (-1) gW)))), (aS, .inr (4, [.ref s1, .ref s2, .ref s3, .ref s4, .int 0, .int 0]))] H locs := w
  refine lv_aload_n S.1 S.2.1 dX6_changed_20 rfl (lv_at hl 0 rfl) ?_
  refine w_get S C w (CC := RX6) (T := TX6) (N := 9) (ref := "GateSums") im_X6_changed_X6 0 rfl rfl 1 (by decide) (List.mem_of_getElem? (i := 2) rfl) (fun _ h => h) rfl dX6_changed_21 ?_
  refine w_get S C w (CC := RX0) (T := TX0) (N := 11) (ref := "GateSums$Circuit") im_X6_changed_X0 1 rfl rfl 2 (by decide) (List.mem_of_getElem? (i := 4) rfl) (fun _ h => h) rfl dX6_changed_24 ?_
  exact W.iret (v := cG) S.1 S.2.1 hr (fun t ht _ => ⟨⟨cG, (), rfl, rfl, by rw [ht]; exact w.1, w.2.1⟩, w.2.2.F ht⟩) w.2.2.2.2 dX6_changed_27
theorem im_X5_byteAt_X5 : ∀ w ∈ u_ws RX5 TX5 2, w ∈ wsX5_byteAt := by decide +kernel
set_option maxHeartbeats 4000000 in
set_option maxRecDepth 100000 in
theorem c_X5_byteAt (l : Launch) (G : GT) (aT aB : Nat) (sz : Nat) (tL : Int32) (fB : Nat → Int32) (i0 : Int32) : Met l yX5_byteAt wsX5_byteAt ({ frames := 0, cells := 0, slots := 0, locals := 0 }) (va_Pc [.ref aT, .int i0] (wPre G [(aT, .inr (5, [.ref aB, .int tL])), (aB, .inl (G.2.1 0, 120, .inl fB))] sz)) (vp_Si (fun r : Int32 => r = (byteAtF tL fB i0))) 0 0 (fun _ => False) := by
  refine met_go (cc := cX5_byteAt) (maxL := 2) (ret := (some .int)) (own := RX5) (by decide) rfl rfl (Nat.le_of_ble_eq_true rfl) ?_
  intro p e s m below meth c ls S hr hlocks hname hsz C w hl
  have hl : lv_has ls 2 [(0, .ref aT), (1, .int i0)] := hl
  refine lv_iload_n S.1 S.2.1 dX5_byteAt_0 rfl (lv_at hl 1 rfl) ?_
  refine lv_if_lt (tgt := 30) S.1 S.2.1 dX5_byteAt_1 (by decide) (fun c1 => ?_) (fun c1 => ?_)
  · refine lv_iconst (v := (-1)) S.1 S.2.1 dX5_byteAt_30 (by decide) ?_
    exact W.iret (v := (-1)) S.1 S.2.1 hr (fun t ht _ => ⟨(-1), rfl, by simp [byteAtF, c1], ht⟩) (fun q h => absurd h List.not_mem_nil) dX5_byteAt_31
  · refine lv_iload_n S.1 S.2.1 dX5_byteAt_4 rfl (lv_at hl 1 rfl) ?_
    refine lv_aload_n S.1 S.2.1 dX5_byteAt_5 rfl (lv_at hl 0 rfl) ?_
    refine w_get S C w (CC := RX5) (T := TX5) (N := 2) (ref := "GateSums$Text") im_X5_byteAt_X5 0 rfl rfl 1 (by decide) (List.mem_of_getElem? (i := 1) rfl) (fun _ h => h) rfl dX5_byteAt_6 ?_
    refine lv_icmp_ge (tgt := 30) S.1 S.2.1 dX5_byteAt_9 (by decide) (fun c9 => ?_) (fun c9 => ?_)
    · refine lv_iconst (v := (-1)) S.1 S.2.1 dX5_byteAt_30 (by decide) ?_
      exact W.iret (v := (-1)) S.1 S.2.1 hr (fun t ht _ => ⟨(-1), rfl, by simp [byteAtF, c1, c9], ht⟩) (fun q h => absurd h List.not_mem_nil) dX5_byteAt_31
    · refine lv_iload_n S.1 S.2.1 dX5_byteAt_12 rfl (lv_at hl 1 rfl) ?_
      refine lv_aload_n S.1 S.2.1 dX5_byteAt_13 rfl (lv_at hl 0 rfl) ?_
      refine w_get S C w (CC := RX5) (T := TX5) (N := 2) (ref := "GateSums$Text") im_X5_byteAt_X5 0 rfl rfl 0 (by decide) (List.mem_of_getElem? (i := 2) rfl) (fun _ h => h) rfl dX5_byteAt_14 ?_
      refine w_alen S C w 1 0 rfl rfl (v := 120) rfl dX5_byteAt_17 ?_
      refine lv_icmp_ge (tgt := 30) S.1 S.2.1 dX5_byteAt_18 (by decide) (fun c18 => ?_) (fun c18 => ?_)
      · refine lv_iconst (v := (-1)) S.1 S.2.1 dX5_byteAt_30 (by decide) ?_
        exact W.iret (v := (-1)) S.1 S.2.1 hr (fun t ht _ => ⟨(-1), rfl, by simp [byteAtF, c1, c9, c18], ht⟩) (fun q h => absurd h List.not_mem_nil) dX5_byteAt_31
      · refine lv_aload_n S.1 S.2.1 dX5_byteAt_21 rfl (lv_at hl 0 rfl) ?_
        refine w_get S C w (CC := RX5) (T := TX5) (N := 2) (ref := "GateSums$Text") im_X5_byteAt_X5 0 rfl rfl 0 (by decide) (List.mem_of_getElem? (i := 2) rfl) (fun _ h => h) rfl dX5_byteAt_22 ?_
        refine lv_iload_n S.1 S.2.1 dX5_byteAt_25 rfl (lv_at hl 1 rfl) ?_
        refine w_bald S C w 1 rfl (in_of2 (by decide) c1 c18) dX5_byteAt_26 ?_
        refine lv_goto (tgt := 31) S.1 S.2.1 dX5_byteAt_27 (by decide) ?_
        exact W.iret (v := (fB i0.toNatClampNeg)) S.1 S.2.1 hr (fun t ht _ => ⟨(fB i0.toNatClampNeg), rfl, by simp [byteAtF, c1, c9, c18], ht⟩) (fun q h => absurd h List.not_mem_nil) dX5_byteAt_31
set_option maxHeartbeats 4000000 in
set_option maxRecDepth 100000 in
theorem c_X3_sortOf (l : Launch) (G : GT) (sz : Nat) (i0 : Int32) : Met l yX3_sortOf wsX3_sortOf ({ frames := 0, cells := 0, slots := 0, locals := 0 }) (va_Pc [.int i0] (wPre G [] sz)) (vp_Si (fun r : Int32 => r = (sortOfF i0))) 0 0 (fun _ => False) := by
  refine met_go (cc := cX3_sortOf) (maxL := 2) (ret := (some .int)) (own := RX3) (by decide) rfl rfl (Nat.le_of_ble_eq_true rfl) ?_
  intro p e s m below meth c ls S hr hlocks hname hsz C w hl
  have hl : lv_has ls 2 [(0, .int i0)] := hl
  refine lv_iload_n S.1 S.2.1 dX3_sortOf_0 rfl (lv_at hl 0 rfl) ?_
  refine lv_iconst (v := (-1)) S.1 S.2.1 dX3_sortOf_1 (by decide) ?_
  refine lv_icmp_ne (tgt := 7) S.1 S.2.1 dX3_sortOf_2 (by decide) (fun c2 => ?_) (fun c2 => ?_)
  · refine lv_iload_n S.1 S.2.1 dX3_sortOf_7 rfl (lv_at hl 0 rfl) ?_
    refine lv_bipush (v := 48) S.1 S.2.1 dX3_sortOf_8 (by decide) ?_
    refine lv_icmp_lt (tgt := 21) S.1 S.2.1 dX3_sortOf_10 (by decide) (fun c10 => ?_) (fun c10 => ?_)
    · refine lv_iload_n S.1 S.2.1 dX3_sortOf_21 rfl (lv_at hl 0 rfl) ?_
      refine lv_bipush (v := 97) S.1 S.2.1 dX3_sortOf_22 (by decide) ?_
      refine lv_icmp_lt (tgt := 33) S.1 S.2.1 dX3_sortOf_24 (by decide) (fun c24 => ?_) (fun c24 => ?_)
      · refine lv_iload_n S.1 S.2.1 dX3_sortOf_33 rfl (lv_at hl 0 rfl) ?_
        refine lv_bipush (v := 65) S.1 S.2.1 dX3_sortOf_34 (by decide) ?_
        refine lv_icmp_lt (tgt := 49) S.1 S.2.1 dX3_sortOf_36 (by decide) (fun c36 => ?_) (fun c36 => ?_)
        · refine lv_iconst (v := 0) S.1 S.2.1 dX3_sortOf_49 (by decide) ?_
          refine lv_istore_n (lv' := [(1, .int 0), (0, .int i0)]) S.1 S.2.1 dX3_sortOf_50 rfl hl (by decide) rfl (fun ls hl => ?_)
          refine lv_iload_n S.1 S.2.1 dX3_sortOf_51 rfl (lv_at hl 0 rfl) ?_
          refine lv_if_eq (tgt := 59) S.1 S.2.1 dX3_sortOf_52 (by decide) (fun c52 => ?_) (fun c52 => ?_)
          · refine lv_iconst (v := 3) S.1 S.2.1 dX3_sortOf_59 (by decide) ?_
            exact W.iret (v := 3) S.1 S.2.1 hr (fun t ht _ => ⟨3, rfl, by simp [sortOfF, sortL, sortM, c2, c10, c24, c36, c52], ht⟩) (fun q h => absurd h List.not_mem_nil) dX3_sortOf_60
          · exact absurd c52 (by decide)
        · refine lv_iload_n S.1 S.2.1 dX3_sortOf_39 rfl (lv_at hl 0 rfl) ?_
          refine lv_bipush (v := 90) S.1 S.2.1 dX3_sortOf_40 (by decide) ?_
          refine lv_icmp_gt (tgt := 49) S.1 S.2.1 dX3_sortOf_42 (by decide) (fun c42 => ?_) (fun c42 => ?_)
          · refine lv_iconst (v := 0) S.1 S.2.1 dX3_sortOf_49 (by decide) ?_
            refine lv_istore_n (lv' := [(1, .int 0), (0, .int i0)]) S.1 S.2.1 dX3_sortOf_50 rfl hl (by decide) rfl (fun ls hl => ?_)
            refine lv_iload_n S.1 S.2.1 dX3_sortOf_51 rfl (lv_at hl 0 rfl) ?_
            refine lv_if_eq (tgt := 59) S.1 S.2.1 dX3_sortOf_52 (by decide) (fun c52_1 => ?_) (fun c52_1 => ?_)
            · refine lv_iconst (v := 3) S.1 S.2.1 dX3_sortOf_59 (by decide) ?_
              exact W.iret (v := 3) S.1 S.2.1 hr (fun t ht _ => ⟨3, rfl, by simp [sortOfF, sortL, sortM, c2, c10, c24, c36, c42, c52_1], ht⟩) (fun q h => absurd h List.not_mem_nil) dX3_sortOf_60
            · exact absurd c52_1 (by decide)
          · refine lv_iconst (v := 1) S.1 S.2.1 dX3_sortOf_45 (by decide) ?_
            refine lv_goto (tgt := 50) S.1 S.2.1 dX3_sortOf_46 (by decide) ?_
            refine lv_istore_n (lv' := [(1, .int 1), (0, .int i0)]) S.1 S.2.1 dX3_sortOf_50 rfl hl (by decide) rfl (fun ls hl => ?_)
            refine lv_iload_n S.1 S.2.1 dX3_sortOf_51 rfl (lv_at hl 0 rfl) ?_
            refine lv_if_eq (tgt := 59) S.1 S.2.1 dX3_sortOf_52 (by decide) (fun c52_2 => ?_) (fun c52_2 => ?_)
            · exact absurd c52_2 (by decide)
            · refine lv_iconst (v := 1) S.1 S.2.1 dX3_sortOf_55 (by decide) ?_
              refine lv_goto (tgt := 60) S.1 S.2.1 dX3_sortOf_56 (by decide) ?_
              exact W.iret (v := 1) S.1 S.2.1 hr (fun t ht _ => ⟨1, rfl, by simp [sortOfF, sortL, sortM, c2, c10, c24, c36, c42, c52_2], ht⟩) (fun q h => absurd h List.not_mem_nil) dX3_sortOf_60
      · refine lv_iload_n S.1 S.2.1 dX3_sortOf_27 rfl (lv_at hl 0 rfl) ?_
        refine lv_bipush (v := 122) S.1 S.2.1 dX3_sortOf_28 (by decide) ?_
        refine lv_icmp_le (tgt := 45) S.1 S.2.1 dX3_sortOf_30 (by decide) (fun c30 => ?_) (fun c30 => ?_)
        · refine lv_iconst (v := 1) S.1 S.2.1 dX3_sortOf_45 (by decide) ?_
          refine lv_goto (tgt := 50) S.1 S.2.1 dX3_sortOf_46 (by decide) ?_
          refine lv_istore_n (lv' := [(1, .int 1), (0, .int i0)]) S.1 S.2.1 dX3_sortOf_50 rfl hl (by decide) rfl (fun ls hl => ?_)
          refine lv_iload_n S.1 S.2.1 dX3_sortOf_51 rfl (lv_at hl 0 rfl) ?_
          refine lv_if_eq (tgt := 59) S.1 S.2.1 dX3_sortOf_52 (by decide) (fun c52_3 => ?_) (fun c52_3 => ?_)
          · exact absurd c52_3 (by decide)
          · refine lv_iconst (v := 1) S.1 S.2.1 dX3_sortOf_55 (by decide) ?_
            refine lv_goto (tgt := 60) S.1 S.2.1 dX3_sortOf_56 (by decide) ?_
            exact W.iret (v := 1) S.1 S.2.1 hr (fun t ht _ => ⟨1, rfl, by simp [sortOfF, sortL, sortM, c2, c10, c24, c30, c52_3], ht⟩) (fun q h => absurd h List.not_mem_nil) dX3_sortOf_60
        · refine lv_iload_n S.1 S.2.1 dX3_sortOf_33 rfl (lv_at hl 0 rfl) ?_
          refine lv_bipush (v := 65) S.1 S.2.1 dX3_sortOf_34 (by decide) ?_
          refine lv_icmp_lt (tgt := 49) S.1 S.2.1 dX3_sortOf_36 (by decide) (fun c36_1 => ?_) (fun c36_1 => ?_)
          · refine lv_iconst (v := 0) S.1 S.2.1 dX3_sortOf_49 (by decide) ?_
            refine lv_istore_n (lv' := [(1, .int 0), (0, .int i0)]) S.1 S.2.1 dX3_sortOf_50 rfl hl (by decide) rfl (fun ls hl => ?_)
            refine lv_iload_n S.1 S.2.1 dX3_sortOf_51 rfl (lv_at hl 0 rfl) ?_
            refine lv_if_eq (tgt := 59) S.1 S.2.1 dX3_sortOf_52 (by decide) (fun c52_4 => ?_) (fun c52_4 => ?_)
            · refine lv_iconst (v := 3) S.1 S.2.1 dX3_sortOf_59 (by decide) ?_
              exact W.iret (v := 3) S.1 S.2.1 hr (fun t ht _ => ⟨3, rfl, by simp [sortOfF, sortL, sortM, c2, c10, c24, c30, c36_1, c52_4], ht⟩) (fun q h => absurd h List.not_mem_nil) dX3_sortOf_60
            · exact absurd c52_4 (by decide)
          · refine lv_iload_n S.1 S.2.1 dX3_sortOf_39 rfl (lv_at hl 0 rfl) ?_
            refine lv_bipush (v := 90) S.1 S.2.1 dX3_sortOf_40 (by decide) ?_
            refine lv_icmp_gt (tgt := 49) S.1 S.2.1 dX3_sortOf_42 (by decide) (fun c42_1 => ?_) (fun c42_1 => ?_)
            · refine lv_iconst (v := 0) S.1 S.2.1 dX3_sortOf_49 (by decide) ?_
              refine lv_istore_n (lv' := [(1, .int 0), (0, .int i0)]) S.1 S.2.1 dX3_sortOf_50 rfl hl (by decide) rfl (fun ls hl => ?_)
              refine lv_iload_n S.1 S.2.1 dX3_sortOf_51 rfl (lv_at hl 0 rfl) ?_
              refine lv_if_eq (tgt := 59) S.1 S.2.1 dX3_sortOf_52 (by decide) (fun c52_5 => ?_) (fun c52_5 => ?_)
              · refine lv_iconst (v := 3) S.1 S.2.1 dX3_sortOf_59 (by decide) ?_
                exact W.iret (v := 3) S.1 S.2.1 hr (fun t ht _ => ⟨3, rfl, by simp [sortOfF, sortL, sortM, c2, c10, c24, c30, c36_1, c42_1, c52_5], ht⟩) (fun q h => absurd h List.not_mem_nil) dX3_sortOf_60
              · exact absurd c52_5 (by decide)
            · refine lv_iconst (v := 1) S.1 S.2.1 dX3_sortOf_45 (by decide) ?_
              refine lv_goto (tgt := 50) S.1 S.2.1 dX3_sortOf_46 (by decide) ?_
              refine lv_istore_n (lv' := [(1, .int 1), (0, .int i0)]) S.1 S.2.1 dX3_sortOf_50 rfl hl (by decide) rfl (fun ls hl => ?_)
              refine lv_iload_n S.1 S.2.1 dX3_sortOf_51 rfl (lv_at hl 0 rfl) ?_
              refine lv_if_eq (tgt := 59) S.1 S.2.1 dX3_sortOf_52 (by decide) (fun c52_6 => ?_) (fun c52_6 => ?_)
              · exact absurd c52_6 (by decide)
              · refine lv_iconst (v := 1) S.1 S.2.1 dX3_sortOf_55 (by decide) ?_
                refine lv_goto (tgt := 60) S.1 S.2.1 dX3_sortOf_56 (by decide) ?_
                exact W.iret (v := 1) S.1 S.2.1 hr (fun t ht _ => ⟨1, rfl, by simp [sortOfF, sortL, sortM, c2, c10, c24, c30, c36_1, c42_1, c52_6], ht⟩) (fun q h => absurd h List.not_mem_nil) dX3_sortOf_60
    · refine lv_iload_n S.1 S.2.1 dX3_sortOf_13 rfl (lv_at hl 0 rfl) ?_
      refine lv_bipush (v := 57) S.1 S.2.1 dX3_sortOf_14 (by decide) ?_
      refine lv_icmp_gt (tgt := 21) S.1 S.2.1 dX3_sortOf_16 (by decide) (fun c16 => ?_) (fun c16 => ?_)
      · refine lv_iload_n S.1 S.2.1 dX3_sortOf_21 rfl (lv_at hl 0 rfl) ?_
        refine lv_bipush (v := 97) S.1 S.2.1 dX3_sortOf_22 (by decide) ?_
        refine lv_icmp_lt (tgt := 33) S.1 S.2.1 dX3_sortOf_24 (by decide) (fun c24_1 => ?_) (fun c24_1 => ?_)
        · refine lv_iload_n S.1 S.2.1 dX3_sortOf_33 rfl (lv_at hl 0 rfl) ?_
          refine lv_bipush (v := 65) S.1 S.2.1 dX3_sortOf_34 (by decide) ?_
          refine lv_icmp_lt (tgt := 49) S.1 S.2.1 dX3_sortOf_36 (by decide) (fun c36_2 => ?_) (fun c36_2 => ?_)
          · refine lv_iconst (v := 0) S.1 S.2.1 dX3_sortOf_49 (by decide) ?_
            refine lv_istore_n (lv' := [(1, .int 0), (0, .int i0)]) S.1 S.2.1 dX3_sortOf_50 rfl hl (by decide) rfl (fun ls hl => ?_)
            refine lv_iload_n S.1 S.2.1 dX3_sortOf_51 rfl (lv_at hl 0 rfl) ?_
            refine lv_if_eq (tgt := 59) S.1 S.2.1 dX3_sortOf_52 (by decide) (fun c52_7 => ?_) (fun c52_7 => ?_)
            · refine lv_iconst (v := 3) S.1 S.2.1 dX3_sortOf_59 (by decide) ?_
              exact W.iret (v := 3) S.1 S.2.1 hr (fun t ht _ => ⟨3, rfl, by simp [sortOfF, sortL, sortM, c2, c10, c16, c24_1, c36_2, c52_7], ht⟩) (fun q h => absurd h List.not_mem_nil) dX3_sortOf_60
            · exact absurd c52_7 (by decide)
          · refine lv_iload_n S.1 S.2.1 dX3_sortOf_39 rfl (lv_at hl 0 rfl) ?_
            refine lv_bipush (v := 90) S.1 S.2.1 dX3_sortOf_40 (by decide) ?_
            refine lv_icmp_gt (tgt := 49) S.1 S.2.1 dX3_sortOf_42 (by decide) (fun c42_2 => ?_) (fun c42_2 => ?_)
            · refine lv_iconst (v := 0) S.1 S.2.1 dX3_sortOf_49 (by decide) ?_
              refine lv_istore_n (lv' := [(1, .int 0), (0, .int i0)]) S.1 S.2.1 dX3_sortOf_50 rfl hl (by decide) rfl (fun ls hl => ?_)
              refine lv_iload_n S.1 S.2.1 dX3_sortOf_51 rfl (lv_at hl 0 rfl) ?_
              refine lv_if_eq (tgt := 59) S.1 S.2.1 dX3_sortOf_52 (by decide) (fun c52_8 => ?_) (fun c52_8 => ?_)
              · refine lv_iconst (v := 3) S.1 S.2.1 dX3_sortOf_59 (by decide) ?_
                exact W.iret (v := 3) S.1 S.2.1 hr (fun t ht _ => ⟨3, rfl, by simp [sortOfF, sortL, sortM, c2, c10, c16, c24_1, c36_2, c42_2, c52_8], ht⟩) (fun q h => absurd h List.not_mem_nil) dX3_sortOf_60
              · exact absurd c52_8 (by decide)
            · refine lv_iconst (v := 1) S.1 S.2.1 dX3_sortOf_45 (by decide) ?_
              refine lv_goto (tgt := 50) S.1 S.2.1 dX3_sortOf_46 (by decide) ?_
              refine lv_istore_n (lv' := [(1, .int 1), (0, .int i0)]) S.1 S.2.1 dX3_sortOf_50 rfl hl (by decide) rfl (fun ls hl => ?_)
              refine lv_iload_n S.1 S.2.1 dX3_sortOf_51 rfl (lv_at hl 0 rfl) ?_
              refine lv_if_eq (tgt := 59) S.1 S.2.1 dX3_sortOf_52 (by decide) (fun c52_9 => ?_) (fun c52_9 => ?_)
              · exact absurd c52_9 (by decide)
              · refine lv_iconst (v := 1) S.1 S.2.1 dX3_sortOf_55 (by decide) ?_
                refine lv_goto (tgt := 60) S.1 S.2.1 dX3_sortOf_56 (by decide) ?_
                exact W.iret (v := 1) S.1 S.2.1 hr (fun t ht _ => ⟨1, rfl, by simp [sortOfF, sortL, sortM, c2, c10, c16, c24_1, c36_2, c42_2, c52_9], ht⟩) (fun q h => absurd h List.not_mem_nil) dX3_sortOf_60
        · refine lv_iload_n S.1 S.2.1 dX3_sortOf_27 rfl (lv_at hl 0 rfl) ?_
          refine lv_bipush (v := 122) S.1 S.2.1 dX3_sortOf_28 (by decide) ?_
          refine lv_icmp_le (tgt := 45) S.1 S.2.1 dX3_sortOf_30 (by decide) (fun c30_1 => ?_) (fun c30_1 => ?_)
          · refine lv_iconst (v := 1) S.1 S.2.1 dX3_sortOf_45 (by decide) ?_
            refine lv_goto (tgt := 50) S.1 S.2.1 dX3_sortOf_46 (by decide) ?_
            refine lv_istore_n (lv' := [(1, .int 1), (0, .int i0)]) S.1 S.2.1 dX3_sortOf_50 rfl hl (by decide) rfl (fun ls hl => ?_)
            refine lv_iload_n S.1 S.2.1 dX3_sortOf_51 rfl (lv_at hl 0 rfl) ?_
            refine lv_if_eq (tgt := 59) S.1 S.2.1 dX3_sortOf_52 (by decide) (fun c52_10 => ?_) (fun c52_10 => ?_)
            · exact absurd c52_10 (by decide)
            · refine lv_iconst (v := 1) S.1 S.2.1 dX3_sortOf_55 (by decide) ?_
              refine lv_goto (tgt := 60) S.1 S.2.1 dX3_sortOf_56 (by decide) ?_
              exact W.iret (v := 1) S.1 S.2.1 hr (fun t ht _ => ⟨1, rfl, by simp [sortOfF, sortL, sortM, c2, c10, c16, c24_1, c30_1, c52_10], ht⟩) (fun q h => absurd h List.not_mem_nil) dX3_sortOf_60
          · refine lv_iload_n S.1 S.2.1 dX3_sortOf_33 rfl (lv_at hl 0 rfl) ?_
            refine lv_bipush (v := 65) S.1 S.2.1 dX3_sortOf_34 (by decide) ?_
            refine lv_icmp_lt (tgt := 49) S.1 S.2.1 dX3_sortOf_36 (by decide) (fun c36_3 => ?_) (fun c36_3 => ?_)
            · refine lv_iconst (v := 0) S.1 S.2.1 dX3_sortOf_49 (by decide) ?_
              refine lv_istore_n (lv' := [(1, .int 0), (0, .int i0)]) S.1 S.2.1 dX3_sortOf_50 rfl hl (by decide) rfl (fun ls hl => ?_)
              refine lv_iload_n S.1 S.2.1 dX3_sortOf_51 rfl (lv_at hl 0 rfl) ?_
              refine lv_if_eq (tgt := 59) S.1 S.2.1 dX3_sortOf_52 (by decide) (fun c52_11 => ?_) (fun c52_11 => ?_)
              · refine lv_iconst (v := 3) S.1 S.2.1 dX3_sortOf_59 (by decide) ?_
                exact W.iret (v := 3) S.1 S.2.1 hr (fun t ht _ => ⟨3, rfl, by simp [sortOfF, sortL, sortM, c2, c10, c16, c24_1, c30_1, c36_3, c52_11], ht⟩) (fun q h => absurd h List.not_mem_nil) dX3_sortOf_60
              · exact absurd c52_11 (by decide)
            · refine lv_iload_n S.1 S.2.1 dX3_sortOf_39 rfl (lv_at hl 0 rfl) ?_
              refine lv_bipush (v := 90) S.1 S.2.1 dX3_sortOf_40 (by decide) ?_
              refine lv_icmp_gt (tgt := 49) S.1 S.2.1 dX3_sortOf_42 (by decide) (fun c42_3 => ?_) (fun c42_3 => ?_)
              · refine lv_iconst (v := 0) S.1 S.2.1 dX3_sortOf_49 (by decide) ?_
                refine lv_istore_n (lv' := [(1, .int 0), (0, .int i0)]) S.1 S.2.1 dX3_sortOf_50 rfl hl (by decide) rfl (fun ls hl => ?_)
                refine lv_iload_n S.1 S.2.1 dX3_sortOf_51 rfl (lv_at hl 0 rfl) ?_
                refine lv_if_eq (tgt := 59) S.1 S.2.1 dX3_sortOf_52 (by decide) (fun c52_12 => ?_) (fun c52_12 => ?_)
                · refine lv_iconst (v := 3) S.1 S.2.1 dX3_sortOf_59 (by decide) ?_
                  exact W.iret (v := 3) S.1 S.2.1 hr (fun t ht _ => ⟨3, rfl, by simp [sortOfF, sortL, sortM, c2, c10, c16, c24_1, c30_1, c36_3, c42_3, c52_12], ht⟩) (fun q h => absurd h List.not_mem_nil) dX3_sortOf_60
                · exact absurd c52_12 (by decide)
              · refine lv_iconst (v := 1) S.1 S.2.1 dX3_sortOf_45 (by decide) ?_
                refine lv_goto (tgt := 50) S.1 S.2.1 dX3_sortOf_46 (by decide) ?_
                refine lv_istore_n (lv' := [(1, .int 1), (0, .int i0)]) S.1 S.2.1 dX3_sortOf_50 rfl hl (by decide) rfl (fun ls hl => ?_)
                refine lv_iload_n S.1 S.2.1 dX3_sortOf_51 rfl (lv_at hl 0 rfl) ?_
                refine lv_if_eq (tgt := 59) S.1 S.2.1 dX3_sortOf_52 (by decide) (fun c52_13 => ?_) (fun c52_13 => ?_)
                · exact absurd c52_13 (by decide)
                · refine lv_iconst (v := 1) S.1 S.2.1 dX3_sortOf_55 (by decide) ?_
                  refine lv_goto (tgt := 60) S.1 S.2.1 dX3_sortOf_56 (by decide) ?_
                  exact W.iret (v := 1) S.1 S.2.1 hr (fun t ht _ => ⟨1, rfl, by simp [sortOfF, sortL, sortM, c2, c10, c16, c24_1, c30_1, c36_3, c42_3, c52_13], ht⟩) (fun q h => absurd h List.not_mem_nil) dX3_sortOf_60
      · refine lv_iconst (v := 2) S.1 S.2.1 dX3_sortOf_19 (by decide) ?_
        exact W.iret (v := 2) S.1 S.2.1 hr (fun t ht _ => ⟨2, rfl, by simp [sortOfF, sortL, sortM, c2, c10, c16], ht⟩) (fun q h => absurd h List.not_mem_nil) dX3_sortOf_20
  · refine lv_iconst (v := 0) S.1 S.2.1 dX3_sortOf_5 (by decide) ?_
    exact W.iret (v := 0) S.1 S.2.1 hr (fun t ht _ => ⟨0, rfl, by simp [sortOfF, sortL, sortM, c2], ht⟩) (fun q h => absurd h List.not_mem_nil) dX3_sortOf_6
theorem im_X6_isGate_X0 : ∀ w ∈ u_ws RX0 TX0 11, w ∈ wsX6_isGate := by decide +kernel
theorem im_X6_isGate_X6 : ∀ w ∈ u_ws RX6 TX6 9, w ∈ wsX6_isGate := by decide +kernel
set_option maxHeartbeats 4000000 in
set_option maxRecDepth 100000 in
theorem c_X6_isGate (l : Launch) (G : GT) (aG aC : Nat) (sz : Nat) (aRd aD aL aM aS : Nat) (nB nN nF : Int32) (cT cI cG cO cK cP cQ : Int32) (aK aX aY aZ : Nat) (i0 : Int32) : Met l yX6_isGate wsX6_isGate ({ frames := 0, cells := 0, slots := 0, locals := 0 }) (va_Pc [.ref aG, .int i0] (wPre G [(aG, .inr (6, [.ref aRd, .ref aC, .ref aD, .ref aL, .ref aM, .ref aS, .int nB, .int nN, .int nF])), (aC, .inr (0, [.int cT, .int cI, .int cG, .int cO, .int cK, .int cP, .int cQ, .ref aK, .ref aX, .ref aY, .ref aZ]))] sz)) (vp_Si (fun r : Int32 => r = (isGateF cT cG i0))) 0 0 (fun _ => False) := by
  refine met_go (cc := cX6_isGate) (maxL := 2) (ret := (some .boolean)) (own := RX6) (by decide) rfl rfl (Nat.le_of_ble_eq_true rfl) ?_
  intro p e s m below meth c ls S hr hlocks hname hsz C w hl
  have hl : lv_has ls 2 [(0, .ref aG), (1, .int i0)] := hl
  refine lv_iload_n S.1 S.2.1 dX6_isGate_0 rfl (lv_at hl 1 rfl) ?_
  refine lv_if_lt (tgt := 34) S.1 S.2.1 dX6_isGate_1 (by decide) (fun c1 => ?_) (fun c1 => ?_)
  · refine lv_iconst (v := 0) S.1 S.2.1 dX6_isGate_34 (by decide) ?_
    exact W.zret (v := 0) S.1 S.2.1 hr (rfl) (fun t ht _ => ⟨0, rfl, by simp [isGateF, c1], ht⟩) (fun q h => absurd h List.not_mem_nil) dX6_isGate_35
  · refine lv_iload_n S.1 S.2.1 dX6_isGate_4 rfl (lv_at hl 1 rfl) ?_
    refine lv_aload_n S.1 S.2.1 dX6_isGate_5 rfl (lv_at hl 0 rfl) ?_
    refine w_get S C w (CC := RX6) (T := TX6) (N := 9) (ref := "GateSums") im_X6_isGate_X6 0 rfl rfl 1 (by decide) (List.mem_of_getElem? (i := 1) rfl) (fun _ h => h) rfl dX6_isGate_6 ?_
    refine w_get S C w (CC := RX0) (T := TX0) (N := 11) (ref := "GateSums$Circuit") im_X6_isGate_X0 1 rfl rfl 0 (by decide) (List.mem_of_getElem? (i := 2) rfl) (fun _ h => h) rfl dX6_isGate_9 ?_
    refine lv_if_eq (tgt := 25) S.1 S.2.1 dX6_isGate_12 (by decide) (fun c12 => ?_) (fun c12 => ?_)
    · refine lv_bipush (v := 12) S.1 S.2.1 dX6_isGate_25 (by decide) ?_
      refine lv_icmp_ge (tgt := 34) S.1 S.2.1 dX6_isGate_27 (by decide) (fun c27 => ?_) (fun c27 => ?_)
      · refine lv_iconst (v := 0) S.1 S.2.1 dX6_isGate_34 (by decide) ?_
        exact W.zret (v := 0) S.1 S.2.1 hr (rfl) (fun t ht _ => ⟨0, rfl, by simp [isGateF, c1, c12, c27], ht⟩) (fun q h => absurd h List.not_mem_nil) dX6_isGate_35
      · refine lv_iconst (v := 1) S.1 S.2.1 dX6_isGate_30 (by decide) ?_
        refine lv_goto (tgt := 35) S.1 S.2.1 dX6_isGate_31 (by decide) ?_
        exact W.zret (v := 1) S.1 S.2.1 hr (rfl) (fun t ht _ => ⟨1, rfl, by simp [isGateF, c1, c12, c27], ht⟩) (fun q h => absurd h List.not_mem_nil) dX6_isGate_35
    · refine lv_aload_n S.1 S.2.1 dX6_isGate_15 rfl (lv_at hl 0 rfl) ?_
      refine w_get S C w (CC := RX6) (T := TX6) (N := 9) (ref := "GateSums") im_X6_isGate_X6 0 rfl rfl 1 (by decide) (List.mem_of_getElem? (i := 1) rfl) (fun _ h => h) rfl dX6_isGate_16 ?_
      refine w_get S C w (CC := RX0) (T := TX0) (N := 11) (ref := "GateSums$Circuit") im_X6_isGate_X0 1 rfl rfl 2 (by decide) (List.mem_of_getElem? (i := 3) rfl) (fun _ h => h) rfl dX6_isGate_19 ?_
      refine lv_goto (tgt := 27) S.1 S.2.1 dX6_isGate_22 (by decide) ?_
      refine lv_icmp_ge (tgt := 34) S.1 S.2.1 dX6_isGate_27 (by decide) (fun c27_1 => ?_) (fun c27_1 => ?_)
      · refine lv_iconst (v := 0) S.1 S.2.1 dX6_isGate_34 (by decide) ?_
        exact W.zret (v := 0) S.1 S.2.1 hr (rfl) (fun t ht _ => ⟨0, rfl, by simp [isGateF, c1, c12, c27_1], ht⟩) (fun q h => absurd h List.not_mem_nil) dX6_isGate_35
      · refine lv_iconst (v := 1) S.1 S.2.1 dX6_isGate_30 (by decide) ?_
        refine lv_goto (tgt := 35) S.1 S.2.1 dX6_isGate_31 (by decide) ?_
        exact W.zret (v := 1) S.1 S.2.1 hr (rfl) (fun t ht _ => ⟨1, rfl, by simp [isGateF, c1, c12, c27_1], ht⟩) (fun q h => absurd h List.not_mem_nil) dX6_isGate_35
theorem im_X6_isPlace_X0 : ∀ w ∈ u_ws RX0 TX0 11, w ∈ wsX6_isPlace := by decide +kernel
theorem im_X6_isPlace_X6 : ∀ w ∈ u_ws RX6 TX6 9, w ∈ wsX6_isPlace := by decide +kernel
set_option maxHeartbeats 4000000 in
set_option maxRecDepth 100000 in
theorem c_X6_isPlace (l : Launch) (G : GT) (aG aC : Nat) (sz : Nat) (aRd aD aL aM aS : Nat) (nB nN nF : Int32) (cT cI cG cO cK cP cQ : Int32) (aK aX aY aZ : Nat) (i0 : Int32) : Met l yX6_isPlace wsX6_isPlace ({ frames := 0, cells := 0, slots := 0, locals := 0 }) (va_Pc [.ref aG, .int i0] (wPre G [(aG, .inr (6, [.ref aRd, .ref aC, .ref aD, .ref aL, .ref aM, .ref aS, .int nB, .int nN, .int nF])), (aC, .inr (0, [.int cT, .int cI, .int cG, .int cO, .int cK, .int cP, .int cQ, .ref aK, .ref aX, .ref aY, .ref aZ]))] sz)) (vp_Si (fun r : Int32 => r = (isPlaceF cT cO i0))) 0 0 (fun _ => False) := by
  refine met_go (cc := cX6_isPlace) (maxL := 2) (ret := (some .boolean)) (own := RX6) (by decide) rfl rfl (Nat.le_of_ble_eq_true rfl) ?_
  intro p e s m below meth c ls S hr hlocks hname hsz C w hl
  have hl : lv_has ls 2 [(0, .ref aG), (1, .int i0)] := hl
  refine lv_iload_n S.1 S.2.1 dX6_isPlace_0 rfl (lv_at hl 1 rfl) ?_
  refine lv_if_lt (tgt := 34) S.1 S.2.1 dX6_isPlace_1 (by decide) (fun c1 => ?_) (fun c1 => ?_)
  · refine lv_iconst (v := 0) S.1 S.2.1 dX6_isPlace_34 (by decide) ?_
    exact W.zret (v := 0) S.1 S.2.1 hr (rfl) (fun t ht _ => ⟨0, rfl, by simp [isPlaceF, c1], ht⟩) (fun q h => absurd h List.not_mem_nil) dX6_isPlace_35
  · refine lv_iload_n S.1 S.2.1 dX6_isPlace_4 rfl (lv_at hl 1 rfl) ?_
    refine lv_aload_n S.1 S.2.1 dX6_isPlace_5 rfl (lv_at hl 0 rfl) ?_
    refine w_get S C w (CC := RX6) (T := TX6) (N := 9) (ref := "GateSums") im_X6_isPlace_X6 0 rfl rfl 1 (by decide) (List.mem_of_getElem? (i := 1) rfl) (fun _ h => h) rfl dX6_isPlace_6 ?_
    refine w_get S C w (CC := RX0) (T := TX0) (N := 11) (ref := "GateSums$Circuit") im_X6_isPlace_X0 1 rfl rfl 0 (by decide) (List.mem_of_getElem? (i := 2) rfl) (fun _ h => h) rfl dX6_isPlace_9 ?_
    refine lv_if_eq (tgt := 25) S.1 S.2.1 dX6_isPlace_12 (by decide) (fun c12 => ?_) (fun c12 => ?_)
    · refine lv_bipush (v := 7) S.1 S.2.1 dX6_isPlace_25 (by decide) ?_
      refine lv_icmp_ge (tgt := 34) S.1 S.2.1 dX6_isPlace_27 (by decide) (fun c27 => ?_) (fun c27 => ?_)
      · refine lv_iconst (v := 0) S.1 S.2.1 dX6_isPlace_34 (by decide) ?_
        exact W.zret (v := 0) S.1 S.2.1 hr (rfl) (fun t ht _ => ⟨0, rfl, by simp [isPlaceF, c1, c12, c27], ht⟩) (fun q h => absurd h List.not_mem_nil) dX6_isPlace_35
      · refine lv_iconst (v := 1) S.1 S.2.1 dX6_isPlace_30 (by decide) ?_
        refine lv_goto (tgt := 35) S.1 S.2.1 dX6_isPlace_31 (by decide) ?_
        exact W.zret (v := 1) S.1 S.2.1 hr (rfl) (fun t ht _ => ⟨1, rfl, by simp [isPlaceF, c1, c12, c27], ht⟩) (fun q h => absurd h List.not_mem_nil) dX6_isPlace_35
    · refine lv_aload_n S.1 S.2.1 dX6_isPlace_15 rfl (lv_at hl 0 rfl) ?_
      refine w_get S C w (CC := RX6) (T := TX6) (N := 9) (ref := "GateSums") im_X6_isPlace_X6 0 rfl rfl 1 (by decide) (List.mem_of_getElem? (i := 1) rfl) (fun _ h => h) rfl dX6_isPlace_16 ?_
      refine w_get S C w (CC := RX0) (T := TX0) (N := 11) (ref := "GateSums$Circuit") im_X6_isPlace_X0 1 rfl rfl 3 (by decide) (List.mem_of_getElem? (i := 3) rfl) (fun _ h => h) rfl dX6_isPlace_19 ?_
      refine lv_goto (tgt := 27) S.1 S.2.1 dX6_isPlace_22 (by decide) ?_
      refine lv_icmp_ge (tgt := 34) S.1 S.2.1 dX6_isPlace_27 (by decide) (fun c27_1 => ?_) (fun c27_1 => ?_)
      · refine lv_iconst (v := 0) S.1 S.2.1 dX6_isPlace_34 (by decide) ?_
        exact W.zret (v := 0) S.1 S.2.1 hr (rfl) (fun t ht _ => ⟨0, rfl, by simp [isPlaceF, c1, c12, c27_1], ht⟩) (fun q h => absurd h List.not_mem_nil) dX6_isPlace_35
      · refine lv_iconst (v := 1) S.1 S.2.1 dX6_isPlace_30 (by decide) ?_
        refine lv_goto (tgt := 35) S.1 S.2.1 dX6_isPlace_31 (by decide) ?_
        exact W.zret (v := 1) S.1 S.2.1 hr (rfl) (fun t ht _ => ⟨1, rfl, by simp [isPlaceF, c1, c12, c27_1], ht⟩) (fun q h => absurd h List.not_mem_nil) dX6_isPlace_35
theorem im_X6_isSignal_X0 : ∀ w ∈ u_ws RX0 TX0 11, w ∈ wsX6_isSignal := by decide +kernel
theorem im_X6_isSignal_X6 : ∀ w ∈ u_ws RX6 TX6 9, w ∈ wsX6_isSignal := by decide +kernel
set_option maxHeartbeats 4000000 in
set_option maxRecDepth 100000 in
theorem c_X6_isSignal (l : Launch) (G : GT) (aG aC : Nat) (sz : Nat) (aRd aD aL aM aS : Nat) (nB nN nF : Int32) (cT cI cG cO cK cP cQ : Int32) (aK aX aY aZ : Nat) (i0 : Int32) : Met l yX6_isSignal wsX6_isSignal ({ frames := 1, cells := 0, slots := 0, locals := 20 }) (va_Pc [.ref aG, .int i0] (wPre G [(aG, .inr (6, [.ref aRd, .ref aC, .ref aD, .ref aL, .ref aM, .ref aS, .int nB, .int nN, .int nF])), (aC, .inr (0, [.int cT, .int cI, .int cG, .int cO, .int cK, .int cP, .int cQ, .ref aK, .ref aX, .ref aY, .ref aZ]))] sz)) (vp_Si (fun r : Int32 => r = (isSignalF cT cI cG i0))) 0 0 (fun _ => False) := by
  refine met_go (cc := cX6_isSignal) (maxL := 2) (ret := (some .boolean)) (own := RX6) (by decide) rfl rfl (Nat.le_of_ble_eq_true rfl) ?_
  intro p e s m below meth c ls S hr hlocks hname hsz C w hl
  have hl : lv_has ls 2 [(0, .ref aG), (1, .int i0)] := hl
  refine lv_iload_n S.1 S.2.1 dX6_isSignal_0 rfl (lv_at hl 1 rfl) ?_
  refine lv_if_lt (tgt := 34) S.1 S.2.1 dX6_isSignal_1 (by decide) (fun c1 => ?_) (fun c1 => ?_)
  · refine lv_iconst (v := 0) S.1 S.2.1 dX6_isSignal_34 (by decide) ?_
    exact W.zret (v := 0) S.1 S.2.1 hr (rfl) (fun t ht _ => ⟨0, rfl, by simp [isSignalF, c1], ht⟩) (fun q h => absurd h List.not_mem_nil) dX6_isSignal_35
  · refine lv_iload_n S.1 S.2.1 dX6_isSignal_4 rfl (lv_at hl 1 rfl) ?_
    refine lv_aload_n S.1 S.2.1 dX6_isSignal_5 rfl (lv_at hl 0 rfl) ?_
    refine w_get S C w (CC := RX6) (T := TX6) (N := 9) (ref := "GateSums") im_X6_isSignal_X6 0 rfl rfl 1 (by decide) (List.mem_of_getElem? (i := 1) rfl) (fun _ h => h) rfl dX6_isSignal_6 ?_
    refine w_get S C w (CC := RX0) (T := TX0) (N := 11) (ref := "GateSums$Circuit") im_X6_isSignal_X0 1 rfl rfl 0 (by decide) (List.mem_of_getElem? (i := 2) rfl) (fun _ h => h) rfl dX6_isSignal_9 ?_
    refine lv_if_eq (tgt := 25) S.1 S.2.1 dX6_isSignal_12 (by decide) (fun c12 => ?_) (fun c12 => ?_)
    · refine lv_bipush (v := 18) S.1 S.2.1 dX6_isSignal_25 (by decide) ?_
      refine lv_icmp_ge (tgt := 34) S.1 S.2.1 dX6_isSignal_27 (by decide) (fun c27 => ?_) (fun c27 => ?_)
      · refine lv_iconst (v := 0) S.1 S.2.1 dX6_isSignal_34 (by decide) ?_
        exact W.zret (v := 0) S.1 S.2.1 hr (rfl) (fun t ht _ => ⟨0, rfl, by simp [isSignalF, c1, c12, c27], ht⟩) (fun q h => absurd h List.not_mem_nil) dX6_isSignal_35
      · refine lv_iconst (v := 1) S.1 S.2.1 dX6_isSignal_30 (by decide) ?_
        refine lv_goto (tgt := 35) S.1 S.2.1 dX6_isSignal_31 (by decide) ?_
        exact W.zret (v := 1) S.1 S.2.1 hr (rfl) (fun t ht _ => ⟨1, rfl, by simp [isSignalF, c1, c12, c27], ht⟩) (fun q h => absurd h List.not_mem_nil) dX6_isSignal_35
    · refine lv_aload_n S.1 S.2.1 dX6_isSignal_15 rfl (lv_at hl 0 rfl) ?_
      refine w_get S C w (CC := RX6) (T := TX6) (N := 9) (ref := "GateSums") im_X6_isSignal_X6 0 rfl rfl 1 (by decide) (List.mem_of_getElem? (i := 1) rfl) (fun _ h => h) rfl dX6_isSignal_16 ?_
      refine cs_i (va_runV (As := []) (rest := [.int i0]) S (c_X0_signals l G aC _ cT cI cG cO cK cP cQ aK aX aY aZ) (cwV 0 S.2.2.2.2 gX6_isSignal_X0_signals rfl rfl rfl (by decide +kernel) ⟨Nat.le_of_ble_eq_true rfl, Nat.le_of_ble_eq_true rfl⟩) ⟨wPre_blind, va_recv C.1 w.1 (ci := 0) (q0 := 1) rfl rfl, wPre_at C w [1] rfl rfl⟩ rfl rfl hl.1 rfl (lv_room (Nat.le_of_ble_eq_true rfl)) dX6_isSignal_19 ⟨Nat.le_of_ble_eq_true rfl, Nat.le_of_ble_eq_true rfl⟩) (fun r19 h19 => ?_)
      refine w_topi (y := (cI + cG)) h19 ?_
      refine lv_goto (tgt := 27) S.1 S.2.1 dX6_isSignal_22 (by decide) ?_
      refine lv_icmp_ge (tgt := 34) S.1 S.2.1 dX6_isSignal_27 (by decide) (fun c27_1 => ?_) (fun c27_1 => ?_)
      · refine lv_iconst (v := 0) S.1 S.2.1 dX6_isSignal_34 (by decide) ?_
        exact W.zret (v := 0) S.1 S.2.1 hr (rfl) (fun t ht _ => ⟨0, rfl, by simp [isSignalF, c1, c12, c27_1], ht⟩) (fun q h => absurd h List.not_mem_nil) dX6_isSignal_35
      · refine lv_iconst (v := 1) S.1 S.2.1 dX6_isSignal_30 (by decide) ?_
        refine lv_goto (tgt := 35) S.1 S.2.1 dX6_isSignal_31 (by decide) ?_
        exact W.zret (v := 1) S.1 S.2.1 hr (rfl) (fun t ht _ => ⟨1, rfl, by simp [isSignalF, c1, c12, c27_1], ht⟩) (fun q h => absurd h List.not_mem_nil) dX6_isSignal_35
theorem im_X6_isStage_X0 : ∀ w ∈ u_ws RX0 TX0 11, w ∈ wsX6_isStage := by decide +kernel
theorem im_X6_isStage_X6 : ∀ w ∈ u_ws RX6 TX6 9, w ∈ wsX6_isStage := by decide +kernel
set_option maxHeartbeats 4000000 in
set_option maxRecDepth 100000 in
theorem c_X6_isStage (l : Launch) (G : GT) (aG aC : Nat) (sz : Nat) (aRd aD aL aM aS : Nat) (nB nN nF : Int32) (cT cI cG cO cK cP cQ : Int32) (aK aX aY aZ : Nat) (i0 : Int32) : Met l yX6_isStage wsX6_isStage ({ frames := 0, cells := 0, slots := 0, locals := 0 }) (va_Pc [.ref aG, .int i0] (wPre G [(aG, .inr (6, [.ref aRd, .ref aC, .ref aD, .ref aL, .ref aM, .ref aS, .int nB, .int nN, .int nF])), (aC, .inr (0, [.int cT, .int cI, .int cG, .int cO, .int cK, .int cP, .int cQ, .ref aK, .ref aX, .ref aY, .ref aZ]))] sz)) (vp_Si (fun r : Int32 => r = (isStageF cT cG i0))) 0 0 (fun _ => False) := by
  refine met_go (cc := cX6_isStage) (maxL := 2) (ret := (some .boolean)) (own := RX6) (by decide) rfl rfl (Nat.le_of_ble_eq_true rfl) ?_
  intro p e s m below meth c ls S hr hlocks hname hsz C w hl
  have hl : lv_has ls 2 [(0, .ref aG), (1, .int i0)] := hl
  refine lv_iload_n S.1 S.2.1 dX6_isStage_0 rfl (lv_at hl 1 rfl) ?_
  refine lv_if_lt (tgt := 34) S.1 S.2.1 dX6_isStage_1 (by decide) (fun c1 => ?_) (fun c1 => ?_)
  · refine lv_iconst (v := 0) S.1 S.2.1 dX6_isStage_34 (by decide) ?_
    exact W.zret (v := 0) S.1 S.2.1 hr (rfl) (fun t ht _ => ⟨0, rfl, by simp [isStageF, c1], ht⟩) (fun q h => absurd h List.not_mem_nil) dX6_isStage_35
  · refine lv_iload_n S.1 S.2.1 dX6_isStage_4 rfl (lv_at hl 1 rfl) ?_
    refine lv_aload_n S.1 S.2.1 dX6_isStage_5 rfl (lv_at hl 0 rfl) ?_
    refine w_get S C w (CC := RX6) (T := TX6) (N := 9) (ref := "GateSums") im_X6_isStage_X6 0 rfl rfl 1 (by decide) (List.mem_of_getElem? (i := 1) rfl) (fun _ h => h) rfl dX6_isStage_6 ?_
    refine w_get S C w (CC := RX0) (T := TX0) (N := 11) (ref := "GateSums$Circuit") im_X6_isStage_X0 1 rfl rfl 0 (by decide) (List.mem_of_getElem? (i := 2) rfl) (fun _ h => h) rfl dX6_isStage_9 ?_
    refine lv_if_eq (tgt := 25) S.1 S.2.1 dX6_isStage_12 (by decide) (fun c12 => ?_) (fun c12 => ?_)
    · refine lv_bipush (v := 12) S.1 S.2.1 dX6_isStage_25 (by decide) ?_
      refine lv_icmp_gt (tgt := 34) S.1 S.2.1 dX6_isStage_27 (by decide) (fun c27 => ?_) (fun c27 => ?_)
      · refine lv_iconst (v := 0) S.1 S.2.1 dX6_isStage_34 (by decide) ?_
        exact W.zret (v := 0) S.1 S.2.1 hr (rfl) (fun t ht _ => ⟨0, rfl, by simp [isStageF, c1, c12, c27], ht⟩) (fun q h => absurd h List.not_mem_nil) dX6_isStage_35
      · refine lv_iconst (v := 1) S.1 S.2.1 dX6_isStage_30 (by decide) ?_
        refine lv_goto (tgt := 35) S.1 S.2.1 dX6_isStage_31 (by decide) ?_
        exact W.zret (v := 1) S.1 S.2.1 hr (rfl) (fun t ht _ => ⟨1, rfl, by simp [isStageF, c1, c12, c27], ht⟩) (fun q h => absurd h List.not_mem_nil) dX6_isStage_35
    · refine lv_aload_n S.1 S.2.1 dX6_isStage_15 rfl (lv_at hl 0 rfl) ?_
      refine w_get S C w (CC := RX6) (T := TX6) (N := 9) (ref := "GateSums") im_X6_isStage_X6 0 rfl rfl 1 (by decide) (List.mem_of_getElem? (i := 1) rfl) (fun _ h => h) rfl dX6_isStage_16 ?_
      refine w_get S C w (CC := RX0) (T := TX0) (N := 11) (ref := "GateSums$Circuit") im_X6_isStage_X0 1 rfl rfl 2 (by decide) (List.mem_of_getElem? (i := 3) rfl) (fun _ h => h) rfl dX6_isStage_19 ?_
      refine lv_goto (tgt := 27) S.1 S.2.1 dX6_isStage_22 (by decide) ?_
      refine lv_icmp_gt (tgt := 34) S.1 S.2.1 dX6_isStage_27 (by decide) (fun c27_1 => ?_) (fun c27_1 => ?_)
      · refine lv_iconst (v := 0) S.1 S.2.1 dX6_isStage_34 (by decide) ?_
        exact W.zret (v := 0) S.1 S.2.1 hr (rfl) (fun t ht _ => ⟨0, rfl, by simp [isStageF, c1, c12, c27_1], ht⟩) (fun q h => absurd h List.not_mem_nil) dX6_isStage_35
      · refine lv_iconst (v := 1) S.1 S.2.1 dX6_isStage_30 (by decide) ?_
        refine lv_goto (tgt := 35) S.1 S.2.1 dX6_isStage_31 (by decide) ?_
        exact W.zret (v := 1) S.1 S.2.1 hr (rfl) (fun t ht _ => ⟨1, rfl, by simp [isStageF, c1, c12, c27_1], ht⟩) (fun q h => absurd h List.not_mem_nil) dX6_isStage_35
theorem im_X6_isInputs_X0 : ∀ w ∈ u_ws RX0 TX0 11, w ∈ wsX6_isInputs := by decide +kernel
theorem im_X6_isInputs_X6 : ∀ w ∈ u_ws RX6 TX6 9, w ∈ wsX6_isInputs := by decide +kernel
set_option maxHeartbeats 4000000 in
set_option maxRecDepth 100000 in
theorem c_X6_isInputs (l : Launch) (G : GT) (aG aC : Nat) (sz : Nat) (aRd aD aL aM aS : Nat) (nB nN nF : Int32) (cT cI cG cO cK cP cQ : Int32) (aK aX aY aZ : Nat) (i0 : Int32) : Met l yX6_isInputs wsX6_isInputs ({ frames := 0, cells := 0, slots := 0, locals := 0 }) (va_Pc [.ref aG, .int i0] (wPre G [(aG, .inr (6, [.ref aRd, .ref aC, .ref aD, .ref aL, .ref aM, .ref aS, .int nB, .int nN, .int nF])), (aC, .inr (0, [.int cT, .int cI, .int cG, .int cO, .int cK, .int cP, .int cQ, .ref aK, .ref aX, .ref aY, .ref aZ]))] sz)) (vp_Si (fun r : Int32 => r = (isInputsF cT cI i0))) 0 0 (fun _ => False) := by
  refine met_go (cc := cX6_isInputs) (maxL := 2) (ret := (some .boolean)) (own := RX6) (by decide) rfl rfl (Nat.le_of_ble_eq_true rfl) ?_
  intro p e s m below meth c ls S hr hlocks hname hsz C w hl
  have hl : lv_has ls 2 [(0, .ref aG), (1, .int i0)] := hl
  refine lv_iload_n S.1 S.2.1 dX6_isInputs_0 rfl (lv_at hl 1 rfl) ?_
  refine lv_if_lt (tgt := 36) S.1 S.2.1 dX6_isInputs_1 (by decide) (fun c1 => ?_) (fun c1 => ?_)
  · refine lv_iconst (v := 0) S.1 S.2.1 dX6_isInputs_36 (by decide) ?_
    exact W.zret (v := 0) S.1 S.2.1 hr (rfl) (fun t ht _ => ⟨0, rfl, by simp [isInputsF, c1], ht⟩) (fun q h => absurd h List.not_mem_nil) dX6_isInputs_37
  · refine lv_iload_n S.1 S.2.1 dX6_isInputs_4 rfl (lv_at hl 1 rfl) ?_
    refine lv_iconst (v := 1) S.1 S.2.1 dX6_isInputs_5 (by decide) ?_
    refine lv_aload_n S.1 S.2.1 dX6_isInputs_6 rfl (lv_at hl 0 rfl) ?_
    refine w_get S C w (CC := RX6) (T := TX6) (N := 9) (ref := "GateSums") im_X6_isInputs_X6 0 rfl rfl 1 (by decide) (List.mem_of_getElem? (i := 1) rfl) (fun _ h => h) rfl dX6_isInputs_7 ?_
    refine w_get S C w (CC := RX0) (T := TX0) (N := 11) (ref := "GateSums$Circuit") im_X6_isInputs_X0 1 rfl rfl 0 (by decide) (List.mem_of_getElem? (i := 2) rfl) (fun _ h => h) rfl dX6_isInputs_10 ?_
    refine lv_if_eq (tgt := 26) S.1 S.2.1 dX6_isInputs_13 (by decide) (fun c13 => ?_) (fun c13 => ?_)
    · refine lv_bipush (v := 6) S.1 S.2.1 dX6_isInputs_26 (by decide) ?_
      refine lv_ishl S.1 S.2.1 dX6_isInputs_28 ?_
      refine lv_icmp_ge (tgt := 36) S.1 S.2.1 dX6_isInputs_29 (by decide) (fun c29 => ?_) (fun c29 => ?_)
      · refine lv_iconst (v := 0) S.1 S.2.1 dX6_isInputs_36 (by decide) ?_
        exact W.zret (v := 0) S.1 S.2.1 hr (rfl) (fun t ht _ => ⟨0, rfl, by simp [isInputsF, c1, c13, c29], ht⟩) (fun q h => absurd h List.not_mem_nil) dX6_isInputs_37
      · refine lv_iconst (v := 1) S.1 S.2.1 dX6_isInputs_32 (by decide) ?_
        refine lv_goto (tgt := 37) S.1 S.2.1 dX6_isInputs_33 (by decide) ?_
        exact W.zret (v := 1) S.1 S.2.1 hr (rfl) (fun t ht _ => ⟨1, rfl, by simp [isInputsF, c1, c13, c29], ht⟩) (fun q h => absurd h List.not_mem_nil) dX6_isInputs_37
    · refine lv_aload_n S.1 S.2.1 dX6_isInputs_16 rfl (lv_at hl 0 rfl) ?_
      refine w_get S C w (CC := RX6) (T := TX6) (N := 9) (ref := "GateSums") im_X6_isInputs_X6 0 rfl rfl 1 (by decide) (List.mem_of_getElem? (i := 1) rfl) (fun _ h => h) rfl dX6_isInputs_17 ?_
      refine w_get S C w (CC := RX0) (T := TX0) (N := 11) (ref := "GateSums$Circuit") im_X6_isInputs_X0 1 rfl rfl 1 (by decide) (List.mem_of_getElem? (i := 3) rfl) (fun _ h => h) rfl dX6_isInputs_20 ?_
      refine lv_goto (tgt := 28) S.1 S.2.1 dX6_isInputs_23 (by decide) ?_
      refine lv_ishl S.1 S.2.1 dX6_isInputs_28 ?_
      refine lv_icmp_ge (tgt := 36) S.1 S.2.1 dX6_isInputs_29 (by decide) (fun c29_1 => ?_) (fun c29_1 => ?_)
      · refine lv_iconst (v := 0) S.1 S.2.1 dX6_isInputs_36 (by decide) ?_
        exact W.zret (v := 0) S.1 S.2.1 hr (rfl) (fun t ht _ => ⟨0, rfl, by simp [isInputsF, c1, c13, c29_1], ht⟩) (fun q h => absurd h List.not_mem_nil) dX6_isInputs_37
      · refine lv_iconst (v := 1) S.1 S.2.1 dX6_isInputs_32 (by decide) ?_
        refine lv_goto (tgt := 37) S.1 S.2.1 dX6_isInputs_33 (by decide) ?_
        exact W.zret (v := 1) S.1 S.2.1 hr (rfl) (fun t ht _ => ⟨1, rfl, by simp [isInputsF, c1, c13, c29_1], ht⟩) (fun q h => absurd h List.not_mem_nil) dX6_isInputs_37
theorem im_X6_isAhead_X0 : ∀ w ∈ u_ws RX0 TX0 11, w ∈ wsX6_isAhead := by decide +kernel
theorem im_X6_isAhead_X6 : ∀ w ∈ u_ws RX6 TX6 9, w ∈ wsX6_isAhead := by decide +kernel
set_option maxHeartbeats 4000000 in
set_option maxRecDepth 100000 in
theorem c_X6_isAhead (l : Launch) (G : GT) (aG aC : Nat) (sz : Nat) (aRd aD aL aM aS : Nat) (nB nN nF : Int32) (cT cI cG cO cK cP cQ : Int32) (aK aX aY aZ : Nat) (g0 i0 : Int32) : Met l yX6_isAhead wsX6_isAhead ({ frames := 0, cells := 0, slots := 0, locals := 0 }) (va_Pc [.ref aG, .int g0, .int i0] (wPre G [(aG, .inr (6, [.ref aRd, .ref aC, .ref aD, .ref aL, .ref aM, .ref aS, .int nB, .int nN, .int nF])), (aC, .inr (0, [.int cT, .int cI, .int cG, .int cO, .int cK, .int cP, .int cQ, .ref aK, .ref aX, .ref aY, .ref aZ]))] sz)) (vp_Si (fun r : Int32 => r = (isAheadF cT cI g0 i0))) 0 0 (fun _ => False) := by
  refine met_go (cc := cX6_isAhead) (maxL := 3) (ret := (some .boolean)) (own := RX6) (by decide) rfl rfl (Nat.le_of_ble_eq_true rfl) ?_
  intro p e s m below meth c ls S hr hlocks hname hsz C w hl
  have hl : lv_has ls 3 [(0, .ref aG), (1, .int g0), (2, .int i0)] := hl
  refine lv_iload_n S.1 S.2.1 dX6_isAhead_0 rfl (lv_at hl 2 rfl) ?_
  refine lv_if_lt (tgt := 36) S.1 S.2.1 dX6_isAhead_1 (by decide) (fun c1 => ?_) (fun c1 => ?_)
  · refine lv_iconst (v := 0) S.1 S.2.1 dX6_isAhead_36 (by decide) ?_
    exact W.zret (v := 0) S.1 S.2.1 hr (rfl) (fun t ht _ => ⟨0, rfl, by simp [isAheadF, c1], ht⟩) (fun q h => absurd h List.not_mem_nil) dX6_isAhead_37
  · refine lv_iload_n S.1 S.2.1 dX6_isAhead_4 rfl (lv_at hl 2 rfl) ?_
    refine lv_aload_n S.1 S.2.1 dX6_isAhead_5 rfl (lv_at hl 0 rfl) ?_
    refine w_get S C w (CC := RX6) (T := TX6) (N := 9) (ref := "GateSums") im_X6_isAhead_X6 0 rfl rfl 1 (by decide) (List.mem_of_getElem? (i := 1) rfl) (fun _ h => h) rfl dX6_isAhead_6 ?_
    refine w_get S C w (CC := RX0) (T := TX0) (N := 11) (ref := "GateSums$Circuit") im_X6_isAhead_X0 1 rfl rfl 0 (by decide) (List.mem_of_getElem? (i := 2) rfl) (fun _ h => h) rfl dX6_isAhead_9 ?_
    refine lv_if_eq (tgt := 27) S.1 S.2.1 dX6_isAhead_12 (by decide) (fun c12 => ?_) (fun c12 => ?_)
    · refine lv_bipush (v := 18) S.1 S.2.1 dX6_isAhead_27 (by decide) ?_
      refine lv_icmp_ge (tgt := 36) S.1 S.2.1 dX6_isAhead_29 (by decide) (fun c29 => ?_) (fun c29 => ?_)
      · refine lv_iconst (v := 0) S.1 S.2.1 dX6_isAhead_36 (by decide) ?_
        exact W.zret (v := 0) S.1 S.2.1 hr (rfl) (fun t ht _ => ⟨0, rfl, by simp [isAheadF, c1, c12, c29], ht⟩) (fun q h => absurd h List.not_mem_nil) dX6_isAhead_37
      · refine lv_iconst (v := 1) S.1 S.2.1 dX6_isAhead_32 (by decide) ?_
        refine lv_goto (tgt := 37) S.1 S.2.1 dX6_isAhead_33 (by decide) ?_
        exact W.zret (v := 1) S.1 S.2.1 hr (rfl) (fun t ht _ => ⟨1, rfl, by simp [isAheadF, c1, c12, c29], ht⟩) (fun q h => absurd h List.not_mem_nil) dX6_isAhead_37
    · refine lv_aload_n S.1 S.2.1 dX6_isAhead_15 rfl (lv_at hl 0 rfl) ?_
      refine w_get S C w (CC := RX6) (T := TX6) (N := 9) (ref := "GateSums") im_X6_isAhead_X6 0 rfl rfl 1 (by decide) (List.mem_of_getElem? (i := 1) rfl) (fun _ h => h) rfl dX6_isAhead_16 ?_
      refine w_get S C w (CC := RX0) (T := TX0) (N := 11) (ref := "GateSums$Circuit") im_X6_isAhead_X0 1 rfl rfl 1 (by decide) (List.mem_of_getElem? (i := 3) rfl) (fun _ h => h) rfl dX6_isAhead_19 ?_
      refine lv_iload_n S.1 S.2.1 dX6_isAhead_22 rfl (lv_at hl 1 rfl) ?_
      refine lv_iadd S.1 S.2.1 dX6_isAhead_23 ?_
      refine lv_goto (tgt := 29) S.1 S.2.1 dX6_isAhead_24 (by decide) ?_
      refine lv_icmp_ge (tgt := 36) S.1 S.2.1 dX6_isAhead_29 (by decide) (fun c29_1 => ?_) (fun c29_1 => ?_)
      · refine lv_iconst (v := 0) S.1 S.2.1 dX6_isAhead_36 (by decide) ?_
        exact W.zret (v := 0) S.1 S.2.1 hr (rfl) (fun t ht _ => ⟨0, rfl, by simp [isAheadF, c1, c12, c29_1], ht⟩) (fun q h => absurd h List.not_mem_nil) dX6_isAhead_37
      · refine lv_iconst (v := 1) S.1 S.2.1 dX6_isAhead_32 (by decide) ?_
        refine lv_goto (tgt := 37) S.1 S.2.1 dX6_isAhead_33 (by decide) ?_
        exact W.zret (v := 1) S.1 S.2.1 hr (rfl) (fun t ht _ => ⟨1, rfl, by simp [isAheadF, c1, c12, c29_1], ht⟩) (fun q h => absurd h List.not_mem_nil) dX6_isAhead_37
theorem im_X6_isWay_X0 : ∀ w ∈ u_ws RX0 TX0 11, w ∈ wsX6_isWay := by decide +kernel
theorem im_X6_isWay_X6 : ∀ w ∈ u_ws RX6 TX6 9, w ∈ wsX6_isWay := by decide +kernel
set_option maxHeartbeats 4000000 in
set_option maxRecDepth 100000 in
theorem c_X6_isWay (l : Launch) (G : GT) (aG aC aK : Nat) (sz : Nat) (aRd aD aL aM aS : Nat) (nB nN nF : Int32) (cT cI cG cO cK cP cQ : Int32) (aX aY aZ : Nat) (fK : Nat → Int32) (g0 w0 : Int32) : Met l yX6_isWay wsX6_isWay ({ frames := 2, cells := 0, slots := 0, locals := 42 }) (va_Pc [.ref aG, .int g0, .int w0] (wPre G [(aG, .inr (6, [.ref aRd, .ref aC, .ref aD, .ref aL, .ref aM, .ref aS, .int nB, .int nN, .int nF])), (aC, .inr (0, [.int cT, .int cI, .int cG, .int cO, .int cK, .int cP, .int cQ, .ref aK, .ref aX, .ref aY, .ref aZ])), (aK, .inl (G.2.1 2, 12, .inl fK))] sz)) (vp_Si (fun r : Int32 => r = (isWayF cT (atF fK 12 g0) w0))) 0 0 (fun _ => False) := by
  refine met_go (cc := cX6_isWay) (maxL := 3) (ret := (some .boolean)) (own := RX6) (by decide) rfl rfl (Nat.le_of_ble_eq_true rfl) ?_
  intro p e s m below meth c ls S hr hlocks hname hsz C w hl
  have hl : lv_has ls 3 [(0, .ref aG), (1, .int g0), (2, .int w0)] := hl
  refine lv_iload_n S.1 S.2.1 dX6_isWay_0 rfl (lv_at hl 2 rfl) ?_
  refine lv_if_eq (tgt := 30) S.1 S.2.1 dX6_isWay_1 (by decide) (fun c1 => ?_) (fun c1 => ?_)
  · refine lv_iconst (v := 1) S.1 S.2.1 dX6_isWay_30 (by decide) ?_
    refine lv_goto (tgt := 35) S.1 S.2.1 dX6_isWay_31 (by decide) ?_
    exact W.zret (v := 1) S.1 S.2.1 hr (rfl) (fun t ht _ => ⟨1, rfl, by simp [isWayF, c1], ht⟩) (fun q h => absurd h List.not_mem_nil) dX6_isWay_35
  · refine lv_iload_n S.1 S.2.1 dX6_isWay_4 rfl (lv_at hl 2 rfl) ?_
    refine lv_iconst (v := 1) S.1 S.2.1 dX6_isWay_5 (by decide) ?_
    refine lv_icmp_ne (tgt := 34) S.1 S.2.1 dX6_isWay_6 (by decide) (fun c6 => ?_) (fun c6 => ?_)
    · refine lv_iconst (v := 0) S.1 S.2.1 dX6_isWay_34 (by decide) ?_
      exact W.zret (v := 0) S.1 S.2.1 hr (rfl) (fun t ht _ => ⟨0, rfl, by simp [isWayF, c1, c6], ht⟩) (fun q h => absurd h List.not_mem_nil) dX6_isWay_35
    · refine lv_aload_n S.1 S.2.1 dX6_isWay_9 rfl (lv_at hl 0 rfl) ?_
      refine w_get S C w (CC := RX6) (T := TX6) (N := 9) (ref := "GateSums") im_X6_isWay_X6 0 rfl rfl 1 (by decide) (List.mem_of_getElem? (i := 1) rfl) (fun _ h => h) rfl dX6_isWay_10 ?_
      refine w_get S C w (CC := RX0) (T := TX0) (N := 11) (ref := "GateSums$Circuit") im_X6_isWay_X0 1 rfl rfl 0 (by decide) (List.mem_of_getElem? (i := 2) rfl) (fun _ h => h) rfl dX6_isWay_13 ?_
      refine lv_if_eq (tgt := 30) S.1 S.2.1 dX6_isWay_16 (by decide) (fun c16 => ?_) (fun c16 => ?_)
      · refine lv_iconst (v := 1) S.1 S.2.1 dX6_isWay_30 (by decide) ?_
        refine lv_goto (tgt := 35) S.1 S.2.1 dX6_isWay_31 (by decide) ?_
        exact W.zret (v := 1) S.1 S.2.1 hr (rfl) (fun t ht _ => ⟨1, rfl, by simp [isWayF, c1, c6, c16], ht⟩) (fun q h => absurd h List.not_mem_nil) dX6_isWay_35
      · refine lv_aload_n S.1 S.2.1 dX6_isWay_19 rfl (lv_at hl 0 rfl) ?_
        refine w_get S C w (CC := RX6) (T := TX6) (N := 9) (ref := "GateSums") im_X6_isWay_X6 0 rfl rfl 1 (by decide) (List.mem_of_getElem? (i := 1) rfl) (fun _ h => h) rfl dX6_isWay_20 ?_
        refine lv_iload_n S.1 S.2.1 dX6_isWay_23 rfl (lv_at hl 1 rfl) ?_
        refine cs_i (va_runV (As := [.int g0]) (rest := []) S (c_X0_kindOf l G aC aK _ cT cI cG cO cK cP cQ aX aY aZ fK g0) (cwV 1 S.2.2.2.2 gX6_isWay_X0_kindOf rfl rfl rfl (by decide +kernel) ⟨Nat.le_of_ble_eq_true rfl, Nat.le_of_ble_eq_true rfl⟩) ⟨wPre_blind, va_recv C.1 w.1 (ci := 0) (q0 := 1) rfl rfl, wPre_at C w [1, 2] rfl rfl⟩ rfl rfl hl.1 rfl (lv_room (Nat.le_of_ble_eq_true rfl)) dX6_isWay_24 ⟨Nat.le_of_ble_eq_true rfl, Nat.le_of_ble_eq_true rfl⟩) (fun r24 h24 => ?_)
        refine w_topi (y := (atF fK 12 g0)) h24 ?_
        refine lv_if_eq (tgt := 34) S.1 S.2.1 dX6_isWay_27 (by decide) (fun c27 => ?_) (fun c27 => ?_)
        · refine lv_iconst (v := 0) S.1 S.2.1 dX6_isWay_34 (by decide) ?_
          exact W.zret (v := 0) S.1 S.2.1 hr (rfl) (fun t ht _ => ⟨0, rfl, by simp [isWayF, c1, c6, c16, c27], ht⟩) (fun q h => absurd h List.not_mem_nil) dX6_isWay_35
        · refine lv_iconst (v := 1) S.1 S.2.1 dX6_isWay_30 (by decide) ?_
          refine lv_goto (tgt := 35) S.1 S.2.1 dX6_isWay_31 (by decide) ?_
          exact W.zret (v := 1) S.1 S.2.1 hr (rfl) (fun t ht _ => ⟨1, rfl, by simp [isWayF, c1, c6, c16, c27], ht⟩) (fun q h => absurd h List.not_mem_nil) dX6_isWay_35
theorem im_X0_mayPut_X0 : ∀ w ∈ u_ws RX0 TX0 11, w ∈ wsX0_mayPut := by decide +kernel
set_option maxHeartbeats 4000000 in
set_option maxRecDepth 100000 in
theorem c_X0_mayPut (l : Launch) (G : GT) (aC aK : Nat) (sz : Nat) (cT cI cG cO cK cP cQ : Int32) (aX aY aZ : Nat) (fK : Nat → Int32) (g0 k0 : Int32) : Met l yX0_mayPut wsX0_mayPut ({ frames := 2, cells := 0, slots := 0, locals := 42 }) (va_Pc [.ref aC, .int g0, .int k0] (wPre G [(aC, .inr (0, [.int cT, .int cI, .int cG, .int cO, .int cK, .int cP, .int cQ, .ref aK, .ref aX, .ref aY, .ref aZ])), (aK, .inl (G.2.1 2, 12, .inl fK))] sz)) (vp_Si (fun r : Int32 => r = (mayPutF cT (atF fK 12 g0) k0))) 0 0 (fun _ => False) := by
  refine met_go (cc := cX0_mayPut) (maxL := 3) (ret := (some .boolean)) (own := RX0) (by decide) rfl rfl (Nat.le_of_ble_eq_true rfl) ?_
  intro p e s m below meth c ls S hr hlocks hname hsz C w hl
  have hl : lv_has ls 3 [(0, .ref aC), (1, .int g0), (2, .int k0)] := hl
  refine lv_iload_n S.1 S.2.1 dX0_mayPut_0 rfl (lv_at hl 2 rfl) ?_
  refine lv_if_lt (tgt := 10) S.1 S.2.1 dX0_mayPut_1 (by decide) (fun c1 => ?_) (fun c1 => ?_)
  · refine lv_iconst (v := 0) S.1 S.2.1 dX0_mayPut_10 (by decide) ?_
    exact W.zret (v := 0) S.1 S.2.1 hr (rfl) (fun t ht _ => ⟨0, rfl, by simp [mayPutF, c1], ht⟩) (fun q h => absurd h List.not_mem_nil) dX0_mayPut_11
  · refine lv_iload_n S.1 S.2.1 dX0_mayPut_4 rfl (lv_at hl 2 rfl) ?_
    refine lv_bipush (v := 8) S.1 S.2.1 dX0_mayPut_5 (by decide) ?_
    refine lv_icmp_lt (tgt := 12) S.1 S.2.1 dX0_mayPut_7 (by decide) (fun c7 => ?_) (fun c7 => ?_)
    · refine lv_aload_n S.1 S.2.1 dX0_mayPut_12 rfl (lv_at hl 0 rfl) ?_
      refine w_get S C w (CC := RX0) (T := TX0) (N := 11) (ref := "GateSums$Circuit") im_X0_mayPut_X0 0 rfl rfl 0 (by decide) (List.mem_of_getElem? (i := 1) rfl) (fun _ h => h) rfl dX0_mayPut_13 ?_
      refine lv_if_eq (tgt := 44) S.1 S.2.1 dX0_mayPut_16 (by decide) (fun c16 => ?_) (fun c16 => ?_)
      · refine lv_iconst (v := 1) S.1 S.2.1 dX0_mayPut_44 (by decide) ?_
        refine lv_goto (tgt := 49) S.1 S.2.1 dX0_mayPut_45 (by decide) ?_
        exact W.zret (v := 1) S.1 S.2.1 hr (rfl) (fun t ht _ => ⟨1, rfl, by simp [mayPutF, c1, c7, c16], ht⟩) (fun q h => absurd h List.not_mem_nil) dX0_mayPut_49
      · refine lv_iload_n S.1 S.2.1 dX0_mayPut_19 rfl (lv_at hl 2 rfl) ?_
        refine lv_if_ne (tgt := 27) S.1 S.2.1 dX0_mayPut_20 (by decide) (fun c20 => ?_) (fun c20 => ?_)
        · refine lv_iconst (v := 0) S.1 S.2.1 dX0_mayPut_27 (by decide) ?_
          refine lv_aload_n S.1 S.2.1 dX0_mayPut_28 rfl (lv_at hl 0 rfl) ?_
          refine lv_iload_n S.1 S.2.1 dX0_mayPut_29 rfl (lv_at hl 1 rfl) ?_
          refine cs_i (va_runV (As := [.int g0]) (rest := [.int 0]) S (c_X0_kindOf l G aC aK _ cT cI cG cO cK cP cQ aX aY aZ fK g0) (cwV 1 S.2.2.2.2 gX0_mayPut_X0_kindOf rfl rfl rfl (by decide +kernel) ⟨Nat.le_of_ble_eq_true rfl, Nat.le_of_ble_eq_true rfl⟩) ⟨wPre_blind, va_recv C.1 w.1 (ci := 0) (q0 := 0) rfl rfl, wPre_at C w [0, 1] rfl rfl⟩ rfl rfl hl.1 rfl (lv_room (Nat.le_of_ble_eq_true rfl)) dX0_mayPut_30 ⟨Nat.le_of_ble_eq_true rfl, Nat.le_of_ble_eq_true rfl⟩) (fun r30 h30 => ?_)
          refine w_topi (y := (atF fK 12 g0)) h30 ?_
          refine lv_if_ne (tgt := 40) S.1 S.2.1 dX0_mayPut_33 (by decide) (fun c33 => ?_) (fun c33 => ?_)
          · refine lv_iconst (v := 0) S.1 S.2.1 dX0_mayPut_40 (by decide) ?_
            refine lv_icmp_ne (tgt := 48) S.1 S.2.1 dX0_mayPut_41 (by decide) (fun c41 => ?_) (fun c41 => ?_)
            · exact absurd c41 (by decide)
            · refine lv_iconst (v := 1) S.1 S.2.1 dX0_mayPut_44 (by decide) ?_
              refine lv_goto (tgt := 49) S.1 S.2.1 dX0_mayPut_45 (by decide) ?_
              exact W.zret (v := 1) S.1 S.2.1 hr (rfl) (fun t ht _ => ⟨1, rfl, by simp [mayPutF, c1, c7, c16, c20, c33, c41], ht⟩) (fun q h => absurd h List.not_mem_nil) dX0_mayPut_49
          · refine lv_iconst (v := 1) S.1 S.2.1 dX0_mayPut_36 (by decide) ?_
            refine lv_goto (tgt := 41) S.1 S.2.1 dX0_mayPut_37 (by decide) ?_
            refine lv_icmp_ne (tgt := 48) S.1 S.2.1 dX0_mayPut_41 (by decide) (fun c41_1 => ?_) (fun c41_1 => ?_)
            · refine lv_iconst (v := 0) S.1 S.2.1 dX0_mayPut_48 (by decide) ?_
              exact W.zret (v := 0) S.1 S.2.1 hr (rfl) (fun t ht _ => ⟨0, rfl, by simp [mayPutF, c1, c7, c16, c20, c33, c41_1], ht⟩) (fun q h => absurd h List.not_mem_nil) dX0_mayPut_49
            · exact absurd c41_1 (by decide)
        · refine lv_iconst (v := 1) S.1 S.2.1 dX0_mayPut_23 (by decide) ?_
          refine lv_goto (tgt := 28) S.1 S.2.1 dX0_mayPut_24 (by decide) ?_
          refine lv_aload_n S.1 S.2.1 dX0_mayPut_28 rfl (lv_at hl 0 rfl) ?_
          refine lv_iload_n S.1 S.2.1 dX0_mayPut_29 rfl (lv_at hl 1 rfl) ?_
          refine cs_i (va_runV (As := [.int g0]) (rest := [.int 1]) S (c_X0_kindOf l G aC aK _ cT cI cG cO cK cP cQ aX aY aZ fK g0) (cwV 1 S.2.2.2.2 gX0_mayPut_X0_kindOf rfl rfl rfl (by decide +kernel) ⟨Nat.le_of_ble_eq_true rfl, Nat.le_of_ble_eq_true rfl⟩) ⟨wPre_blind, va_recv C.1 w.1 (ci := 0) (q0 := 0) rfl rfl, wPre_at C w [0, 1] rfl rfl⟩ rfl rfl hl.1 rfl (lv_room (Nat.le_of_ble_eq_true rfl)) dX0_mayPut_30 ⟨Nat.le_of_ble_eq_true rfl, Nat.le_of_ble_eq_true rfl⟩) (fun r30_1 h30_1 => ?_)
          refine w_topi (y := (atF fK 12 g0)) h30_1 ?_
          refine lv_if_ne (tgt := 40) S.1 S.2.1 dX0_mayPut_33 (by decide) (fun c33_1 => ?_) (fun c33_1 => ?_)
          · refine lv_iconst (v := 0) S.1 S.2.1 dX0_mayPut_40 (by decide) ?_
            refine lv_icmp_ne (tgt := 48) S.1 S.2.1 dX0_mayPut_41 (by decide) (fun c41_2 => ?_) (fun c41_2 => ?_)
            · refine lv_iconst (v := 0) S.1 S.2.1 dX0_mayPut_48 (by decide) ?_
              exact W.zret (v := 0) S.1 S.2.1 hr (rfl) (fun t ht _ => ⟨0, rfl, by simp [mayPutF, c1, c7, c16, c20, c33_1, c41_2], ht⟩) (fun q h => absurd h List.not_mem_nil) dX0_mayPut_49
            · exact absurd c41_2 (by decide)
          · refine lv_iconst (v := 1) S.1 S.2.1 dX0_mayPut_36 (by decide) ?_
            refine lv_goto (tgt := 41) S.1 S.2.1 dX0_mayPut_37 (by decide) ?_
            refine lv_icmp_ne (tgt := 48) S.1 S.2.1 dX0_mayPut_41 (by decide) (fun c41_3 => ?_) (fun c41_3 => ?_)
            · exact absurd c41_3 (by decide)
            · refine lv_iconst (v := 1) S.1 S.2.1 dX0_mayPut_44 (by decide) ?_
              refine lv_goto (tgt := 49) S.1 S.2.1 dX0_mayPut_45 (by decide) ?_
              exact W.zret (v := 1) S.1 S.2.1 hr (rfl) (fun t ht _ => ⟨1, rfl, by simp [mayPutF, c1, c7, c16, c20, c33_1, c41_3], ht⟩) (fun q h => absurd h List.not_mem_nil) dX0_mayPut_49
    · refine lv_iconst (v := 0) S.1 S.2.1 dX0_mayPut_10 (by decide) ?_
      exact W.zret (v := 0) S.1 S.2.1 hr (rfl) (fun t ht _ => ⟨0, rfl, by simp [mayPutF, c1, c7], ht⟩) (fun q h => absurd h List.not_mem_nil) dX0_mayPut_11
theorem im_X6_refused_X6 : ∀ w ∈ u_ws RX6 TX6 9, w ∈ wsX6_refused := by decide +kernel
set_option maxHeartbeats 4000000 in
set_option maxRecDepth 100000 in
theorem c_X6_refused_B (l : Launch) (G : GT) (aG : Nat) (sz : Nat) (aRd aC aD aL aM aS : Nat) (nB nN nF : Int32) : Met l yX6_refused wsX6_refused ({ frames := 0, cells := 0, slots := 0, locals := 0 }) (va_Pc [.ref aG, .int (-2)] (wPre G [(aG, .inr (6, [.ref aRd, .ref aC, .ref aD, .ref aL, .ref aM, .ref aS, .int nB, .int nN, .int nF]))] sz)) (va_Qi (fun (r : Int32) (u : Unit) => r = (-2)) (bW G (va_A [(aG, .inr (6, [.ref aRd, .ref aC, .ref aD, .ref aL, .ref aM, .ref aS, .int nB, .int nN, .int nF]))] sz) (fun u : Unit => [(aG, .inr (6, [.ref aRd, .ref aC, .ref aD, .ref aL, .ref aM, .ref aS, .int (nB + 1), .int nN, .int nF]))])) (va_A [(aG, .inr (6, [.ref aRd, .ref aC, .ref aD, .ref aL, .ref aM, .ref aS, .int nB, .int nN, .int nF]))] sz)) 0 0 (va_A [(aG, .inr (6, [.ref aRd, .ref aC, .ref aD, .ref aL, .ref aM, .ref aS, .int nB, .int nN, .int nF]))] sz) := by
  refine met_go (cc := cX6_refused) (maxL := 2) (ret := (some .int)) (own := RX6) (by decide) rfl rfl (Nat.le_of_ble_eq_true rfl) ?_
  intro p e s m below meth c ls S hr hlocks hname hsz C w hl
  have hl : lv_has ls 2 [(0, .ref aG), (1, .int (-2))] := hl
  refine lv_iload_n S.1 S.2.1 dX6_refused_0 rfl (lv_at hl 1 rfl) ?_
  refine lv_bipush (v := (-2)) S.1 S.2.1 dX6_refused_1 (by decide) ?_
  refine lv_icmp_ne (tgt := 19) S.1 S.2.1 dX6_refused_3 (by decide) (fun c3 => ?_) (fun c3 => ?_)
  · exact absurd c3 (by decide)
  · refine lv_aload_n S.1 S.2.1 dX6_refused_6 rfl (lv_at hl 0 rfl) ?_
    refine lv_dup S.1 S.2.1 dX6_refused_7 rfl ?_
    refine w_get S C w (CC := RX6) (T := TX6) (N := 9) (ref := "GateSums") im_X6_refused_X6 0 rfl rfl 6 (by decide) (List.mem_of_getElem? (i := 1) rfl) (fun _ h => h) rfl dX6_refused_8 ?_
    refine lv_iconst (v := 1) S.1 S.2.1 dX6_refused_11 (by decide) ?_
    refine lv_iadd S.1 S.2.1 dX6_refused_12 ?_
    refine w_put S C w (CC := RX6) (T := TX6) (N := 9) (ref := "GateSums") im_X6_refused_X6 tyX6 tyX6_ok nmX6 0 rfl rfl 6 (by decide) (List.mem_of_getElem? (i := 1) rfl) (fun _ h => h) rfl (ws2 := [(aG, .inr (6, [.ref aRd, .ref aC, .ref aD, .ref aL, .ref aM, .ref aS, .int (nB + 1), .int nN, .int nF]))]) (rfl) (rfl) (Nat.le_of_ble_eq_true rfl) rfl dX6_refused_13 (fun H locs w => ?_)
    refine lv_goto (tgt := 48) S.1 S.2.1 dX6_refused_16 (by decide) ?_
    refine lv_iload_n S.1 S.2.1 dX6_refused_48 rfl (lv_at hl 1 rfl) ?_
    exact W.iret (v := (-2)) S.1 S.2.1 hr (fun t ht _ => ⟨⟨(-2), (), rfl, rfl, by rw [ht]; exact w.1, w.2.1⟩, w.2.2.F ht⟩) w.2.2.2.2 dX6_refused_49
set_option maxHeartbeats 4000000 in
set_option maxRecDepth 100000 in
theorem c_X6_refused_N (l : Launch) (G : GT) (aG : Nat) (sz : Nat) (aRd aC aD aL aM aS : Nat) (nB nN nF : Int32) : Met l yX6_refused wsX6_refused ({ frames := 0, cells := 0, slots := 0, locals := 0 }) (va_Pc [.ref aG, .int (-3)] (wPre G [(aG, .inr (6, [.ref aRd, .ref aC, .ref aD, .ref aL, .ref aM, .ref aS, .int nB, .int nN, .int nF]))] sz)) (va_Qi (fun (r : Int32) (u : Unit) => r = (-3)) (bW G (va_A [(aG, .inr (6, [.ref aRd, .ref aC, .ref aD, .ref aL, .ref aM, .ref aS, .int nB, .int nN, .int nF]))] sz) (fun u : Unit => [(aG, .inr (6, [.ref aRd, .ref aC, .ref aD, .ref aL, .ref aM, .ref aS, .int nB, .int (nN + 1), .int nF]))])) (va_A [(aG, .inr (6, [.ref aRd, .ref aC, .ref aD, .ref aL, .ref aM, .ref aS, .int nB, .int nN, .int nF]))] sz)) 0 0 (va_A [(aG, .inr (6, [.ref aRd, .ref aC, .ref aD, .ref aL, .ref aM, .ref aS, .int nB, .int nN, .int nF]))] sz) := by
  refine met_go (cc := cX6_refused) (maxL := 2) (ret := (some .int)) (own := RX6) (by decide) rfl rfl (Nat.le_of_ble_eq_true rfl) ?_
  intro p e s m below meth c ls S hr hlocks hname hsz C w hl
  have hl : lv_has ls 2 [(0, .ref aG), (1, .int (-3))] := hl
  refine lv_iload_n S.1 S.2.1 dX6_refused_0 rfl (lv_at hl 1 rfl) ?_
  refine lv_bipush (v := (-2)) S.1 S.2.1 dX6_refused_1 (by decide) ?_
  refine lv_icmp_ne (tgt := 19) S.1 S.2.1 dX6_refused_3 (by decide) (fun c3 => ?_) (fun c3 => ?_)
  · refine lv_iload_n S.1 S.2.1 dX6_refused_19 rfl (lv_at hl 1 rfl) ?_
    refine lv_bipush (v := (-3)) S.1 S.2.1 dX6_refused_20 (by decide) ?_
    refine lv_icmp_ne (tgt := 38) S.1 S.2.1 dX6_refused_22 (by decide) (fun c22 => ?_) (fun c22 => ?_)
    · exact absurd c22 (by decide)
    · refine lv_aload_n S.1 S.2.1 dX6_refused_25 rfl (lv_at hl 0 rfl) ?_
      refine lv_dup S.1 S.2.1 dX6_refused_26 rfl ?_
      refine w_get S C w (CC := RX6) (T := TX6) (N := 9) (ref := "GateSums") im_X6_refused_X6 0 rfl rfl 7 (by decide) (List.mem_of_getElem? (i := 2) rfl) (fun _ h => h) rfl dX6_refused_27 ?_
      refine lv_iconst (v := 1) S.1 S.2.1 dX6_refused_30 (by decide) ?_
      refine lv_iadd S.1 S.2.1 dX6_refused_31 ?_
      refine w_put S C w (CC := RX6) (T := TX6) (N := 9) (ref := "GateSums") im_X6_refused_X6 tyX6 tyX6_ok nmX6 0 rfl rfl 7 (by decide) (List.mem_of_getElem? (i := 2) rfl) (fun _ h => h) rfl (ws2 := [(aG, .inr (6, [.ref aRd, .ref aC, .ref aD, .ref aL, .ref aM, .ref aS, .int nB, .int (nN + 1), .int nF]))]) (rfl) (rfl) (Nat.le_of_ble_eq_true rfl) rfl dX6_refused_32 (fun H locs w => ?_)
      refine lv_goto (tgt := 48) S.1 S.2.1 dX6_refused_35 (by decide) ?_
      refine lv_iload_n S.1 S.2.1 dX6_refused_48 rfl (lv_at hl 1 rfl) ?_
      exact W.iret (v := (-3)) S.1 S.2.1 hr (fun t ht _ => ⟨⟨(-3), (), rfl, rfl, by rw [ht]; exact w.1, w.2.1⟩, w.2.2.F ht⟩) w.2.2.2.2 dX6_refused_49
  · exact absurd c3 (by decide)
set_option maxHeartbeats 4000000 in
set_option maxRecDepth 100000 in
theorem c_X6_refused_F (l : Launch) (G : GT) (aG : Nat) (sz : Nat) (aRd aC aD aL aM aS : Nat) (nB nN nF : Int32) : Met l yX6_refused wsX6_refused ({ frames := 0, cells := 0, slots := 0, locals := 0 }) (va_Pc [.ref aG, .int (-4)] (wPre G [(aG, .inr (6, [.ref aRd, .ref aC, .ref aD, .ref aL, .ref aM, .ref aS, .int nB, .int nN, .int nF]))] sz)) (va_Qi (fun (r : Int32) (u : Unit) => r = (-4)) (bW G (va_A [(aG, .inr (6, [.ref aRd, .ref aC, .ref aD, .ref aL, .ref aM, .ref aS, .int nB, .int nN, .int nF]))] sz) (fun u : Unit => [(aG, .inr (6, [.ref aRd, .ref aC, .ref aD, .ref aL, .ref aM, .ref aS, .int nB, .int nN, .int (nF + 1)]))])) (va_A [(aG, .inr (6, [.ref aRd, .ref aC, .ref aD, .ref aL, .ref aM, .ref aS, .int nB, .int nN, .int nF]))] sz)) 0 0 (va_A [(aG, .inr (6, [.ref aRd, .ref aC, .ref aD, .ref aL, .ref aM, .ref aS, .int nB, .int nN, .int nF]))] sz) := by
  refine met_go (cc := cX6_refused) (maxL := 2) (ret := (some .int)) (own := RX6) (by decide) rfl rfl (Nat.le_of_ble_eq_true rfl) ?_
  intro p e s m below meth c ls S hr hlocks hname hsz C w hl
  have hl : lv_has ls 2 [(0, .ref aG), (1, .int (-4))] := hl
  refine lv_iload_n S.1 S.2.1 dX6_refused_0 rfl (lv_at hl 1 rfl) ?_
  refine lv_bipush (v := (-2)) S.1 S.2.1 dX6_refused_1 (by decide) ?_
  refine lv_icmp_ne (tgt := 19) S.1 S.2.1 dX6_refused_3 (by decide) (fun c3 => ?_) (fun c3 => ?_)
  · refine lv_iload_n S.1 S.2.1 dX6_refused_19 rfl (lv_at hl 1 rfl) ?_
    refine lv_bipush (v := (-3)) S.1 S.2.1 dX6_refused_20 (by decide) ?_
    refine lv_icmp_ne (tgt := 38) S.1 S.2.1 dX6_refused_22 (by decide) (fun c22 => ?_) (fun c22 => ?_)
    · refine lv_aload_n S.1 S.2.1 dX6_refused_38 rfl (lv_at hl 0 rfl) ?_
      refine lv_dup S.1 S.2.1 dX6_refused_39 rfl ?_
      refine w_get S C w (CC := RX6) (T := TX6) (N := 9) (ref := "GateSums") im_X6_refused_X6 0 rfl rfl 8 (by decide) (List.mem_of_getElem? (i := 3) rfl) (fun _ h => h) rfl dX6_refused_40 ?_
      refine lv_iconst (v := 1) S.1 S.2.1 dX6_refused_43 (by decide) ?_
      refine lv_iadd S.1 S.2.1 dX6_refused_44 ?_
      refine w_put S C w (CC := RX6) (T := TX6) (N := 9) (ref := "GateSums") im_X6_refused_X6 tyX6 tyX6_ok nmX6 0 rfl rfl 8 (by decide) (List.mem_of_getElem? (i := 3) rfl) (fun _ h => h) rfl (ws2 := [(aG, .inr (6, [.ref aRd, .ref aC, .ref aD, .ref aL, .ref aM, .ref aS, .int nB, .int nN, .int (nF + 1)]))]) (rfl) (rfl) (Nat.le_of_ble_eq_true rfl) rfl dX6_refused_45 (fun H locs w => ?_)
      refine lv_iload_n S.1 S.2.1 dX6_refused_48 rfl (lv_at hl 1 rfl) ?_
      exact W.iret (v := (-4)) S.1 S.2.1 hr (fun t ht _ => ⟨⟨(-4), (), rfl, rfl, by rw [ht]; exact w.1, w.2.1⟩, w.2.2.F ht⟩) w.2.2.2.2 dX6_refused_49
    · exact absurd c22 (by decide)
  · exact absurd c3 (by decide)
theorem im_X6_refusal_X0 : ∀ w ∈ u_ws RX0 TX0 11, w ∈ wsX6_refusal := by decide +kernel
theorem im_X6_refusal_X6 : ∀ w ∈ u_ws RX6 TX6 9, w ∈ wsX6_refusal := by decide +kernel
set_option maxHeartbeats 4000000 in
set_option maxRecDepth 100000 in
theorem c_X6_refusal (l : Launch) (G : GT) (aG aC : Nat) (sz : Nat) (aRd aD aL aM aS : Nat) (nB nN nF : Int32) (cT cI cG cO cK cP cQ : Int32) (aK aX aY aZ : Nat) (z0 : Int32) : Met l yX6_refusal wsX6_refusal ({ frames := 1, cells := 0, slots := 0, locals := 21 }) (va_Pc [.ref aG, .int z0] (wPre G [(aG, .inr (6, [.ref aRd, .ref aC, .ref aD, .ref aL, .ref aM, .ref aS, .int nB, .int nN, .int nF])), (aC, .inr (0, [.int cT, .int cI, .int cG, .int cO, .int cK, .int cP, .int cQ, .ref aK, .ref aX, .ref aY, .ref aZ]))] sz)) (va_Qi (fun (r : Int32) (u : Unit) => r = refusalF cT z0) (bW G (va_A [(aG, .inr (6, [.ref aRd, .ref aC, .ref aD, .ref aL, .ref aM, .ref aS, .int nB, .int nN, .int nF])), (aC, .inr (0, [.int cT, .int cI, .int cG, .int cO, .int cK, .int cP, .int cQ, .ref aK, .ref aX, .ref aY, .ref aZ]))] sz) (fun u : Unit => [(aG, .inr (6, [.ref aRd, .ref aC, .ref aD, .ref aL, .ref aM, .ref aS, .int (if z0 = 0 then nB + 1 else nB), .int (if z0 = 0 then nN else if cT = 0 then nN + 1 else nN), .int nF])), (aC, .inr (0, [.int cT, .int cI, .int cG, .int cO, .int cK, .int cP, .int cQ, .ref aK, .ref aX, .ref aY, .ref aZ]))])) (va_A [(aG, .inr (6, [.ref aRd, .ref aC, .ref aD, .ref aL, .ref aM, .ref aS, .int nB, .int nN, .int nF])), (aC, .inr (0, [.int cT, .int cI, .int cG, .int cO, .int cK, .int cP, .int cQ, .ref aK, .ref aX, .ref aY, .ref aZ]))] sz)) 0 0 (va_A [(aG, .inr (6, [.ref aRd, .ref aC, .ref aD, .ref aL, .ref aM, .ref aS, .int nB, .int nN, .int nF])), (aC, .inr (0, [.int cT, .int cI, .int cG, .int cO, .int cK, .int cP, .int cQ, .ref aK, .ref aX, .ref aY, .ref aZ]))] sz) := by
  refine met_go (cc := cX6_refusal) (maxL := 2) (ret := (some .int)) (own := RX6) (by decide) rfl rfl (Nat.le_of_ble_eq_true rfl) ?_
  intro p e s m below meth c ls S hr hlocks hname hsz C w hl
  have hl : lv_has ls 2 [(0, .ref aG), (1, .int z0)] := hl
  refine lv_iload_n S.1 S.2.1 dX6_refusal_0 rfl (lv_at hl 1 rfl) ?_
  refine lv_if_ne (tgt := 11) S.1 S.2.1 dX6_refusal_1 (by decide) (fun c1 => ?_) (fun c1 => ?_)
  · refine lv_aload_n S.1 S.2.1 dX6_refusal_11 rfl (lv_at hl 0 rfl) ?_
    refine w_get S C w (CC := RX6) (T := TX6) (N := 9) (ref := "GateSums") im_X6_refusal_X6 0 rfl rfl 1 (by decide) (List.mem_of_getElem? (i := 1) rfl) (fun _ h => h) rfl dX6_refusal_12 ?_
    refine w_get S C w (CC := RX0) (T := TX0) (N := 11) (ref := "GateSums$Circuit") im_X6_refusal_X0 1 rfl rfl 0 (by decide) (List.mem_of_getElem? (i := 2) rfl) (fun _ h => h) rfl dX6_refusal_15 ?_
    refine lv_if_eq (tgt := 25) S.1 S.2.1 dX6_refusal_18 (by decide) (fun c18 => ?_) (fun c18 => ?_)
    · refine lv_aload_n S.1 S.2.1 dX6_refusal_25 rfl (lv_at hl 0 rfl) ?_
      refine lv_bipush (v := (-3)) S.1 S.2.1 dX6_refusal_26 (by decide) ?_
      refine cq_i C w [0] [1] [1, 0] (wr := [(aC, .inr (0, [.int cT, .int cI, .int cG, .int cO, .int cK, .int cP, .int cQ, .ref aK, .ref aX, .ref aY, .ref aZ]))]) (w' := fun u : Unit => [(aG, .inr (6, [.ref aRd, .ref aC, .ref aD, .ref aL, .ref aM, .ref aS, .int nB, .int (nN + 1), .int nF]))]) (ws2 := fun u : Unit => [(aG, .inr (6, [.ref aRd, .ref aC, .ref aD, .ref aL, .ref aM, .ref aS, .int nB, .int (nN + 1), .int nF])), (aC, .inr (0, [.int cT, .int cI, .int cG, .int cO, .int cK, .int cP, .int cQ, .ref aK, .ref aX, .ref aY, .ref aZ]))]) rfl rfl rfl (by decide) rfl (fun _ => rfl) (va_runV (As := [.int (-3)]) (rest := []) S (c_X6_refused_N l G aG _ aRd aC aD aL aM aS nB nN nF) (cwV 1 S.2.2.2.2 gX6_refusal_X6_refused rfl rfl rfl (by decide +kernel) ⟨Nat.le_of_ble_eq_true rfl, Nat.le_of_ble_eq_true rfl⟩) ⟨wPre_blind, va_recv C.1 w.1 (ci := 6) (q0 := 0) rfl rfl, wPre_at C w [0] rfl rfl⟩ rfl rfl hl.1 rfl (lv_room (Nat.le_of_ble_eq_true rfl)) dX6_refusal_28 ⟨Nat.le_of_ble_eq_true rfl, Nat.le_of_ble_eq_true rfl⟩) (fun r28 u28 H locs h28 w => ?_)
      have w : Wd G _ s [(aG, .inr (6, [.ref aRd, .ref aC, .ref aD, .ref aL, .ref aM, .ref aS, .int nB, .int (nN + 1), .int nF])), (aC, .inr (0, [.int cT, .int cI, .int cG, .int cO, .int cK, .int cP, .int cQ, .ref aK, .ref aX, .ref aY, .ref aZ]))] H locs := w
      have w : Wd G (va_A [(aG, .inr (6, [.ref aRd, .ref aC, .ref aD, .ref aL, .ref aM, .ref aS, .int nB, .int nN, .int nF])), (aC, .inr (0, [.int cT, .int cI, .int cG, .int cO, .int cK, .int cP, .int cQ, .ref aK, .ref aX, .ref aY, .ref aZ]))] sz) s [(aG, .inr (6, [.ref aRd, .ref aC, .ref aD, .ref aL, .ref aM, .ref aS, .int (if z0 = 0 then nB + 1 else nB), .int (if z0 = 0 then nN else if cT = 0 then nN + 1 else nN), .int nF])), (aC, .inr (0, [.int cT, .int cI, .int cG, .int cO, .int cK, .int cP, .int cQ, .ref aK, .ref aX, .ref aY, .ref aZ]))] H locs := by simp only [if_neg c1, if_pos c18]; exact w
      exact W.iret (v := r28) S.1 S.2.1 hr (fun t ht _ => ⟨⟨r28, (), rfl, by first | (rw [@h7]; simp [refusalF, c1, c18]; done) | (rw [h28]; simp [refusalF, c1, c18]; done) | (simp [refusalF, c1, c18]; done), by rw [ht]; exact w.1, w.2.1⟩, w.2.2.F ht⟩) w.2.2.2.2 dX6_refusal_31
    · refine lv_iconst (v := 0) S.1 S.2.1 dX6_refusal_21 (by decide) ?_
      refine lv_goto (tgt := 31) S.1 S.2.1 dX6_refusal_22 (by decide) ?_
      have w : Wd G (va_A [(aG, .inr (6, [.ref aRd, .ref aC, .ref aD, .ref aL, .ref aM, .ref aS, .int nB, .int nN, .int nF])), (aC, .inr (0, [.int cT, .int cI, .int cG, .int cO, .int cK, .int cP, .int cQ, .ref aK, .ref aX, .ref aY, .ref aZ]))] sz) s [(aG, .inr (6, [.ref aRd, .ref aC, .ref aD, .ref aL, .ref aM, .ref aS, .int (if z0 = 0 then nB + 1 else nB), .int (if z0 = 0 then nN else if cT = 0 then nN + 1 else nN), .int nF])), (aC, .inr (0, [.int cT, .int cI, .int cG, .int cO, .int cK, .int cP, .int cQ, .ref aK, .ref aX, .ref aY, .ref aZ]))] s.heap [] := by simp only [if_neg c1, if_neg c18]; exact w
      exact W.iret (v := 0) S.1 S.2.1 hr (fun t ht _ => ⟨⟨0, (), rfl, by first | (rw [@h7]; simp [refusalF, c1, c18]; done) | (rw [@h28]; simp [refusalF, c1, c18]; done) | (simp [refusalF, c1, c18]; done), by rw [ht]; exact w.1, w.2.1⟩, w.2.2.F ht⟩) w.2.2.2.2 dX6_refusal_31
  · refine lv_aload_n S.1 S.2.1 dX6_refusal_4 rfl (lv_at hl 0 rfl) ?_
    refine lv_bipush (v := (-2)) S.1 S.2.1 dX6_refusal_5 (by decide) ?_
    refine cq_i C w [0] [1] [1, 0] (wr := [(aC, .inr (0, [.int cT, .int cI, .int cG, .int cO, .int cK, .int cP, .int cQ, .ref aK, .ref aX, .ref aY, .ref aZ]))]) (w' := fun u : Unit => [(aG, .inr (6, [.ref aRd, .ref aC, .ref aD, .ref aL, .ref aM, .ref aS, .int (nB + 1), .int nN, .int nF]))]) (ws2 := fun u : Unit => [(aG, .inr (6, [.ref aRd, .ref aC, .ref aD, .ref aL, .ref aM, .ref aS, .int (nB + 1), .int nN, .int nF])), (aC, .inr (0, [.int cT, .int cI, .int cG, .int cO, .int cK, .int cP, .int cQ, .ref aK, .ref aX, .ref aY, .ref aZ]))]) rfl rfl rfl (by decide) rfl (fun _ => rfl) (va_runV (As := [.int (-2)]) (rest := []) S (c_X6_refused_B l G aG _ aRd aC aD aL aM aS nB nN nF) (cwV 1 S.2.2.2.2 gX6_refusal_X6_refused rfl rfl rfl (by decide +kernel) ⟨Nat.le_of_ble_eq_true rfl, Nat.le_of_ble_eq_true rfl⟩) ⟨wPre_blind, va_recv C.1 w.1 (ci := 6) (q0 := 0) rfl rfl, wPre_at C w [0] rfl rfl⟩ rfl rfl hl.1 rfl (lv_room (Nat.le_of_ble_eq_true rfl)) dX6_refusal_7 ⟨Nat.le_of_ble_eq_true rfl, Nat.le_of_ble_eq_true rfl⟩) (fun r7 u7 H locs h7 w => ?_)
    have w : Wd G _ s [(aG, .inr (6, [.ref aRd, .ref aC, .ref aD, .ref aL, .ref aM, .ref aS, .int (nB + 1), .int nN, .int nF])), (aC, .inr (0, [.int cT, .int cI, .int cG, .int cO, .int cK, .int cP, .int cQ, .ref aK, .ref aX, .ref aY, .ref aZ]))] H locs := w
    have w : Wd G (va_A [(aG, .inr (6, [.ref aRd, .ref aC, .ref aD, .ref aL, .ref aM, .ref aS, .int nB, .int nN, .int nF])), (aC, .inr (0, [.int cT, .int cI, .int cG, .int cO, .int cK, .int cP, .int cQ, .ref aK, .ref aX, .ref aY, .ref aZ]))] sz) s [(aG, .inr (6, [.ref aRd, .ref aC, .ref aD, .ref aL, .ref aM, .ref aS, .int (if z0 = 0 then nB + 1 else nB), .int (if z0 = 0 then nN else if cT = 0 then nN + 1 else nN), .int nF])), (aC, .inr (0, [.int cT, .int cI, .int cG, .int cO, .int cK, .int cP, .int cQ, .ref aK, .ref aX, .ref aY, .ref aZ]))] H locs := by simp only [if_pos c1]; exact w
    exact W.iret (v := r7) S.1 S.2.1 hr (fun t ht _ => ⟨⟨r7, (), rfl, by first | (rw [h7]; simp [refusalF, c1]; done) | (rw [@h28]; simp [refusalF, c1]; done) | (simp [refusalF, c1]; done), by rw [ht]; exact w.1, w.2.1⟩, w.2.2.F ht⟩) w.2.2.2.2 dX6_refusal_10
