theorem im_X0_usesOf_X0 : ∀ w ∈ u_ws RX0 TX0 11, w ∈ wsX0_usesOf := by decide +kernel
set_option maxHeartbeats 4000000 in
set_option maxRecDepth 100000 in
theorem c_X0_usesOf (l : Launch) (G : GT) (aC aX aY aZ : Nat) (sz : Nat) (cT cI cG cO cK cP cQ : Int32) (aK : Nat) (fX fY fZ : Nat → Int32) (i0 : Int32) : Met l yX0_usesOf wsX0_usesOf ({ frames := 2, cells := 0, slots := 0, locals := 42 }) (va_Pc [.ref aC, .int i0] (wPre G [(aC, .inr (0, [.int cT, .int cI, .int cG, .int cO, .int cK, .int cP, .int cQ, .ref aK, .ref aX, .ref aY, .ref aZ])), (aX, .inl (G.2.1 2, 12, .inl fX)), (aY, .inl (G.2.1 2, 12, .inl fY)), (aZ, .inl (G.2.1 2, 7, .inl fZ))] sz)) (vp_Si (fun r : Int32 => r = (usesF cG cO fX fY fZ i0))) 0 0 (fun _ => False) := by
  refine met_go (cc := cX0_usesOf) (maxL := 4) (ret := (some .int)) (own := RX0) (by decide) rfl rfl (Nat.le_of_ble_eq_true rfl) ?_
  intro p e s m below meth c ls S hr hlocks hname hsz C w hl
  have hl : lv_has ls 4 [(0, .ref aC), (1, .int i0)] := hl
  refine lv_iconst (v := 0) S.1 S.2.1 dX0_usesOf_0 (by decide) ?_
  refine lv_istore_n (lv' := [(2, .int 0), (0, .ref aC), (1, .int i0)]) S.1 S.2.1 dX0_usesOf_1 rfl hl (by decide) rfl (fun ls hl => ?_)
  refine lv_iconst (v := 0) S.1 S.2.1 dX0_usesOf_2 (by decide) ?_
  refine lv_istore_n (lv' := [(3, .int 0), (2, .int 0), (0, .ref aC), (1, .int i0)]) S.1 S.2.1 dX0_usesOf_3 rfl hl (by decide) rfl (fun ls hl => ?_)
  refine w_loopS (σ := Nat) (nL := 4) 4 (fun x4 => (cG).toNatClampNeg - x4) (fun x4 => x4 ≤ (cG).toNatClampNeg) (fun x4 => [(3, .int (nI x4)), (2, .int (foldF (usesF1 fX fY i0) x4 0)), (0, .ref aC), (1, .int i0)]) (fun _ => []) ?_ 0 ls (Nat.zero_le _) (lv_sub hl [0, 1, 2, 3] rfl)
  intro x4 ls hI4 hl ih4
  have hl : lv_has ls 4 [(3, .int (nI x4)), (2, .int (foldF (usesF1 fX fY i0) x4 0)), (0, .ref aC), (1, .int i0)] := hl
  refine lv_iload_n S.1 S.2.1 dX0_usesOf_4 rfl (lv_at hl 0 rfl) ?_
  refine lv_aload_n S.1 S.2.1 dX0_usesOf_5 rfl (lv_at hl 2 rfl) ?_
  refine w_get S C w (CC := RX0) (T := TX0) (N := 11) (ref := "GateSums$Circuit") im_X0_usesOf_X0 0 rfl rfl 2 (by decide) (List.mem_of_getElem? (i := 1) rfl) (fun _ h => h) rfl dX0_usesOf_6 ?_
  refine lv_icmp_ge (tgt := 44) S.1 S.2.1 dX0_usesOf_9 (by decide) (fun c9 => ?_) (fun c9 => ?_)
  · refine lv_iconst (v := 0) S.1 S.2.1 dX0_usesOf_44 (by decide) ?_
    refine lv_istore_n (lv' := [(3, .int 0), (2, .int (foldF (usesF1 fX fY i0) x4 0)), (0, .ref aC), (1, .int i0)]) S.1 S.2.1 dX0_usesOf_45 rfl hl (by decide) rfl (fun ls hl => ?_)
    rw [← (show (cG).toNatClampNeg = x4 by have := cge (by have := cl_lt (cG); omega) c9; omega)] at hl
    refine w_loopS (σ := Nat) (nL := 4) 46 (fun x46 => (cO).toNatClampNeg - x46) (fun x46 => x46 ≤ (cO).toNatClampNeg) (fun x46 => [(3, .int (nI x46)), (2, .int (foldF (usesF2 fZ i0) x46 (foldF (usesF1 fX fY i0) cG.toNatClampNeg 0))), (0, .ref aC), (1, .int i0)]) (fun _ => []) ?_ 0 ls (Nat.zero_le _) (lv_sub hl [0, 1, 2, 3] rfl)
    intro x46 ls hI46 hl ih46
    have hl : lv_has ls 4 [(3, .int (nI x46)), (2, .int (foldF (usesF2 fZ i0) x46 (foldF (usesF1 fX fY i0) cG.toNatClampNeg 0))), (0, .ref aC), (1, .int i0)] := hl
    refine lv_iload_n S.1 S.2.1 dX0_usesOf_46 rfl (lv_at hl 0 rfl) ?_
    refine lv_aload_n S.1 S.2.1 dX0_usesOf_47 rfl (lv_at hl 2 rfl) ?_
    refine w_get S C w (CC := RX0) (T := TX0) (N := 11) (ref := "GateSums$Circuit") im_X0_usesOf_X0 0 rfl rfl 3 (by decide) (List.mem_of_getElem? (i := 2) rfl) (fun _ h => h) rfl dX0_usesOf_48 ?_
    refine lv_icmp_ge (tgt := 77) S.1 S.2.1 dX0_usesOf_51 (by decide) (fun c51 => ?_) (fun c51 => ?_)
    · refine lv_iload_n S.1 S.2.1 dX0_usesOf_77 rfl (lv_at hl 1 rfl) ?_
      exact W.iret (v := (foldF (usesF2 fZ i0) x46 (foldF (usesF1 fX fY i0) cG.toNatClampNeg 0))) S.1 S.2.1 hr (fun t ht _ => ⟨(foldF (usesF2 fZ i0) x46 (foldF (usesF1 fX fY i0) cG.toNatClampNeg 0)), rfl, by unfold usesF; rw [(show (cO).toNatClampNeg = x46 by have := cge (by have := cl_lt (cO); omega) c51; omega)], ht⟩) (fun q h => absurd h List.not_mem_nil) dX0_usesOf_78
    · refine lv_iload_n S.1 S.2.1 dX0_usesOf_54 rfl (lv_at hl 1 rfl) ?_
      refine lv_aload_n S.1 S.2.1 dX0_usesOf_55 rfl (lv_at hl 2 rfl) ?_
      refine lv_iload_n S.1 S.2.1 dX0_usesOf_56 rfl (lv_at hl 0 rfl) ?_
      refine cs_i (va_runV (As := [.int (nI x46)]) (rest := [.int (foldF (usesF2 fZ i0) x46 (foldF (usesF1 fX fY i0) cG.toNatClampNeg 0))]) S (c_X0_outputAt l G aC aZ _ cT cI cG cO cK cP cQ aK aX aY fZ (nI x46)) (cwV 1 S.2.2.2.2 gX0_usesOf_X0_outputAt rfl rfl rfl (by decide +kernel) ⟨Nat.le_of_ble_eq_true rfl, Nat.le_of_ble_eq_true rfl⟩) ⟨wPre_blind, va_recv C.1 w.1 (ci := 0) (q0 := 0) rfl rfl, wPre_at C w [0, 3] rfl rfl⟩ rfl rfl hl.1 rfl (lv_room (Nat.le_of_ble_eq_true rfl)) dX0_usesOf_57 ⟨Nat.le_of_ble_eq_true rfl, Nat.le_of_ble_eq_true rfl⟩) (fun r57 h57 => ?_)
      refine w_topi (y := (atF fZ 7 (nI x46))) h57 ?_
      refine w_joini 69 [.int (foldF (usesF2 fZ i0) x46 (foldF (usesF1 fX fY i0) cG.toNatClampNeg 0))] (fun z69 => z69 = if atF fZ 7 (nI x46) = i0 then 1 else 0) (fun z69 hz69 => ?_) (fun J69 => ?_)
      · refine w_topi (y := (if atF fZ 7 (nI x46) = i0 then 1 else 0)) (hz69) ?_
        refine lv_iadd S.1 S.2.1 dX0_usesOf_69 ?_
        refine lv_istore_n (lv' := [(2, .int ((foldF (usesF2 fZ i0) x46 (foldF (usesF1 fX fY i0) cG.toNatClampNeg 0)) + (if atF fZ 7 (nI x46) = i0 then 1 else 0))), (3, .int (nI x46)), (0, .ref aC), (1, .int i0)]) S.1 S.2.1 dX0_usesOf_70 rfl hl (by decide) rfl (fun ls hl => ?_)
        refine lv_iinc (v := (nI (x46 + 1))) (lv' := [(3, .int (nI (x46 + 1))), (2, .int ((foldF (usesF2 fZ i0) x46 (foldF (usesF1 fX fY i0) cG.toNatClampNeg 0)) + (if atF fZ 7 (nI x46) = i0 then 1 else 0))), (0, .ref aC), (1, .int i0)]) S.1 S.2.1 dX0_usesOf_71 hl (k := 1) rfl (nI_1 _) (by decide) rfl (fun ls hl => ?_)
        refine lv_goto (tgt := 46) S.1 S.2.1 dX0_usesOf_74 (by decide) ?_
        exact ih46 (x46 + 1) ls (by have := clt (by have := cl_lt (cO); omega) c51; omega) (by have := clt (by have := cl_lt (cO); omega) c51; omega) (lv_sub hl [0, 1, 2, 3] rfl)
      · refine lv_iload_n S.1 S.2.1 dX0_usesOf_60 rfl (lv_at hl 3 rfl) ?_
        refine lv_icmp_ne (tgt := 68) S.1 S.2.1 dX0_usesOf_61 (by decide) (fun c61 => ?_) (fun c61 => ?_)
        · refine lv_iconst (v := 0) S.1 S.2.1 dX0_usesOf_68 (by decide) ?_
          exact J69 0 (by simp only [if_pos c9, if_neg c51, if_neg c61])
        · refine lv_iconst (v := 1) S.1 S.2.1 dX0_usesOf_64 (by decide) ?_
          refine lv_goto (tgt := 69) S.1 S.2.1 dX0_usesOf_65 (by decide) ?_
          exact J69 1 (by simp only [if_pos c9, if_neg c51, if_pos c61])
  · refine lv_iload_n S.1 S.2.1 dX0_usesOf_12 rfl (lv_at hl 1 rfl) ?_
    refine lv_aload_n S.1 S.2.1 dX0_usesOf_13 rfl (lv_at hl 2 rfl) ?_
    refine lv_iload_n S.1 S.2.1 dX0_usesOf_14 rfl (lv_at hl 0 rfl) ?_
    refine cs_i (va_runV (As := [.int (nI x4)]) (rest := [.int (foldF (usesF1 fX fY i0) x4 0)]) S (c_X0_xOf l G aC aX _ cT cI cG cO cK cP cQ aK aY aZ fX (nI x4)) (cwV 1 S.2.2.2.2 gX0_usesOf_X0_xOf rfl rfl rfl (by decide +kernel) ⟨Nat.le_of_ble_eq_true rfl, Nat.le_of_ble_eq_true rfl⟩) ⟨wPre_blind, va_recv C.1 w.1 (ci := 0) (q0 := 0) rfl rfl, wPre_at C w [0, 1] rfl rfl⟩ rfl rfl hl.1 rfl (lv_room (Nat.le_of_ble_eq_true rfl)) dX0_usesOf_15 ⟨Nat.le_of_ble_eq_true rfl, Nat.le_of_ble_eq_true rfl⟩) (fun r15 h15 => ?_)
    refine w_topi (y := (atF fX 12 (nI x4))) h15 ?_
    refine w_joini 36 [.int (foldF (usesF1 fX fY i0) x4 0)] (fun z36 => z36 = if atF fX 12 (nI x4) = i0 then 1 else if atF fY 12 (nI x4) = i0 then 1 else 0) (fun z36 hz36 => ?_) (fun J36 => ?_)
    · refine w_topi (y := (if atF fX 12 (nI x4) = i0 then 1 else if atF fY 12 (nI x4) = i0 then 1 else 0)) (hz36) ?_
      refine lv_iadd S.1 S.2.1 dX0_usesOf_36 ?_
      refine lv_istore_n (lv' := [(2, .int ((foldF (usesF1 fX fY i0) x4 0) + (if atF fX 12 (nI x4) = i0 then 1 else if atF fY 12 (nI x4) = i0 then 1 else 0))), (3, .int (nI x4)), (0, .ref aC), (1, .int i0)]) S.1 S.2.1 dX0_usesOf_37 rfl hl (by decide) rfl (fun ls hl => ?_)
      refine lv_iinc (v := (nI (x4 + 1))) (lv' := [(3, .int (nI (x4 + 1))), (2, .int ((foldF (usesF1 fX fY i0) x4 0) + (if atF fX 12 (nI x4) = i0 then 1 else if atF fY 12 (nI x4) = i0 then 1 else 0))), (0, .ref aC), (1, .int i0)]) S.1 S.2.1 dX0_usesOf_38 hl (k := 1) rfl (nI_1 _) (by decide) rfl (fun ls hl => ?_)
      refine lv_goto (tgt := 4) S.1 S.2.1 dX0_usesOf_41 (by decide) ?_
      exact ih4 (x4 + 1) ls (by have := clt (by have := cl_lt (cG); omega) c9; omega) (by have := clt (by have := cl_lt (cG); omega) c9; omega) (lv_sub hl [0, 1, 2, 3] rfl)
    · refine lv_iload_n S.1 S.2.1 dX0_usesOf_18 rfl (lv_at hl 3 rfl) ?_
      refine lv_icmp_eq (tgt := 31) S.1 S.2.1 dX0_usesOf_19 (by decide) (fun c19 => ?_) (fun c19 => ?_)
      · refine lv_iconst (v := 1) S.1 S.2.1 dX0_usesOf_31 (by decide) ?_
        refine lv_goto (tgt := 36) S.1 S.2.1 dX0_usesOf_32 (by decide) ?_
        exact J36 1 (by simp only [if_neg c9, if_pos c19])
      · refine lv_aload_n S.1 S.2.1 dX0_usesOf_22 rfl (lv_at hl 2 rfl) ?_
        refine lv_iload_n S.1 S.2.1 dX0_usesOf_23 rfl (lv_at hl 0 rfl) ?_
        refine cs_i (va_runV (As := [.int (nI x4)]) (rest := [.int (foldF (usesF1 fX fY i0) x4 0)]) S (c_X0_yOf l G aC aY _ cT cI cG cO cK cP cQ aK aX aZ fY (nI x4)) (cwV 1 S.2.2.2.2 gX0_usesOf_X0_yOf rfl rfl rfl (by decide +kernel) ⟨Nat.le_of_ble_eq_true rfl, Nat.le_of_ble_eq_true rfl⟩) ⟨wPre_blind, va_recv C.1 w.1 (ci := 0) (q0 := 0) rfl rfl, wPre_at C w [0, 2] rfl rfl⟩ rfl rfl hl.1 rfl (lv_room (Nat.le_of_ble_eq_true rfl)) dX0_usesOf_24 ⟨Nat.le_of_ble_eq_true rfl, Nat.le_of_ble_eq_true rfl⟩) (fun r24 h24 => ?_)
        refine w_topi (y := (atF fY 12 (nI x4))) h24 ?_
        refine lv_iload_n S.1 S.2.1 dX0_usesOf_27 rfl (lv_at hl 3 rfl) ?_
        refine lv_icmp_ne (tgt := 35) S.1 S.2.1 dX0_usesOf_28 (by decide) (fun c28 => ?_) (fun c28 => ?_)
        · refine lv_iconst (v := 0) S.1 S.2.1 dX0_usesOf_35 (by decide) ?_
          exact J36 0 (by simp only [if_neg c9, if_neg c19, if_neg c28])
        · refine lv_iconst (v := 1) S.1 S.2.1 dX0_usesOf_31 (by decide) ?_
          refine lv_goto (tgt := 36) S.1 S.2.1 dX0_usesOf_32 (by decide) ?_
          exact J36 1 (by simp only [if_neg c9, if_neg c19, if_pos c28])
theorem im_X0_taskFor_X0 : ∀ w ∈ u_ws RX0 TX0 11, w ∈ wsX0_taskFor := by decide +kernel
set_option maxHeartbeats 4000000 in
set_option maxRecDepth 100000 in
theorem c_X0_taskFor (l : Launch) (G : GT) (aC : Nat) (sz : Nat) (cT cI cG cO cK cP cQ : Int32) (aK aX aY aZ : Nat) (i0 : Int32) : Met l yX0_taskFor wsX0_taskFor ({ frames := 0, cells := 0, slots := 0, locals := 0 }) (va_Pc [.ref aC, .int i0] (wPre G [(aC, .inr (0, [.int cT, .int cI, .int cG, .int cO, .int cK, .int cP, .int cQ, .ref aK, .ref aX, .ref aY, .ref aZ]))] sz)) (vp_Si (fun r : Int32 => r = (taskForF cK cP cQ i0))) 0 0 (fun _ => False) := by
  refine met_go (cc := cX0_taskFor) (maxL := 4) (ret := (some .int)) (own := RX0) (by decide) rfl rfl (Nat.le_of_ble_eq_true rfl) ?_
  intro p e s m below meth c ls S hr hlocks hname hsz C w hl
  have hl : lv_has ls 4 [(0, .ref aC), (1, .int i0)] := hl
  refine lv_iload_n S.1 S.2.1 dX0_taskFor_0 rfl (lv_at hl 1 rfl) ?_
  refine lv_iconst (v := 1) S.1 S.2.1 dX0_taskFor_1 (by decide) ?_
  refine lv_aload_n S.1 S.2.1 dX0_taskFor_2 rfl (lv_at hl 0 rfl) ?_
  refine w_get S C w (CC := RX0) (T := TX0) (N := 11) (ref := "GateSums$Circuit") im_X0_taskFor_X0 0 rfl rfl 5 (by decide) (List.mem_of_getElem? (i := 1) rfl) (fun _ h => h) rfl dX0_taskFor_3 ?_
  refine lv_ishl S.1 S.2.1 dX0_taskFor_6 ?_
  refine lv_iconst (v := 1) S.1 S.2.1 dX0_taskFor_7 (by decide) ?_
  refine lv_isub S.1 S.2.1 dX0_taskFor_8 ?_
  refine lv_iand S.1 S.2.1 dX0_taskFor_9 ?_
  refine lv_istore_n (lv' := [(2, .int (i0 &&& (((1 : Int32) <<< (cP &&& 31)) - 1))), (0, .ref aC), (1, .int i0)]) S.1 S.2.1 dX0_taskFor_10 rfl hl (by decide) rfl (fun ls hl => ?_)
  refine lv_iload_n S.1 S.2.1 dX0_taskFor_11 rfl (lv_at hl 2 rfl) ?_
  refine lv_aload_n S.1 S.2.1 dX0_taskFor_12 rfl (lv_at hl 1 rfl) ?_
  refine w_get S C w (CC := RX0) (T := TX0) (N := 11) (ref := "GateSums$Circuit") im_X0_taskFor_X0 0 rfl rfl 5 (by decide) (List.mem_of_getElem? (i := 1) rfl) (fun _ h => h) rfl dX0_taskFor_13 ?_
  refine lv_ishr S.1 S.2.1 dX0_taskFor_16 ?_
  refine lv_iconst (v := 1) S.1 S.2.1 dX0_taskFor_17 (by decide) ?_
  refine lv_aload_n S.1 S.2.1 dX0_taskFor_18 rfl (lv_at hl 1 rfl) ?_
  refine w_get S C w (CC := RX0) (T := TX0) (N := 11) (ref := "GateSums$Circuit") im_X0_taskFor_X0 0 rfl rfl 6 (by decide) (List.mem_of_getElem? (i := 2) rfl) (fun _ h => h) rfl dX0_taskFor_19 ?_
  refine lv_ishl S.1 S.2.1 dX0_taskFor_22 ?_
  refine lv_iconst (v := 1) S.1 S.2.1 dX0_taskFor_23 (by decide) ?_
  refine lv_isub S.1 S.2.1 dX0_taskFor_24 ?_
  refine lv_iand S.1 S.2.1 dX0_taskFor_25 ?_
  refine lv_istore_n (lv' := [(3, .int ((i0 >>> (cP &&& 31)) &&& (((1 : Int32) <<< (cQ &&& 31)) - 1))), (2, .int (i0 &&& (((1 : Int32) <<< (cP &&& 31)) - 1))), (0, .ref aC), (1, .int i0)]) S.1 S.2.1 dX0_taskFor_26 rfl hl (by decide) rfl (fun ls hl => ?_)
  refine lv_aload_n S.1 S.2.1 dX0_taskFor_27 rfl (lv_at hl 2 rfl) ?_
  refine w_get S C w (CC := RX0) (T := TX0) (N := 11) (ref := "GateSums$Circuit") im_X0_taskFor_X0 0 rfl rfl 4 (by decide) (List.mem_of_getElem? (i := 3) rfl) (fun _ h => h) rfl dX0_taskFor_28 ?_
  rcases sw_cases 0 2 cK.toInt (by decide) with c31 | ⟨c31n, c31l, c31q⟩
  · refine lv_tableOut (tgt := 70) S.1 S.2.1 dX0_taskFor_31 c31 (by decide) ?_
    refine lv_iconst (v := 3) S.1 S.2.1 dX0_taskFor_70 (by decide) ?_
    refine lv_iload_n S.1 S.2.1 dX0_taskFor_71 rfl (lv_at hl 1 rfl) ?_
    refine lv_imul S.1 S.2.1 dX0_taskFor_72 ?_
    refine lv_iload_n S.1 S.2.1 dX0_taskFor_73 rfl (lv_at hl 0 rfl) ?_
    refine lv_isub S.1 S.2.1 dX0_taskFor_74 ?_
    exact W.iret (v := ((3 * (i0 &&& (((1 : Int32) <<< (cP &&& 31)) - 1))) - ((i0 >>> (cP &&& 31)) &&& (((1 : Int32) <<< (cQ &&& 31)) - 1)))) S.1 S.2.1 hr (fun t ht _ => ⟨((3 * (i0 &&& (((1 : Int32) <<< (cP &&& 31)) - 1))) - ((i0 >>> (cP &&& 31)) &&& (((1 : Int32) <<< (cQ &&& 31)) - 1))), rfl, by first | (unfold taskForF tkA tkB; simp only [if_pos c31]; done) | (unfold taskForF tkA tkB; rw [if_neg (by omega), if_pos c31]; done) | (unfold taskForF tkA tkB; rw [if_neg (by omega), if_neg (by omega), if_pos c31]; done) | (unfold taskForF tkA tkB; rw [if_neg (by omega), if_neg (by omega), if_neg (by omega)]; done), ht⟩) (fun q h => absurd h List.not_mem_nil) dX0_taskFor_75
  · have c31l2 : c31n < 3 := by omega
    rcases Nat.lt_or_ge c31n 1 with c31a | c31a
    · have c31e : c31n = 0 := by omega
      subst c31e
      have c31 : cK.toInt = 0 := by omega
      refine lv_tableIn (off := 25) (tgt := 56) S.1 S.2.1 dX0_taskFor_31 (by omega) (by omega) (by rw [c31]; rfl) (by decide) ?_
      refine lv_iload_n S.1 S.2.1 dX0_taskFor_56 rfl (lv_at hl 1 rfl) ?_
      refine lv_iload_n S.1 S.2.1 dX0_taskFor_57 rfl (lv_at hl 0 rfl) ?_
      refine lv_iadd S.1 S.2.1 dX0_taskFor_58 ?_
      exact W.iret (v := ((i0 &&& (((1 : Int32) <<< (cP &&& 31)) - 1)) + ((i0 >>> (cP &&& 31)) &&& (((1 : Int32) <<< (cQ &&& 31)) - 1)))) S.1 S.2.1 hr (fun t ht _ => ⟨((i0 &&& (((1 : Int32) <<< (cP &&& 31)) - 1)) + ((i0 >>> (cP &&& 31)) &&& (((1 : Int32) <<< (cQ &&& 31)) - 1))), rfl, by first | (unfold taskForF tkA tkB; simp only [if_pos c31]; done) | (unfold taskForF tkA tkB; rw [if_neg (by omega), if_pos c31]; done) | (unfold taskForF tkA tkB; rw [if_neg (by omega), if_neg (by omega), if_pos c31]; done) | (unfold taskForF tkA tkB; rw [if_neg (by omega), if_neg (by omega), if_neg (by omega)]; done), ht⟩) (fun q h => absurd h List.not_mem_nil) dX0_taskFor_59
    rcases Nat.lt_or_ge c31n 2 with c31a | c31a
    · have c31e : c31n = 1 := by omega
      subst c31e
      have c31 : cK.toInt = 1 := by omega
      refine lv_tableIn (off := 29) (tgt := 60) S.1 S.2.1 dX0_taskFor_31 (by omega) (by omega) (by rw [c31]; rfl) (by decide) ?_
      refine lv_iload_n S.1 S.2.1 dX0_taskFor_60 rfl (lv_at hl 1 rfl) ?_
      refine lv_iload_n S.1 S.2.1 dX0_taskFor_61 rfl (lv_at hl 0 rfl) ?_
      refine lv_imul S.1 S.2.1 dX0_taskFor_62 ?_
      exact W.iret (v := ((i0 &&& (((1 : Int32) <<< (cP &&& 31)) - 1)) * ((i0 >>> (cP &&& 31)) &&& (((1 : Int32) <<< (cQ &&& 31)) - 1)))) S.1 S.2.1 hr (fun t ht _ => ⟨((i0 &&& (((1 : Int32) <<< (cP &&& 31)) - 1)) * ((i0 >>> (cP &&& 31)) &&& (((1 : Int32) <<< (cQ &&& 31)) - 1))), rfl, by first | (unfold taskForF tkA tkB; simp only [if_pos c31]; done) | (unfold taskForF tkA tkB; rw [if_neg (by omega), if_pos c31]; done) | (unfold taskForF tkA tkB; rw [if_neg (by omega), if_neg (by omega), if_pos c31]; done) | (unfold taskForF tkA tkB; rw [if_neg (by omega), if_neg (by omega), if_neg (by omega)]; done), ht⟩) (fun q h => absurd h List.not_mem_nil) dX0_taskFor_63
    have c31e : c31n = 2 := by omega
    subst c31e
    have c31 : cK.toInt = 2 := by omega
    refine lv_tableIn (off := 33) (tgt := 64) S.1 S.2.1 dX0_taskFor_31 (by omega) (by omega) (by rw [c31]; rfl) (by decide) ?_
    refine lv_iload_n S.1 S.2.1 dX0_taskFor_64 rfl (lv_at hl 1 rfl) ?_
    refine lv_iload_n S.1 S.2.1 dX0_taskFor_65 rfl (lv_at hl 1 rfl) ?_
    refine lv_imul S.1 S.2.1 dX0_taskFor_66 ?_
    refine lv_iload_n S.1 S.2.1 dX0_taskFor_67 rfl (lv_at hl 0 rfl) ?_
    refine lv_iadd S.1 S.2.1 dX0_taskFor_68 ?_
    exact W.iret (v := (((i0 &&& (((1 : Int32) <<< (cP &&& 31)) - 1)) * (i0 &&& (((1 : Int32) <<< (cP &&& 31)) - 1))) + ((i0 >>> (cP &&& 31)) &&& (((1 : Int32) <<< (cQ &&& 31)) - 1)))) S.1 S.2.1 hr (fun t ht _ => ⟨(((i0 &&& (((1 : Int32) <<< (cP &&& 31)) - 1)) * (i0 &&& (((1 : Int32) <<< (cP &&& 31)) - 1))) + ((i0 >>> (cP &&& 31)) &&& (((1 : Int32) <<< (cQ &&& 31)) - 1))), rfl, by first | (unfold taskForF tkA tkB; simp only [if_pos c31]; done) | (unfold taskForF tkA tkB; rw [if_neg (by omega), if_pos c31]; done) | (unfold taskForF tkA tkB; rw [if_neg (by omega), if_neg (by omega), if_pos c31]; done) | (unfold taskForF tkA tkB; rw [if_neg (by omega), if_neg (by omega), if_neg (by omega)]; done), ht⟩) (fun q h => absurd h List.not_mem_nil) dX0_taskFor_69
set_option maxHeartbeats 4000000 in
set_option maxRecDepth 100000 in
theorem c_X1_bit (l : Launch) (G : GT) (aL aW : Nat) (sz : Nat) (gW : Nat → Int64) (i0 v0 : Int32) : Met l yX1_bit wsX1_bit ({ frames := 1, cells := 0, slots := 0, locals := 21 }) (va_Pc [.ref aL, .int i0, .int v0] (wPre G [(aL, .inr (1, [.ref aW])), (aW, .inl (G.2.1 3, 18, .inr (.inl gW)))] sz)) (vp_Si (fun r : Int32 => r = (bitF gW i0 v0))) 0 0 (fun _ => False) := by
  refine met_go (cc := cX1_bit) (maxL := 3) (ret := (some .int)) (own := RX1) (by decide) rfl rfl (Nat.le_of_ble_eq_true rfl) ?_
  intro p e s m below meth c ls S hr hlocks hname hsz C w hl
  have hl : lv_has ls 3 [(0, .ref aL), (1, .int i0), (2, .int v0)] := hl
  refine lv_aload_n S.1 S.2.1 dX1_bit_0 rfl (lv_at hl 0 rfl) ?_
  refine lv_iload_n S.1 S.2.1 dX1_bit_1 rfl (lv_at hl 1 rfl) ?_
  refine cs_l (va_runV (As := [.int i0]) (rest := []) S (c_X1_row l G aL aW _ gW i0) (cwV 1 S.2.2.2.2 gX1_bit_X1_row rfl rfl rfl (by decide +kernel) ⟨Nat.le_of_ble_eq_true rfl, Nat.le_of_ble_eq_true rfl⟩) ⟨wPre_blind, va_recv C.1 w.1 (ci := 1) (q0 := 0) rfl rfl, wPre_at C w [0, 1] rfl rfl⟩ rfl rfl hl.1 rfl (lv_room (Nat.le_of_ble_eq_true rfl)) dX1_bit_2 ⟨Nat.le_of_ble_eq_true rfl, Nat.le_of_ble_eq_true rfl⟩) (fun r2 h2 => ?_)
  refine w_topl (y := (rowF gW i0)) h2 ?_
  refine lv_iload_n S.1 S.2.1 dX1_bit_5 rfl (lv_at hl 2 rfl) ?_
  refine lv_lushr (v := (((rowF gW i0).toUInt64 >>> (v0.toInt64.toUInt64 &&& Int64.toUInt64 63)).toInt64)) S.1 S.2.1 dX1_bit_6 rfl ?_
  refine lv_lconst (v := 1) S.1 S.2.1 dX1_bit_7 (by decide) ?_
  refine lv_land S.1 S.2.1 dX1_bit_8 ?_
  refine lv_l2i (v := (((((rowF gW i0).toUInt64 >>> (v0.toInt64.toUInt64 &&& Int64.toUInt64 63)).toInt64) &&& 1).toInt32)) S.1 S.2.1 dX1_bit_9 rfl ?_
  exact W.iret (v := (((((rowF gW i0).toUInt64 >>> (v0.toInt64.toUInt64 &&& Int64.toUInt64 63)).toInt64) &&& 1).toInt32)) S.1 S.2.1 hr (fun t ht _ => ⟨(((((rowF gW i0).toUInt64 >>> (v0.toInt64.toUInt64 &&& Int64.toUInt64 63)).toInt64) &&& 1).toInt32), rfl, rfl, ht⟩) (fun q h => absurd h List.not_mem_nil) dX1_bit_10
theorem im_X1_outputsFor_X0 : ∀ w ∈ u_ws RX0 TX0 11, w ∈ wsX1_outputsFor := by decide +kernel
set_option maxHeartbeats 4000000 in
set_option maxRecDepth 100000 in
theorem c_X1_outputsFor (l : Launch) (G : GT) (aL aW aC aZ : Nat) (sz : Nat) (gW : Nat → Int64) (cT cI cG cO cK cP cQ : Int32) (aK aX aY : Nat) (fZ : Nat → Int32) (v0 : Int32) : Met l yX1_outputsFor wsX1_outputsFor ({ frames := 2, cells := 0, slots := 0, locals := 43 }) (va_Pc [.ref aL, .ref aC, .int v0] (wPre G [(aL, .inr (1, [.ref aW])), (aW, .inl (G.2.1 3, 18, .inr (.inl gW))), (aC, .inr (0, [.int cT, .int cI, .int cG, .int cO, .int cK, .int cP, .int cQ, .ref aK, .ref aX, .ref aY, .ref aZ])), (aZ, .inl (G.2.1 2, 7, .inl fZ))] sz)) (vp_Si (fun r : Int32 => r = (outForF gW cO fZ v0))) 0 0 (fun _ => False) := by
  refine met_go (cc := cX1_outputsFor) (maxL := 5) (ret := (some .int)) (own := RX1) (by decide) rfl rfl (Nat.le_of_ble_eq_true rfl) ?_
  intro p e s m below meth c ls S hr hlocks hname hsz C w hl
  have hl : lv_has ls 5 [(0, .ref aL), (1, .ref aC), (2, .int v0)] := hl
  refine lv_iconst (v := 0) S.1 S.2.1 dX1_outputsFor_0 (by decide) ?_
  refine lv_istore_n (lv' := [(3, .int 0), (0, .ref aL), (1, .ref aC), (2, .int v0)]) S.1 S.2.1 dX1_outputsFor_1 rfl hl (by decide) rfl (fun ls hl => ?_)
  refine lv_iconst (v := 0) S.1 S.2.1 dX1_outputsFor_2 (by decide) ?_
  refine lv_istore (lv' := [(4, .int 0), (3, .int 0), (0, .ref aL), (1, .ref aC), (2, .int v0)]) S.1 S.2.1 dX1_outputsFor_3 hl (by decide) rfl (fun ls hl => ?_)
  refine w_loopS (σ := Nat) (nL := 5) 5 (fun x5 => (cO).toNatClampNeg - x5) (fun x5 => x5 ≤ (cO).toNatClampNeg) (fun x5 => [(4, .int (nI x5)), (3, .int (foldF (outF1 gW fZ v0) x5 0)), (0, .ref aL), (1, .ref aC), (2, .int v0)]) (fun _ => []) ?_ 0 ls (Nat.zero_le _) (lv_sub hl [0, 1, 2, 3, 4] rfl)
  intro x5 ls hI5 hl ih5
  have hl : lv_has ls 5 [(4, .int (nI x5)), (3, .int (foldF (outF1 gW fZ v0) x5 0)), (0, .ref aL), (1, .ref aC), (2, .int v0)] := hl
  refine lv_iload S.1 S.2.1 dX1_outputsFor_5 (lv_at hl 0 rfl) ?_
  refine lv_aload_n S.1 S.2.1 dX1_outputsFor_7 rfl (lv_at hl 3 rfl) ?_
  refine w_get S C w (CC := RX0) (T := TX0) (N := 11) (ref := "GateSums$Circuit") im_X1_outputsFor_X0 2 rfl rfl 3 (by decide) (List.mem_of_getElem? (i := 1) rfl) (fun _ h => h) rfl dX1_outputsFor_8 ?_
  refine lv_icmp_ge (tgt := 37) S.1 S.2.1 dX1_outputsFor_11 (by decide) (fun c11 => ?_) (fun c11 => ?_)
  · refine lv_iload_n S.1 S.2.1 dX1_outputsFor_37 rfl (lv_at hl 1 rfl) ?_
    exact W.iret (v := (foldF (outF1 gW fZ v0) x5 0)) S.1 S.2.1 hr (fun t ht _ => ⟨(foldF (outF1 gW fZ v0) x5 0), rfl, by unfold outForF; rw [(show (cO).toNatClampNeg = x5 by have := cge (by have := cl_lt (cO); omega) c11; omega)], ht⟩) (fun q h => absurd h List.not_mem_nil) dX1_outputsFor_38
  · refine lv_iload_n S.1 S.2.1 dX1_outputsFor_14 rfl (lv_at hl 1 rfl) ?_
    refine lv_aload_n S.1 S.2.1 dX1_outputsFor_15 rfl (lv_at hl 2 rfl) ?_
    refine lv_aload_n S.1 S.2.1 dX1_outputsFor_16 rfl (lv_at hl 3 rfl) ?_
    refine lv_iload S.1 S.2.1 dX1_outputsFor_17 (lv_at hl 0 rfl) ?_
    refine cs_i (va_runV (As := [.int (nI x5)]) (rest := [.ref aL, .int (foldF (outF1 gW fZ v0) x5 0)]) S (c_X0_outputAt l G aC aZ _ cT cI cG cO cK cP cQ aK aX aY fZ (nI x5)) (cwV 1 S.2.2.2.2 gX1_outputsFor_X0_outputAt rfl rfl rfl (by decide +kernel) ⟨Nat.le_of_ble_eq_true rfl, Nat.le_of_ble_eq_true rfl⟩) ⟨wPre_blind, va_recv C.1 w.1 (ci := 0) (q0 := 2) rfl rfl, wPre_at C w [2, 3] rfl rfl⟩ rfl rfl hl.1 rfl (lv_room (Nat.le_of_ble_eq_true rfl)) dX1_outputsFor_19 ⟨Nat.le_of_ble_eq_true rfl, Nat.le_of_ble_eq_true rfl⟩) (fun r19 h19 => ?_)
    refine w_topi (y := (atF fZ 7 (nI x5))) h19 ?_
    refine lv_iload_n S.1 S.2.1 dX1_outputsFor_22 rfl (lv_at hl 4 rfl) ?_
    refine cs_i (va_runV (As := [.int (atF fZ 7 (nI x5)), .int v0]) (rest := [.int (foldF (outF1 gW fZ v0) x5 0)]) S (c_X1_bit l G aL aW _ gW (atF fZ 7 (nI x5)) v0) (cwV 2 S.2.2.2.2 gX1_outputsFor_X1_bit rfl rfl rfl (by decide +kernel) ⟨Nat.le_of_ble_eq_true rfl, Nat.le_of_ble_eq_true rfl⟩) ⟨wPre_blind, va_recv C.1 w.1 (ci := 1) (q0 := 0) rfl rfl, wPre_at C w [0, 1] rfl rfl⟩ rfl rfl hl.1 rfl (lv_room (Nat.le_of_ble_eq_true rfl)) dX1_outputsFor_23 ⟨Nat.le_of_ble_eq_true rfl, Nat.le_of_ble_eq_true rfl⟩) (fun r23 h23 => ?_)
    refine w_topi (y := (bitF gW (atF fZ 7 (nI x5)) v0)) h23 ?_
    refine lv_iload S.1 S.2.1 dX1_outputsFor_26 (lv_at hl 0 rfl) ?_
    refine lv_ishl S.1 S.2.1 dX1_outputsFor_28 ?_
    refine lv_iadd S.1 S.2.1 dX1_outputsFor_29 ?_
    refine lv_istore_n (lv' := [(3, .int ((foldF (outF1 gW fZ v0) x5 0) + ((bitF gW (atF fZ 7 (nI x5)) v0) <<< ((nI x5) &&& 31)))), (4, .int (nI x5)), (0, .ref aL), (1, .ref aC), (2, .int v0)]) S.1 S.2.1 dX1_outputsFor_30 rfl hl (by decide) rfl (fun ls hl => ?_)
    refine lv_iinc (v := (nI (x5 + 1))) (lv' := [(4, .int (nI (x5 + 1))), (3, .int ((foldF (outF1 gW fZ v0) x5 0) + ((bitF gW (atF fZ 7 (nI x5)) v0) <<< ((nI x5) &&& 31)))), (0, .ref aL), (1, .ref aC), (2, .int v0)]) S.1 S.2.1 dX1_outputsFor_31 hl (k := 1) rfl (nI_1 _) (by decide) rfl (fun ls hl => ?_)
    refine lv_goto (tgt := 5) S.1 S.2.1 dX1_outputsFor_34 (by decide) ?_
    exact ih5 (x5 + 1) ls (by have := clt (by have := cl_lt (cO); omega) c11; omega) (by have := clt (by have := cl_lt (cO); omega) c11; omega) (lv_sub hl [0, 1, 2, 3, 4] rfl)
set_option maxHeartbeats 4000000 in
set_option maxRecDepth 100000 in
theorem c_X1_trueSignals (l : Launch) (G : GT) (aL aW aC : Nat) (sz : Nat) (gW : Nat → Int64) (cT cI cG cO cK cP cQ : Int32) (aK aX aY aZ : Nat) (v0 : Int32) : Met l yX1_trueSignals wsX1_trueSignals ({ frames := 2, cells := 0, slots := 0, locals := 43 }) (va_Pc [.ref aL, .ref aC, .int v0] (wPre G [(aL, .inr (1, [.ref aW])), (aW, .inl (G.2.1 3, 18, .inr (.inl gW))), (aC, .inr (0, [.int cT, .int cI, .int cG, .int cO, .int cK, .int cP, .int cQ, .ref aK, .ref aX, .ref aY, .ref aZ]))] sz)) (vp_Si (fun r : Int32 => r = (trueF gW (cI + cG) v0))) 0 0 (fun _ => False) := by
  refine met_go (cc := cX1_trueSignals) (maxL := 5) (ret := (some .int)) (own := RX1) (by decide) rfl rfl (Nat.le_of_ble_eq_true rfl) ?_
  intro p e s m below meth c ls S hr hlocks hname hsz C w hl
  have hl : lv_has ls 5 [(0, .ref aL), (1, .ref aC), (2, .int v0)] := hl
  refine lv_iconst (v := 0) S.1 S.2.1 dX1_trueSignals_0 (by decide) ?_
  refine lv_istore_n (lv' := [(3, .int 0), (0, .ref aL), (1, .ref aC), (2, .int v0)]) S.1 S.2.1 dX1_trueSignals_1 rfl hl (by decide) rfl (fun ls hl => ?_)
  refine lv_iconst (v := 0) S.1 S.2.1 dX1_trueSignals_2 (by decide) ?_
  refine lv_istore (lv' := [(4, .int 0), (3, .int 0), (0, .ref aL), (1, .ref aC), (2, .int v0)]) S.1 S.2.1 dX1_trueSignals_3 hl (by decide) rfl (fun ls hl => ?_)
  refine w_loopS (σ := Nat) (nL := 5) 5 (fun x5 => ((cI + cG)).toNatClampNeg - x5) (fun x5 => x5 ≤ ((cI + cG)).toNatClampNeg) (fun x5 => [(4, .int (nI x5)), (3, .int (foldF (trueF1 gW v0) x5 0)), (0, .ref aL), (1, .ref aC), (2, .int v0)]) (fun _ => []) ?_ 0 ls (Nat.zero_le _) (lv_sub hl [0, 1, 2, 3, 4] rfl)
  intro x5 ls hI5 hl ih5
  have hl : lv_has ls 5 [(4, .int (nI x5)), (3, .int (foldF (trueF1 gW v0) x5 0)), (0, .ref aL), (1, .ref aC), (2, .int v0)] := hl
  refine lv_iload S.1 S.2.1 dX1_trueSignals_5 (lv_at hl 0 rfl) ?_
  refine lv_aload_n S.1 S.2.1 dX1_trueSignals_7 rfl (lv_at hl 3 rfl) ?_
  refine cs_i (va_runV (As := []) (rest := [.int (nI x5)]) S (c_X0_signals l G aC _ cT cI cG cO cK cP cQ aK aX aY aZ) (cwV 0 S.2.2.2.2 gX1_trueSignals_X0_signals rfl rfl rfl (by decide +kernel) ⟨Nat.le_of_ble_eq_true rfl, Nat.le_of_ble_eq_true rfl⟩) ⟨wPre_blind, va_recv C.1 w.1 (ci := 0) (q0 := 2) rfl rfl, wPre_at C w [2] rfl rfl⟩ rfl rfl hl.1 rfl (lv_room (Nat.le_of_ble_eq_true rfl)) dX1_trueSignals_8 ⟨Nat.le_of_ble_eq_true rfl, Nat.le_of_ble_eq_true rfl⟩) (fun r8 h8 => ?_)
  refine w_topi (y := (cI + cG)) h8 ?_
  refine lv_icmp_ge (tgt := 33) S.1 S.2.1 dX1_trueSignals_11 (by decide) (fun c11 => ?_) (fun c11 => ?_)
  · refine lv_iload_n S.1 S.2.1 dX1_trueSignals_33 rfl (lv_at hl 1 rfl) ?_
    exact W.iret (v := (foldF (trueF1 gW v0) x5 0)) S.1 S.2.1 hr (fun t ht _ => ⟨(foldF (trueF1 gW v0) x5 0), rfl, by unfold trueF; rw [(show ((cI + cG)).toNatClampNeg = x5 by have := cge (by have := cl_lt ((cI + cG)); omega) c11; omega)], ht⟩) (fun q h => absurd h List.not_mem_nil) dX1_trueSignals_34
  · refine lv_iload_n S.1 S.2.1 dX1_trueSignals_14 rfl (lv_at hl 1 rfl) ?_
    refine lv_aload_n S.1 S.2.1 dX1_trueSignals_15 rfl (lv_at hl 2 rfl) ?_
    refine lv_iload S.1 S.2.1 dX1_trueSignals_16 (lv_at hl 0 rfl) ?_
    refine lv_iload_n S.1 S.2.1 dX1_trueSignals_18 rfl (lv_at hl 4 rfl) ?_
    refine cs_i (va_runV (As := [.int (nI x5), .int v0]) (rest := [.int (foldF (trueF1 gW v0) x5 0)]) S (c_X1_bit l G aL aW _ gW (nI x5) v0) (cwV 2 S.2.2.2.2 gX1_trueSignals_X1_bit rfl rfl rfl (by decide +kernel) ⟨Nat.le_of_ble_eq_true rfl, Nat.le_of_ble_eq_true rfl⟩) ⟨wPre_blind, va_recv C.1 w.1 (ci := 1) (q0 := 0) rfl rfl, wPre_at C w [0, 1] rfl rfl⟩ rfl rfl hl.1 rfl (lv_room (Nat.le_of_ble_eq_true rfl)) dX1_trueSignals_19 ⟨Nat.le_of_ble_eq_true rfl, Nat.le_of_ble_eq_true rfl⟩) (fun r19 h19 => ?_)
    refine w_topi (y := (bitF gW (nI x5) v0)) h19 ?_
    refine lv_iload S.1 S.2.1 dX1_trueSignals_22 (lv_at hl 0 rfl) ?_
    refine lv_ishl S.1 S.2.1 dX1_trueSignals_24 ?_
    refine lv_ior S.1 S.2.1 dX1_trueSignals_25 ?_
    refine lv_istore_n (lv' := [(3, .int ((foldF (trueF1 gW v0) x5 0) ||| ((bitF gW (nI x5) v0) <<< ((nI x5) &&& 31)))), (4, .int (nI x5)), (0, .ref aL), (1, .ref aC), (2, .int v0)]) S.1 S.2.1 dX1_trueSignals_26 rfl hl (by decide) rfl (fun ls hl => ?_)
    refine lv_iinc (v := (nI (x5 + 1))) (lv' := [(4, .int (nI (x5 + 1))), (3, .int ((foldF (trueF1 gW v0) x5 0) ||| ((bitF gW (nI x5) v0) <<< ((nI x5) &&& 31)))), (0, .ref aL), (1, .ref aC), (2, .int v0)]) S.1 S.2.1 dX1_trueSignals_27 hl (k := 1) rfl (nI_1 _) (by decide) rfl (fun ls hl => ?_)
    refine lv_goto (tgt := 5) S.1 S.2.1 dX1_trueSignals_30 (by decide) ?_
    exact ih5 (x5 + 1) ls (by have := clt (by have := cl_lt ((cI + cG)); omega) c11; omega) (by have := clt (by have := cl_lt ((cI + cG)); omega) c11; omega) (lv_sub hl [0, 1, 2, 3, 4] rfl)
set_option maxHeartbeats 4000000 in
set_option maxRecDepth 100000 in
theorem c_X1_isWrong (l : Launch) (G : GT) (aL aW aC aZ : Nat) (sz : Nat) (gW : Nat → Int64) (cT cI cG cO cK cP cQ : Int32) (aK aX aY : Nat) (fZ : Nat → Int32) (v0 : Int32) : Met l yX1_isWrong wsX1_isWrong ({ frames := 3, cells := 0, slots := 0, locals := 67 }) (va_Pc [.ref aL, .ref aC, .int v0] (wPre G [(aL, .inr (1, [.ref aW])), (aW, .inl (G.2.1 3, 18, .inr (.inl gW))), (aC, .inr (0, [.int cT, .int cI, .int cG, .int cO, .int cK, .int cP, .int cQ, .ref aK, .ref aX, .ref aY, .ref aZ])), (aZ, .inl (G.2.1 2, 7, .inl fZ))] sz)) (vp_Si (fun r : Int32 => r = (isWrongF gW cO cK cP cQ fZ v0))) 0 0 (fun _ => False) := by
  refine met_go (cc := cX1_isWrong) (maxL := 3) (ret := (some .boolean)) (own := RX1) (by decide) rfl rfl (Nat.le_of_ble_eq_true rfl) ?_
  intro p e s m below meth c ls S hr hlocks hname hsz C w hl
  have hl : lv_has ls 3 [(0, .ref aL), (1, .ref aC), (2, .int v0)] := hl
  refine lv_aload_n S.1 S.2.1 dX1_isWrong_0 rfl (lv_at hl 0 rfl) ?_
  refine lv_aload_n S.1 S.2.1 dX1_isWrong_1 rfl (lv_at hl 1 rfl) ?_
  refine lv_iload_n S.1 S.2.1 dX1_isWrong_2 rfl (lv_at hl 2 rfl) ?_
  refine cs_i (va_runV (As := [.ref aC, .int v0]) (rest := []) S (c_X1_outputsFor l G aL aW aC aZ _ gW cT cI cG cO cK cP cQ aK aX aY fZ v0) (cwV 2 S.2.2.2.2 gX1_isWrong_X1_outputsFor rfl rfl rfl (by decide +kernel) ⟨Nat.le_of_ble_eq_true rfl, Nat.le_of_ble_eq_true rfl⟩) ⟨wPre_blind, va_recv C.1 w.1 (ci := 1) (q0 := 0) rfl rfl, wPre_at C w [0, 1, 2, 3] rfl rfl⟩ rfl rfl hl.1 rfl (lv_room (Nat.le_of_ble_eq_true rfl)) dX1_isWrong_3 ⟨Nat.le_of_ble_eq_true rfl, Nat.le_of_ble_eq_true rfl⟩) (fun r3 h3 => ?_)
  refine w_topi (y := (outForF gW cO fZ v0)) h3 ?_
  refine lv_aload_n S.1 S.2.1 dX1_isWrong_6 rfl (lv_at hl 1 rfl) ?_
  refine lv_iload_n S.1 S.2.1 dX1_isWrong_7 rfl (lv_at hl 2 rfl) ?_
  refine cs_i (va_runV (As := [.int v0]) (rest := [.int (outForF gW cO fZ v0)]) S (c_X0_taskFor l G aC _ cT cI cG cO cK cP cQ aK aX aY aZ v0) (cwV 1 S.2.2.2.2 gX1_isWrong_X0_taskFor rfl rfl rfl (by decide +kernel) ⟨Nat.le_of_ble_eq_true rfl, Nat.le_of_ble_eq_true rfl⟩) ⟨wPre_blind, va_recv C.1 w.1 (ci := 0) (q0 := 2) rfl rfl, wPre_at C w [2] rfl rfl⟩ rfl rfl hl.1 rfl (lv_room (Nat.le_of_ble_eq_true rfl)) dX1_isWrong_8 ⟨Nat.le_of_ble_eq_true rfl, Nat.le_of_ble_eq_true rfl⟩) (fun r8 h8 => ?_)
  refine w_topi (y := (taskForF cK cP cQ v0)) h8 ?_
  refine lv_icmp_eq (tgt := 18) S.1 S.2.1 dX1_isWrong_11 (by decide) (fun c11 => ?_) (fun c11 => ?_)
  · refine lv_iconst (v := 0) S.1 S.2.1 dX1_isWrong_18 (by decide) ?_
    exact W.zret (v := 0) S.1 S.2.1 hr (rfl) (fun t ht _ => ⟨0, rfl, by simp only [isWrongF, if_pos c11], ht⟩) (fun q h => absurd h List.not_mem_nil) dX1_isWrong_19
  · refine lv_iconst (v := 1) S.1 S.2.1 dX1_isWrong_14 (by decide) ?_
    refine lv_goto (tgt := 19) S.1 S.2.1 dX1_isWrong_15 (by decide) ?_
    exact W.zret (v := 1) S.1 S.2.1 hr (rfl) (fun t ht _ => ⟨1, rfl, by simp only [isWrongF, if_neg c11], ht⟩) (fun q h => absurd h List.not_mem_nil) dX1_isWrong_19
theorem im_X1_firstWrong_X0 : ∀ w ∈ u_ws RX0 TX0 11, w ∈ wsX1_firstWrong := by decide +kernel
set_option maxHeartbeats 4000000 in
set_option maxRecDepth 100000 in
theorem c_X1_firstWrong (l : Launch) (G : GT) (aL aW aC aZ : Nat) (sz : Nat) (gW : Nat → Int64) (cT cI cG cO cK cP cQ : Int32) (aK aX aY : Nat) (fZ : Nat → Int32) : Met l yX1_firstWrong wsX1_firstWrong ({ frames := 4, cells := 0, slots := 0, locals := 89 }) (va_Pc [.ref aL, .ref aC] (wPre G [(aL, .inr (1, [.ref aW])), (aW, .inl (G.2.1 3, 18, .inr (.inl gW))), (aC, .inr (0, [.int cT, .int cI, .int cG, .int cO, .int cK, .int cP, .int cQ, .ref aK, .ref aX, .ref aY, .ref aZ])), (aZ, .inl (G.2.1 2, 7, .inl fZ))] sz)) (vp_Si (fun r : Int32 => r = (firstW (fun j => isWrongF gW cO cK cP cQ fZ (nI j)) (allN cI) 0))) 0 0 (fun _ => False) := by
  refine met_go (cc := cX1_firstWrong) (maxL := 4) (ret := (some .int)) (own := RX1) (by decide) rfl rfl (Nat.le_of_ble_eq_true rfl) ?_
  intro p e s m below meth c ls S hr hlocks hname hsz C w hl
  have hl : lv_has ls 4 [(0, .ref aL), (1, .ref aC)] := hl
  refine lv_iconst (v := 1) S.1 S.2.1 dX1_firstWrong_0 (by decide) ?_
  refine lv_aload_n S.1 S.2.1 dX1_firstWrong_1 rfl (lv_at hl 1 rfl) ?_
  refine w_get S C w (CC := RX0) (T := TX0) (N := 11) (ref := "GateSums$Circuit") im_X1_firstWrong_X0 2 rfl rfl 1 (by decide) (List.mem_of_getElem? (i := 1) rfl) (fun _ h => h) rfl dX1_firstWrong_2 ?_
  refine lv_ishl S.1 S.2.1 dX1_firstWrong_5 ?_
  refine lv_istore_n (lv' := [(2, .int ((1 : Int32) <<< (cI &&& 31))), (0, .ref aL), (1, .ref aC)]) S.1 S.2.1 dX1_firstWrong_6 rfl hl (by decide) rfl (fun ls hl => ?_)
  refine lv_iconst (v := 0) S.1 S.2.1 dX1_firstWrong_7 (by decide) ?_
  refine lv_istore_n (lv' := [(3, .int 0), (2, .int ((1 : Int32) <<< (cI &&& 31))), (0, .ref aL), (1, .ref aC)]) S.1 S.2.1 dX1_firstWrong_8 rfl hl (by decide) rfl (fun ls hl => ?_)
  refine w_loopS (σ := Nat) (nL := 4) 9 (fun x9 => allN cI - x9) (fun x9 => x9 ≤ allN cI ∧ firstW (fun j => isWrongF gW cO cK cP cQ fZ (nI j)) (allN cI - x9) x9 = firstW (fun j => isWrongF gW cO cK cP cQ fZ (nI j)) (allN cI) 0) (fun x9 => [(3, .int (nI x9)), (2, .int ((1 : Int32) <<< (cI &&& 31))), (0, .ref aL), (1, .ref aC)]) (fun _ => []) ?_ 0 ls (⟨Nat.zero_le _, rfl⟩) (lv_sub hl [0, 1, 2, 3] rfl)
  intro x9 ls hI9 hl ih9
  have hl : lv_has ls 4 [(3, .int (nI x9)), (2, .int ((1 : Int32) <<< (cI &&& 31))), (0, .ref aL), (1, .ref aC)] := hl
  have hj9 : x9 < 2 ^ 31 := by have := allN_lt cI; omega
  refine lv_iload_n S.1 S.2.1 dX1_firstWrong_9 rfl (lv_at hl 0 rfl) ?_
  refine lv_iload_n S.1 S.2.1 dX1_firstWrong_10 rfl (lv_at hl 1 rfl) ?_
  refine lv_icmp_ge (tgt := 31) S.1 S.2.1 dX1_firstWrong_11 (by decide) (fun c11 => ?_) (fun c11 => ?_)
  · refine lv_iconst (v := (-1)) S.1 S.2.1 dX1_firstWrong_31 (by decide) ?_
    exact W.iret (v := (-1)) S.1 S.2.1 hr (fun t ht _ => ⟨(-1), rfl, by have h9 : allN cI ≤ x9 := cge hj9 c11; rw [← hI9.2, show allN cI - x9 = 0 by omega]; rfl, ht⟩) (fun q h => absurd h List.not_mem_nil) dX1_firstWrong_32
  · refine lv_aload_n S.1 S.2.1 dX1_firstWrong_14 rfl (lv_at hl 2 rfl) ?_
    refine lv_aload_n S.1 S.2.1 dX1_firstWrong_15 rfl (lv_at hl 3 rfl) ?_
    refine lv_iload_n S.1 S.2.1 dX1_firstWrong_16 rfl (lv_at hl 0 rfl) ?_
    refine cs_i (va_runV (As := [.ref aC, .int (nI x9)]) (rest := []) S (c_X1_isWrong l G aL aW aC aZ _ gW cT cI cG cO cK cP cQ aK aX aY fZ (nI x9)) (cwV 2 S.2.2.2.2 gX1_firstWrong_X1_isWrong rfl rfl rfl (by decide +kernel) ⟨Nat.le_of_ble_eq_true rfl, Nat.le_of_ble_eq_true rfl⟩) ⟨wPre_blind, va_recv C.1 w.1 (ci := 1) (q0 := 0) rfl rfl, wPre_at C w [0, 1, 2, 3] rfl rfl⟩ rfl rfl hl.1 rfl (lv_room (Nat.le_of_ble_eq_true rfl)) dX1_firstWrong_17 ⟨Nat.le_of_ble_eq_true rfl, Nat.le_of_ble_eq_true rfl⟩) (fun r17 h17 => ?_)
    refine w_topi (y := (isWrongF gW cO cK cP cQ fZ (nI x9))) h17 ?_
    refine lv_if_eq (tgt := 25) S.1 S.2.1 dX1_firstWrong_20 (by decide) (fun c20 => ?_) (fun c20 => ?_)
    · refine lv_iinc (v := (nI (x9 + 1))) (lv' := [(3, .int (nI (x9 + 1))), (2, .int ((1 : Int32) <<< (cI &&& 31))), (0, .ref aL), (1, .ref aC)]) S.1 S.2.1 dX1_firstWrong_25 hl (k := 0) rfl (nI_1 _) (by decide) rfl (fun ls hl => ?_)
      refine lv_goto (tgt := 9) S.1 S.2.1 dX1_firstWrong_28 (by decide) ?_
      have hlt9 : x9 < allN cI := clt hj9 c11
      have he9 : allN cI - x9 = (allN cI - (x9 + 1)) + 1 := by omega
      exact ih9 (x9 + 1) ls (⟨hlt9, by rw [← hI9.2, he9]; exact (if_pos c20).symm⟩) (by omega) (lv_sub hl [0, 1, 2, 3] rfl)
    · refine lv_iload_n S.1 S.2.1 dX1_firstWrong_23 rfl (lv_at hl 0 rfl) ?_
      exact W.iret (v := (nI x9)) S.1 S.2.1 hr (fun t ht _ => ⟨(nI x9), rfl, by have hlt9 : x9 < allN cI := clt hj9 c11; have he9 : allN cI - x9 = (allN cI - (x9 + 1)) + 1 := (by omega); rw [← hI9.2, he9]; exact (if_neg c20).symm, ht⟩) (fun q h => absurd h List.not_mem_nil) dX1_firstWrong_24
theorem im_X1_countWrong_X0 : ∀ w ∈ u_ws RX0 TX0 11, w ∈ wsX1_countWrong := by decide +kernel
set_option maxHeartbeats 4000000 in
set_option maxRecDepth 100000 in
theorem c_X1_countWrong (l : Launch) (G : GT) (aL aW aC aZ : Nat) (sz : Nat) (gW : Nat → Int64) (cT cI cG cO cK cP cQ : Int32) (aK aX aY : Nat) (fZ : Nat → Int32) : Met l yX1_countWrong wsX1_countWrong ({ frames := 4, cells := 0, slots := 0, locals := 89 }) (va_Pc [.ref aL, .ref aC] (wPre G [(aL, .inr (1, [.ref aW])), (aW, .inl (G.2.1 3, 18, .inr (.inl gW))), (aC, .inr (0, [.int cT, .int cI, .int cG, .int cO, .int cK, .int cP, .int cQ, .ref aK, .ref aX, .ref aY, .ref aZ])), (aZ, .inl (G.2.1 2, 7, .inl fZ))] sz)) (vp_Si (fun r : Int32 => r = (foldF (countW1 (fun j => isWrongF gW cO cK cP cQ fZ (nI j))) (allN cI) 0))) 0 0 (fun _ => False) := by
  refine met_go (cc := cX1_countWrong) (maxL := 5) (ret := (some .int)) (own := RX1) (by decide) rfl rfl (Nat.le_of_ble_eq_true rfl) ?_
  intro p e s m below meth c ls S hr hlocks hname hsz C w hl
  have hl : lv_has ls 5 [(0, .ref aL), (1, .ref aC)] := hl
  refine lv_iconst (v := 1) S.1 S.2.1 dX1_countWrong_0 (by decide) ?_
  refine lv_aload_n S.1 S.2.1 dX1_countWrong_1 rfl (lv_at hl 1 rfl) ?_
  refine w_get S C w (CC := RX0) (T := TX0) (N := 11) (ref := "GateSums$Circuit") im_X1_countWrong_X0 2 rfl rfl 1 (by decide) (List.mem_of_getElem? (i := 1) rfl) (fun _ h => h) rfl dX1_countWrong_2 ?_
  refine lv_ishl S.1 S.2.1 dX1_countWrong_5 ?_
  refine lv_istore_n (lv' := [(2, .int ((1 : Int32) <<< (cI &&& 31))), (0, .ref aL), (1, .ref aC)]) S.1 S.2.1 dX1_countWrong_6 rfl hl (by decide) rfl (fun ls hl => ?_)
  refine lv_iconst (v := 0) S.1 S.2.1 dX1_countWrong_7 (by decide) ?_
  refine lv_istore_n (lv' := [(3, .int 0), (2, .int ((1 : Int32) <<< (cI &&& 31))), (0, .ref aL), (1, .ref aC)]) S.1 S.2.1 dX1_countWrong_8 rfl hl (by decide) rfl (fun ls hl => ?_)
  refine lv_iconst (v := 0) S.1 S.2.1 dX1_countWrong_9 (by decide) ?_
  refine lv_istore (lv' := [(4, .int 0), (3, .int 0), (2, .int ((1 : Int32) <<< (cI &&& 31))), (0, .ref aL), (1, .ref aC)]) S.1 S.2.1 dX1_countWrong_10 hl (by decide) rfl (fun ls hl => ?_)
  refine w_loopS (σ := Nat) (nL := 5) 12 (fun x12 => (((1 : Int32) <<< (cI &&& 31))).toNatClampNeg - x12) (fun x12 => x12 ≤ (((1 : Int32) <<< (cI &&& 31))).toNatClampNeg) (fun x12 => [(4, .int (nI x12)), (3, .int (foldF (countW1 (fun j => isWrongF gW cO cK cP cQ fZ (nI j))) x12 0)), (2, .int ((1 : Int32) <<< (cI &&& 31))), (0, .ref aL), (1, .ref aC)]) (fun _ => []) ?_ 0 ls (Nat.zero_le _) (lv_sub hl [0, 1, 2, 3, 4] rfl)
  intro x12 ls hI12 hl ih12
  have hl : lv_has ls 5 [(4, .int (nI x12)), (3, .int (foldF (countW1 (fun j => isWrongF gW cO cK cP cQ fZ (nI j))) x12 0)), (2, .int ((1 : Int32) <<< (cI &&& 31))), (0, .ref aL), (1, .ref aC)] := hl
  refine lv_iload S.1 S.2.1 dX1_countWrong_12 (lv_at hl 0 rfl) ?_
  refine lv_iload_n S.1 S.2.1 dX1_countWrong_14 rfl (lv_at hl 2 rfl) ?_
  refine lv_icmp_ge (tgt := 42) S.1 S.2.1 dX1_countWrong_15 (by decide) (fun c15 => ?_) (fun c15 => ?_)
  · refine lv_iload_n S.1 S.2.1 dX1_countWrong_42 rfl (lv_at hl 1 rfl) ?_
    exact W.iret (v := (foldF (countW1 (fun j => isWrongF gW cO cK cP cQ fZ (nI j))) x12 0)) S.1 S.2.1 hr (fun t ht _ => ⟨(foldF (countW1 (fun j => isWrongF gW cO cK cP cQ fZ (nI j))) x12 0), rfl, by rw [show allN cI = x12 from (show (((1 : Int32) <<< (cI &&& 31))).toNatClampNeg = x12 by have := cge (by have := cl_lt (((1 : Int32) <<< (cI &&& 31))); omega) c15; omega)], ht⟩) (fun q h => absurd h List.not_mem_nil) dX1_countWrong_43
  · refine lv_iload_n S.1 S.2.1 dX1_countWrong_18 rfl (lv_at hl 1 rfl) ?_
    refine lv_aload_n S.1 S.2.1 dX1_countWrong_19 rfl (lv_at hl 3 rfl) ?_
    refine lv_aload_n S.1 S.2.1 dX1_countWrong_20 rfl (lv_at hl 4 rfl) ?_
    refine lv_iload S.1 S.2.1 dX1_countWrong_21 (lv_at hl 0 rfl) ?_
    refine cs_i (va_runV (As := [.ref aC, .int (nI x12)]) (rest := [.int (foldF (countW1 (fun j => isWrongF gW cO cK cP cQ fZ (nI j))) x12 0)]) S (c_X1_isWrong l G aL aW aC aZ _ gW cT cI cG cO cK cP cQ aK aX aY fZ (nI x12)) (cwV 2 S.2.2.2.2 gX1_countWrong_X1_isWrong rfl rfl rfl (by decide +kernel) ⟨Nat.le_of_ble_eq_true rfl, Nat.le_of_ble_eq_true rfl⟩) ⟨wPre_blind, va_recv C.1 w.1 (ci := 1) (q0 := 0) rfl rfl, wPre_at C w [0, 1, 2, 3] rfl rfl⟩ rfl rfl hl.1 rfl (lv_room (Nat.le_of_ble_eq_true rfl)) dX1_countWrong_23 ⟨Nat.le_of_ble_eq_true rfl, Nat.le_of_ble_eq_true rfl⟩) (fun r23 h23 => ?_)
    refine w_topi (y := (isWrongF gW cO cK cP cQ fZ (nI x12))) h23 ?_
    refine w_joini 34 [.int (foldF (countW1 (fun j => isWrongF gW cO cK cP cQ fZ (nI j))) x12 0)] (fun z34 => z34 = if (fun j => isWrongF gW cO cK cP cQ fZ (nI j)) x12 = 0 then 0 else 1) (fun z34 hz34 => ?_) (fun J34 => ?_)
    · refine w_topi (y := (if (fun j => isWrongF gW cO cK cP cQ fZ (nI j)) x12 = 0 then 0 else 1)) (hz34) ?_
      refine lv_iadd S.1 S.2.1 dX1_countWrong_34 ?_
      refine lv_istore_n (lv' := [(3, .int ((foldF (countW1 (fun j => isWrongF gW cO cK cP cQ fZ (nI j))) x12 0) + (if (fun j => isWrongF gW cO cK cP cQ fZ (nI j)) x12 = 0 then 0 else 1))), (4, .int (nI x12)), (2, .int ((1 : Int32) <<< (cI &&& 31))), (0, .ref aL), (1, .ref aC)]) S.1 S.2.1 dX1_countWrong_35 rfl hl (by decide) rfl (fun ls hl => ?_)
      refine lv_iinc (v := (nI (x12 + 1))) (lv' := [(4, .int (nI (x12 + 1))), (3, .int ((foldF (countW1 (fun j => isWrongF gW cO cK cP cQ fZ (nI j))) x12 0) + (if (fun j => isWrongF gW cO cK cP cQ fZ (nI j)) x12 = 0 then 0 else 1))), (2, .int ((1 : Int32) <<< (cI &&& 31))), (0, .ref aL), (1, .ref aC)]) S.1 S.2.1 dX1_countWrong_36 hl (k := 1) rfl (nI_1 _) (by decide) rfl (fun ls hl => ?_)
      refine lv_goto (tgt := 12) S.1 S.2.1 dX1_countWrong_39 (by decide) ?_
      exact ih12 (x12 + 1) ls (by have := clt (by have := cl_lt (((1 : Int32) <<< (cI &&& 31))); omega) c15; omega) (by have := clt (by have := cl_lt (((1 : Int32) <<< (cI &&& 31))); omega) c15; omega) (lv_sub hl [0, 1, 2, 3, 4] rfl)
    · refine lv_if_eq (tgt := 33) S.1 S.2.1 dX1_countWrong_26 (by decide) (fun c26 => ?_) (fun c26 => ?_)
      · refine lv_iconst (v := 0) S.1 S.2.1 dX1_countWrong_33 (by decide) ?_
        exact J34 0 (by simp only [if_neg c15, if_pos c26])
      · refine lv_iconst (v := 1) S.1 S.2.1 dX1_countWrong_29 (by decide) ?_
        refine lv_goto (tgt := 34) S.1 S.2.1 dX1_countWrong_30 (by decide) ?_
        exact J34 1 (by simp only [if_neg c15, if_neg c26])
set_option maxHeartbeats 4000000 in
set_option maxRecDepth 100000 in
theorem c_X6_setOf (l : Launch) (G : GT) (sz : Nat) (i0 : Int32) : Met l yX6_setOf wsX6_setOf ({ frames := 0, cells := 0, slots := 0, locals := 0 }) (va_Pc [.int i0] (wPre G [] sz)) (vp_Si (fun r : Int32 => r = (setOfF i0))) 0 0 (fun _ => False) := by
  refine met_go (cc := cX6_setOf) (maxL := 1) (ret := (some .int)) (own := RX6) (by decide) rfl rfl (Nat.le_of_ble_eq_true rfl) ?_
  intro p e s m below meth c ls S hr hlocks hname hsz C w hl
  have hl : lv_has ls 1 [(0, .int i0)] := hl
  refine lv_iload_n S.1 S.2.1 dX6_setOf_0 rfl (lv_at hl 0 rfl) ?_
  refine lv_if_lt (tgt := 16) S.1 S.2.1 dX6_setOf_1 (by decide) (fun c1 => ?_) (fun c1 => ?_)
  · refine lv_iconst (v := 0) S.1 S.2.1 dX6_setOf_16 (by decide) ?_
    exact W.iret (v := 0) S.1 S.2.1 hr (fun t ht _ => ⟨0, rfl, by simp only [setOfF, if_pos c1], ht⟩) (fun q h => absurd h List.not_mem_nil) dX6_setOf_17
  · refine lv_iload_n S.1 S.2.1 dX6_setOf_4 rfl (lv_at hl 0 rfl) ?_
    refine lv_bipush (v := 18) S.1 S.2.1 dX6_setOf_5 (by decide) ?_
    refine lv_icmp_ge (tgt := 16) S.1 S.2.1 dX6_setOf_7 (by decide) (fun c7 => ?_) (fun c7 => ?_)
    · refine lv_iconst (v := 0) S.1 S.2.1 dX6_setOf_16 (by decide) ?_
      exact W.iret (v := 0) S.1 S.2.1 hr (fun t ht _ => ⟨0, rfl, by simp only [setOfF, if_neg c1, if_pos c7], ht⟩) (fun q h => absurd h List.not_mem_nil) dX6_setOf_17
    · refine lv_iconst (v := 1) S.1 S.2.1 dX6_setOf_10 (by decide) ?_
      refine lv_iload_n S.1 S.2.1 dX6_setOf_11 rfl (lv_at hl 0 rfl) ?_
      refine lv_ishl S.1 S.2.1 dX6_setOf_12 ?_
      refine lv_goto (tgt := 17) S.1 S.2.1 dX6_setOf_13 (by decide) ?_
      exact W.iret (v := ((1 : Int32) <<< (i0 &&& 31))) S.1 S.2.1 hr (fun t ht _ => ⟨((1 : Int32) <<< (i0 &&& 31)), rfl, by simp only [setOfF, if_neg c1, if_neg c7], ht⟩) (fun q h => absurd h List.not_mem_nil) dX6_setOf_17
set_option maxHeartbeats 4000000 in
set_option maxRecDepth 100000 in
theorem t1_X6_at (l : Launch) (G : GT) (sz : Nat) (i0 : Int32) : Met l yX6_at wsX6_at ({ frames := 0, cells := 0, slots := 0, locals := 0 }) (va_Pc [.ref (G.2.2.1 1), .int i0] (wPre G [] sz)) (vp_Si (fun r : Int32 => r = (atF (tbF 1) 4 i0))) 0 0 (fun _ => False) := by
  refine met_go (cc := cX6_at) (maxL := 2) (ret := (some .int)) (own := RX6) (by decide) rfl rfl (Nat.le_of_ble_eq_true rfl) ?_
  intro p e s m below meth c ls S hr hlocks hname hsz C w hl
  have hl : lv_has ls 2 [(0, .ref (G.2.2.1 1)), (1, .int i0)] := hl
  refine lv_iload_n S.1 S.2.1 dX6_at_0 rfl (lv_at hl 1 rfl) ?_
  refine lv_if_lt (tgt := 16) S.1 S.2.1 dX6_at_1 (by decide) (fun c1 => ?_) (fun c1 => ?_)
  · refine lv_iconst (v := (-1)) S.1 S.2.1 dX6_at_16 (by decide) ?_
    exact W.iret (v := (-1)) S.1 S.2.1 hr (fun t ht _ => ⟨(-1), rfl, by first | exact (atF_pos c1 c7).symm | exact (atF_lo c1).symm | exact (atF_hi c7).symm, ht⟩) (fun q h => absurd h List.not_mem_nil) dX6_at_17
  · refine lv_iload_n S.1 S.2.1 dX6_at_4 rfl (lv_at hl 1 rfl) ?_
    refine lv_aload_n S.1 S.2.1 dX6_at_5 rfl (lv_at hl 0 rfl) ?_
    refine w_tlen S C w 1 rfl (v := 4) (by decide) dX6_at_6 ?_
    refine lv_icmp_ge (tgt := 16) S.1 S.2.1 dX6_at_7 (by decide) (fun c7 => ?_) (fun c7 => ?_)
    · refine lv_iconst (v := (-1)) S.1 S.2.1 dX6_at_16 (by decide) ?_
      exact W.iret (v := (-1)) S.1 S.2.1 hr (fun t ht _ => ⟨(-1), rfl, by first | exact (atF_pos c1 c7).symm | exact (atF_lo c1).symm | exact (atF_hi c7).symm, ht⟩) (fun q h => absurd h List.not_mem_nil) dX6_at_17
    · refine lv_aload_n S.1 S.2.1 dX6_at_10 rfl (lv_at hl 0 rfl) ?_
      refine lv_iload_n S.1 S.2.1 dX6_at_11 rfl (lv_at hl 1 rfl) ?_
      refine w_ti S C w 1 rfl (in_of2 (by decide) c1 c7) (v := .int (tbF 1 i0.toNatClampNeg)) (tb4 _ (tbL 1) rfl _ (lt_clamp (by decide) c1 c7)) dX6_at_12 ?_
      refine lv_goto (tgt := 17) S.1 S.2.1 dX6_at_13 (by decide) ?_
      exact W.iret (v := (tbF 1 i0.toNatClampNeg)) S.1 S.2.1 hr (fun t ht _ => ⟨(tbF 1 i0.toNatClampNeg), rfl, by first | exact (atF_pos c1 c7).symm | exact (atF_lo c1).symm | exact (atF_hi c7).symm, ht⟩) (fun q h => absurd h List.not_mem_nil) dX6_at_17
set_option maxHeartbeats 4000000 in
set_option maxRecDepth 100000 in
theorem t2_X6_at (l : Launch) (G : GT) (sz : Nat) (i0 : Int32) : Met l yX6_at wsX6_at ({ frames := 0, cells := 0, slots := 0, locals := 0 }) (va_Pc [.ref (G.2.2.1 2), .int i0] (wPre G [] sz)) (vp_Si (fun r : Int32 => r = (atF (tbF 2) 4 i0))) 0 0 (fun _ => False) := by
  refine met_go (cc := cX6_at) (maxL := 2) (ret := (some .int)) (own := RX6) (by decide) rfl rfl (Nat.le_of_ble_eq_true rfl) ?_
  intro p e s m below meth c ls S hr hlocks hname hsz C w hl
  have hl : lv_has ls 2 [(0, .ref (G.2.2.1 2)), (1, .int i0)] := hl
  refine lv_iload_n S.1 S.2.1 dX6_at_0 rfl (lv_at hl 1 rfl) ?_
  refine lv_if_lt (tgt := 16) S.1 S.2.1 dX6_at_1 (by decide) (fun c1 => ?_) (fun c1 => ?_)
  · refine lv_iconst (v := (-1)) S.1 S.2.1 dX6_at_16 (by decide) ?_
    exact W.iret (v := (-1)) S.1 S.2.1 hr (fun t ht _ => ⟨(-1), rfl, by first | exact (atF_pos c1 c7).symm | exact (atF_lo c1).symm | exact (atF_hi c7).symm, ht⟩) (fun q h => absurd h List.not_mem_nil) dX6_at_17
  · refine lv_iload_n S.1 S.2.1 dX6_at_4 rfl (lv_at hl 1 rfl) ?_
    refine lv_aload_n S.1 S.2.1 dX6_at_5 rfl (lv_at hl 0 rfl) ?_
    refine w_tlen S C w 2 rfl (v := 4) (by decide) dX6_at_6 ?_
    refine lv_icmp_ge (tgt := 16) S.1 S.2.1 dX6_at_7 (by decide) (fun c7 => ?_) (fun c7 => ?_)
    · refine lv_iconst (v := (-1)) S.1 S.2.1 dX6_at_16 (by decide) ?_
      exact W.iret (v := (-1)) S.1 S.2.1 hr (fun t ht _ => ⟨(-1), rfl, by first | exact (atF_pos c1 c7).symm | exact (atF_lo c1).symm | exact (atF_hi c7).symm, ht⟩) (fun q h => absurd h List.not_mem_nil) dX6_at_17
    · refine lv_aload_n S.1 S.2.1 dX6_at_10 rfl (lv_at hl 0 rfl) ?_
      refine lv_iload_n S.1 S.2.1 dX6_at_11 rfl (lv_at hl 1 rfl) ?_
      refine w_ti S C w 2 rfl (in_of2 (by decide) c1 c7) (v := .int (tbF 2 i0.toNatClampNeg)) (tb4 _ (tbL 2) rfl _ (lt_clamp (by decide) c1 c7)) dX6_at_12 ?_
      refine lv_goto (tgt := 17) S.1 S.2.1 dX6_at_13 (by decide) ?_
      exact W.iret (v := (tbF 2 i0.toNatClampNeg)) S.1 S.2.1 hr (fun t ht _ => ⟨(tbF 2 i0.toNatClampNeg), rfl, by first | exact (atF_pos c1 c7).symm | exact (atF_lo c1).symm | exact (atF_hi c7).symm, ht⟩) (fun q h => absurd h List.not_mem_nil) dX6_at_17
set_option maxHeartbeats 4000000 in
set_option maxRecDepth 100000 in
theorem t3_X6_at (l : Launch) (G : GT) (sz : Nat) (i0 : Int32) : Met l yX6_at wsX6_at ({ frames := 0, cells := 0, slots := 0, locals := 0 }) (va_Pc [.ref (G.2.2.1 3), .int i0] (wPre G [] sz)) (vp_Si (fun r : Int32 => r = (atF (tbF 3) 8 i0))) 0 0 (fun _ => False) := by
  refine met_go (cc := cX6_at) (maxL := 2) (ret := (some .int)) (own := RX6) (by decide) rfl rfl (Nat.le_of_ble_eq_true rfl) ?_
  intro p e s m below meth c ls S hr hlocks hname hsz C w hl
  have hl : lv_has ls 2 [(0, .ref (G.2.2.1 3)), (1, .int i0)] := hl
  refine lv_iload_n S.1 S.2.1 dX6_at_0 rfl (lv_at hl 1 rfl) ?_
  refine lv_if_lt (tgt := 16) S.1 S.2.1 dX6_at_1 (by decide) (fun c1 => ?_) (fun c1 => ?_)
  · refine lv_iconst (v := (-1)) S.1 S.2.1 dX6_at_16 (by decide) ?_
    exact W.iret (v := (-1)) S.1 S.2.1 hr (fun t ht _ => ⟨(-1), rfl, by first | exact (atF_pos c1 c7).symm | exact (atF_lo c1).symm | exact (atF_hi c7).symm, ht⟩) (fun q h => absurd h List.not_mem_nil) dX6_at_17
  · refine lv_iload_n S.1 S.2.1 dX6_at_4 rfl (lv_at hl 1 rfl) ?_
    refine lv_aload_n S.1 S.2.1 dX6_at_5 rfl (lv_at hl 0 rfl) ?_
    refine w_tlen S C w 3 rfl (v := 8) (by decide) dX6_at_6 ?_
    refine lv_icmp_ge (tgt := 16) S.1 S.2.1 dX6_at_7 (by decide) (fun c7 => ?_) (fun c7 => ?_)
    · refine lv_iconst (v := (-1)) S.1 S.2.1 dX6_at_16 (by decide) ?_
      exact W.iret (v := (-1)) S.1 S.2.1 hr (fun t ht _ => ⟨(-1), rfl, by first | exact (atF_pos c1 c7).symm | exact (atF_lo c1).symm | exact (atF_hi c7).symm, ht⟩) (fun q h => absurd h List.not_mem_nil) dX6_at_17
    · refine lv_aload_n S.1 S.2.1 dX6_at_10 rfl (lv_at hl 0 rfl) ?_
      refine lv_iload_n S.1 S.2.1 dX6_at_11 rfl (lv_at hl 1 rfl) ?_
      refine w_ti S C w 3 rfl (in_of2 (by decide) c1 c7) (v := .int (tbF 3 i0.toNatClampNeg)) (tb4 _ (tbL 3) rfl _ (lt_clamp (by decide) c1 c7)) dX6_at_12 ?_
      refine lv_goto (tgt := 17) S.1 S.2.1 dX6_at_13 (by decide) ?_
      exact W.iret (v := (tbF 3 i0.toNatClampNeg)) S.1 S.2.1 hr (fun t ht _ => ⟨(tbF 3 i0.toNatClampNeg), rfl, by first | exact (atF_pos c1 c7).symm | exact (atF_lo c1).symm | exact (atF_hi c7).symm, ht⟩) (fun q h => absurd h List.not_mem_nil) dX6_at_17
set_option maxHeartbeats 4000000 in
set_option maxRecDepth 100000 in
theorem t4_X6_at (l : Launch) (G : GT) (sz : Nat) (i0 : Int32) : Met l yX6_at wsX6_at ({ frames := 0, cells := 0, slots := 0, locals := 0 }) (va_Pc [.ref (G.2.2.1 4), .int i0] (wPre G [] sz)) (vp_Si (fun r : Int32 => r = (atF (tbF 4) 8 i0))) 0 0 (fun _ => False) := by
  refine met_go (cc := cX6_at) (maxL := 2) (ret := (some .int)) (own := RX6) (by decide) rfl rfl (Nat.le_of_ble_eq_true rfl) ?_
  intro p e s m below meth c ls S hr hlocks hname hsz C w hl
  have hl : lv_has ls 2 [(0, .ref (G.2.2.1 4)), (1, .int i0)] := hl
  refine lv_iload_n S.1 S.2.1 dX6_at_0 rfl (lv_at hl 1 rfl) ?_
  refine lv_if_lt (tgt := 16) S.1 S.2.1 dX6_at_1 (by decide) (fun c1 => ?_) (fun c1 => ?_)
  · refine lv_iconst (v := (-1)) S.1 S.2.1 dX6_at_16 (by decide) ?_
    exact W.iret (v := (-1)) S.1 S.2.1 hr (fun t ht _ => ⟨(-1), rfl, by first | exact (atF_pos c1 c7).symm | exact (atF_lo c1).symm | exact (atF_hi c7).symm, ht⟩) (fun q h => absurd h List.not_mem_nil) dX6_at_17
  · refine lv_iload_n S.1 S.2.1 dX6_at_4 rfl (lv_at hl 1 rfl) ?_
    refine lv_aload_n S.1 S.2.1 dX6_at_5 rfl (lv_at hl 0 rfl) ?_
    refine w_tlen S C w 4 rfl (v := 8) (by decide) dX6_at_6 ?_
    refine lv_icmp_ge (tgt := 16) S.1 S.2.1 dX6_at_7 (by decide) (fun c7 => ?_) (fun c7 => ?_)
    · refine lv_iconst (v := (-1)) S.1 S.2.1 dX6_at_16 (by decide) ?_
      exact W.iret (v := (-1)) S.1 S.2.1 hr (fun t ht _ => ⟨(-1), rfl, by first | exact (atF_pos c1 c7).symm | exact (atF_lo c1).symm | exact (atF_hi c7).symm, ht⟩) (fun q h => absurd h List.not_mem_nil) dX6_at_17
    · refine lv_aload_n S.1 S.2.1 dX6_at_10 rfl (lv_at hl 0 rfl) ?_
      refine lv_iload_n S.1 S.2.1 dX6_at_11 rfl (lv_at hl 1 rfl) ?_
      refine w_ti S C w 4 rfl (in_of2 (by decide) c1 c7) (v := .int (tbF 4 i0.toNatClampNeg)) (tb4 _ (tbL 4) rfl _ (lt_clamp (by decide) c1 c7)) dX6_at_12 ?_
      refine lv_goto (tgt := 17) S.1 S.2.1 dX6_at_13 (by decide) ?_
      exact W.iret (v := (tbF 4 i0.toNatClampNeg)) S.1 S.2.1 hr (fun t ht _ => ⟨(tbF 4 i0.toNatClampNeg), rfl, by first | exact (atF_pos c1 c7).symm | exact (atF_lo c1).symm | exact (atF_hi c7).symm, ht⟩) (fun q h => absurd h List.not_mem_nil) dX6_at_17
set_option maxHeartbeats 4000000 in
set_option maxRecDepth 100000 in
theorem t5_X6_at (l : Launch) (G : GT) (sz : Nat) (i0 : Int32) : Met l yX6_at wsX6_at ({ frames := 0, cells := 0, slots := 0, locals := 0 }) (va_Pc [.ref (G.2.2.1 5), .int i0] (wPre G [] sz)) (vp_Si (fun r : Int32 => r = (atF (tbF 5) 8 i0))) 0 0 (fun _ => False) := by
  refine met_go (cc := cX6_at) (maxL := 2) (ret := (some .int)) (own := RX6) (by decide) rfl rfl (Nat.le_of_ble_eq_true rfl) ?_
  intro p e s m below meth c ls S hr hlocks hname hsz C w hl
  have hl : lv_has ls 2 [(0, .ref (G.2.2.1 5)), (1, .int i0)] := hl
  refine lv_iload_n S.1 S.2.1 dX6_at_0 rfl (lv_at hl 1 rfl) ?_
  refine lv_if_lt (tgt := 16) S.1 S.2.1 dX6_at_1 (by decide) (fun c1 => ?_) (fun c1 => ?_)
  · refine lv_iconst (v := (-1)) S.1 S.2.1 dX6_at_16 (by decide) ?_
    exact W.iret (v := (-1)) S.1 S.2.1 hr (fun t ht _ => ⟨(-1), rfl, by first | exact (atF_pos c1 c7).symm | exact (atF_lo c1).symm | exact (atF_hi c7).symm, ht⟩) (fun q h => absurd h List.not_mem_nil) dX6_at_17
  · refine lv_iload_n S.1 S.2.1 dX6_at_4 rfl (lv_at hl 1 rfl) ?_
    refine lv_aload_n S.1 S.2.1 dX6_at_5 rfl (lv_at hl 0 rfl) ?_
    refine w_tlen S C w 5 rfl (v := 8) (by decide) dX6_at_6 ?_
    refine lv_icmp_ge (tgt := 16) S.1 S.2.1 dX6_at_7 (by decide) (fun c7 => ?_) (fun c7 => ?_)
    · refine lv_iconst (v := (-1)) S.1 S.2.1 dX6_at_16 (by decide) ?_
      exact W.iret (v := (-1)) S.1 S.2.1 hr (fun t ht _ => ⟨(-1), rfl, by first | exact (atF_pos c1 c7).symm | exact (atF_lo c1).symm | exact (atF_hi c7).symm, ht⟩) (fun q h => absurd h List.not_mem_nil) dX6_at_17
    · refine lv_aload_n S.1 S.2.1 dX6_at_10 rfl (lv_at hl 0 rfl) ?_
      refine lv_iload_n S.1 S.2.1 dX6_at_11 rfl (lv_at hl 1 rfl) ?_
      refine w_ti S C w 5 rfl (in_of2 (by decide) c1 c7) (v := .int (tbF 5 i0.toNatClampNeg)) (tb4 _ (tbL 5) rfl _ (lt_clamp (by decide) c1 c7)) dX6_at_12 ?_
      refine lv_goto (tgt := 17) S.1 S.2.1 dX6_at_13 (by decide) ?_
      exact W.iret (v := (tbF 5 i0.toNatClampNeg)) S.1 S.2.1 hr (fun t ht _ => ⟨(tbF 5 i0.toNatClampNeg), rfl, by first | exact (atF_pos c1 c7).symm | exact (atF_lo c1).symm | exact (atF_hi c7).symm, ht⟩) (fun q h => absurd h List.not_mem_nil) dX6_at_17
set_option maxHeartbeats 4000000 in
set_option maxRecDepth 100000 in
theorem t6_X6_at (l : Launch) (G : GT) (sz : Nat) (i0 : Int32) : Met l yX6_at wsX6_at ({ frames := 0, cells := 0, slots := 0, locals := 0 }) (va_Pc [.ref (G.2.2.1 6), .int i0] (wPre G [] sz)) (vp_Si (fun r : Int32 => r = (atF (tbF 6) 8 i0))) 0 0 (fun _ => False) := by
  refine met_go (cc := cX6_at) (maxL := 2) (ret := (some .int)) (own := RX6) (by decide) rfl rfl (Nat.le_of_ble_eq_true rfl) ?_
  intro p e s m below meth c ls S hr hlocks hname hsz C w hl
  have hl : lv_has ls 2 [(0, .ref (G.2.2.1 6)), (1, .int i0)] := hl
  refine lv_iload_n S.1 S.2.1 dX6_at_0 rfl (lv_at hl 1 rfl) ?_
  refine lv_if_lt (tgt := 16) S.1 S.2.1 dX6_at_1 (by decide) (fun c1 => ?_) (fun c1 => ?_)
  · refine lv_iconst (v := (-1)) S.1 S.2.1 dX6_at_16 (by decide) ?_
    exact W.iret (v := (-1)) S.1 S.2.1 hr (fun t ht _ => ⟨(-1), rfl, by first | exact (atF_pos c1 c7).symm | exact (atF_lo c1).symm | exact (atF_hi c7).symm, ht⟩) (fun q h => absurd h List.not_mem_nil) dX6_at_17
  · refine lv_iload_n S.1 S.2.1 dX6_at_4 rfl (lv_at hl 1 rfl) ?_
    refine lv_aload_n S.1 S.2.1 dX6_at_5 rfl (lv_at hl 0 rfl) ?_
    refine w_tlen S C w 6 rfl (v := 8) (by decide) dX6_at_6 ?_
    refine lv_icmp_ge (tgt := 16) S.1 S.2.1 dX6_at_7 (by decide) (fun c7 => ?_) (fun c7 => ?_)
    · refine lv_iconst (v := (-1)) S.1 S.2.1 dX6_at_16 (by decide) ?_
      exact W.iret (v := (-1)) S.1 S.2.1 hr (fun t ht _ => ⟨(-1), rfl, by first | exact (atF_pos c1 c7).symm | exact (atF_lo c1).symm | exact (atF_hi c7).symm, ht⟩) (fun q h => absurd h List.not_mem_nil) dX6_at_17
    · refine lv_aload_n S.1 S.2.1 dX6_at_10 rfl (lv_at hl 0 rfl) ?_
      refine lv_iload_n S.1 S.2.1 dX6_at_11 rfl (lv_at hl 1 rfl) ?_
      refine w_ti S C w 6 rfl (in_of2 (by decide) c1 c7) (v := .int (tbF 6 i0.toNatClampNeg)) (tb4 _ (tbL 6) rfl _ (lt_clamp (by decide) c1 c7)) dX6_at_12 ?_
      refine lv_goto (tgt := 17) S.1 S.2.1 dX6_at_13 (by decide) ?_
      exact W.iret (v := (tbF 6 i0.toNatClampNeg)) S.1 S.2.1 hr (fun t ht _ => ⟨(tbF 6 i0.toNatClampNeg), rfl, by first | exact (atF_pos c1 c7).symm | exact (atF_lo c1).symm | exact (atF_hi c7).symm, ht⟩) (fun q h => absurd h List.not_mem_nil) dX6_at_17
theorem im_X4_sizeOf_X4 : ∀ w ∈ u_ws RX4 TX4 6, w ∈ wsX4_sizeOf := by decide +kernel
set_option maxHeartbeats 4000000 in
set_option maxRecDepth 100000 in
theorem c_X4_sizeOf (l : Launch) (G : GT) (aS s1 : Nat) (sz : Nat) (s2 s3 s4 : Nat) (sN sB : Int32) (fs1 : Nat → Int32) (k0 : Int32) : Met l yX4_sizeOf wsX4_sizeOf ({ frames := 1, cells := 0, slots := 0, locals := 21 }) (va_Pc [.ref aS, .int k0] (wPre G [(aS, .inr (4, [.ref s1, .ref s2, .ref s3, .ref s4, .int sN, .int sB])), (s1, .inl (G.2.1 2, 13, .inl fs1))] sz)) (vp_Si (fun r : Int32 => r = (sizeOfF sN fs1 k0))) 0 0 (fun _ => False) := by
  refine met_go (cc := cX4_sizeOf) (maxL := 2) (ret := (some .int)) (own := RX4) (by decide) rfl rfl (Nat.le_of_ble_eq_true rfl) ?_
  intro p e s m below meth c ls S hr hlocks hname hsz C w hl
  have hl : lv_has ls 2 [(0, .ref aS), (1, .int k0)] := hl
  refine lv_iload_n S.1 S.2.1 dX4_sizeOf_0 rfl (lv_at hl 1 rfl) ?_
  refine lv_if_lt (tgt := 23) S.1 S.2.1 dX4_sizeOf_1 (by decide) (fun c1 => ?_) (fun c1 => ?_)
  · refine lv_iconst (v := 0) S.1 S.2.1 dX4_sizeOf_23 (by decide) ?_
    exact W.iret (v := 0) S.1 S.2.1 hr (fun t ht _ => ⟨0, rfl, by simp only [sizeOfF, if_pos c1], ht⟩) (fun q h => absurd h List.not_mem_nil) dX4_sizeOf_24
  · refine lv_iload_n S.1 S.2.1 dX4_sizeOf_4 rfl (lv_at hl 1 rfl) ?_
    refine lv_aload_n S.1 S.2.1 dX4_sizeOf_5 rfl (lv_at hl 0 rfl) ?_
    refine w_get S C w (CC := RX4) (T := TX4) (N := 6) (ref := "GateSums$Stages") im_X4_sizeOf_X4 0 rfl rfl 4 (by decide) (List.mem_of_getElem? (i := 1) rfl) (fun _ h => h) rfl dX4_sizeOf_6 ?_
    refine lv_icmp_ge (tgt := 23) S.1 S.2.1 dX4_sizeOf_9 (by decide) (fun c9 => ?_) (fun c9 => ?_)
    · refine lv_iconst (v := 0) S.1 S.2.1 dX4_sizeOf_23 (by decide) ?_
      exact W.iret (v := 0) S.1 S.2.1 hr (fun t ht _ => ⟨0, rfl, by simp only [sizeOfF, if_neg c1, if_pos c9], ht⟩) (fun q h => absurd h List.not_mem_nil) dX4_sizeOf_24
    · refine lv_aload_n S.1 S.2.1 dX4_sizeOf_12 rfl (lv_at hl 0 rfl) ?_
      refine w_get S C w (CC := RX4) (T := TX4) (N := 6) (ref := "GateSums$Stages") im_X4_sizeOf_X4 0 rfl rfl 0 (by decide) (List.mem_of_getElem? (i := 2) rfl) (fun _ h => h) rfl dX4_sizeOf_13 ?_
      refine lv_iload_n S.1 S.2.1 dX4_sizeOf_16 rfl (lv_at hl 1 rfl) ?_
      refine cs_i (va_runSN (As := [.ref s1, .int k0]) (rest := []) S (c_X6_at l G s1 _ 13 fs1 k0 (by decide)) ⟨va_cnB 2 S.2.2.2.2 gX4_sizeOf_X6_at_n64 rfl rfl rfl (nw_11 C.2.1) (S.2.2.2.2 _ (List.mem_of_getElem? (i := 4) rfl)) (by decide +kernel) ⟨Nat.le_of_ble_eq_true rfl, Nat.le_of_ble_eq_true rfl⟩, S.2.2.2.2 _ (List.mem_of_getElem? (i := 3) rfl), trivial⟩ ⟨wPre_blind, wPre_at C w [1] rfl rfl⟩ rfl rfl hl.1 rfl (lv_room (Nat.le_of_ble_eq_true rfl)) dX4_sizeOf_17 ⟨Nat.le_of_ble_eq_true rfl, Nat.le_of_ble_eq_true rfl⟩) (fun r17 h17 => ?_)
      refine w_topi (y := atF fs1 13 k0) h17 ?_
      refine lv_goto (tgt := 24) S.1 S.2.1 dX4_sizeOf_20 (by decide) ?_
      exact W.iret (v := (atF fs1 13 k0)) S.1 S.2.1 hr (fun t ht _ => ⟨(atF fs1 13 k0), rfl, by simp only [sizeOfF, if_neg c1, if_neg c9], ht⟩) (fun q h => absurd h List.not_mem_nil) dX4_sizeOf_24
theorem im_X4_setAt_X4 : ∀ w ∈ u_ws RX4 TX4 6, w ∈ wsX4_setAt := by decide +kernel
set_option maxHeartbeats 4000000 in
set_option maxRecDepth 100000 in
theorem c_X4_setAt (l : Launch) (G : GT) (aS s2 : Nat) (sz : Nat) (s1 s3 s4 : Nat) (sN sB : Int32) (fs2 : Nat → Int32) (k0 j0 : Int32) : Met l yX4_setAt wsX4_setAt ({ frames := 1, cells := 0, slots := 0, locals := 21 }) (va_Pc [.ref aS, .int k0, .int j0] (wPre G [(aS, .inr (4, [.ref s1, .ref s2, .ref s3, .ref s4, .int sN, .int sB])), (s2, .inl (G.2.1 2, 520, .inl fs2))] sz)) (vp_Si (fun r : Int32 => r = (st40 fs2 k0 j0))) 0 0 (fun _ => False) := by
  refine met_go (cc := cX4_setAt) (maxL := 3) (ret := (some .int)) (own := RX4) (by decide) rfl rfl (Nat.le_of_ble_eq_true rfl) ?_
  intro p e s m below meth c ls S hr hlocks hname hsz C w hl
  have hl : lv_has ls 3 [(0, .ref aS), (1, .int k0), (2, .int j0)] := hl
  refine lv_aload_n S.1 S.2.1 dX4_setAt_0 rfl (lv_at hl 0 rfl) ?_
  refine w_get S C w (CC := RX4) (T := TX4) (N := 6) (ref := "GateSums$Stages") im_X4_setAt_X4 0 rfl rfl 1 (by decide) (List.mem_of_getElem? (i := 1) rfl) (fun _ h => h) rfl dX4_setAt_1 ?_
  refine lv_iload_n S.1 S.2.1 dX4_setAt_4 rfl (lv_at hl 1 rfl) ?_
  refine lv_bipush (v := 40) S.1 S.2.1 dX4_setAt_5 (by decide) ?_
  refine lv_imul S.1 S.2.1 dX4_setAt_7 ?_
  refine lv_iload_n S.1 S.2.1 dX4_setAt_8 rfl (lv_at hl 2 rfl) ?_
  refine lv_iadd S.1 S.2.1 dX4_setAt_9 ?_
  refine cs_i (va_runSN (As := [.ref s2, .int ((k0 * 40) + j0)]) (rest := []) S (c_X6_at l G s2 _ 520 fs2 ((k0 * 40) + j0) (by decide)) ⟨va_cnB 2 S.2.2.2.2 gX4_setAt_X6_at_n64 rfl rfl rfl (nw_11 C.2.1) (S.2.2.2.2 _ (List.mem_of_getElem? (i := 3) rfl)) (by decide +kernel) ⟨Nat.le_of_ble_eq_true rfl, Nat.le_of_ble_eq_true rfl⟩, S.2.2.2.2 _ (List.mem_of_getElem? (i := 2) rfl), trivial⟩ ⟨wPre_blind, wPre_at C w [1] rfl rfl⟩ rfl rfl hl.1 rfl (lv_room (Nat.le_of_ble_eq_true rfl)) dX4_setAt_10 ⟨Nat.le_of_ble_eq_true rfl, Nat.le_of_ble_eq_true rfl⟩) (fun r10 h10 => ?_)
  refine w_topi (y := atF fs2 520 ((k0 * 40) + j0)) h10 ?_
  exact W.iret (v := (atF fs2 520 ((k0 * 40) + j0))) S.1 S.2.1 hr (fun t ht _ => ⟨(atF fs2 520 ((k0 * 40) + j0)), rfl, rfl, ht⟩) (fun q h => absurd h List.not_mem_nil) dX4_setAt_13
theorem im_X4_coefficientAt_X4 : ∀ w ∈ u_ws RX4 TX4 6, w ∈ wsX4_coefficientAt := by decide +kernel
set_option maxHeartbeats 4000000 in
set_option maxRecDepth 100000 in
theorem c_X4_coefficientAt (l : Launch) (G : GT) (aS s3 : Nat) (sz : Nat) (s1 s2 s4 : Nat) (sN sB : Int32) (fs3 : Nat → Int32) (k0 j0 : Int32) : Met l yX4_coefficientAt wsX4_coefficientAt ({ frames := 1, cells := 0, slots := 0, locals := 21 }) (va_Pc [.ref aS, .int k0, .int j0] (wPre G [(aS, .inr (4, [.ref s1, .ref s2, .ref s3, .ref s4, .int sN, .int sB])), (s3, .inl (G.2.1 2, 520, .inl fs3))] sz)) (vp_Si (fun r : Int32 => r = (st40 fs3 k0 j0))) 0 0 (fun _ => False) := by
  refine met_go (cc := cX4_coefficientAt) (maxL := 3) (ret := (some .int)) (own := RX4) (by decide) rfl rfl (Nat.le_of_ble_eq_true rfl) ?_
  intro p e s m below meth c ls S hr hlocks hname hsz C w hl
  have hl : lv_has ls 3 [(0, .ref aS), (1, .int k0), (2, .int j0)] := hl
  refine lv_aload_n S.1 S.2.1 dX4_coefficientAt_0 rfl (lv_at hl 0 rfl) ?_
  refine w_get S C w (CC := RX4) (T := TX4) (N := 6) (ref := "GateSums$Stages") im_X4_coefficientAt_X4 0 rfl rfl 2 (by decide) (List.mem_of_getElem? (i := 1) rfl) (fun _ h => h) rfl dX4_coefficientAt_1 ?_
  refine lv_iload_n S.1 S.2.1 dX4_coefficientAt_4 rfl (lv_at hl 1 rfl) ?_
  refine lv_bipush (v := 40) S.1 S.2.1 dX4_coefficientAt_5 (by decide) ?_
  refine lv_imul S.1 S.2.1 dX4_coefficientAt_7 ?_
  refine lv_iload_n S.1 S.2.1 dX4_coefficientAt_8 rfl (lv_at hl 2 rfl) ?_
  refine lv_iadd S.1 S.2.1 dX4_coefficientAt_9 ?_
  refine cs_i (va_runSN (As := [.ref s3, .int ((k0 * 40) + j0)]) (rest := []) S (c_X6_at l G s3 _ 520 fs3 ((k0 * 40) + j0) (by decide)) ⟨va_cnB 2 S.2.2.2.2 gX4_coefficientAt_X6_at_n64 rfl rfl rfl (nw_11 C.2.1) (S.2.2.2.2 _ (List.mem_of_getElem? (i := 3) rfl)) (by decide +kernel) ⟨Nat.le_of_ble_eq_true rfl, Nat.le_of_ble_eq_true rfl⟩, S.2.2.2.2 _ (List.mem_of_getElem? (i := 2) rfl), trivial⟩ ⟨wPre_blind, wPre_at C w [1] rfl rfl⟩ rfl rfl hl.1 rfl (lv_room (Nat.le_of_ble_eq_true rfl)) dX4_coefficientAt_10 ⟨Nat.le_of_ble_eq_true rfl, Nat.le_of_ble_eq_true rfl⟩) (fun r10 h10 => ?_)
  refine w_topi (y := atF fs3 520 ((k0 * 40) + j0)) h10 ?_
  exact W.iret (v := (atF fs3 520 ((k0 * 40) + j0))) S.1 S.2.1 hr (fun t ht _ => ⟨(atF fs3 520 ((k0 * 40) + j0)), rfl, rfl, ht⟩) (fun q h => absurd h List.not_mem_nil) dX4_coefficientAt_13
set_option maxHeartbeats 4000000 in
set_option maxRecDepth 100000 in
theorem c_J6_bitCount_0f7a4 (l : Launch) (G : GT) (sz : Nat) (i0 : Int32) : Met l yJ6_bitCount_0f7a4 wsJ6_bitCount_0f7a4 ({ frames := 0, cells := 0, slots := 0, locals := 0 }) (va_Pc [.int i0] (wPre G [] sz)) (vp_Si (fun r : Int32 => r = (bitCntF i0))) 0 0 (fun _ => False) := by
  refine met_go (cc := cJ6_bitCount_0f7a4) (maxL := 1) (ret := (some .int)) (own := RJ6) (by decide) rfl rfl (Nat.le_of_ble_eq_true rfl) ?_
  intro p e s m below meth c ls S hr hlocks hname hsz C w hl
  have hl : lv_has ls 1 [(0, .int i0)] := hl
  refine lv_iload_n S.1 S.2.1 dJ6_bitCount_0f7a4_0 rfl (lv_at hl 0 rfl) ?_
  refine lv_iload_n S.1 S.2.1 dJ6_bitCount_0f7a4_1 rfl (lv_at hl 0 rfl) ?_
  refine lv_iconst (v := 1) S.1 S.2.1 dJ6_bitCount_0f7a4_2 (by decide) ?_
  refine lv_iushr (v := ((i0.toUInt32 >>> ((1 : Int32).toUInt32 &&& Int32.toUInt32 31)).toInt32)) S.1 S.2.1 dJ6_bitCount_0f7a4_3 rfl ?_
  refine lv_ldcw (own := RJ6) (v := 1431655765) S.1 S.2.1 S.2.2.2.1 (S.2.2.2.2 _ (List.mem_of_getElem? (i := 1) rfl)) dJ6_bitCount_0f7a4_4 ?_
  refine lv_iand S.1 S.2.1 dJ6_bitCount_0f7a4_7 ?_
  refine lv_isub S.1 S.2.1 dJ6_bitCount_0f7a4_8 ?_
  refine lv_istore_n (lv' := [(0, .int (i0 - (((i0.toUInt32 >>> ((1 : Int32).toUInt32 &&& Int32.toUInt32 31)).toInt32) &&& 1431655765)))]) S.1 S.2.1 dJ6_bitCount_0f7a4_9 rfl hl (by decide) rfl (fun ls hl => ?_)
  refine lv_iload_n S.1 S.2.1 dJ6_bitCount_0f7a4_10 rfl (lv_at hl 0 rfl) ?_
  refine lv_ldcw (own := RJ6) (v := 858993459) S.1 S.2.1 S.2.2.2.1 (S.2.2.2.2 _ (List.mem_of_getElem? (i := 2) rfl)) dJ6_bitCount_0f7a4_11 ?_
  refine lv_iand S.1 S.2.1 dJ6_bitCount_0f7a4_14 ?_
  refine lv_iload_n S.1 S.2.1 dJ6_bitCount_0f7a4_15 rfl (lv_at hl 0 rfl) ?_
  refine lv_iconst (v := 2) S.1 S.2.1 dJ6_bitCount_0f7a4_16 (by decide) ?_
  refine lv_iushr (v := (((i0 - (((i0.toUInt32 >>> ((1 : Int32).toUInt32 &&& Int32.toUInt32 31)).toInt32) &&& 1431655765)).toUInt32 >>> ((2 : Int32).toUInt32 &&& Int32.toUInt32 31)).toInt32)) S.1 S.2.1 dJ6_bitCount_0f7a4_17 rfl ?_
  refine lv_ldcw (own := RJ6) (v := 858993459) S.1 S.2.1 S.2.2.2.1 (S.2.2.2.2 _ (List.mem_of_getElem? (i := 2) rfl)) dJ6_bitCount_0f7a4_18 ?_
  refine lv_iand S.1 S.2.1 dJ6_bitCount_0f7a4_21 ?_
  refine lv_iadd S.1 S.2.1 dJ6_bitCount_0f7a4_22 ?_
  refine lv_istore_n (lv' := [(0, .int (((i0 - (((i0.toUInt32 >>> ((1 : Int32).toUInt32 &&& Int32.toUInt32 31)).toInt32) &&& 1431655765)) &&& 858993459) + ((((i0 - (((i0.toUInt32 >>> ((1 : Int32).toUInt32 &&& Int32.toUInt32 31)).toInt32) &&& 1431655765)).toUInt32 >>> ((2 : Int32).toUInt32 &&& Int32.toUInt32 31)).toInt32) &&& 858993459)))]) S.1 S.2.1 dJ6_bitCount_0f7a4_23 rfl hl (by decide) rfl (fun ls hl => ?_)
  refine lv_iload_n S.1 S.2.1 dJ6_bitCount_0f7a4_24 rfl (lv_at hl 0 rfl) ?_
  refine lv_iload_n S.1 S.2.1 dJ6_bitCount_0f7a4_25 rfl (lv_at hl 0 rfl) ?_
  refine lv_iconst (v := 4) S.1 S.2.1 dJ6_bitCount_0f7a4_26 (by decide) ?_
  refine lv_iushr (v := (((((i0 - (((i0.toUInt32 >>> ((1 : Int32).toUInt32 &&& Int32.toUInt32 31)).toInt32) &&& 1431655765)) &&& 858993459) + ((((i0 - (((i0.toUInt32 >>> ((1 : Int32).toUInt32 &&& Int32.toUInt32 31)).toInt32) &&& 1431655765)).toUInt32 >>> ((2 : Int32).toUInt32 &&& Int32.toUInt32 31)).toInt32) &&& 858993459)).toUInt32 >>> ((4 : Int32).toUInt32 &&& Int32.toUInt32 31)).toInt32)) S.1 S.2.1 dJ6_bitCount_0f7a4_27 rfl ?_
  refine lv_iadd S.1 S.2.1 dJ6_bitCount_0f7a4_28 ?_
  refine lv_ldcw (own := RJ6) (v := 252645135) S.1 S.2.1 S.2.2.2.1 (S.2.2.2.2 _ (List.mem_of_getElem? (i := 3) rfl)) dJ6_bitCount_0f7a4_29 ?_
  refine lv_iand S.1 S.2.1 dJ6_bitCount_0f7a4_32 ?_
  refine lv_istore_n (lv' := [(0, .int (((((i0 - (((i0.toUInt32 >>> ((1 : Int32).toUInt32 &&& Int32.toUInt32 31)).toInt32) &&& 1431655765)) &&& 858993459) + ((((i0 - (((i0.toUInt32 >>> ((1 : Int32).toUInt32 &&& Int32.toUInt32 31)).toInt32) &&& 1431655765)).toUInt32 >>> ((2 : Int32).toUInt32 &&& Int32.toUInt32 31)).toInt32) &&& 858993459)) + (((((i0 - (((i0.toUInt32 >>> ((1 : Int32).toUInt32 &&& Int32.toUInt32 31)).toInt32) &&& 1431655765)) &&& 858993459) + ((((i0 - (((i0.toUInt32 >>> ((1 : Int32).toUInt32 &&& Int32.toUInt32 31)).toInt32) &&& 1431655765)).toUInt32 >>> ((2 : Int32).toUInt32 &&& Int32.toUInt32 31)).toInt32) &&& 858993459)).toUInt32 >>> ((4 : Int32).toUInt32 &&& Int32.toUInt32 31)).toInt32)) &&& 252645135))]) S.1 S.2.1 dJ6_bitCount_0f7a4_33 rfl hl (by decide) rfl (fun ls hl => ?_)
  refine lv_iload_n S.1 S.2.1 dJ6_bitCount_0f7a4_34 rfl (lv_at hl 0 rfl) ?_
  refine lv_iload_n S.1 S.2.1 dJ6_bitCount_0f7a4_35 rfl (lv_at hl 0 rfl) ?_
  refine lv_bipush (v := 8) S.1 S.2.1 dJ6_bitCount_0f7a4_36 (by decide) ?_
  refine lv_iushr (v := (((((((i0 - (((i0.toUInt32 >>> ((1 : Int32).toUInt32 &&& Int32.toUInt32 31)).toInt32) &&& 1431655765)) &&& 858993459) + ((((i0 - (((i0.toUInt32 >>> ((1 : Int32).toUInt32 &&& Int32.toUInt32 31)).toInt32) &&& 1431655765)).toUInt32 >>> ((2 : Int32).toUInt32 &&& Int32.toUInt32 31)).toInt32) &&& 858993459)) + (((((i0 - (((i0.toUInt32 >>> ((1 : Int32).toUInt32 &&& Int32.toUInt32 31)).toInt32) &&& 1431655765)) &&& 858993459) + ((((i0 - (((i0.toUInt32 >>> ((1 : Int32).toUInt32 &&& Int32.toUInt32 31)).toInt32) &&& 1431655765)).toUInt32 >>> ((2 : Int32).toUInt32 &&& Int32.toUInt32 31)).toInt32) &&& 858993459)).toUInt32 >>> ((4 : Int32).toUInt32 &&& Int32.toUInt32 31)).toInt32)) &&& 252645135).toUInt32 >>> ((8 : Int32).toUInt32 &&& Int32.toUInt32 31)).toInt32)) S.1 S.2.1 dJ6_bitCount_0f7a4_38 rfl ?_
  refine lv_iadd S.1 S.2.1 dJ6_bitCount_0f7a4_39 ?_
  refine lv_istore_n (lv' := [(0, .int ((((((i0 - (((i0.toUInt32 >>> ((1 : Int32).toUInt32 &&& Int32.toUInt32 31)).toInt32) &&& 1431655765)) &&& 858993459) + ((((i0 - (((i0.toUInt32 >>> ((1 : Int32).toUInt32 &&& Int32.toUInt32 31)).toInt32) &&& 1431655765)).toUInt32 >>> ((2 : Int32).toUInt32 &&& Int32.toUInt32 31)).toInt32) &&& 858993459)) + (((((i0 - (((i0.toUInt32 >>> ((1 : Int32).toUInt32 &&& Int32.toUInt32 31)).toInt32) &&& 1431655765)) &&& 858993459) + ((((i0 - (((i0.toUInt32 >>> ((1 : Int32).toUInt32 &&& Int32.toUInt32 31)).toInt32) &&& 1431655765)).toUInt32 >>> ((2 : Int32).toUInt32 &&& Int32.toUInt32 31)).toInt32) &&& 858993459)).toUInt32 >>> ((4 : Int32).toUInt32 &&& Int32.toUInt32 31)).toInt32)) &&& 252645135) + (((((((i0 - (((i0.toUInt32 >>> ((1 : Int32).toUInt32 &&& Int32.toUInt32 31)).toInt32) &&& 1431655765)) &&& 858993459) + ((((i0 - (((i0.toUInt32 >>> ((1 : Int32).toUInt32 &&& Int32.toUInt32 31)).toInt32) &&& 1431655765)).toUInt32 >>> ((2 : Int32).toUInt32 &&& Int32.toUInt32 31)).toInt32) &&& 858993459)) + (((((i0 - (((i0.toUInt32 >>> ((1 : Int32).toUInt32 &&& Int32.toUInt32 31)).toInt32) &&& 1431655765)) &&& 858993459) + ((((i0 - (((i0.toUInt32 >>> ((1 : Int32).toUInt32 &&& Int32.toUInt32 31)).toInt32) &&& 1431655765)).toUInt32 >>> ((2 : Int32).toUInt32 &&& Int32.toUInt32 31)).toInt32) &&& 858993459)).toUInt32 >>> ((4 : Int32).toUInt32 &&& Int32.toUInt32 31)).toInt32)) &&& 252645135).toUInt32 >>> ((8 : Int32).toUInt32 &&& Int32.toUInt32 31)).toInt32)))]) S.1 S.2.1 dJ6_bitCount_0f7a4_40 rfl hl (by decide) rfl (fun ls hl => ?_)
  refine lv_iload_n S.1 S.2.1 dJ6_bitCount_0f7a4_41 rfl (lv_at hl 0 rfl) ?_
  refine lv_iload_n S.1 S.2.1 dJ6_bitCount_0f7a4_42 rfl (lv_at hl 0 rfl) ?_
  refine lv_bipush (v := 16) S.1 S.2.1 dJ6_bitCount_0f7a4_43 (by decide) ?_
  refine lv_iushr (v := ((((((((i0 - (((i0.toUInt32 >>> ((1 : Int32).toUInt32 &&& Int32.toUInt32 31)).toInt32) &&& 1431655765)) &&& 858993459) + ((((i0 - (((i0.toUInt32 >>> ((1 : Int32).toUInt32 &&& Int32.toUInt32 31)).toInt32) &&& 1431655765)).toUInt32 >>> ((2 : Int32).toUInt32 &&& Int32.toUInt32 31)).toInt32) &&& 858993459)) + (((((i0 - (((i0.toUInt32 >>> ((1 : Int32).toUInt32 &&& Int32.toUInt32 31)).toInt32) &&& 1431655765)) &&& 858993459) + ((((i0 - (((i0.toUInt32 >>> ((1 : Int32).toUInt32 &&& Int32.toUInt32 31)).toInt32) &&& 1431655765)).toUInt32 >>> ((2 : Int32).toUInt32 &&& Int32.toUInt32 31)).toInt32) &&& 858993459)).toUInt32 >>> ((4 : Int32).toUInt32 &&& Int32.toUInt32 31)).toInt32)) &&& 252645135) + (((((((i0 - (((i0.toUInt32 >>> ((1 : Int32).toUInt32 &&& Int32.toUInt32 31)).toInt32) &&& 1431655765)) &&& 858993459) + ((((i0 - (((i0.toUInt32 >>> ((1 : Int32).toUInt32 &&& Int32.toUInt32 31)).toInt32) &&& 1431655765)).toUInt32 >>> ((2 : Int32).toUInt32 &&& Int32.toUInt32 31)).toInt32) &&& 858993459)) + (((((i0 - (((i0.toUInt32 >>> ((1 : Int32).toUInt32 &&& Int32.toUInt32 31)).toInt32) &&& 1431655765)) &&& 858993459) + ((((i0 - (((i0.toUInt32 >>> ((1 : Int32).toUInt32 &&& Int32.toUInt32 31)).toInt32) &&& 1431655765)).toUInt32 >>> ((2 : Int32).toUInt32 &&& Int32.toUInt32 31)).toInt32) &&& 858993459)).toUInt32 >>> ((4 : Int32).toUInt32 &&& Int32.toUInt32 31)).toInt32)) &&& 252645135).toUInt32 >>> ((8 : Int32).toUInt32 &&& Int32.toUInt32 31)).toInt32)).toUInt32 >>> ((16 : Int32).toUInt32 &&& Int32.toUInt32 31)).toInt32)) S.1 S.2.1 dJ6_bitCount_0f7a4_45 rfl ?_
  refine lv_iadd S.1 S.2.1 dJ6_bitCount_0f7a4_46 ?_
  refine lv_istore_n (lv' := [(0, .int (((((((i0 - (((i0.toUInt32 >>> ((1 : Int32).toUInt32 &&& Int32.toUInt32 31)).toInt32) &&& 1431655765)) &&& 858993459) + ((((i0 - (((i0.toUInt32 >>> ((1 : Int32).toUInt32 &&& Int32.toUInt32 31)).toInt32) &&& 1431655765)).toUInt32 >>> ((2 : Int32).toUInt32 &&& Int32.toUInt32 31)).toInt32) &&& 858993459)) + (((((i0 - (((i0.toUInt32 >>> ((1 : Int32).toUInt32 &&& Int32.toUInt32 31)).toInt32) &&& 1431655765)) &&& 858993459) + ((((i0 - (((i0.toUInt32 >>> ((1 : Int32).toUInt32 &&& Int32.toUInt32 31)).toInt32) &&& 1431655765)).toUInt32 >>> ((2 : Int32).toUInt32 &&& Int32.toUInt32 31)).toInt32) &&& 858993459)).toUInt32 >>> ((4 : Int32).toUInt32 &&& Int32.toUInt32 31)).toInt32)) &&& 252645135) + (((((((i0 - (((i0.toUInt32 >>> ((1 : Int32).toUInt32 &&& Int32.toUInt32 31)).toInt32) &&& 1431655765)) &&& 858993459) + ((((i0 - (((i0.toUInt32 >>> ((1 : Int32).toUInt32 &&& Int32.toUInt32 31)).toInt32) &&& 1431655765)).toUInt32 >>> ((2 : Int32).toUInt32 &&& Int32.toUInt32 31)).toInt32) &&& 858993459)) + (((((i0 - (((i0.toUInt32 >>> ((1 : Int32).toUInt32 &&& Int32.toUInt32 31)).toInt32) &&& 1431655765)) &&& 858993459) + ((((i0 - (((i0.toUInt32 >>> ((1 : Int32).toUInt32 &&& Int32.toUInt32 31)).toInt32) &&& 1431655765)).toUInt32 >>> ((2 : Int32).toUInt32 &&& Int32.toUInt32 31)).toInt32) &&& 858993459)).toUInt32 >>> ((4 : Int32).toUInt32 &&& Int32.toUInt32 31)).toInt32)) &&& 252645135).toUInt32 >>> ((8 : Int32).toUInt32 &&& Int32.toUInt32 31)).toInt32)) + ((((((((i0 - (((i0.toUInt32 >>> ((1 : Int32).toUInt32 &&& Int32.toUInt32 31)).toInt32) &&& 1431655765)) &&& 858993459) + ((((i0 - (((i0.toUInt32 >>> ((1 : Int32).toUInt32 &&& Int32.toUInt32 31)).toInt32) &&& 1431655765)).toUInt32 >>> ((2 : Int32).toUInt32 &&& Int32.toUInt32 31)).toInt32) &&& 858993459)) + (((((i0 - (((i0.toUInt32 >>> ((1 : Int32).toUInt32 &&& Int32.toUInt32 31)).toInt32) &&& 1431655765)) &&& 858993459) + ((((i0 - (((i0.toUInt32 >>> ((1 : Int32).toUInt32 &&& Int32.toUInt32 31)).toInt32) &&& 1431655765)).toUInt32 >>> ((2 : Int32).toUInt32 &&& Int32.toUInt32 31)).toInt32) &&& 858993459)).toUInt32 >>> ((4 : Int32).toUInt32 &&& Int32.toUInt32 31)).toInt32)) &&& 252645135) + (((((((i0 - (((i0.toUInt32 >>> ((1 : Int32).toUInt32 &&& Int32.toUInt32 31)).toInt32) &&& 1431655765)) &&& 858993459) + ((((i0 - (((i0.toUInt32 >>> ((1 : Int32).toUInt32 &&& Int32.toUInt32 31)).toInt32) &&& 1431655765)).toUInt32 >>> ((2 : Int32).toUInt32 &&& Int32.toUInt32 31)).toInt32) &&& 858993459)) + (((((i0 - (((i0.toUInt32 >>> ((1 : Int32).toUInt32 &&& Int32.toUInt32 31)).toInt32) &&& 1431655765)) &&& 858993459) + ((((i0 - (((i0.toUInt32 >>> ((1 : Int32).toUInt32 &&& Int32.toUInt32 31)).toInt32) &&& 1431655765)).toUInt32 >>> ((2 : Int32).toUInt32 &&& Int32.toUInt32 31)).toInt32) &&& 858993459)).toUInt32 >>> ((4 : Int32).toUInt32 &&& Int32.toUInt32 31)).toInt32)) &&& 252645135).toUInt32 >>> ((8 : Int32).toUInt32 &&& Int32.toUInt32 31)).toInt32)).toUInt32 >>> ((16 : Int32).toUInt32 &&& Int32.toUInt32 31)).toInt32)))]) S.1 S.2.1 dJ6_bitCount_0f7a4_47 rfl hl (by decide) rfl (fun ls hl => ?_)
  refine lv_iload_n S.1 S.2.1 dJ6_bitCount_0f7a4_48 rfl (lv_at hl 0 rfl) ?_
  refine lv_bipush (v := 63) S.1 S.2.1 dJ6_bitCount_0f7a4_49 (by decide) ?_
  refine lv_iand S.1 S.2.1 dJ6_bitCount_0f7a4_51 ?_
  exact W.iret (v := ((((((((i0 - (((i0.toUInt32 >>> ((1 : Int32).toUInt32 &&& Int32.toUInt32 31)).toInt32) &&& 1431655765)) &&& 858993459) + ((((i0 - (((i0.toUInt32 >>> ((1 : Int32).toUInt32 &&& Int32.toUInt32 31)).toInt32) &&& 1431655765)).toUInt32 >>> ((2 : Int32).toUInt32 &&& Int32.toUInt32 31)).toInt32) &&& 858993459)) + (((((i0 - (((i0.toUInt32 >>> ((1 : Int32).toUInt32 &&& Int32.toUInt32 31)).toInt32) &&& 1431655765)) &&& 858993459) + ((((i0 - (((i0.toUInt32 >>> ((1 : Int32).toUInt32 &&& Int32.toUInt32 31)).toInt32) &&& 1431655765)).toUInt32 >>> ((2 : Int32).toUInt32 &&& Int32.toUInt32 31)).toInt32) &&& 858993459)).toUInt32 >>> ((4 : Int32).toUInt32 &&& Int32.toUInt32 31)).toInt32)) &&& 252645135) + (((((((i0 - (((i0.toUInt32 >>> ((1 : Int32).toUInt32 &&& Int32.toUInt32 31)).toInt32) &&& 1431655765)) &&& 858993459) + ((((i0 - (((i0.toUInt32 >>> ((1 : Int32).toUInt32 &&& Int32.toUInt32 31)).toInt32) &&& 1431655765)).toUInt32 >>> ((2 : Int32).toUInt32 &&& Int32.toUInt32 31)).toInt32) &&& 858993459)) + (((((i0 - (((i0.toUInt32 >>> ((1 : Int32).toUInt32 &&& Int32.toUInt32 31)).toInt32) &&& 1431655765)) &&& 858993459) + ((((i0 - (((i0.toUInt32 >>> ((1 : Int32).toUInt32 &&& Int32.toUInt32 31)).toInt32) &&& 1431655765)).toUInt32 >>> ((2 : Int32).toUInt32 &&& Int32.toUInt32 31)).toInt32) &&& 858993459)).toUInt32 >>> ((4 : Int32).toUInt32 &&& Int32.toUInt32 31)).toInt32)) &&& 252645135).toUInt32 >>> ((8 : Int32).toUInt32 &&& Int32.toUInt32 31)).toInt32)) + ((((((((i0 - (((i0.toUInt32 >>> ((1 : Int32).toUInt32 &&& Int32.toUInt32 31)).toInt32) &&& 1431655765)) &&& 858993459) + ((((i0 - (((i0.toUInt32 >>> ((1 : Int32).toUInt32 &&& Int32.toUInt32 31)).toInt32) &&& 1431655765)).toUInt32 >>> ((2 : Int32).toUInt32 &&& Int32.toUInt32 31)).toInt32) &&& 858993459)) + (((((i0 - (((i0.toUInt32 >>> ((1 : Int32).toUInt32 &&& Int32.toUInt32 31)).toInt32) &&& 1431655765)) &&& 858993459) + ((((i0 - (((i0.toUInt32 >>> ((1 : Int32).toUInt32 &&& Int32.toUInt32 31)).toInt32) &&& 1431655765)).toUInt32 >>> ((2 : Int32).toUInt32 &&& Int32.toUInt32 31)).toInt32) &&& 858993459)).toUInt32 >>> ((4 : Int32).toUInt32 &&& Int32.toUInt32 31)).toInt32)) &&& 252645135) + (((((((i0 - (((i0.toUInt32 >>> ((1 : Int32).toUInt32 &&& Int32.toUInt32 31)).toInt32) &&& 1431655765)) &&& 858993459) + ((((i0 - (((i0.toUInt32 >>> ((1 : Int32).toUInt32 &&& Int32.toUInt32 31)).toInt32) &&& 1431655765)).toUInt32 >>> ((2 : Int32).toUInt32 &&& Int32.toUInt32 31)).toInt32) &&& 858993459)) + (((((i0 - (((i0.toUInt32 >>> ((1 : Int32).toUInt32 &&& Int32.toUInt32 31)).toInt32) &&& 1431655765)) &&& 858993459) + ((((i0 - (((i0.toUInt32 >>> ((1 : Int32).toUInt32 &&& Int32.toUInt32 31)).toInt32) &&& 1431655765)).toUInt32 >>> ((2 : Int32).toUInt32 &&& Int32.toUInt32 31)).toInt32) &&& 858993459)).toUInt32 >>> ((4 : Int32).toUInt32 &&& Int32.toUInt32 31)).toInt32)) &&& 252645135).toUInt32 >>> ((8 : Int32).toUInt32 &&& Int32.toUInt32 31)).toInt32)).toUInt32 >>> ((16 : Int32).toUInt32 &&& Int32.toUInt32 31)).toInt32)) &&& 63)) S.1 S.2.1 hr (fun t ht _ => ⟨((((((((i0 - (((i0.toUInt32 >>> ((1 : Int32).toUInt32 &&& Int32.toUInt32 31)).toInt32) &&& 1431655765)) &&& 858993459) + ((((i0 - (((i0.toUInt32 >>> ((1 : Int32).toUInt32 &&& Int32.toUInt32 31)).toInt32) &&& 1431655765)).toUInt32 >>> ((2 : Int32).toUInt32 &&& Int32.toUInt32 31)).toInt32) &&& 858993459)) + (((((i0 - (((i0.toUInt32 >>> ((1 : Int32).toUInt32 &&& Int32.toUInt32 31)).toInt32) &&& 1431655765)) &&& 858993459) + ((((i0 - (((i0.toUInt32 >>> ((1 : Int32).toUInt32 &&& Int32.toUInt32 31)).toInt32) &&& 1431655765)).toUInt32 >>> ((2 : Int32).toUInt32 &&& Int32.toUInt32 31)).toInt32) &&& 858993459)).toUInt32 >>> ((4 : Int32).toUInt32 &&& Int32.toUInt32 31)).toInt32)) &&& 252645135) + (((((((i0 - (((i0.toUInt32 >>> ((1 : Int32).toUInt32 &&& Int32.toUInt32 31)).toInt32) &&& 1431655765)) &&& 858993459) + ((((i0 - (((i0.toUInt32 >>> ((1 : Int32).toUInt32 &&& Int32.toUInt32 31)).toInt32) &&& 1431655765)).toUInt32 >>> ((2 : Int32).toUInt32 &&& Int32.toUInt32 31)).toInt32) &&& 858993459)) + (((((i0 - (((i0.toUInt32 >>> ((1 : Int32).toUInt32 &&& Int32.toUInt32 31)).toInt32) &&& 1431655765)) &&& 858993459) + ((((i0 - (((i0.toUInt32 >>> ((1 : Int32).toUInt32 &&& Int32.toUInt32 31)).toInt32) &&& 1431655765)).toUInt32 >>> ((2 : Int32).toUInt32 &&& Int32.toUInt32 31)).toInt32) &&& 858993459)).toUInt32 >>> ((4 : Int32).toUInt32 &&& Int32.toUInt32 31)).toInt32)) &&& 252645135).toUInt32 >>> ((8 : Int32).toUInt32 &&& Int32.toUInt32 31)).toInt32)) + ((((((((i0 - (((i0.toUInt32 >>> ((1 : Int32).toUInt32 &&& Int32.toUInt32 31)).toInt32) &&& 1431655765)) &&& 858993459) + ((((i0 - (((i0.toUInt32 >>> ((1 : Int32).toUInt32 &&& Int32.toUInt32 31)).toInt32) &&& 1431655765)).toUInt32 >>> ((2 : Int32).toUInt32 &&& Int32.toUInt32 31)).toInt32) &&& 858993459)) + (((((i0 - (((i0.toUInt32 >>> ((1 : Int32).toUInt32 &&& Int32.toUInt32 31)).toInt32) &&& 1431655765)) &&& 858993459) + ((((i0 - (((i0.toUInt32 >>> ((1 : Int32).toUInt32 &&& Int32.toUInt32 31)).toInt32) &&& 1431655765)).toUInt32 >>> ((2 : Int32).toUInt32 &&& Int32.toUInt32 31)).toInt32) &&& 858993459)).toUInt32 >>> ((4 : Int32).toUInt32 &&& Int32.toUInt32 31)).toInt32)) &&& 252645135) + (((((((i0 - (((i0.toUInt32 >>> ((1 : Int32).toUInt32 &&& Int32.toUInt32 31)).toInt32) &&& 1431655765)) &&& 858993459) + ((((i0 - (((i0.toUInt32 >>> ((1 : Int32).toUInt32 &&& Int32.toUInt32 31)).toInt32) &&& 1431655765)).toUInt32 >>> ((2 : Int32).toUInt32 &&& Int32.toUInt32 31)).toInt32) &&& 858993459)) + (((((i0 - (((i0.toUInt32 >>> ((1 : Int32).toUInt32 &&& Int32.toUInt32 31)).toInt32) &&& 1431655765)) &&& 858993459) + ((((i0 - (((i0.toUInt32 >>> ((1 : Int32).toUInt32 &&& Int32.toUInt32 31)).toInt32) &&& 1431655765)).toUInt32 >>> ((2 : Int32).toUInt32 &&& Int32.toUInt32 31)).toInt32) &&& 858993459)).toUInt32 >>> ((4 : Int32).toUInt32 &&& Int32.toUInt32 31)).toInt32)) &&& 252645135).toUInt32 >>> ((8 : Int32).toUInt32 &&& Int32.toUInt32 31)).toInt32)).toUInt32 >>> ((16 : Int32).toUInt32 &&& Int32.toUInt32 31)).toInt32)) &&& 63), rfl, rfl, ht⟩) (fun q h => absurd h List.not_mem_nil) dJ6_bitCount_0f7a4_52
