theorem im_X2_placeOf_X2 : ∀ w ∈ u_ws RX2 TX2 3, w ∈ wsX2_placeOf := by decide +kernel
set_option maxHeartbeats 4000000 in
set_option maxRecDepth 100000 in
theorem c_X2_placeOf (l : Launch) (G : GT) (s4 p1 : Nat) (sz : Nat) (p2 : Nat) (pN : Int32) (fp1 : Nat → Int32) (i0 : Int32) : Met l yX2_placeOf wsX2_placeOf ({ frames := 1, cells := 0, slots := 0, locals := 21 }) (va_Pc [.ref s4, .int i0] (wPre G [(s4, .inr (2, [.ref p1, .ref p2, .int pN])), (p1, .inl (G.2.1 2, 160, .inl fp1))] sz)) (vp_Si (fun r : Int32 => r = (plF fp1 i0 8 0 pN))) 0 0 (fun _ => False) := by
  refine met_go (cc := cX2_placeOf) (maxL := 6) (ret := (some .int)) (own := RX2) (by decide) rfl rfl (Nat.le_of_ble_eq_true rfl) ?_
  intro p e s m below meth c ls S hr hlocks hname hsz C w hl
  have hl : lv_has ls 6 [(0, .ref s4), (1, .int i0)] := hl
  refine lv_iconst (v := 0) S.1 S.2.1 dX2_placeOf_0 (by decide) ?_
  refine lv_istore_n (lv' := [(2, .int 0), (0, .ref s4), (1, .int i0)]) S.1 S.2.1 dX2_placeOf_1 rfl hl (by decide) rfl (fun ls hl => ?_)
  refine lv_aload_n S.1 S.2.1 dX2_placeOf_2 rfl (lv_at hl 1 rfl) ?_
  refine w_get S C w (CC := RX2) (T := TX2) (N := 3) (ref := "GateSums$Polynomial") im_X2_placeOf_X2 0 rfl rfl 2 (by decide) (List.mem_of_getElem? (i := 1) rfl) (fun _ h => h) rfl dX2_placeOf_3 ?_
  refine lv_istore_n (lv' := [(3, .int pN), (2, .int 0), (0, .ref s4), (1, .int i0)]) S.1 S.2.1 dX2_placeOf_6 rfl hl (by decide) rfl (fun ls hl => ?_)
  refine lv_iconst (v := 0) S.1 S.2.1 dX2_placeOf_7 (by decide) ?_
  refine lv_istore (lv' := [(4, .int 0), (3, .int pN), (2, .int 0), (0, .ref s4), (1, .int i0)]) S.1 S.2.1 dX2_placeOf_8 hl (by decide) rfl (fun ls hl => ?_)
  refine w_loopS (σ := Nat × Int32 × Int32) (nL := 6) 10 (fun x10 => 8 - x10.1) (fun x10 => x10.1 ≤ 8 ∧ plF fp1 i0 (8 - x10.1) x10.2.1 x10.2.2 = plF fp1 i0 8 0 pN) (fun x10 => [(4, .int (nI x10.1)), (3, .int x10.2.2), (2, .int x10.2.1), (0, .ref s4), (1, .int i0)]) (fun _ => []) ?_ (0, 0, pN) ls (⟨Nat.zero_le _, rfl⟩) (lv_sub hl [0, 1, 2, 3, 4] rfl)
  intro x10 ls hI10 hl ih10
  have hl : lv_has ls 6 [(4, .int (nI x10.1)), (3, .int x10.2.2), (2, .int x10.2.1), (0, .ref s4), (1, .int i0)] := hl
  refine lv_iload S.1 S.2.1 dX2_placeOf_10 (lv_at hl 0 rfl) ?_
  refine lv_bipush (v := 8) S.1 S.2.1 dX2_placeOf_12 (by decide) ?_
  refine lv_icmp_ge (tgt := 59) S.1 S.2.1 dX2_placeOf_14 (by decide) (fun c14 => ?_) (fun c14 => ?_)
  · refine lv_iload_n S.1 S.2.1 dX2_placeOf_59 rfl (lv_at hl 2 rfl) ?_
    exact W.iret (v := x10.2.1) S.1 S.2.1 hr (fun t ht _ => ⟨x10.2.1, rfl, by first | (rw [← hI10.2]; have h := c14; rw [show (8 : Int32) = nI 8 from rfl, nI_leI (by decide) (by omega)] at h; rw [show 8 - x10.1 = 0 by omega]; rfl) | (rw [← hI10.2]; have h := c14; rw [show (8 : Int32) = nI 8 from rfl, nI_leI (by decide) (by omega)] at h; rw [show 8 - x10.1 = (7 - x10.1) + 1 by omega]; simp only [plF, if_pos c19]), ht⟩) (fun q h => absurd h List.not_mem_nil) dX2_placeOf_60
  · refine lv_iload_n S.1 S.2.1 dX2_placeOf_17 rfl (lv_at hl 2 rfl) ?_
    refine lv_iload_n S.1 S.2.1 dX2_placeOf_18 rfl (lv_at hl 1 rfl) ?_
    refine lv_icmp_ge (tgt := 59) S.1 S.2.1 dX2_placeOf_19 (by decide) (fun c19 => ?_) (fun c19 => ?_)
    · refine lv_iload_n S.1 S.2.1 dX2_placeOf_59 rfl (lv_at hl 2 rfl) ?_
      exact W.iret (v := x10.2.1) S.1 S.2.1 hr (fun t ht _ => ⟨x10.2.1, rfl, by first | (rw [← hI10.2]; have h := c14; rw [show (8 : Int32) = nI 8 from rfl, nI_leI (by decide) (by omega)] at h; rw [show 8 - x10.1 = 0 by omega]; rfl) | (rw [← hI10.2]; have h := c14; rw [show (8 : Int32) = nI 8 from rfl, nI_leI (by decide) (by omega)] at h; rw [show 8 - x10.1 = (7 - x10.1) + 1 by omega]; simp only [plF, if_pos c19]), ht⟩) (fun q h => absurd h List.not_mem_nil) dX2_placeOf_60
    · refine lv_iload_n S.1 S.2.1 dX2_placeOf_22 rfl (lv_at hl 2 rfl) ?_
      refine lv_iload_n S.1 S.2.1 dX2_placeOf_23 rfl (lv_at hl 1 rfl) ?_
      refine lv_iadd S.1 S.2.1 dX2_placeOf_24 ?_
      refine lv_iconst (v := 1) S.1 S.2.1 dX2_placeOf_25 (by decide) ?_
      refine lv_iushr (v := (((x10.2.1 + x10.2.2).toUInt32 >>> ((1 : Int32).toUInt32 &&& Int32.toUInt32 31)).toInt32)) S.1 S.2.1 dX2_placeOf_26 rfl ?_
      refine lv_istore (lv' := [(5, .int (((x10.2.1 + x10.2.2).toUInt32 >>> ((1 : Int32).toUInt32 &&& Int32.toUInt32 31)).toInt32)), (4, .int (nI x10.1)), (3, .int x10.2.2), (2, .int x10.2.1), (0, .ref s4), (1, .int i0)]) S.1 S.2.1 dX2_placeOf_27 hl (by decide) rfl (fun ls hl => ?_)
      refine lv_aload_n S.1 S.2.1 dX2_placeOf_29 rfl (lv_at hl 4 rfl) ?_
      refine w_get S C w (CC := RX2) (T := TX2) (N := 3) (ref := "GateSums$Polynomial") im_X2_placeOf_X2 0 rfl rfl 0 (by decide) (List.mem_of_getElem? (i := 2) rfl) (fun _ h => h) rfl dX2_placeOf_30 ?_
      refine lv_iload S.1 S.2.1 dX2_placeOf_33 (lv_at hl 0 rfl) ?_
      refine cs_i (va_runSN (As := [.ref p1, .int (((x10.2.1 + x10.2.2).toUInt32 >>> ((1 : Int32).toUInt32 &&& Int32.toUInt32 31)).toInt32)]) (rest := []) S (c_X6_at l G p1 _ 160 fp1 (((x10.2.1 + x10.2.2).toUInt32 >>> ((1 : Int32).toUInt32 &&& Int32.toUInt32 31)).toInt32) (by decide)) ⟨va_cnB 2 S.2.2.2.2 gX2_placeOf_X6_at_n26 rfl rfl rfl (nw_9 C.2.1) (S.2.2.2.2 _ (List.mem_of_getElem? (i := 4) rfl)) (by decide +kernel) ⟨Nat.le_of_ble_eq_true rfl, Nat.le_of_ble_eq_true rfl⟩, S.2.2.2.2 _ (List.mem_of_getElem? (i := 3) rfl), trivial⟩ ⟨wPre_blind, wPre_at C w [1] rfl rfl⟩ rfl rfl hl.1 rfl (lv_room (Nat.le_of_ble_eq_true rfl)) dX2_placeOf_35 ⟨Nat.le_of_ble_eq_true rfl, Nat.le_of_ble_eq_true rfl⟩) (fun r35 h35 => ?_)
      refine w_topi (y := atF fp1 160 (((x10.2.1 + x10.2.2).toUInt32 >>> ((1 : Int32).toUInt32 &&& Int32.toUInt32 31)).toInt32)) h35 ?_
      refine lv_iload_n S.1 S.2.1 dX2_placeOf_38 rfl (lv_at hl 5 rfl) ?_
      refine lv_icmp_le (tgt := 50) S.1 S.2.1 dX2_placeOf_39 (by decide) (fun c39 => ?_) (fun c39 => ?_)
      · refine lv_iload S.1 S.2.1 dX2_placeOf_50 (lv_at hl 0 rfl) ?_
        refine lv_istore_n (lv' := [(3, .int (((x10.2.1 + x10.2.2).toUInt32 >>> ((1 : Int32).toUInt32 &&& Int32.toUInt32 31)).toInt32)), (5, .int (((x10.2.1 + x10.2.2).toUInt32 >>> ((1 : Int32).toUInt32 &&& Int32.toUInt32 31)).toInt32)), (4, .int (nI x10.1)), (2, .int x10.2.1), (0, .ref s4), (1, .int i0)]) S.1 S.2.1 dX2_placeOf_52 rfl hl (by decide) rfl (fun ls hl => ?_)
        refine lv_iinc (v := (nI (x10.1 + 1))) (lv' := [(4, .int (nI (x10.1 + 1))), (3, .int (((x10.2.1 + x10.2.2).toUInt32 >>> ((1 : Int32).toUInt32 &&& Int32.toUInt32 31)).toInt32)), (5, .int (((x10.2.1 + x10.2.2).toUInt32 >>> ((1 : Int32).toUInt32 &&& Int32.toUInt32 31)).toInt32)), (2, .int x10.2.1), (0, .ref s4), (1, .int i0)]) S.1 S.2.1 dX2_placeOf_53 hl (k := 2) rfl (nI_1 _) (by decide) rfl (fun ls hl => ?_)
        refine lv_goto (tgt := 10) S.1 S.2.1 dX2_placeOf_56 (by decide) ?_
        have hk8 : x10.1 < 8 := by have h := c14; rw [show (8 : Int32) = nI 8 from rfl, nI_leI (by decide) (by omega)] at h; omega
        have he8 : 8 - x10.1 = (8 - (x10.1 + 1)) + 1 := by omega
        exact ih10 (x10.1 + 1, x10.2.1, (((x10.2.1 + x10.2.2).toUInt32 >>> ((1 : Int32).toUInt32 &&& Int32.toUInt32 31)).toInt32)) ls (⟨hk8, by rw [← hI10.2, he8]; simp only [plF, if_neg c19]; first | rw [if_pos c39] | rw [if_neg c39]⟩) (by show 8 - (_ + 1) < _; omega) (lv_sub hl [0, 1, 3, 4, 5] rfl)
      · refine lv_iload S.1 S.2.1 dX2_placeOf_42 (lv_at hl 0 rfl) ?_
        refine lv_iconst (v := 1) S.1 S.2.1 dX2_placeOf_44 (by decide) ?_
        refine lv_iadd S.1 S.2.1 dX2_placeOf_45 ?_
        refine lv_istore_n (lv' := [(2, .int ((((x10.2.1 + x10.2.2).toUInt32 >>> ((1 : Int32).toUInt32 &&& Int32.toUInt32 31)).toInt32) + 1)), (5, .int (((x10.2.1 + x10.2.2).toUInt32 >>> ((1 : Int32).toUInt32 &&& Int32.toUInt32 31)).toInt32)), (4, .int (nI x10.1)), (3, .int x10.2.2), (0, .ref s4), (1, .int i0)]) S.1 S.2.1 dX2_placeOf_46 rfl hl (by decide) rfl (fun ls hl => ?_)
        refine lv_goto (tgt := 53) S.1 S.2.1 dX2_placeOf_47 (by decide) ?_
        refine lv_iinc (v := (nI (x10.1 + 1))) (lv' := [(4, .int (nI (x10.1 + 1))), (2, .int ((((x10.2.1 + x10.2.2).toUInt32 >>> ((1 : Int32).toUInt32 &&& Int32.toUInt32 31)).toInt32) + 1)), (5, .int (((x10.2.1 + x10.2.2).toUInt32 >>> ((1 : Int32).toUInt32 &&& Int32.toUInt32 31)).toInt32)), (3, .int x10.2.2), (0, .ref s4), (1, .int i0)]) S.1 S.2.1 dX2_placeOf_53 hl (k := 2) rfl (nI_1 _) (by decide) rfl (fun ls hl => ?_)
        refine lv_goto (tgt := 10) S.1 S.2.1 dX2_placeOf_56 (by decide) ?_
        have hk8 : x10.1 < 8 := by have h := c14; rw [show (8 : Int32) = nI 8 from rfl, nI_leI (by decide) (by omega)] at h; omega
        have he8 : 8 - x10.1 = (8 - (x10.1 + 1)) + 1 := by omega
        exact ih10 (x10.1 + 1, ((((x10.2.1 + x10.2.2).toUInt32 >>> ((1 : Int32).toUInt32 &&& Int32.toUInt32 31)).toInt32) + 1), x10.2.2) ls (⟨hk8, by rw [← hI10.2, he8]; simp only [plF, if_neg c19]; first | rw [if_pos c39] | rw [if_neg c39]⟩) (by show 8 - (_ + 1) < _; omega) (lv_sub hl [0, 3, 1, 4, 5] rfl)
theorem im_X2_insert_X2 : ∀ w ∈ u_ws RX2 TX2 3, w ∈ wsX2_insert := by decide +kernel
theorem im_X2_remove_X2 : ∀ w ∈ u_ws RX2 TX2 3, w ∈ wsX2_remove := by decide +kernel
theorem im_X2_add_X2 : ∀ w ∈ u_ws RX2 TX2 3, w ∈ wsX2_add := by decide +kernel
theorem im_X4_addOutputs_X0 : ∀ w ∈ u_ws RX0 TX0 11, w ∈ wsX4_addOutputs := by decide +kernel
theorem im_X4_addOutputs_X4 : ∀ w ∈ u_ws RX4 TX4 6, w ∈ wsX4_addOutputs := by decide +kernel
theorem im_X4_takeTask_X0 : ∀ w ∈ u_ws RX0 TX0 11, w ∈ wsX4_takeTask := by decide +kernel
theorem im_X4_takeTask_X4 : ∀ w ∈ u_ws RX4 TX4 6, w ∈ wsX4_takeTask := by decide +kernel
theorem im_X4_replaceGate_X0 : ∀ w ∈ u_ws RX0 TX0 11, w ∈ wsX4_replaceGate := by decide +kernel
theorem im_X4_replaceGate_X4 : ∀ w ∈ u_ws RX4 TX4 6, w ∈ wsX4_replaceGate := by decide +kernel
theorem im_X4_keep_X2 : ∀ w ∈ u_ws RX2 TX2 3, w ∈ wsX4_keep := by decide +kernel
theorem im_X4_keep_X4 : ∀ w ∈ u_ws RX4 TX4 6, w ∈ wsX4_keep := by decide +kernel
theorem im_X4_reach_X0 : ∀ w ∈ u_ws RX0 TX0 11, w ∈ wsX4_reach := by decide +kernel
theorem im_X4_reach_X2 : ∀ w ∈ u_ws RX2 TX2 3, w ∈ wsX4_reach := by decide +kernel
theorem im_X4_reach_X4 : ∀ w ∈ u_ws RX4 TX4 6, w ∈ wsX4_reach := by decide +kernel
theorem im_X4_greatestSize_X4 : ∀ w ∈ u_ws RX4 TX4 6, w ∈ wsX4_greatestSize := by decide +kernel
