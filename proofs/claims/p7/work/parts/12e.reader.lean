set_option maxHeartbeats 4000000 in
set_option maxRecDepth 100000 in
theorem c_J0_coder_7d493 (l : Launch) (G : GT) (sz : Nat) (kS : Nat) (hk : kS < 16) : Met l yJ0_coder_7d493 wsJ0_coder_7d493 ({ frames := 0, cells := 0, slots := 0, locals := 0 }) (va_Pc [.ref (G.2.2.2.1 kS)] (wPre G [] sz)) (vp_Si (fun r : Int32 => r = 0)) 0 0 (fun _ => False) := by
  refine met_go (cc := cJ0_coder_7d493) (maxL := 1) (ret := (some .byte)) (own := RJ0) (by decide) rfl rfl (Nat.le_of_ble_eq_true rfl) ?_
  intro p e s m below meth c ls S hr hlocks hname hsz C w hl
  have hl : lv_has ls 1 [(0, .ref (G.2.2.2.1 kS))] := hl
  refine va_gets (ref := "java/lang/String") S.1 S.2.1 C.2.2.1.2.2.2.1 w.2.2 S.2.2.2.1 (S.2.2.2.2 _ (List.mem_of_getElem? (i := 1) rfl)) (fun _ h => h) dJ0_coder_7d493_0 ?_
  refine lv_if_eq (tgt := 13) S.1 S.2.1 dJ0_coder_7d493_3 (by decide) (fun c3 => ?_) (fun c3 => ?_)
  · exact absurd c3 (by decide)
  · refine lv_aload_n S.1 S.2.1 dJ0_coder_7d493_6 rfl (lv_at hl 0 rfl) ?_
    refine vk_getf (v := .int 0) (ref := "java/lang/String") S.1 S.2.1 (C.2.2.1.2.1.1 kS hk).2.1 w.2.2 S.2.2.2.1 (S.2.2.2.2 _ (List.mem_of_getElem? (i := 2) rfl)) (fun _ h => h) dJ0_coder_7d493_7 ?_
    refine lv_goto (tgt := 14) S.1 S.2.1 dJ0_coder_7d493_10 (by decide) ?_
    exact W.zret (v := 0) S.1 S.2.1 hr (rfl) (fun t ht _ => ⟨0, rfl, rfl, ht⟩) (fun q h => absurd h List.not_mem_nil) dJ0_coder_7d493_14
set_option maxHeartbeats 4000000 in
set_option maxRecDepth 100000 in
theorem c_J0_isLatin1_aae02 (l : Launch) (G : GT) (sz : Nat) (kS : Nat) (hk : kS < 16) : Met l yJ0_isLatin1_aae02 wsJ0_isLatin1_aae02 ({ frames := 0, cells := 0, slots := 0, locals := 0 }) (va_Pc [.ref (G.2.2.2.1 kS)] (wPre G [] sz)) (vp_Si (fun r : Int32 => r = 1)) 0 0 (fun _ => False) := by
  refine met_go (cc := cJ0_isLatin1_aae02) (maxL := 1) (ret := (some .boolean)) (own := RJ0) (by decide) rfl rfl (Nat.le_of_ble_eq_true rfl) ?_
  intro p e s m below meth c ls S hr hlocks hname hsz C w hl
  have hl : lv_has ls 1 [(0, .ref (G.2.2.2.1 kS))] := hl
  refine va_gets (ref := "java/lang/String") S.1 S.2.1 C.2.2.1.2.2.2.1 w.2.2 S.2.2.2.1 (S.2.2.2.2 _ (List.mem_of_getElem? (i := 1) rfl)) (fun _ h => h) dJ0_isLatin1_aae02_0 ?_
  refine lv_if_eq (tgt := 17) S.1 S.2.1 dJ0_isLatin1_aae02_3 (by decide) (fun c3 => ?_) (fun c3 => ?_)
  · exact absurd c3 (by decide)
  · refine lv_aload_n S.1 S.2.1 dJ0_isLatin1_aae02_6 rfl (lv_at hl 0 rfl) ?_
    refine vk_getf (v := .int 0) (ref := "java/lang/String") S.1 S.2.1 (C.2.2.1.2.1.1 kS hk).2.1 w.2.2 S.2.2.2.1 (S.2.2.2.2 _ (List.mem_of_getElem? (i := 2) rfl)) (fun _ h => h) dJ0_isLatin1_aae02_7 ?_
    refine lv_if_ne (tgt := 17) S.1 S.2.1 dJ0_isLatin1_aae02_10 (by decide) (fun c10 => ?_) (fun c10 => ?_)
    · exact absurd c10 (by decide)
    · refine lv_iconst (v := 1) S.1 S.2.1 dJ0_isLatin1_aae02_13 (by decide) ?_
      refine lv_goto (tgt := 18) S.1 S.2.1 dJ0_isLatin1_aae02_14 (by decide) ?_
      exact W.zret (v := 1) S.1 S.2.1 hr (rfl) (fun t ht _ => ⟨1, rfl, rfl, ht⟩) (fun q h => absurd h List.not_mem_nil) dJ0_isLatin1_aae02_18
set_option maxHeartbeats 4000000 in
set_option maxRecDepth 100000 in
theorem c_J0_length_8abf5 (l : Launch) (G : GT) (sz : Nat) (kS : Nat) (hk : kS < 16) : Met l yJ0_length_8abf5 wsJ0_length_8abf5 ({ frames := 1, cells := 0, slots := 0, locals := 20 }) (va_Pc [.ref (G.2.2.2.1 kS)] (wPre G [] sz)) (vp_Si (fun r : Int32 => r = (Int32.ofNat (slen kS)))) 0 0 (fun _ => False) := by
  refine met_go (cc := cJ0_length_8abf5) (maxL := 1) (ret := (some .int)) (own := RJ0) (by decide) rfl rfl (Nat.le_of_ble_eq_true rfl) ?_
  intro p e s m below meth c ls S hr hlocks hname hsz C w hl
  have hl : lv_has ls 1 [(0, .ref (G.2.2.2.1 kS))] := hl
  refine lv_aload_n S.1 S.2.1 dJ0_length_8abf5_0 rfl (lv_at hl 0 rfl) ?_
  refine vk_getf (v := .ref (G.2.2.2.2 kS)) (ref := "java/lang/String") S.1 S.2.1 (C.2.2.1.2.1.1 kS hk).2.2.1 w.2.2 S.2.2.2.1 (S.2.2.2.2 _ (List.mem_of_getElem? (i := 1) rfl)) (fun _ h => h) dJ0_length_8abf5_1 ?_
  refine va_tlen (v := (Int32.ofNat (slen kS))) S.1 S.2.1 (C.2.2.1.2.1.1 kS hk).2.2.2 w.2.2 rfl dJ0_length_8abf5_4 ?_
  refine lv_aload_n S.1 S.2.1 dJ0_length_8abf5_5 rfl (lv_at hl 0 rfl) ?_
  refine cs_i (va_runV (As := []) (rest := [.int (Int32.ofNat (slen kS))]) S (c_J0_coder_7d493 l G _ kS (hk)) (cwV 0 S.2.2.2.2 gJ0_length_8abf5_J0_coder_7d493 rfl rfl rfl (by decide +kernel) ⟨Nat.le_of_ble_eq_true rfl, Nat.le_of_ble_eq_true rfl⟩) ⟨wPre_blind, vk_recv C.2.2.1.2.1 hk w.2.2, wPre_at C w [] rfl rfl⟩ rfl rfl hl.1 rfl (lv_room (Nat.le_of_ble_eq_true rfl)) dJ0_length_8abf5_6 ⟨Nat.le_of_ble_eq_true rfl, Nat.le_of_ble_eq_true rfl⟩) (fun r6 h6 => ?_)
  refine w_topi (y := 0) h6 ?_
  refine lv_ishr S.1 S.2.1 dJ0_length_8abf5_9 ?_
  exact W.iret (v := ((Int32.ofNat (slen kS)) >>> (0 &&& 31))) S.1 S.2.1 hr (fun t ht _ => ⟨((Int32.ofNat (slen kS)) >>> (0 &&& 31)), rfl, sb_shr0 _, ht⟩) (fun q h => absurd h List.not_mem_nil) dJ0_length_8abf5_10
set_option maxHeartbeats 4000000 in
set_option maxRecDepth 100000 in
theorem c_J3_checkIndex_z (l : Launch) (G : GT) (sz : Nat) (i0 n0 : Int32) (h0 : ¬ i0 < 0) (h1 : i0 < n0) : Met l yJ3_checkIndex_8e157 wsJ3_checkIndex_8e157 ({ frames := 0, cells := 0, slots := 0, locals := 0 }) (va_Pc [.int i0, .int n0, .null] (wPre G [] sz)) (vp_Si (fun r : Int32 => True)) 0 0 (fun _ => False) := by
  refine met_go (cc := cJ3_checkIndex_8e157) (maxL := 3) (ret := (some .int)) (own := RJ3) (by decide) rfl rfl (Nat.le_of_ble_eq_true rfl) ?_
  intro p e s m below meth c ls S hr hlocks hname hsz C w hl
  have hl : lv_has ls 3 [(0, .int i0), (1, .int n0), (2, .null)] := hl
  refine lv_iload_n S.1 S.2.1 dJ3_checkIndex_8e157_0 rfl (lv_at hl 0 rfl) ?_
  refine lv_if_lt (tgt := 9) S.1 S.2.1 dJ3_checkIndex_8e157_1 (by decide) (fun c1 => ?_) (fun c1 => ?_)
  · exact absurd c1 h0
  · refine lv_iload_n S.1 S.2.1 dJ3_checkIndex_8e157_4 rfl (lv_at hl 0 rfl) ?_
    refine lv_iload_n S.1 S.2.1 dJ3_checkIndex_8e157_5 rfl (lv_at hl 1 rfl) ?_
    refine lv_icmp_lt (tgt := 16) S.1 S.2.1 dJ3_checkIndex_8e157_6 (by decide) (fun c6 => ?_) (fun c6 => ?_)
    · refine lv_iload_n S.1 S.2.1 dJ3_checkIndex_8e157_16 rfl (lv_at hl 0 rfl) ?_
      exact W.iret (v := i0) S.1 S.2.1 hr (fun t ht _ => ⟨i0, rfl, trivial, ht⟩) (fun q h => absurd h List.not_mem_nil) dJ3_checkIndex_8e157_17
    · exact absurd h1 c6
set_option maxHeartbeats 4000000 in
set_option maxRecDepth 100000 in
theorem c_J3_checkIndex_r (l : Launch) (G : GT) (aF : Nat) (sz : Nat) (i0 n0 : Int32) (h0 : ¬ i0 < 0) (h1 : i0 < n0) : Met l yJ3_checkIndex_8e157 wsJ3_checkIndex_8e157 ({ frames := 0, cells := 0, slots := 0, locals := 0 }) (va_Pc [.int i0, .int n0, .ref aF] (wPre G [] sz)) (vp_Si (fun r : Int32 => True)) 0 0 (fun _ => False) := by
  refine met_go (cc := cJ3_checkIndex_8e157) (maxL := 3) (ret := (some .int)) (own := RJ3) (by decide) rfl rfl (Nat.le_of_ble_eq_true rfl) ?_
  intro p e s m below meth c ls S hr hlocks hname hsz C w hl
  have hl : lv_has ls 3 [(0, .int i0), (1, .int n0), (2, .ref aF)] := hl
  refine lv_iload_n S.1 S.2.1 dJ3_checkIndex_8e157_0 rfl (lv_at hl 0 rfl) ?_
  refine lv_if_lt (tgt := 9) S.1 S.2.1 dJ3_checkIndex_8e157_1 (by decide) (fun c1 => ?_) (fun c1 => ?_)
  · exact absurd c1 h0
  · refine lv_iload_n S.1 S.2.1 dJ3_checkIndex_8e157_4 rfl (lv_at hl 0 rfl) ?_
    refine lv_iload_n S.1 S.2.1 dJ3_checkIndex_8e157_5 rfl (lv_at hl 1 rfl) ?_
    refine lv_icmp_lt (tgt := 16) S.1 S.2.1 dJ3_checkIndex_8e157_6 (by decide) (fun c6 => ?_) (fun c6 => ?_)
    · refine lv_iload_n S.1 S.2.1 dJ3_checkIndex_8e157_16 rfl (lv_at hl 0 rfl) ?_
      exact W.iret (v := i0) S.1 S.2.1 hr (fun t ht _ => ⟨i0, rfl, trivial, ht⟩) (fun q h => absurd h List.not_mem_nil) dJ3_checkIndex_8e157_17
    · exact absurd h1 c6
set_option maxHeartbeats 4000000 in
set_option maxRecDepth 100000 in
theorem c_J0_checkIndex_df160 (l : Launch) (G : GT) (sz : Nat) (i0 n0 : Int32) (h0 : ¬ i0 < 0) (h1 : i0 < n0) : Met l yJ0_checkIndex_df160 wsJ0_checkIndex_df160 ({ frames := 1, cells := 0, slots := 0, locals := 22 }) (va_Pc [.int i0, .int n0] (wPre G [] sz)) (va_Sv (fun _ => True)) 0 0 (fun _ => False) := by
  refine met_go (cc := cJ0_checkIndex_df160) (maxL := 2) (ret := none) (own := RJ0) (by decide) rfl rfl (Nat.le_of_ble_eq_true rfl) ?_
  intro p e s m below meth c ls S hr hlocks hname hsz C w hl
  have hl : lv_has ls 2 [(0, .int i0), (1, .int n0)] := hl
  refine lv_iload_n S.1 S.2.1 dJ0_checkIndex_df160_0 rfl (lv_at hl 0 rfl) ?_
  refine lv_iload_n S.1 S.2.1 dJ0_checkIndex_df160_1 rfl (lv_at hl 1 rfl) ?_
  rcases C.2.2.1.2.2.2.2 with hzF | ⟨aF, hzF⟩
  · refine va_gets (ref := "jdk/internal/util/Preconditions") S.1 S.2.1 hzF w.2.2 S.2.2.2.1 (S.2.2.2.2 _ (List.mem_of_getElem? (i := 1) rfl)) (fun _ h => h) dJ0_checkIndex_df160_2 ?_
    refine cs_i (va_runS (As := [.int i0, .int n0, .null]) (rest := []) S (c_J3_checkIndex_z l G _ i0 n0 (h0) (h1)) (va_cwS 3 S.2.2.2.2 gJ0_checkIndex_df160_J3_checkIndex_8e157 rfl rfl rfl (by decide +kernel) ⟨Nat.le_of_ble_eq_true rfl, Nat.le_of_ble_eq_true rfl⟩) ⟨wPre_blind, wPre_at C w [] rfl rfl⟩ rfl rfl hl.1 rfl (lv_room (Nat.le_of_ble_eq_true rfl)) dJ0_checkIndex_df160_5 ⟨Nat.le_of_ble_eq_true rfl, Nat.le_of_ble_eq_true rfl⟩) (fun r5 h5 => ?_)
    refine lv_pop S.1 S.2.1 dJ0_checkIndex_df160_8 rfl ?_
    exact W.vret S.1 S.2.1 hr (fun t ht _ => ⟨rfl, trivial, ht⟩) (fun q h => absurd h List.not_mem_nil) dJ0_checkIndex_df160_9
  · refine va_gets (ref := "jdk/internal/util/Preconditions") S.1 S.2.1 hzF w.2.2 S.2.2.2.1 (S.2.2.2.2 _ (List.mem_of_getElem? (i := 1) rfl)) (fun _ h => h) dJ0_checkIndex_df160_2 ?_
    refine cs_i (va_runS (As := [.int i0, .int n0, .ref aF]) (rest := []) S (c_J3_checkIndex_r l G aF _ i0 n0 (h0) (h1)) (va_cwS 3 S.2.2.2.2 gJ0_checkIndex_df160_J3_checkIndex_8e157 rfl rfl rfl (by decide +kernel) ⟨Nat.le_of_ble_eq_true rfl, Nat.le_of_ble_eq_true rfl⟩) ⟨wPre_blind, wPre_at C w [] rfl rfl⟩ rfl rfl hl.1 rfl (lv_room (Nat.le_of_ble_eq_true rfl)) dJ0_checkIndex_df160_5 ⟨Nat.le_of_ble_eq_true rfl, Nat.le_of_ble_eq_true rfl⟩) (fun r5_1 h5_1 => ?_)
    refine lv_pop S.1 S.2.1 dJ0_checkIndex_df160_8 rfl ?_
    exact W.vret S.1 S.2.1 hr (fun t ht _ => ⟨rfl, trivial, ht⟩) (fun q h => absurd h List.not_mem_nil) dJ0_checkIndex_df160_9
set_option maxHeartbeats 4000000 in
set_option maxRecDepth 100000 in
theorem c_J1_charAt_3b067 (l : Launch) (G : GT) (sz : Nat) (kS : Nat) (i0 : Int32) (hk : kS < 16) (hin : vp_in i0 (slen kS)) : Met l yJ1_charAt_3b067 wsJ1_charAt_3b067 ({ frames := 2, cells := 0, slots := 0, locals := 43 }) (va_Pc [.ref (G.2.2.2.2 kS), .int i0] (wPre G [] sz)) (vp_Si (fun r : Int32 => r = ((sbyt kS i0.toNatClampNeg &&& 255).toUInt32 % 65536).toInt32)) 0 0 (fun _ => False) := by
  refine met_go (cc := cJ1_charAt_3b067) (maxL := 2) (ret := (some .char)) (own := RJ1) (by decide) rfl rfl (Nat.le_of_ble_eq_true rfl) ?_
  intro p e s m below meth c ls S hr hlocks hname hsz C w hl
  have hl : lv_has ls 2 [(0, .ref (G.2.2.2.2 kS)), (1, .int i0)] := hl
  refine lv_iload_n S.1 S.2.1 dJ1_charAt_3b067_0 rfl (lv_at hl 1 rfl) ?_
  refine lv_aload_n S.1 S.2.1 dJ1_charAt_3b067_1 rfl (lv_at hl 0 rfl) ?_
  refine va_tlen (v := (Int32.ofNat (slen kS))) S.1 S.2.1 (C.2.2.1.2.1.1 kS hk).2.2.2 w.2.2 rfl dJ1_charAt_3b067_2 ?_
  refine va_csv (va_runS (As := [.int i0, .int (Int32.ofNat (slen kS))]) (rest := []) S (c_J0_checkIndex_df160 l G _ i0 (Int32.ofNat (slen kS)) (str_lo hin) (str_hi hk hin)) (va_cwS 2 S.2.2.2.2 gJ1_charAt_3b067_J0_checkIndex_df160 rfl rfl rfl (by decide +kernel) ⟨Nat.le_of_ble_eq_true rfl, Nat.le_of_ble_eq_true rfl⟩) ⟨wPre_blind, wPre_at C w [] rfl rfl⟩ rfl rfl hl.1 rfl (lv_room (Nat.le_of_ble_eq_true rfl)) dJ1_charAt_3b067_3 ⟨Nat.le_of_ble_eq_true rfl, Nat.le_of_ble_eq_true rfl⟩).run (fun h3 => ?_)
  refine lv_aload_n S.1 S.2.1 dJ1_charAt_3b067_6 rfl (lv_at hl 0 rfl) ?_
  refine lv_iload_n S.1 S.2.1 dJ1_charAt_3b067_7 rfl (lv_at hl 1 rfl) ?_
  refine va_tb (v := .int (sbyt kS i0.toNatClampNeg)) S.1 S.2.1 (C.2.2.1.2.1.1 kS hk).2.2.2 w.2.2 (hin) rfl dJ1_charAt_3b067_8 ?_
  refine lv_sipush (v := 255) S.1 S.2.1 dJ1_charAt_3b067_9 (by decide) ?_
  refine lv_iand S.1 S.2.1 dJ1_charAt_3b067_12 ?_
  refine lv_i2c (v := ((((sbyt kS i0.toNatClampNeg) &&& 255).toUInt32 % 65536).toInt32)) S.1 S.2.1 dJ1_charAt_3b067_13 rfl ?_
  exact W.zret (v := ((((sbyt kS i0.toNatClampNeg) &&& 255).toUInt32 % 65536).toInt32)) S.1 S.2.1 hr (pk_nc _) (fun t ht _ => ⟨((((sbyt kS i0.toNatClampNeg) &&& 255).toUInt32 % 65536).toInt32), rfl, rfl, ht⟩) (fun q h => absurd h List.not_mem_nil) dJ1_charAt_3b067_14
set_option maxHeartbeats 4000000 in
set_option maxRecDepth 100000 in
theorem c_J0_charAt_5068e (l : Launch) (G : GT) (sz : Nat) (kS : Nat) (i0 : Int32) (hk : kS < 16) (hin : vp_in i0 (slen kS)) : Met l yJ0_charAt_5068e wsJ0_charAt_5068e ({ frames := 3, cells := 0, slots := 0, locals := 64 }) (va_Pc [.ref (G.2.2.2.1 kS), .int i0] (wPre G [] sz)) (vp_Si (fun r : Int32 => r = ((sbyt kS i0.toNatClampNeg &&& 255).toUInt32 % 65536).toInt32)) 0 0 (fun _ => False) := by
  refine met_go (cc := cJ0_charAt_5068e) (maxL := 2) (ret := (some .char)) (own := RJ0) (by decide) rfl rfl (Nat.le_of_ble_eq_true rfl) ?_
  intro p e s m below meth c ls S hr hlocks hname hsz C w hl
  have hl : lv_has ls 2 [(0, .ref (G.2.2.2.1 kS)), (1, .int i0)] := hl
  refine lv_aload_n S.1 S.2.1 dJ0_charAt_5068e_0 rfl (lv_at hl 0 rfl) ?_
  refine cs_i (va_runV (As := []) (rest := []) S (c_J0_isLatin1_aae02 l G _ kS (hk)) (cwV 0 S.2.2.2.2 gJ0_charAt_5068e_J0_isLatin1_aae02 rfl rfl rfl (by decide +kernel) ⟨Nat.le_of_ble_eq_true rfl, Nat.le_of_ble_eq_true rfl⟩) ⟨wPre_blind, vk_recv C.2.2.1.2.1 hk w.2.2, wPre_at C w [] rfl rfl⟩ rfl rfl hl.1 rfl (lv_room (Nat.le_of_ble_eq_true rfl)) dJ0_charAt_5068e_1 ⟨Nat.le_of_ble_eq_true rfl, Nat.le_of_ble_eq_true rfl⟩) (fun r1 h1 => ?_)
  refine w_topi (y := 1) h1 ?_
  refine lv_if_eq (tgt := 16) S.1 S.2.1 dJ0_charAt_5068e_4 (by decide) (fun c4 => ?_) (fun c4 => ?_)
  · exact absurd c4 (by decide)
  · refine lv_aload_n S.1 S.2.1 dJ0_charAt_5068e_7 rfl (lv_at hl 0 rfl) ?_
    refine vk_getf (v := .ref (G.2.2.2.2 kS)) (ref := "java/lang/String") S.1 S.2.1 (C.2.2.1.2.1.1 kS hk).2.2.1 w.2.2 S.2.2.2.1 (S.2.2.2.2 _ (List.mem_of_getElem? (i := 1) rfl)) (fun _ h => h) dJ0_charAt_5068e_8 ?_
    refine lv_iload_n S.1 S.2.1 dJ0_charAt_5068e_11 rfl (lv_at hl 1 rfl) ?_
    refine cs_i (va_runS (As := [.ref (G.2.2.2.2 kS), .int i0]) (rest := []) S (c_J1_charAt_3b067 l G _ kS i0 (hk) (hin)) (va_cwS 2 S.2.2.2.2 gJ0_charAt_5068e_J1_charAt_3b067 rfl rfl rfl (by decide +kernel) ⟨Nat.le_of_ble_eq_true rfl, Nat.le_of_ble_eq_true rfl⟩) ⟨wPre_blind, wPre_at C w [] rfl rfl⟩ rfl rfl hl.1 rfl (lv_room (Nat.le_of_ble_eq_true rfl)) dJ0_charAt_5068e_12 ⟨Nat.le_of_ble_eq_true rfl, Nat.le_of_ble_eq_true rfl⟩) (fun r12 h12 => ?_)
    refine w_topi (y := ((sbyt kS i0.toNatClampNeg &&& 255).toUInt32 % 65536).toInt32) h12 ?_
    exact W.zret (v := (((sbyt kS i0.toNatClampNeg &&& 255).toUInt32 % 65536).toInt32)) S.1 S.2.1 hr (pk_nc _) (fun t ht _ => ⟨(((sbyt kS i0.toNatClampNeg &&& 255).toUInt32 % 65536).toInt32), rfl, rfl, ht⟩) (fun q h => absurd h List.not_mem_nil) dJ0_charAt_5068e_15
set_option maxHeartbeats 4000000 in
set_option maxRecDepth 100000 in
theorem c_X3_gateWord (l : Launch) (G : GT) (sz : Nat) (i0 : Int32) : Met l yX3_gateWord wsX3_gateWord ({ frames := 0, cells := 0, slots := 0, locals := 0 }) (va_Pc [.int i0] (wPre G [] sz)) (va_Sr (fun r : Nat => r < 16) (fun k => Value.ref (G.2.2.2.1 k))) 0 0 (fun _ => False) := by
  refine met_go (cc := cX3_gateWord) (maxL := 1) (ret := (some (.object "java/lang/String"))) (own := RX3) (by decide) rfl rfl (Nat.le_of_ble_eq_true rfl) ?_
  intro p e s m below meth c ls S hr hlocks hname hsz C w hl
  have hl : lv_has ls 1 [(0, .int i0)] := hl
  refine lv_iload_n S.1 S.2.1 dX3_gateWord_0 rfl (lv_at hl 0 rfl) ?_
  rcases sw_cases 0 6 i0.toInt (by decide) with c1 | ⟨c1n, c1l, c1q⟩
  · refine lv_tableOut (tgt := 65) S.1 S.2.1 dX3_gateWord_1 c1 (by decide) ?_
    refine va_ldcS (tx := "but") S.1 S.2.1 S.2.2.2.1 (C.2.2.1.2.2.1 9 _ rfl) dX3_gateWord_65 ?_
    exact W.aret (v := .ref (G.2.2.2.1 9)) S.1 S.2.1 hr (Or.inl ⟨_, rfl⟩) (Or.inr ⟨_, rfl⟩) (fun t ht _ => ⟨9, rfl, by decide, ht⟩) (fun q h => absurd h List.not_mem_nil) dX3_gateWord_67
  · have c1l2 : c1n < 7 := by omega
    rcases Nat.lt_or_ge c1n 1 with c1a | c1a
    · have c1e : c1n = 0 := by omega
      subst c1e
      have c1 : i0.toInt = 0 := by omega
      refine lv_tableIn (off := 43) (tgt := 44) S.1 S.2.1 dX3_gateWord_1 (by omega) (by omega) (by rw [c1]; rfl) (by decide) ?_
      refine va_ldcS (tx := "not") S.1 S.2.1 S.2.2.2.1 (C.2.2.1.2.2.1 2 _ rfl) dX3_gateWord_44 ?_
      exact W.aret (v := .ref (G.2.2.2.1 2)) S.1 S.2.1 hr (Or.inl ⟨_, rfl⟩) (Or.inr ⟨_, rfl⟩) (fun t ht _ => ⟨2, rfl, by decide, ht⟩) (fun q h => absurd h List.not_mem_nil) dX3_gateWord_46
    rcases Nat.lt_or_ge c1n 2 with c1a | c1a
    · have c1e : c1n = 1 := by omega
      subst c1e
      have c1 : i0.toInt = 1 := by omega
      refine lv_tableIn (off := 46) (tgt := 47) S.1 S.2.1 dX3_gateWord_1 (by omega) (by omega) (by rw [c1]; rfl) (by decide) ?_
      refine va_ldcS (tx := "and") S.1 S.2.1 S.2.2.2.1 (C.2.2.1.2.2.1 3 _ rfl) dX3_gateWord_47 ?_
      exact W.aret (v := .ref (G.2.2.2.1 3)) S.1 S.2.1 hr (Or.inl ⟨_, rfl⟩) (Or.inr ⟨_, rfl⟩) (fun t ht _ => ⟨3, rfl, by decide, ht⟩) (fun q h => absurd h List.not_mem_nil) dX3_gateWord_49
    rcases Nat.lt_or_ge c1n 3 with c1a | c1a
    · have c1e : c1n = 2 := by omega
      subst c1e
      have c1 : i0.toInt = 2 := by omega
      refine lv_tableIn (off := 49) (tgt := 50) S.1 S.2.1 dX3_gateWord_1 (by omega) (by omega) (by rw [c1]; rfl) (by decide) ?_
      refine va_ldcS (tx := "or") S.1 S.2.1 S.2.2.2.1 (C.2.2.1.2.2.1 4 _ rfl) dX3_gateWord_50 ?_
      exact W.aret (v := .ref (G.2.2.2.1 4)) S.1 S.2.1 hr (Or.inl ⟨_, rfl⟩) (Or.inr ⟨_, rfl⟩) (fun t ht _ => ⟨4, rfl, by decide, ht⟩) (fun q h => absurd h List.not_mem_nil) dX3_gateWord_52
    rcases Nat.lt_or_ge c1n 4 with c1a | c1a
    · have c1e : c1n = 3 := by omega
      subst c1e
      have c1 : i0.toInt = 3 := by omega
      refine lv_tableIn (off := 52) (tgt := 53) S.1 S.2.1 dX3_gateWord_1 (by omega) (by omega) (by rw [c1]; rfl) (by decide) ?_
      refine va_ldcS (tx := "xor") S.1 S.2.1 S.2.2.2.1 (C.2.2.1.2.2.1 5 _ rfl) dX3_gateWord_53 ?_
      exact W.aret (v := .ref (G.2.2.2.1 5)) S.1 S.2.1 hr (Or.inl ⟨_, rfl⟩) (Or.inr ⟨_, rfl⟩) (fun t ht _ => ⟨5, rfl, by decide, ht⟩) (fun q h => absurd h List.not_mem_nil) dX3_gateWord_55
    rcases Nat.lt_or_ge c1n 5 with c1a | c1a
    · have c1e : c1n = 4 := by omega
      subst c1e
      have c1 : i0.toInt = 4 := by omega
      refine lv_tableIn (off := 55) (tgt := 56) S.1 S.2.1 dX3_gateWord_1 (by omega) (by omega) (by rw [c1]; rfl) (by decide) ?_
      refine va_ldcS (tx := "nand") S.1 S.2.1 S.2.2.2.1 (C.2.2.1.2.2.1 6 _ rfl) dX3_gateWord_56 ?_
      exact W.aret (v := .ref (G.2.2.2.1 6)) S.1 S.2.1 hr (Or.inl ⟨_, rfl⟩) (Or.inr ⟨_, rfl⟩) (fun t ht _ => ⟨6, rfl, by decide, ht⟩) (fun q h => absurd h List.not_mem_nil) dX3_gateWord_58
    rcases Nat.lt_or_ge c1n 6 with c1a | c1a
    · have c1e : c1n = 5 := by omega
      subst c1e
      have c1 : i0.toInt = 5 := by omega
      refine lv_tableIn (off := 58) (tgt := 59) S.1 S.2.1 dX3_gateWord_1 (by omega) (by omega) (by rw [c1]; rfl) (by decide) ?_
      refine va_ldcS (tx := "nor") S.1 S.2.1 S.2.2.2.1 (C.2.2.1.2.2.1 7 _ rfl) dX3_gateWord_59 ?_
      exact W.aret (v := .ref (G.2.2.2.1 7)) S.1 S.2.1 hr (Or.inl ⟨_, rfl⟩) (Or.inr ⟨_, rfl⟩) (fun t ht _ => ⟨7, rfl, by decide, ht⟩) (fun q h => absurd h List.not_mem_nil) dX3_gateWord_61
    have c1e : c1n = 6 := by omega
    subst c1e
    have c1 : i0.toInt = 6 := by omega
    refine lv_tableIn (off := 61) (tgt := 62) S.1 S.2.1 dX3_gateWord_1 (by omega) (by omega) (by rw [c1]; rfl) (by decide) ?_
    refine va_ldcS (tx := "xnor") S.1 S.2.1 S.2.2.2.1 (C.2.2.1.2.2.1 8 _ rfl) dX3_gateWord_62 ?_
    exact W.aret (v := .ref (G.2.2.2.1 8)) S.1 S.2.1 hr (Or.inl ⟨_, rfl⟩) (Or.inr ⟨_, rfl⟩) (fun t ht _ => ⟨8, rfl, by decide, ht⟩) (fun q h => absurd h List.not_mem_nil) dX3_gateWord_64
set_option maxHeartbeats 4000000 in
set_option maxRecDepth 100000 in
theorem c_X3_taskWord (l : Launch) (G : GT) (sz : Nat) (i0 : Int32) : Met l yX3_taskWord wsX3_taskWord ({ frames := 0, cells := 0, slots := 0, locals := 0 }) (va_Pc [.int i0] (wPre G [] sz)) (va_Sr (fun r : Nat => r < 16) (fun k => Value.ref (G.2.2.2.1 k))) 0 0 (fun _ => False) := by
  refine met_go (cc := cX3_taskWord) (maxL := 1) (ret := (some (.object "java/lang/String"))) (own := RX3) (by decide) rfl rfl (Nat.le_of_ble_eq_true rfl) ?_
  intro p e s m below meth c ls S hr hlocks hname hsz C w hl
  have hl : lv_has ls 1 [(0, .int i0)] := hl
  refine lv_iload_n S.1 S.2.1 dX3_taskWord_0 rfl (lv_at hl 0 rfl) ?_
  rcases sw_cases 0 2 i0.toInt (by decide) with c1 | ⟨c1n, c1l, c1q⟩
  · refine lv_tableOut (tgt := 37) S.1 S.2.1 dX3_taskWord_1 c1 (by decide) ?_
    refine va_ldcS (tx := "triple") S.1 S.2.1 S.2.2.2.1 (C.2.2.1.2.2.1 15 _ rfl) dX3_taskWord_37 ?_
    exact W.aret (v := .ref (G.2.2.2.1 15)) S.1 S.2.1 hr (Or.inl ⟨_, rfl⟩) (Or.inr ⟨_, rfl⟩) (fun t ht _ => ⟨15, rfl, by decide, ht⟩) (fun q h => absurd h List.not_mem_nil) dX3_taskWord_39
  · have c1l2 : c1n < 3 := by omega
    rcases Nat.lt_or_ge c1n 1 with c1a | c1a
    · have c1e : c1n = 0 := by omega
      subst c1e
      have c1 : i0.toInt = 0 := by omega
      refine lv_tableIn (off := 27) (tgt := 28) S.1 S.2.1 dX3_taskWord_1 (by omega) (by omega) (by rw [c1]; rfl) (by decide) ?_
      refine va_ldcS (tx := "sum") S.1 S.2.1 S.2.2.2.1 (C.2.2.1.2.2.1 12 _ rfl) dX3_taskWord_28 ?_
      exact W.aret (v := .ref (G.2.2.2.1 12)) S.1 S.2.1 hr (Or.inl ⟨_, rfl⟩) (Or.inr ⟨_, rfl⟩) (fun t ht _ => ⟨12, rfl, by decide, ht⟩) (fun q h => absurd h List.not_mem_nil) dX3_taskWord_30
    rcases Nat.lt_or_ge c1n 2 with c1a | c1a
    · have c1e : c1n = 1 := by omega
      subst c1e
      have c1 : i0.toInt = 1 := by omega
      refine lv_tableIn (off := 30) (tgt := 31) S.1 S.2.1 dX3_taskWord_1 (by omega) (by omega) (by rw [c1]; rfl) (by decide) ?_
      refine va_ldcS (tx := "product") S.1 S.2.1 S.2.2.2.1 (C.2.2.1.2.2.1 13 _ rfl) dX3_taskWord_31 ?_
      exact W.aret (v := .ref (G.2.2.2.1 13)) S.1 S.2.1 hr (Or.inl ⟨_, rfl⟩) (Or.inr ⟨_, rfl⟩) (fun t ht _ => ⟨13, rfl, by decide, ht⟩) (fun q h => absurd h List.not_mem_nil) dX3_taskWord_33
    have c1e : c1n = 2 := by omega
    subst c1e
    have c1 : i0.toInt = 2 := by omega
    refine lv_tableIn (off := 33) (tgt := 34) S.1 S.2.1 dX3_taskWord_1 (by omega) (by omega) (by rw [c1]; rfl) (by decide) ?_
    refine va_ldcS (tx := "square") S.1 S.2.1 S.2.2.2.1 (C.2.2.1.2.2.1 14 _ rfl) dX3_taskWord_34 ?_
    exact W.aret (v := .ref (G.2.2.2.1 14)) S.1 S.2.1 hr (Or.inl ⟨_, rfl⟩) (Or.inr ⟨_, rfl⟩) (fun t ht _ => ⟨14, rfl, by decide, ht⟩) (fun q h => absurd h List.not_mem_nil) dX3_taskWord_36
theorem im_X3_isWord_X3 : ∀ w ∈ u_ws RX3 TX3 4, w ∈ wsX3_isWord := by decide +kernel
set_option maxHeartbeats 4000000 in
set_option maxRecDepth 100000 in
theorem c_X3_isWord (l : Launch) (G : GT) (aRd aT aB : Nat) (sz : Nat) (rF rT rS tL : Int32) (fB : Nat → Int32) (kS : Nat) (hk : kS < 16) : Met l yX3_isWord wsX3_isWord ({ frames := 4, cells := 0, slots := 0, locals := 85 }) (va_Pc [.ref aRd, .ref (G.2.2.2.1 kS)] (wPre G [(aRd, .inr (3, [.ref aT, .int rF, .int rT, .int rS])), (aT, .inr (5, [.ref aB, .int tL])), (aB, .inl (G.2.1 0, 120, .inl fB))] sz)) (vp_Si (fun r : Int32 => True)) 0 0 (fun _ => False) := by
  refine met_go (cc := cX3_isWord) (maxL := 3) (ret := (some .boolean)) (own := RX3) (by decide) rfl rfl (Nat.le_of_ble_eq_true rfl) ?_
  intro p e s m below meth c ls S hr hlocks hname hsz C w hl
  have hl : lv_has ls 3 [(0, .ref aRd), (1, .ref (G.2.2.2.1 kS))] := hl
  refine lv_aload_n S.1 S.2.1 dX3_isWord_0 rfl (lv_at hl 0 rfl) ?_
  refine w_get S C w (CC := RX3) (T := TX3) (N := 4) (ref := "GateSums$Reader") im_X3_isWord_X3 0 rfl rfl 3 (by decide) (List.mem_of_getElem? (i := 1) rfl) (fun _ h => h) rfl dX3_isWord_1 ?_
  refine lv_iconst (v := 1) S.1 S.2.1 dX3_isWord_4 (by decide) ?_
  refine lv_icmp_ne (tgt := 24) S.1 S.2.1 dX3_isWord_5 (by decide) (fun c5 => ?_) (fun c5 => ?_)
  · refine lv_iconst (v := 0) S.1 S.2.1 dX3_isWord_24 (by decide) ?_
    exact W.zret (v := 0) S.1 S.2.1 hr (rfl) (fun t ht _ => ⟨0, rfl, trivial, ht⟩) (fun q h => absurd h List.not_mem_nil) dX3_isWord_25
  · refine lv_aload_n S.1 S.2.1 dX3_isWord_8 rfl (lv_at hl 0 rfl) ?_
    refine w_get S C w (CC := RX3) (T := TX3) (N := 4) (ref := "GateSums$Reader") im_X3_isWord_X3 0 rfl rfl 2 (by decide) (List.mem_of_getElem? (i := 2) rfl) (fun _ h => h) rfl dX3_isWord_9 ?_
    refine lv_aload_n S.1 S.2.1 dX3_isWord_12 rfl (lv_at hl 0 rfl) ?_
    refine w_get S C w (CC := RX3) (T := TX3) (N := 4) (ref := "GateSums$Reader") im_X3_isWord_X3 0 rfl rfl 1 (by decide) (List.mem_of_getElem? (i := 3) rfl) (fun _ h => h) rfl dX3_isWord_13 ?_
    refine lv_isub S.1 S.2.1 dX3_isWord_16 ?_
    refine lv_aload_n S.1 S.2.1 dX3_isWord_17 rfl (lv_at hl 1 rfl) ?_
    refine cs_i (va_runV (As := []) (rest := [.int (rT - rF)]) S (c_J0_length_8abf5 l G _ kS (hk)) (cwV 0 S.2.2.2.2 gX3_isWord_J0_length_8abf5 rfl rfl rfl (by decide +kernel) ⟨Nat.le_of_ble_eq_true rfl, Nat.le_of_ble_eq_true rfl⟩) ⟨wPre_blind, vk_recv C.2.2.1.2.1 hk w.2.2, wPre_at C w [] rfl rfl⟩ rfl rfl hl.1 rfl (lv_room (Nat.le_of_ble_eq_true rfl)) dX3_isWord_18 ⟨Nat.le_of_ble_eq_true rfl, Nat.le_of_ble_eq_true rfl⟩) (fun r18 h18 => ?_)
    refine w_topi (y := (Int32.ofNat (slen kS))) h18 ?_
    refine lv_icmp_eq (tgt := 26) S.1 S.2.1 dX3_isWord_21 (by decide) (fun c21 => ?_) (fun c21 => ?_)
    · refine lv_iconst (v := 0) S.1 S.2.1 dX3_isWord_26 (by decide) ?_
      refine lv_istore_n (lv' := [(2, .int 0), (0, .ref aRd), (1, .ref (G.2.2.2.1 kS))]) S.1 S.2.1 dX3_isWord_27 rfl hl (by decide) rfl (fun ls hl => ?_)
      refine w_loopS (σ := Nat) (nL := 3) 28 (fun x28 => slen kS - x28) (fun x28 => x28 ≤ slen kS) (fun x28 => [(2, .int (nI x28)), (0, .ref aRd), (1, .ref (G.2.2.2.1 kS))]) (fun _ => []) ?_ 0 ls (Nat.zero_le _) (lv_sub hl [0, 1, 2] rfl)
      intro x28 ls hI28 hl ih28
      have hl : lv_has ls 3 [(2, .int (nI x28)), (0, .ref aRd), (1, .ref (G.2.2.2.1 kS))] := hl
      have hs28 := slen_lt hk
      refine lv_iload_n S.1 S.2.1 dX3_isWord_28 rfl (lv_at hl 0 rfl) ?_
      refine lv_aload_n S.1 S.2.1 dX3_isWord_29 rfl (lv_at hl 2 rfl) ?_
      refine cs_i (va_runV (As := []) (rest := [.int (nI x28)]) S (c_J0_length_8abf5 l G _ kS (hk)) (cwV 0 S.2.2.2.2 gX3_isWord_J0_length_8abf5 rfl rfl rfl (by decide +kernel) ⟨Nat.le_of_ble_eq_true rfl, Nat.le_of_ble_eq_true rfl⟩) ⟨wPre_blind, vk_recv C.2.2.1.2.1 hk w.2.2, wPre_at C w [] rfl rfl⟩ rfl rfl hl.1 rfl (lv_room (Nat.le_of_ble_eq_true rfl)) dX3_isWord_30 ⟨Nat.le_of_ble_eq_true rfl, Nat.le_of_ble_eq_true rfl⟩) (fun r30 h30 => ?_)
      refine w_topi (y := (Int32.ofNat (slen kS))) h30 ?_
      refine lv_icmp_ge (tgt := 65) S.1 S.2.1 dX3_isWord_33 (by decide) (fun c33 => ?_) (fun c33 => ?_)
      · refine lv_iconst (v := 1) S.1 S.2.1 dX3_isWord_65 (by decide) ?_
        exact W.zret (v := 1) S.1 S.2.1 hr (rfl) (fun t ht _ => ⟨1, rfl, trivial, ht⟩) (fun q h => absurd h List.not_mem_nil) dX3_isWord_66
      · refine lv_aload_n S.1 S.2.1 dX3_isWord_36 rfl (lv_at hl 1 rfl) ?_
        refine w_get S C w (CC := RX3) (T := TX3) (N := 4) (ref := "GateSums$Reader") im_X3_isWord_X3 0 rfl rfl 0 (by decide) (List.mem_of_getElem? (i := 4) rfl) (fun _ h => h) rfl dX3_isWord_37 ?_
        refine lv_aload_n S.1 S.2.1 dX3_isWord_40 rfl (lv_at hl 1 rfl) ?_
        refine w_get S C w (CC := RX3) (T := TX3) (N := 4) (ref := "GateSums$Reader") im_X3_isWord_X3 0 rfl rfl 1 (by decide) (List.mem_of_getElem? (i := 3) rfl) (fun _ h => h) rfl dX3_isWord_41 ?_
        refine lv_iload_n S.1 S.2.1 dX3_isWord_44 rfl (lv_at hl 0 rfl) ?_
        refine lv_iadd S.1 S.2.1 dX3_isWord_45 ?_
        refine cs_i (va_runV (As := [.int (rF + (nI x28))]) (rest := []) S (c_X5_byteAt l G aT aB _ tL fB (rF + (nI x28))) (cwV 1 S.2.2.2.2 gX3_isWord_X5_byteAt rfl rfl rfl (by decide +kernel) ⟨Nat.le_of_ble_eq_true rfl, Nat.le_of_ble_eq_true rfl⟩) ⟨wPre_blind, va_recv C.1 w.1 (ci := 5) (q0 := 1) rfl rfl, wPre_at C w [1, 2] rfl rfl⟩ rfl rfl hl.1 rfl (lv_room (Nat.le_of_ble_eq_true rfl)) dX3_isWord_46 ⟨Nat.le_of_ble_eq_true rfl, Nat.le_of_ble_eq_true rfl⟩) (fun r46 h46 => ?_)
        refine w_topi (y := (byteAtF tL fB (rF + (nI x28)))) h46 ?_
        refine lv_aload_n S.1 S.2.1 dX3_isWord_49 rfl (lv_at hl 2 rfl) ?_
        refine lv_iload_n S.1 S.2.1 dX3_isWord_50 rfl (lv_at hl 0 rfl) ?_
        refine cs_i (va_runV (As := [.int (nI x28)]) (rest := [.int (byteAtF tL fB (rF + (nI x28)))]) S (c_J0_charAt_5068e l G _ kS (nI x28) (hk) (str_in hk (by omega) c33)) (cwV 1 S.2.2.2.2 gX3_isWord_J0_charAt_5068e rfl rfl rfl (by decide +kernel) ⟨Nat.le_of_ble_eq_true rfl, Nat.le_of_ble_eq_true rfl⟩) ⟨wPre_blind, vk_recv C.2.2.1.2.1 hk w.2.2, wPre_at C w [] rfl rfl⟩ rfl rfl hl.1 rfl (lv_room (Nat.le_of_ble_eq_true rfl)) dX3_isWord_51 ⟨Nat.le_of_ble_eq_true rfl, Nat.le_of_ble_eq_true rfl⟩) (fun r51 h51 => ?_)
        refine w_topi (y := ((sbyt kS (nI x28).toNatClampNeg &&& 255).toUInt32 % 65536).toInt32) h51 ?_
        refine lv_icmp_eq (tgt := 59) S.1 S.2.1 dX3_isWord_54 (by decide) (fun c54 => ?_) (fun c54 => ?_)
        · refine lv_iinc (v := (nI (x28 + 1))) (lv' := [(2, .int (nI (x28 + 1))), (0, .ref aRd), (1, .ref (G.2.2.2.1 kS))]) S.1 S.2.1 dX3_isWord_59 hl (k := 0) rfl (nI_1 _) (by decide) rfl (fun ls hl => ?_)
          refine lv_goto (tgt := 28) S.1 S.2.1 dX3_isWord_62 (by decide) ?_
          exact ih28 (x28 + 1) ls (by have := str_lt hk (by omega) c33; omega) (by have := str_lt hk (by omega) c33; omega) (lv_sub hl [0, 1, 2] rfl)
        · refine lv_iconst (v := 0) S.1 S.2.1 dX3_isWord_57 (by decide) ?_
          exact W.zret (v := 0) S.1 S.2.1 hr (rfl) (fun t ht _ => ⟨0, rfl, trivial, ht⟩) (fun q h => absurd h List.not_mem_nil) dX3_isWord_58
    · refine lv_iconst (v := 0) S.1 S.2.1 dX3_isWord_24 (by decide) ?_
      exact W.zret (v := 0) S.1 S.2.1 hr (rfl) (fun t ht _ => ⟨0, rfl, trivial, ht⟩) (fun q h => absurd h List.not_mem_nil) dX3_isWord_25
theorem im_X3_advance_X3 : ∀ w ∈ u_ws RX3 TX3 4, w ∈ wsX3_advance := by decide +kernel
theorem im_X3_advance_X5 : ∀ w ∈ u_ws RX5 TX5 2, w ∈ wsX3_advance := by decide +kernel
set_option maxHeartbeats 4000000 in
set_option maxRecDepth 100000 in
theorem c_X3_advance (l : Launch) (G : GT) (aRd aT aB : Nat) (sz : Nat) (rF rT rS tL : Int32) (fB : Nat → Int32) : Met l yX3_advance wsX3_advance ({ frames := 1, cells := 0, slots := 0, locals := 21 }) (va_Pc [.ref aRd] (wPre G [(aRd, .inr (3, [.ref aT, .int rF, .int rT, .int rS])), (aT, .inr (5, [.ref aB, .int tL])), (aB, .inl (G.2.1 0, 120, .inl fB))] sz)) (va_Qv (fun u : Int32 × Int32 × Int32 => True) (bW G (va_A [(aRd, .inr (3, [.ref aT, .int rF, .int rT, .int rS])), (aT, .inr (5, [.ref aB, .int tL])), (aB, .inl (G.2.1 0, 120, .inl fB))] sz) (fun u : Int32 × Int32 × Int32 => [(aRd, .inr (3, [.ref aT, .int u.1, .int u.2.1, .int u.2.2])), (aT, .inr (5, [.ref aB, .int tL])), (aB, .inl (G.2.1 0, 120, .inl fB))])) (va_A [(aRd, .inr (3, [.ref aT, .int rF, .int rT, .int rS])), (aT, .inr (5, [.ref aB, .int tL])), (aB, .inl (G.2.1 0, 120, .inl fB))] sz)) 0 0 (va_A [(aRd, .inr (3, [.ref aT, .int rF, .int rT, .int rS])), (aT, .inr (5, [.ref aB, .int tL])), (aB, .inl (G.2.1 0, 120, .inl fB))] sz) := by
  refine met_go (cc := cX3_advance) (maxL := 2) (ret := none) (own := RX3) (by decide) rfl rfl (Nat.le_of_ble_eq_true rfl) ?_
  intro p e s m below meth c ls S hr hlocks hname hsz C w hl
  have hl : lv_has ls 2 [(0, .ref aRd)] := hl
  refine lv_aload_n S.1 S.2.1 dX3_advance_0 rfl (lv_at hl 0 rfl) ?_
  refine lv_aload_n S.1 S.2.1 dX3_advance_1 rfl (lv_at hl 0 rfl) ?_
  refine w_get S C w (CC := RX3) (T := TX3) (N := 4) (ref := "GateSums$Reader") im_X3_advance_X3 0 rfl rfl 2 (by decide) (List.mem_of_getElem? (i := 1) rfl) (fun _ h => h) rfl dX3_advance_2 ?_
  refine w_put S C w (CC := RX3) (T := TX3) (N := 4) (ref := "GateSums$Reader") im_X3_advance_X3 tyX3 tyX3_ok nmX3 0 rfl rfl 1 (by decide) (List.mem_of_getElem? (i := 2) rfl) (fun _ h => h) rfl (ws2 := [(aRd, .inr (3, [.ref aT, .int rT, .int rT, .int rS])), (aT, .inr (5, [.ref aB, .int tL])), (aB, .inl (G.2.1 0, 120, .inl fB))]) (rfl) (rfl) (Nat.le_of_ble_eq_true rfl) rfl dX3_advance_5 (fun H locs w => ?_)
  refine w_loop (G := G) (σ := Int32) (nL := 2) 8 (fun x8 => (tL.toInt - x8.toInt).toNat) (fun x8 => True) (fun x8 => [(aRd, .inr (3, [.ref aT, .int x8, .int rT, .int rS])), (aT, .inr (5, [.ref aB, .int tL])), (aB, .inl (G.2.1 0, 120, .inl fB))]) (fun x8 => [(0, .ref aRd)]) (fun _ => []) ?_ rT ls _ _ (trivial) w (lv_sub hl [0] rfl)
  intro x8 ls H locs hI8 w hl ih8
  have w : Wd G _ s [(aRd, .inr (3, [.ref aT, .int x8, .int rT, .int rS])), (aT, .inr (5, [.ref aB, .int tL])), (aB, .inl (G.2.1 0, 120, .inl fB))] H locs := w
  have hl : lv_has ls 2 [(0, .ref aRd)] := hl
  refine lv_aload_n S.1 S.2.1 dX3_advance_8 rfl (lv_at hl 0 rfl) ?_
  refine w_get S C w (CC := RX3) (T := TX3) (N := 4) (ref := "GateSums$Reader") im_X3_advance_X3 0 rfl rfl 1 (by decide) (List.mem_of_getElem? (i := 2) rfl) (fun _ h => h) rfl dX3_advance_9 ?_
  refine lv_aload_n S.1 S.2.1 dX3_advance_12 rfl (lv_at hl 0 rfl) ?_
  refine w_get S C w (CC := RX3) (T := TX3) (N := 4) (ref := "GateSums$Reader") im_X3_advance_X3 0 rfl rfl 0 (by decide) (List.mem_of_getElem? (i := 3) rfl) (fun _ h => h) rfl dX3_advance_13 ?_
  refine w_get S C w (CC := RX5) (T := TX5) (N := 2) (ref := "GateSums$Text") im_X3_advance_X5 1 rfl rfl 1 (by decide) (List.mem_of_getElem? (i := 4) rfl) (fun _ h => h) rfl dX3_advance_16 ?_
  refine lv_icmp_ge (tgt := 51) S.1 S.2.1 dX3_advance_19 (by decide) (fun c19 => ?_) (fun c19 => ?_)
  · refine lv_aload_n S.1 S.2.1 dX3_advance_51 rfl (lv_at hl 0 rfl) ?_
    refine lv_aload_n S.1 S.2.1 dX3_advance_52 rfl (lv_at hl 0 rfl) ?_
    refine w_get S C w (CC := RX3) (T := TX3) (N := 4) (ref := "GateSums$Reader") im_X3_advance_X3 0 rfl rfl 0 (by decide) (List.mem_of_getElem? (i := 3) rfl) (fun _ h => h) rfl dX3_advance_53 ?_
    refine lv_aload_n S.1 S.2.1 dX3_advance_56 rfl (lv_at hl 0 rfl) ?_
    refine w_get S C w (CC := RX3) (T := TX3) (N := 4) (ref := "GateSums$Reader") im_X3_advance_X3 0 rfl rfl 1 (by decide) (List.mem_of_getElem? (i := 2) rfl) (fun _ h => h) rfl dX3_advance_57 ?_
    refine cs_i (va_runV (As := [.int x8]) (rest := [.ref aRd]) S (c_X5_byteAt l G aT aB _ tL fB x8) (cwV 1 S.2.2.2.2 gX3_advance_X5_byteAt rfl rfl rfl (by decide +kernel) ⟨Nat.le_of_ble_eq_true rfl, Nat.le_of_ble_eq_true rfl⟩) ⟨wPre_blind, va_recv C.1 w.1 (ci := 5) (q0 := 1) rfl rfl, wPre_at C w [1, 2] rfl rfl⟩ rfl rfl hl.1 rfl (lv_room (Nat.le_of_ble_eq_true rfl)) dX3_advance_60 ⟨Nat.le_of_ble_eq_true rfl, Nat.le_of_ble_eq_true rfl⟩) (fun r60 h60 => ?_)
    refine w_topi (y := (byteAtF tL fB x8)) h60 ?_
    refine cs_i (va_runS (As := [.int (byteAtF tL fB x8)]) (rest := [.ref aRd]) S (c_X3_sortOf l G _ (byteAtF tL fB x8)) (va_cwS 1 S.2.2.2.2 gX3_advance_X3_sortOf rfl rfl rfl (by decide +kernel) ⟨Nat.le_of_ble_eq_true rfl, Nat.le_of_ble_eq_true rfl⟩) ⟨wPre_blind, wPre_at C w [] rfl rfl⟩ rfl rfl hl.1 rfl (lv_room (Nat.le_of_ble_eq_true rfl)) dX3_advance_63 ⟨Nat.le_of_ble_eq_true rfl, Nat.le_of_ble_eq_true rfl⟩) (fun r63 h63 => ?_)
    refine w_topi (y := (sortOfF (byteAtF tL fB x8))) h63 ?_
    refine w_put S C w (CC := RX3) (T := TX3) (N := 4) (ref := "GateSums$Reader") im_X3_advance_X3 tyX3 tyX3_ok nmX3 0 rfl rfl 3 (by decide) (List.mem_of_getElem? (i := 5) rfl) (fun _ h => h) rfl (ws2 := [(aRd, .inr (3, [.ref aT, .int x8, .int rT, .int (sortOfF (byteAtF tL fB x8))])), (aT, .inr (5, [.ref aB, .int tL])), (aB, .inl (G.2.1 0, 120, .inl fB))]) (rfl) (rfl) (Nat.le_of_ble_eq_true rfl) rfl dX3_advance_66 (fun H locs w => ?_)
    refine lv_aload_n S.1 S.2.1 dX3_advance_69 rfl (lv_at hl 0 rfl) ?_
    refine lv_aload_n S.1 S.2.1 dX3_advance_70 rfl (lv_at hl 0 rfl) ?_
    refine w_get S C w (CC := RX3) (T := TX3) (N := 4) (ref := "GateSums$Reader") im_X3_advance_X3 0 rfl rfl 3 (by decide) (List.mem_of_getElem? (i := 5) rfl) (fun _ h => h) rfl dX3_advance_71 ?_
    refine w_joini 90 [.ref aRd] (fun z90 => True) (fun z90 hz90 => ?_) (fun J90 => ?_)
    · refine w_put S C w (CC := RX3) (T := TX3) (N := 4) (ref := "GateSums$Reader") im_X3_advance_X3 tyX3 tyX3_ok nmX3 0 rfl rfl 2 (by decide) (List.mem_of_getElem? (i := 1) rfl) (fun _ h => h) rfl (ws2 := [(aRd, .inr (3, [.ref aT, .int x8, .int z90, .int (sortOfF (byteAtF tL fB x8))])), (aT, .inr (5, [.ref aB, .int tL])), (aB, .inl (G.2.1 0, 120, .inl fB))]) (rfl) (rfl) (Nat.le_of_ble_eq_true rfl) rfl dX3_advance_90 (fun H locs w => ?_)
      refine w_joini 114 [] (fun z114 => True) (fun z114 hz114 => ?_) (fun J114 => ?_)
      · refine lv_istore_n (lv' := [(1, .int z114), (0, .ref aRd)]) S.1 S.2.1 dX3_advance_114 rfl hl (by decide) rfl (fun ls hl => ?_)
        refine w_loop (G := G) (σ := Int32) (nL := 2) 115 (fun x115 => (tL.toInt - x115.toInt).toNat) (fun x115 => True) (fun x115 => [(aRd, .inr (3, [.ref aT, .int x8, .int x115, .int (sortOfF (byteAtF tL fB x8))])), (aT, .inr (5, [.ref aB, .int tL])), (aB, .inl (G.2.1 0, 120, .inl fB))]) (fun x115 => [(1, .int z114), (0, .ref aRd)]) (fun _ => []) ?_ z90 ls _ _ (trivial) w (lv_sub hl [0, 1] rfl)
        intro x115 ls H locs hI115 w hl ih115
        have w : Wd G _ s [(aRd, .inr (3, [.ref aT, .int x8, .int x115, .int (sortOfF (byteAtF tL fB x8))])), (aT, .inr (5, [.ref aB, .int tL])), (aB, .inl (G.2.1 0, 120, .inl fB))] H locs := w
        have hl : lv_has ls 2 [(1, .int z114), (0, .ref aRd)] := hl
        refine lv_iload_n S.1 S.2.1 dX3_advance_115 rfl (lv_at hl 0 rfl) ?_
        refine lv_if_eq (tgt := 167) S.1 S.2.1 dX3_advance_116 (by decide) (fun c116 => ?_) (fun c116 => ?_)
        · exact W.vret S.1 S.2.1 hr (fun t ht _ => ⟨⟨(x8, x115, (sortOfF (byteAtF tL fB x8))), rfl, trivial, by rw [ht]; exact w.1, w.2.1⟩, w.2.2.F ht⟩) w.2.2.2.2 dX3_advance_167
        · refine lv_aload_n S.1 S.2.1 dX3_advance_119 rfl (lv_at hl 1 rfl) ?_
          refine w_get S C w (CC := RX3) (T := TX3) (N := 4) (ref := "GateSums$Reader") im_X3_advance_X3 0 rfl rfl 2 (by decide) (List.mem_of_getElem? (i := 1) rfl) (fun _ h => h) rfl dX3_advance_120 ?_
          refine lv_aload_n S.1 S.2.1 dX3_advance_123 rfl (lv_at hl 1 rfl) ?_
          refine w_get S C w (CC := RX3) (T := TX3) (N := 4) (ref := "GateSums$Reader") im_X3_advance_X3 0 rfl rfl 0 (by decide) (List.mem_of_getElem? (i := 3) rfl) (fun _ h => h) rfl dX3_advance_124 ?_
          refine w_get S C w (CC := RX5) (T := TX5) (N := 2) (ref := "GateSums$Text") im_X3_advance_X5 1 rfl rfl 1 (by decide) (List.mem_of_getElem? (i := 4) rfl) (fun _ h => h) rfl dX3_advance_127 ?_
          refine lv_icmp_ge (tgt := 167) S.1 S.2.1 dX3_advance_130 (by decide) (fun c130 => ?_) (fun c130 => ?_)
          · exact W.vret S.1 S.2.1 hr (fun t ht _ => ⟨⟨(x8, x115, (sortOfF (byteAtF tL fB x8))), rfl, trivial, by rw [ht]; exact w.1, w.2.1⟩, w.2.2.F ht⟩) w.2.2.2.2 dX3_advance_167
          · refine lv_aload_n S.1 S.2.1 dX3_advance_133 rfl (lv_at hl 1 rfl) ?_
            refine w_get S C w (CC := RX3) (T := TX3) (N := 4) (ref := "GateSums$Reader") im_X3_advance_X3 0 rfl rfl 0 (by decide) (List.mem_of_getElem? (i := 3) rfl) (fun _ h => h) rfl dX3_advance_134 ?_
            refine lv_aload_n S.1 S.2.1 dX3_advance_137 rfl (lv_at hl 1 rfl) ?_
            refine w_get S C w (CC := RX3) (T := TX3) (N := 4) (ref := "GateSums$Reader") im_X3_advance_X3 0 rfl rfl 2 (by decide) (List.mem_of_getElem? (i := 1) rfl) (fun _ h => h) rfl dX3_advance_138 ?_
            refine cs_i (va_runV (As := [.int x115]) (rest := []) S (c_X5_byteAt l G aT aB _ tL fB x115) (cwV 1 S.2.2.2.2 gX3_advance_X5_byteAt rfl rfl rfl (by decide +kernel) ⟨Nat.le_of_ble_eq_true rfl, Nat.le_of_ble_eq_true rfl⟩) ⟨wPre_blind, va_recv C.1 w.1 (ci := 5) (q0 := 1) rfl rfl, wPre_at C w [1, 2] rfl rfl⟩ rfl rfl hl.1 rfl (lv_room (Nat.le_of_ble_eq_true rfl)) dX3_advance_141 ⟨Nat.le_of_ble_eq_true rfl, Nat.le_of_ble_eq_true rfl⟩) (fun r141 h141 => ?_)
            refine w_topi (y := (byteAtF tL fB x115)) h141 ?_
            refine cs_i (va_runS (As := [.int (byteAtF tL fB x115)]) (rest := []) S (c_X3_sortOf l G _ (byteAtF tL fB x115)) (va_cwS 1 S.2.2.2.2 gX3_advance_X3_sortOf rfl rfl rfl (by decide +kernel) ⟨Nat.le_of_ble_eq_true rfl, Nat.le_of_ble_eq_true rfl⟩) ⟨wPre_blind, wPre_at C w [] rfl rfl⟩ rfl rfl hl.1 rfl (lv_room (Nat.le_of_ble_eq_true rfl)) dX3_advance_144 ⟨Nat.le_of_ble_eq_true rfl, Nat.le_of_ble_eq_true rfl⟩) (fun r144 h144 => ?_)
            refine w_topi (y := (sortOfF (byteAtF tL fB x115))) h144 ?_
            refine lv_aload_n S.1 S.2.1 dX3_advance_147 rfl (lv_at hl 1 rfl) ?_
            refine w_get S C w (CC := RX3) (T := TX3) (N := 4) (ref := "GateSums$Reader") im_X3_advance_X3 0 rfl rfl 3 (by decide) (List.mem_of_getElem? (i := 5) rfl) (fun _ h => h) rfl dX3_advance_148 ?_
            refine lv_icmp_ne (tgt := 167) S.1 S.2.1 dX3_advance_151 (by decide) (fun c151 => ?_) (fun c151 => ?_)
            · exact W.vret S.1 S.2.1 hr (fun t ht _ => ⟨⟨(x8, x115, (sortOfF (byteAtF tL fB x8))), rfl, trivial, by rw [ht]; exact w.1, w.2.1⟩, w.2.2.F ht⟩) w.2.2.2.2 dX3_advance_167
            · refine lv_aload_n S.1 S.2.1 dX3_advance_154 rfl (lv_at hl 1 rfl) ?_
              refine lv_dup S.1 S.2.1 dX3_advance_155 rfl ?_
              refine w_get S C w (CC := RX3) (T := TX3) (N := 4) (ref := "GateSums$Reader") im_X3_advance_X3 0 rfl rfl 2 (by decide) (List.mem_of_getElem? (i := 1) rfl) (fun _ h => h) rfl dX3_advance_156 ?_
              refine lv_iconst (v := 1) S.1 S.2.1 dX3_advance_159 (by decide) ?_
              refine lv_iadd S.1 S.2.1 dX3_advance_160 ?_
              refine w_put S C w (CC := RX3) (T := TX3) (N := 4) (ref := "GateSums$Reader") im_X3_advance_X3 tyX3 tyX3_ok nmX3 0 rfl rfl 2 (by decide) (List.mem_of_getElem? (i := 1) rfl) (fun _ h => h) rfl (ws2 := [(aRd, .inr (3, [.ref aT, .int x8, .int (x115 + 1), .int (sortOfF (byteAtF tL fB x8))])), (aT, .inr (5, [.ref aB, .int tL])), (aB, .inl (G.2.1 0, 120, .inl fB))]) (rfl) (rfl) (Nat.le_of_ble_eq_true rfl) rfl dX3_advance_161 (fun H locs w => ?_)
              refine lv_goto (tgt := 115) S.1 S.2.1 dX3_advance_164 (by decide) ?_
              exact ih115 (x115 + 1) ls _ _ (trivial) (up_mu c130) w (lv_sub hl [0, 1] rfl)
      · refine lv_aload_n S.1 S.2.1 dX3_advance_93 rfl (lv_at hl 0 rfl) ?_
        refine w_get S C w (CC := RX3) (T := TX3) (N := 4) (ref := "GateSums$Reader") im_X3_advance_X3 0 rfl rfl 3 (by decide) (List.mem_of_getElem? (i := 5) rfl) (fun _ h => h) rfl dX3_advance_94 ?_
        refine lv_iconst (v := 1) S.1 S.2.1 dX3_advance_97 (by decide) ?_
        refine lv_icmp_eq (tgt := 109) S.1 S.2.1 dX3_advance_98 (by decide) (fun c98 => ?_) (fun c98 => ?_)
        · refine lv_iconst (v := 1) S.1 S.2.1 dX3_advance_109 (by decide) ?_
          refine lv_goto (tgt := 114) S.1 S.2.1 dX3_advance_110 (by decide) ?_
          exact J114 1 (trivial)
        · refine lv_aload_n S.1 S.2.1 dX3_advance_101 rfl (lv_at hl 0 rfl) ?_
          refine w_get S C w (CC := RX3) (T := TX3) (N := 4) (ref := "GateSums$Reader") im_X3_advance_X3 0 rfl rfl 3 (by decide) (List.mem_of_getElem? (i := 5) rfl) (fun _ h => h) rfl dX3_advance_102 ?_
          refine lv_iconst (v := 2) S.1 S.2.1 dX3_advance_105 (by decide) ?_
          refine lv_icmp_ne (tgt := 113) S.1 S.2.1 dX3_advance_106 (by decide) (fun c106 => ?_) (fun c106 => ?_)
          · refine lv_iconst (v := 0) S.1 S.2.1 dX3_advance_113 (by decide) ?_
            exact J114 0 (trivial)
          · refine lv_iconst (v := 1) S.1 S.2.1 dX3_advance_109 (by decide) ?_
            refine lv_goto (tgt := 114) S.1 S.2.1 dX3_advance_110 (by decide) ?_
            exact J114 1 (trivial)
    · refine lv_if_ne (tgt := 84) S.1 S.2.1 dX3_advance_74 (by decide) (fun c74 => ?_) (fun c74 => ?_)
      · refine lv_aload_n S.1 S.2.1 dX3_advance_84 rfl (lv_at hl 0 rfl) ?_
        refine w_get S C w (CC := RX3) (T := TX3) (N := 4) (ref := "GateSums$Reader") im_X3_advance_X3 0 rfl rfl 1 (by decide) (List.mem_of_getElem? (i := 2) rfl) (fun _ h => h) rfl dX3_advance_85 ?_
        refine lv_iconst (v := 1) S.1 S.2.1 dX3_advance_88 (by decide) ?_
        refine lv_iadd S.1 S.2.1 dX3_advance_89 ?_
        exact J90 (x8 + 1) (trivial)
      · refine lv_aload_n S.1 S.2.1 dX3_advance_77 rfl (lv_at hl 0 rfl) ?_
        refine w_get S C w (CC := RX3) (T := TX3) (N := 4) (ref := "GateSums$Reader") im_X3_advance_X3 0 rfl rfl 1 (by decide) (List.mem_of_getElem? (i := 2) rfl) (fun _ h => h) rfl dX3_advance_78 ?_
        refine lv_goto (tgt := 90) S.1 S.2.1 dX3_advance_81 (by decide) ?_
        exact J90 x8 (trivial)
  · refine lv_aload_n S.1 S.2.1 dX3_advance_22 rfl (lv_at hl 0 rfl) ?_
    refine w_get S C w (CC := RX3) (T := TX3) (N := 4) (ref := "GateSums$Reader") im_X3_advance_X3 0 rfl rfl 0 (by decide) (List.mem_of_getElem? (i := 3) rfl) (fun _ h => h) rfl dX3_advance_23 ?_
    refine lv_aload_n S.1 S.2.1 dX3_advance_26 rfl (lv_at hl 0 rfl) ?_
    refine w_get S C w (CC := RX3) (T := TX3) (N := 4) (ref := "GateSums$Reader") im_X3_advance_X3 0 rfl rfl 1 (by decide) (List.mem_of_getElem? (i := 2) rfl) (fun _ h => h) rfl dX3_advance_27 ?_
    refine cs_i (va_runV (As := [.int x8]) (rest := []) S (c_X5_byteAt l G aT aB _ tL fB x8) (cwV 1 S.2.2.2.2 gX3_advance_X5_byteAt rfl rfl rfl (by decide +kernel) ⟨Nat.le_of_ble_eq_true rfl, Nat.le_of_ble_eq_true rfl⟩) ⟨wPre_blind, va_recv C.1 w.1 (ci := 5) (q0 := 1) rfl rfl, wPre_at C w [1, 2] rfl rfl⟩ rfl rfl hl.1 rfl (lv_room (Nat.le_of_ble_eq_true rfl)) dX3_advance_30 ⟨Nat.le_of_ble_eq_true rfl, Nat.le_of_ble_eq_true rfl⟩) (fun r30 h30 => ?_)
    refine w_topi (y := (byteAtF tL fB x8)) h30 ?_
    refine lv_bipush (v := 32) S.1 S.2.1 dX3_advance_33 (by decide) ?_
    refine lv_icmp_ne (tgt := 51) S.1 S.2.1 dX3_advance_35 (by decide) (fun c35 => ?_) (fun c35 => ?_)
    · refine lv_aload_n S.1 S.2.1 dX3_advance_51 rfl (lv_at hl 0 rfl) ?_
      refine lv_aload_n S.1 S.2.1 dX3_advance_52 rfl (lv_at hl 0 rfl) ?_
      refine w_get S C w (CC := RX3) (T := TX3) (N := 4) (ref := "GateSums$Reader") im_X3_advance_X3 0 rfl rfl 0 (by decide) (List.mem_of_getElem? (i := 3) rfl) (fun _ h => h) rfl dX3_advance_53 ?_
      refine lv_aload_n S.1 S.2.1 dX3_advance_56 rfl (lv_at hl 0 rfl) ?_
      refine w_get S C w (CC := RX3) (T := TX3) (N := 4) (ref := "GateSums$Reader") im_X3_advance_X3 0 rfl rfl 1 (by decide) (List.mem_of_getElem? (i := 2) rfl) (fun _ h => h) rfl dX3_advance_57 ?_
      refine cs_i (va_runV (As := [.int x8]) (rest := [.ref aRd]) S (c_X5_byteAt l G aT aB _ tL fB x8) (cwV 1 S.2.2.2.2 gX3_advance_X5_byteAt rfl rfl rfl (by decide +kernel) ⟨Nat.le_of_ble_eq_true rfl, Nat.le_of_ble_eq_true rfl⟩) ⟨wPre_blind, va_recv C.1 w.1 (ci := 5) (q0 := 1) rfl rfl, wPre_at C w [1, 2] rfl rfl⟩ rfl rfl hl.1 rfl (lv_room (Nat.le_of_ble_eq_true rfl)) dX3_advance_60 ⟨Nat.le_of_ble_eq_true rfl, Nat.le_of_ble_eq_true rfl⟩) (fun r60_1 h60_1 => ?_)
      refine w_topi (y := (byteAtF tL fB x8)) h60_1 ?_
      refine cs_i (va_runS (As := [.int (byteAtF tL fB x8)]) (rest := [.ref aRd]) S (c_X3_sortOf l G _ (byteAtF tL fB x8)) (va_cwS 1 S.2.2.2.2 gX3_advance_X3_sortOf rfl rfl rfl (by decide +kernel) ⟨Nat.le_of_ble_eq_true rfl, Nat.le_of_ble_eq_true rfl⟩) ⟨wPre_blind, wPre_at C w [] rfl rfl⟩ rfl rfl hl.1 rfl (lv_room (Nat.le_of_ble_eq_true rfl)) dX3_advance_63 ⟨Nat.le_of_ble_eq_true rfl, Nat.le_of_ble_eq_true rfl⟩) (fun r63_1 h63_1 => ?_)
      refine w_topi (y := (sortOfF (byteAtF tL fB x8))) h63_1 ?_
      refine w_put S C w (CC := RX3) (T := TX3) (N := 4) (ref := "GateSums$Reader") im_X3_advance_X3 tyX3 tyX3_ok nmX3 0 rfl rfl 3 (by decide) (List.mem_of_getElem? (i := 5) rfl) (fun _ h => h) rfl (ws2 := [(aRd, .inr (3, [.ref aT, .int x8, .int rT, .int (sortOfF (byteAtF tL fB x8))])), (aT, .inr (5, [.ref aB, .int tL])), (aB, .inl (G.2.1 0, 120, .inl fB))]) (rfl) (rfl) (Nat.le_of_ble_eq_true rfl) rfl dX3_advance_66 (fun H locs w => ?_)
      refine lv_aload_n S.1 S.2.1 dX3_advance_69 rfl (lv_at hl 0 rfl) ?_
      refine lv_aload_n S.1 S.2.1 dX3_advance_70 rfl (lv_at hl 0 rfl) ?_
      refine w_get S C w (CC := RX3) (T := TX3) (N := 4) (ref := "GateSums$Reader") im_X3_advance_X3 0 rfl rfl 3 (by decide) (List.mem_of_getElem? (i := 5) rfl) (fun _ h => h) rfl dX3_advance_71 ?_
      refine w_joini 90 [.ref aRd] (fun z90 => True) (fun z90 hz90 => ?_) (fun J90 => ?_)
      · refine w_put S C w (CC := RX3) (T := TX3) (N := 4) (ref := "GateSums$Reader") im_X3_advance_X3 tyX3 tyX3_ok nmX3 0 rfl rfl 2 (by decide) (List.mem_of_getElem? (i := 1) rfl) (fun _ h => h) rfl (ws2 := [(aRd, .inr (3, [.ref aT, .int x8, .int z90, .int (sortOfF (byteAtF tL fB x8))])), (aT, .inr (5, [.ref aB, .int tL])), (aB, .inl (G.2.1 0, 120, .inl fB))]) (rfl) (rfl) (Nat.le_of_ble_eq_true rfl) rfl dX3_advance_90 (fun H locs w => ?_)
        refine w_joini 114 [] (fun z114 => True) (fun z114 hz114 => ?_) (fun J114 => ?_)
        · refine lv_istore_n (lv' := [(1, .int z114), (0, .ref aRd)]) S.1 S.2.1 dX3_advance_114 rfl hl (by decide) rfl (fun ls hl => ?_)
          refine w_loop (G := G) (σ := Int32) (nL := 2) 115 (fun x115 => (tL.toInt - x115.toInt).toNat) (fun x115 => True) (fun x115 => [(aRd, .inr (3, [.ref aT, .int x8, .int x115, .int (sortOfF (byteAtF tL fB x8))])), (aT, .inr (5, [.ref aB, .int tL])), (aB, .inl (G.2.1 0, 120, .inl fB))]) (fun x115 => [(1, .int z114), (0, .ref aRd)]) (fun _ => []) ?_ z90 ls _ _ (trivial) w (lv_sub hl [0, 1] rfl)
          intro x115 ls H locs hI115 w hl ih115
          have w : Wd G _ s [(aRd, .inr (3, [.ref aT, .int x8, .int x115, .int (sortOfF (byteAtF tL fB x8))])), (aT, .inr (5, [.ref aB, .int tL])), (aB, .inl (G.2.1 0, 120, .inl fB))] H locs := w
          have hl : lv_has ls 2 [(1, .int z114), (0, .ref aRd)] := hl
          refine lv_iload_n S.1 S.2.1 dX3_advance_115 rfl (lv_at hl 0 rfl) ?_
          refine lv_if_eq (tgt := 167) S.1 S.2.1 dX3_advance_116 (by decide) (fun c116_1 => ?_) (fun c116_1 => ?_)
          · exact W.vret S.1 S.2.1 hr (fun t ht _ => ⟨⟨(x8, x115, (sortOfF (byteAtF tL fB x8))), rfl, trivial, by rw [ht]; exact w.1, w.2.1⟩, w.2.2.F ht⟩) w.2.2.2.2 dX3_advance_167
          · refine lv_aload_n S.1 S.2.1 dX3_advance_119 rfl (lv_at hl 1 rfl) ?_
            refine w_get S C w (CC := RX3) (T := TX3) (N := 4) (ref := "GateSums$Reader") im_X3_advance_X3 0 rfl rfl 2 (by decide) (List.mem_of_getElem? (i := 1) rfl) (fun _ h => h) rfl dX3_advance_120 ?_
            refine lv_aload_n S.1 S.2.1 dX3_advance_123 rfl (lv_at hl 1 rfl) ?_
            refine w_get S C w (CC := RX3) (T := TX3) (N := 4) (ref := "GateSums$Reader") im_X3_advance_X3 0 rfl rfl 0 (by decide) (List.mem_of_getElem? (i := 3) rfl) (fun _ h => h) rfl dX3_advance_124 ?_
            refine w_get S C w (CC := RX5) (T := TX5) (N := 2) (ref := "GateSums$Text") im_X3_advance_X5 1 rfl rfl 1 (by decide) (List.mem_of_getElem? (i := 4) rfl) (fun _ h => h) rfl dX3_advance_127 ?_
            refine lv_icmp_ge (tgt := 167) S.1 S.2.1 dX3_advance_130 (by decide) (fun c130_1 => ?_) (fun c130_1 => ?_)
            · exact W.vret S.1 S.2.1 hr (fun t ht _ => ⟨⟨(x8, x115, (sortOfF (byteAtF tL fB x8))), rfl, trivial, by rw [ht]; exact w.1, w.2.1⟩, w.2.2.F ht⟩) w.2.2.2.2 dX3_advance_167
            · refine lv_aload_n S.1 S.2.1 dX3_advance_133 rfl (lv_at hl 1 rfl) ?_
              refine w_get S C w (CC := RX3) (T := TX3) (N := 4) (ref := "GateSums$Reader") im_X3_advance_X3 0 rfl rfl 0 (by decide) (List.mem_of_getElem? (i := 3) rfl) (fun _ h => h) rfl dX3_advance_134 ?_
              refine lv_aload_n S.1 S.2.1 dX3_advance_137 rfl (lv_at hl 1 rfl) ?_
              refine w_get S C w (CC := RX3) (T := TX3) (N := 4) (ref := "GateSums$Reader") im_X3_advance_X3 0 rfl rfl 2 (by decide) (List.mem_of_getElem? (i := 1) rfl) (fun _ h => h) rfl dX3_advance_138 ?_
              refine cs_i (va_runV (As := [.int x115]) (rest := []) S (c_X5_byteAt l G aT aB _ tL fB x115) (cwV 1 S.2.2.2.2 gX3_advance_X5_byteAt rfl rfl rfl (by decide +kernel) ⟨Nat.le_of_ble_eq_true rfl, Nat.le_of_ble_eq_true rfl⟩) ⟨wPre_blind, va_recv C.1 w.1 (ci := 5) (q0 := 1) rfl rfl, wPre_at C w [1, 2] rfl rfl⟩ rfl rfl hl.1 rfl (lv_room (Nat.le_of_ble_eq_true rfl)) dX3_advance_141 ⟨Nat.le_of_ble_eq_true rfl, Nat.le_of_ble_eq_true rfl⟩) (fun r141_1 h141_1 => ?_)
              refine w_topi (y := (byteAtF tL fB x115)) h141_1 ?_
              refine cs_i (va_runS (As := [.int (byteAtF tL fB x115)]) (rest := []) S (c_X3_sortOf l G _ (byteAtF tL fB x115)) (va_cwS 1 S.2.2.2.2 gX3_advance_X3_sortOf rfl rfl rfl (by decide +kernel) ⟨Nat.le_of_ble_eq_true rfl, Nat.le_of_ble_eq_true rfl⟩) ⟨wPre_blind, wPre_at C w [] rfl rfl⟩ rfl rfl hl.1 rfl (lv_room (Nat.le_of_ble_eq_true rfl)) dX3_advance_144 ⟨Nat.le_of_ble_eq_true rfl, Nat.le_of_ble_eq_true rfl⟩) (fun r144_1 h144_1 => ?_)
              refine w_topi (y := (sortOfF (byteAtF tL fB x115))) h144_1 ?_
              refine lv_aload_n S.1 S.2.1 dX3_advance_147 rfl (lv_at hl 1 rfl) ?_
              refine w_get S C w (CC := RX3) (T := TX3) (N := 4) (ref := "GateSums$Reader") im_X3_advance_X3 0 rfl rfl 3 (by decide) (List.mem_of_getElem? (i := 5) rfl) (fun _ h => h) rfl dX3_advance_148 ?_
              refine lv_icmp_ne (tgt := 167) S.1 S.2.1 dX3_advance_151 (by decide) (fun c151_1 => ?_) (fun c151_1 => ?_)
              · exact W.vret S.1 S.2.1 hr (fun t ht _ => ⟨⟨(x8, x115, (sortOfF (byteAtF tL fB x8))), rfl, trivial, by rw [ht]; exact w.1, w.2.1⟩, w.2.2.F ht⟩) w.2.2.2.2 dX3_advance_167
              · refine lv_aload_n S.1 S.2.1 dX3_advance_154 rfl (lv_at hl 1 rfl) ?_
                refine lv_dup S.1 S.2.1 dX3_advance_155 rfl ?_
                refine w_get S C w (CC := RX3) (T := TX3) (N := 4) (ref := "GateSums$Reader") im_X3_advance_X3 0 rfl rfl 2 (by decide) (List.mem_of_getElem? (i := 1) rfl) (fun _ h => h) rfl dX3_advance_156 ?_
                refine lv_iconst (v := 1) S.1 S.2.1 dX3_advance_159 (by decide) ?_
                refine lv_iadd S.1 S.2.1 dX3_advance_160 ?_
                refine w_put S C w (CC := RX3) (T := TX3) (N := 4) (ref := "GateSums$Reader") im_X3_advance_X3 tyX3 tyX3_ok nmX3 0 rfl rfl 2 (by decide) (List.mem_of_getElem? (i := 1) rfl) (fun _ h => h) rfl (ws2 := [(aRd, .inr (3, [.ref aT, .int x8, .int (x115 + 1), .int (sortOfF (byteAtF tL fB x8))])), (aT, .inr (5, [.ref aB, .int tL])), (aB, .inl (G.2.1 0, 120, .inl fB))]) (rfl) (rfl) (Nat.le_of_ble_eq_true rfl) rfl dX3_advance_161 (fun H locs w => ?_)
                refine lv_goto (tgt := 115) S.1 S.2.1 dX3_advance_164 (by decide) ?_
                exact ih115 (x115 + 1) ls _ _ (trivial) (up_mu c130_1) w (lv_sub hl [0, 1] rfl)
        · refine lv_aload_n S.1 S.2.1 dX3_advance_93 rfl (lv_at hl 0 rfl) ?_
          refine w_get S C w (CC := RX3) (T := TX3) (N := 4) (ref := "GateSums$Reader") im_X3_advance_X3 0 rfl rfl 3 (by decide) (List.mem_of_getElem? (i := 5) rfl) (fun _ h => h) rfl dX3_advance_94 ?_
          refine lv_iconst (v := 1) S.1 S.2.1 dX3_advance_97 (by decide) ?_
          refine lv_icmp_eq (tgt := 109) S.1 S.2.1 dX3_advance_98 (by decide) (fun c98_1 => ?_) (fun c98_1 => ?_)
          · refine lv_iconst (v := 1) S.1 S.2.1 dX3_advance_109 (by decide) ?_
            refine lv_goto (tgt := 114) S.1 S.2.1 dX3_advance_110 (by decide) ?_
            exact J114 1 (trivial)
          · refine lv_aload_n S.1 S.2.1 dX3_advance_101 rfl (lv_at hl 0 rfl) ?_
            refine w_get S C w (CC := RX3) (T := TX3) (N := 4) (ref := "GateSums$Reader") im_X3_advance_X3 0 rfl rfl 3 (by decide) (List.mem_of_getElem? (i := 5) rfl) (fun _ h => h) rfl dX3_advance_102 ?_
            refine lv_iconst (v := 2) S.1 S.2.1 dX3_advance_105 (by decide) ?_
            refine lv_icmp_ne (tgt := 113) S.1 S.2.1 dX3_advance_106 (by decide) (fun c106_1 => ?_) (fun c106_1 => ?_)
            · refine lv_iconst (v := 0) S.1 S.2.1 dX3_advance_113 (by decide) ?_
              exact J114 0 (trivial)
            · refine lv_iconst (v := 1) S.1 S.2.1 dX3_advance_109 (by decide) ?_
              refine lv_goto (tgt := 114) S.1 S.2.1 dX3_advance_110 (by decide) ?_
              exact J114 1 (trivial)
      · refine lv_if_ne (tgt := 84) S.1 S.2.1 dX3_advance_74 (by decide) (fun c74_1 => ?_) (fun c74_1 => ?_)
        · refine lv_aload_n S.1 S.2.1 dX3_advance_84 rfl (lv_at hl 0 rfl) ?_
          refine w_get S C w (CC := RX3) (T := TX3) (N := 4) (ref := "GateSums$Reader") im_X3_advance_X3 0 rfl rfl 1 (by decide) (List.mem_of_getElem? (i := 2) rfl) (fun _ h => h) rfl dX3_advance_85 ?_
          refine lv_iconst (v := 1) S.1 S.2.1 dX3_advance_88 (by decide) ?_
          refine lv_iadd S.1 S.2.1 dX3_advance_89 ?_
          exact J90 (x8 + 1) (trivial)
        · refine lv_aload_n S.1 S.2.1 dX3_advance_77 rfl (lv_at hl 0 rfl) ?_
          refine w_get S C w (CC := RX3) (T := TX3) (N := 4) (ref := "GateSums$Reader") im_X3_advance_X3 0 rfl rfl 1 (by decide) (List.mem_of_getElem? (i := 2) rfl) (fun _ h => h) rfl dX3_advance_78 ?_
          refine lv_goto (tgt := 90) S.1 S.2.1 dX3_advance_81 (by decide) ?_
          exact J90 x8 (trivial)
    · refine lv_aload_n S.1 S.2.1 dX3_advance_38 rfl (lv_at hl 0 rfl) ?_
      refine lv_dup S.1 S.2.1 dX3_advance_39 rfl ?_
      refine w_get S C w (CC := RX3) (T := TX3) (N := 4) (ref := "GateSums$Reader") im_X3_advance_X3 0 rfl rfl 1 (by decide) (List.mem_of_getElem? (i := 2) rfl) (fun _ h => h) rfl dX3_advance_40 ?_
      refine lv_iconst (v := 1) S.1 S.2.1 dX3_advance_43 (by decide) ?_
      refine lv_iadd S.1 S.2.1 dX3_advance_44 ?_
      refine w_put S C w (CC := RX3) (T := TX3) (N := 4) (ref := "GateSums$Reader") im_X3_advance_X3 tyX3 tyX3_ok nmX3 0 rfl rfl 1 (by decide) (List.mem_of_getElem? (i := 2) rfl) (fun _ h => h) rfl (ws2 := [(aRd, .inr (3, [.ref aT, .int (x8 + 1), .int rT, .int rS])), (aT, .inr (5, [.ref aB, .int tL])), (aB, .inl (G.2.1 0, 120, .inl fB))]) (rfl) (rfl) (Nat.le_of_ble_eq_true rfl) rfl dX3_advance_45 (fun H locs w => ?_)
      refine lv_goto (tgt := 8) S.1 S.2.1 dX3_advance_48 (by decide) ?_
      exact ih8 (x8 + 1) ls _ _ (trivial) (up_mu c19) w (lv_sub hl [0] rfl)
set_option maxHeartbeats 4000000 in
set_option maxRecDepth 100000 in
theorem c_X3_takeWord (l : Launch) (G : GT) (aRd aT aB : Nat) (sz : Nat) (rF rT rS tL : Int32) (fB : Nat → Int32) (kS : Nat) (hk : kS < 16) : Met l yX3_takeWord wsX3_takeWord ({ frames := 5, cells := 0, slots := 0, locals := 107 }) (va_Pc [.ref aRd, .ref (G.2.2.2.1 kS)] (wPre G [(aRd, .inr (3, [.ref aT, .int rF, .int rT, .int rS])), (aT, .inr (5, [.ref aB, .int tL])), (aB, .inl (G.2.1 0, 120, .inl fB))] sz)) (va_Qi (fun (r : Int32) (u : Int32 × Int32 × Int32) => r = 0 ∨ r = 1) (bW G (va_A [(aRd, .inr (3, [.ref aT, .int rF, .int rT, .int rS])), (aT, .inr (5, [.ref aB, .int tL])), (aB, .inl (G.2.1 0, 120, .inl fB))] sz) (fun u : Int32 × Int32 × Int32 => [(aRd, .inr (3, [.ref aT, .int u.1, .int u.2.1, .int u.2.2])), (aT, .inr (5, [.ref aB, .int tL])), (aB, .inl (G.2.1 0, 120, .inl fB))])) (va_A [(aRd, .inr (3, [.ref aT, .int rF, .int rT, .int rS])), (aT, .inr (5, [.ref aB, .int tL])), (aB, .inl (G.2.1 0, 120, .inl fB))] sz)) 0 0 (va_A [(aRd, .inr (3, [.ref aT, .int rF, .int rT, .int rS])), (aT, .inr (5, [.ref aB, .int tL])), (aB, .inl (G.2.1 0, 120, .inl fB))] sz) := by
  refine met_go (cc := cX3_takeWord) (maxL := 2) (ret := (some .boolean)) (own := RX3) (by decide) rfl rfl (Nat.le_of_ble_eq_true rfl) ?_
  intro p e s m below meth c ls S hr hlocks hname hsz C w hl
  have hl : lv_has ls 2 [(0, .ref aRd), (1, .ref (G.2.2.2.1 kS))] := hl
  refine lv_aload_n S.1 S.2.1 dX3_takeWord_0 rfl (lv_at hl 0 rfl) ?_
  refine lv_aload_n S.1 S.2.1 dX3_takeWord_1 rfl (lv_at hl 1 rfl) ?_
  refine cs_i (va_runV (As := [.ref (G.2.2.2.1 kS)]) (rest := []) S (c_X3_isWord l G aRd aT aB _ rF rT rS tL fB kS (hk)) (cwV 1 S.2.2.2.2 gX3_takeWord_X3_isWord rfl rfl rfl (by decide +kernel) ⟨Nat.le_of_ble_eq_true rfl, Nat.le_of_ble_eq_true rfl⟩) ⟨wPre_blind, va_recv C.1 w.1 (ci := 3) (q0 := 0) rfl rfl, wPre_at C w [0, 1, 2] rfl rfl⟩ rfl rfl hl.1 rfl (lv_room (Nat.le_of_ble_eq_true rfl)) dX3_takeWord_2 ⟨Nat.le_of_ble_eq_true rfl, Nat.le_of_ble_eq_true rfl⟩) (fun r2 h2 => ?_)
  refine lv_if_ne (tgt := 10) S.1 S.2.1 dX3_takeWord_5 (by decide) (fun c5 => ?_) (fun c5 => ?_)
  · refine lv_aload_n S.1 S.2.1 dX3_takeWord_10 rfl (lv_at hl 0 rfl) ?_
    refine cq_v C w [0, 1, 2] [] [0, 1, 2] (wr := []) (w' := fun u : Int32 × Int32 × Int32 => [(aRd, .inr (3, [.ref aT, .int u.1, .int u.2.1, .int u.2.2])), (aT, .inr (5, [.ref aB, .int tL])), (aB, .inl (G.2.1 0, 120, .inl fB))]) (ws2 := fun u : Int32 × Int32 × Int32 => [(aRd, .inr (3, [.ref aT, .int u.1, .int u.2.1, .int u.2.2])), (aT, .inr (5, [.ref aB, .int tL])), (aB, .inl (G.2.1 0, 120, .inl fB))]) rfl rfl rfl (by decide) rfl (fun _ => rfl) (va_runV (As := []) (rest := []) S (c_X3_advance l G aRd aT aB _ rF rT rS tL fB) (cwV 0 S.2.2.2.2 gX3_takeWord_X3_advance rfl rfl rfl (by decide +kernel) ⟨Nat.le_of_ble_eq_true rfl, Nat.le_of_ble_eq_true rfl⟩) ⟨wPre_blind, va_recv C.1 w.1 (ci := 3) (q0 := 0) rfl rfl, wPre_at C w [0, 1, 2] rfl rfl⟩ rfl rfl hl.1 rfl (lv_room (Nat.le_of_ble_eq_true rfl)) dX3_takeWord_11 ⟨Nat.le_of_ble_eq_true rfl, Nat.le_of_ble_eq_true rfl⟩) (fun u11 H locs h11 w => ?_)
    have w : Wd G _ s [(aRd, .inr (3, [.ref aT, .int u11.1, .int u11.2.1, .int u11.2.2])), (aT, .inr (5, [.ref aB, .int tL])), (aB, .inl (G.2.1 0, 120, .inl fB))] H locs := w
    refine lv_iconst (v := 1) S.1 S.2.1 dX3_takeWord_14 (by decide) ?_
    exact W.zret (v := 1) S.1 S.2.1 hr (rfl) (fun t ht _ => ⟨⟨1, (u11.1, u11.2.1, u11.2.2), rfl, by first | exact Or.inl rfl | exact Or.inr rfl, by rw [ht]; exact w.1, w.2.1⟩, w.2.2.F ht⟩) w.2.2.2.2 dX3_takeWord_15
  · refine lv_iconst (v := 0) S.1 S.2.1 dX3_takeWord_8 (by decide) ?_
    exact W.zret (v := 0) S.1 S.2.1 hr (rfl) (fun t ht _ => ⟨⟨0, (rF, rT, rS), rfl, by first | exact Or.inl rfl | exact Or.inr rfl, by rw [ht]; exact w.1, w.2.1⟩, w.2.2.F ht⟩) w.2.2.2.2 dX3_takeWord_9
theorem im_X3_takeSemicolon_X3 : ∀ w ∈ u_ws RX3 TX3 4, w ∈ wsX3_takeSemicolon := by decide +kernel
set_option maxHeartbeats 4000000 in
set_option maxRecDepth 100000 in
theorem c_X3_takeSemicolon (l : Launch) (G : GT) (aRd aT aB : Nat) (sz : Nat) (rF rT rS tL : Int32) (fB : Nat → Int32) : Met l yX3_takeSemicolon wsX3_takeSemicolon ({ frames := 2, cells := 0, slots := 0, locals := 42 }) (va_Pc [.ref aRd] (wPre G [(aRd, .inr (3, [.ref aT, .int rF, .int rT, .int rS])), (aT, .inr (5, [.ref aB, .int tL])), (aB, .inl (G.2.1 0, 120, .inl fB))] sz)) (va_Qi (fun (r : Int32) (u : Int32 × Int32 × Int32) => r = 0 ∨ r = 1) (bW G (va_A [(aRd, .inr (3, [.ref aT, .int rF, .int rT, .int rS])), (aT, .inr (5, [.ref aB, .int tL])), (aB, .inl (G.2.1 0, 120, .inl fB))] sz) (fun u : Int32 × Int32 × Int32 => [(aRd, .inr (3, [.ref aT, .int u.1, .int u.2.1, .int u.2.2])), (aT, .inr (5, [.ref aB, .int tL])), (aB, .inl (G.2.1 0, 120, .inl fB))])) (va_A [(aRd, .inr (3, [.ref aT, .int rF, .int rT, .int rS])), (aT, .inr (5, [.ref aB, .int tL])), (aB, .inl (G.2.1 0, 120, .inl fB))] sz)) 0 0 (va_A [(aRd, .inr (3, [.ref aT, .int rF, .int rT, .int rS])), (aT, .inr (5, [.ref aB, .int tL])), (aB, .inl (G.2.1 0, 120, .inl fB))] sz) := by
  refine met_go (cc := cX3_takeSemicolon) (maxL := 1) (ret := (some .boolean)) (own := RX3) (by decide) rfl rfl (Nat.le_of_ble_eq_true rfl) ?_
  intro p e s m below meth c ls S hr hlocks hname hsz C w hl
  have hl : lv_has ls 1 [(0, .ref aRd)] := hl
  refine lv_aload_n S.1 S.2.1 dX3_takeSemicolon_0 rfl (lv_at hl 0 rfl) ?_
  refine w_get S C w (CC := RX3) (T := TX3) (N := 4) (ref := "GateSums$Reader") im_X3_takeSemicolon_X3 0 rfl rfl 3 (by decide) (List.mem_of_getElem? (i := 1) rfl) (fun _ h => h) rfl dX3_takeSemicolon_1 ?_
  refine lv_iconst (v := 3) S.1 S.2.1 dX3_takeSemicolon_4 (by decide) ?_
  refine lv_icmp_ne (tgt := 24) S.1 S.2.1 dX3_takeSemicolon_5 (by decide) (fun c5 => ?_) (fun c5 => ?_)
  · refine lv_iconst (v := 0) S.1 S.2.1 dX3_takeSemicolon_24 (by decide) ?_
    exact W.zret (v := 0) S.1 S.2.1 hr (rfl) (fun t ht _ => ⟨⟨0, (rF, rT, rS), rfl, by first | exact Or.inl rfl | exact Or.inr rfl, by rw [ht]; exact w.1, w.2.1⟩, w.2.2.F ht⟩) w.2.2.2.2 dX3_takeSemicolon_25
  · refine lv_aload_n S.1 S.2.1 dX3_takeSemicolon_8 rfl (lv_at hl 0 rfl) ?_
    refine w_get S C w (CC := RX3) (T := TX3) (N := 4) (ref := "GateSums$Reader") im_X3_takeSemicolon_X3 0 rfl rfl 0 (by decide) (List.mem_of_getElem? (i := 2) rfl) (fun _ h => h) rfl dX3_takeSemicolon_9 ?_
    refine lv_aload_n S.1 S.2.1 dX3_takeSemicolon_12 rfl (lv_at hl 0 rfl) ?_
    refine w_get S C w (CC := RX3) (T := TX3) (N := 4) (ref := "GateSums$Reader") im_X3_takeSemicolon_X3 0 rfl rfl 1 (by decide) (List.mem_of_getElem? (i := 3) rfl) (fun _ h => h) rfl dX3_takeSemicolon_13 ?_
    refine cs_i (va_runV (As := [.int rF]) (rest := []) S (c_X5_byteAt l G aT aB _ tL fB rF) (cwV 1 S.2.2.2.2 gX3_takeSemicolon_X5_byteAt rfl rfl rfl (by decide +kernel) ⟨Nat.le_of_ble_eq_true rfl, Nat.le_of_ble_eq_true rfl⟩) ⟨wPre_blind, va_recv C.1 w.1 (ci := 5) (q0 := 1) rfl rfl, wPre_at C w [1, 2] rfl rfl⟩ rfl rfl hl.1 rfl (lv_room (Nat.le_of_ble_eq_true rfl)) dX3_takeSemicolon_16 ⟨Nat.le_of_ble_eq_true rfl, Nat.le_of_ble_eq_true rfl⟩) (fun r16 h16 => ?_)
    refine w_topi (y := (byteAtF tL fB rF)) h16 ?_
    refine lv_bipush (v := 59) S.1 S.2.1 dX3_takeSemicolon_19 (by decide) ?_
    refine lv_icmp_eq (tgt := 26) S.1 S.2.1 dX3_takeSemicolon_21 (by decide) (fun c21 => ?_) (fun c21 => ?_)
    · refine lv_aload_n S.1 S.2.1 dX3_takeSemicolon_26 rfl (lv_at hl 0 rfl) ?_
      refine cq_v C w [0, 1, 2] [] [0, 1, 2] (wr := []) (w' := fun u : Int32 × Int32 × Int32 => [(aRd, .inr (3, [.ref aT, .int u.1, .int u.2.1, .int u.2.2])), (aT, .inr (5, [.ref aB, .int tL])), (aB, .inl (G.2.1 0, 120, .inl fB))]) (ws2 := fun u : Int32 × Int32 × Int32 => [(aRd, .inr (3, [.ref aT, .int u.1, .int u.2.1, .int u.2.2])), (aT, .inr (5, [.ref aB, .int tL])), (aB, .inl (G.2.1 0, 120, .inl fB))]) rfl rfl rfl (by decide) rfl (fun _ => rfl) (va_runV (As := []) (rest := []) S (c_X3_advance l G aRd aT aB _ rF rT rS tL fB) (cwV 0 S.2.2.2.2 gX3_takeSemicolon_X3_advance rfl rfl rfl (by decide +kernel) ⟨Nat.le_of_ble_eq_true rfl, Nat.le_of_ble_eq_true rfl⟩) ⟨wPre_blind, va_recv C.1 w.1 (ci := 3) (q0 := 0) rfl rfl, wPre_at C w [0, 1, 2] rfl rfl⟩ rfl rfl hl.1 rfl (lv_room (Nat.le_of_ble_eq_true rfl)) dX3_takeSemicolon_27 ⟨Nat.le_of_ble_eq_true rfl, Nat.le_of_ble_eq_true rfl⟩) (fun u27 H locs h27 w => ?_)
      have w : Wd G _ s [(aRd, .inr (3, [.ref aT, .int u27.1, .int u27.2.1, .int u27.2.2])), (aT, .inr (5, [.ref aB, .int tL])), (aB, .inl (G.2.1 0, 120, .inl fB))] H locs := w
      refine lv_iconst (v := 1) S.1 S.2.1 dX3_takeSemicolon_30 (by decide) ?_
      exact W.zret (v := 1) S.1 S.2.1 hr (rfl) (fun t ht _ => ⟨⟨1, (u27.1, u27.2.1, u27.2.2), rfl, by first | exact Or.inl rfl | exact Or.inr rfl, by rw [ht]; exact w.1, w.2.1⟩, w.2.2.F ht⟩) w.2.2.2.2 dX3_takeSemicolon_31
    · refine lv_iconst (v := 0) S.1 S.2.1 dX3_takeSemicolon_24 (by decide) ?_
      exact W.zret (v := 0) S.1 S.2.1 hr (rfl) (fun t ht _ => ⟨⟨0, (rF, rT, rS), rfl, by first | exact Or.inl rfl | exact Or.inr rfl, by rw [ht]; exact w.1, w.2.1⟩, w.2.2.F ht⟩) w.2.2.2.2 dX3_takeSemicolon_25
theorem im_X3_takeNumber_X3 : ∀ w ∈ u_ws RX3 TX3 4, w ∈ wsX3_takeNumber := by decide +kernel
set_option maxHeartbeats 4000000 in
set_option maxRecDepth 100000 in
theorem c_X3_takeNumber (l : Launch) (G : GT) (aRd aT aB : Nat) (sz : Nat) (rF rT rS tL : Int32) (fB : Nat → Int32) (lo hi : Int32) : Met l yX3_takeNumber wsX3_takeNumber ({ frames := 2, cells := 0, slots := 0, locals := 42 }) (va_Pc [.ref aRd, .int lo, .int hi] (wPre G [(aRd, .inr (3, [.ref aT, .int rF, .int rT, .int rS])), (aT, .inr (5, [.ref aB, .int tL])), (aB, .inl (G.2.1 0, 120, .inl fB))] sz)) (va_Qi (fun (r : Int32) (u : Int32 × Int32 × Int32) => True) (bW G (va_A [(aRd, .inr (3, [.ref aT, .int rF, .int rT, .int rS])), (aT, .inr (5, [.ref aB, .int tL])), (aB, .inl (G.2.1 0, 120, .inl fB))] sz) (fun u : Int32 × Int32 × Int32 => [(aRd, .inr (3, [.ref aT, .int u.1, .int u.2.1, .int u.2.2])), (aT, .inr (5, [.ref aB, .int tL])), (aB, .inl (G.2.1 0, 120, .inl fB))])) (va_A [(aRd, .inr (3, [.ref aT, .int rF, .int rT, .int rS])), (aT, .inr (5, [.ref aB, .int tL])), (aB, .inl (G.2.1 0, 120, .inl fB))] sz)) 0 0 (va_A [(aRd, .inr (3, [.ref aT, .int rF, .int rT, .int rS])), (aT, .inr (5, [.ref aB, .int tL])), (aB, .inl (G.2.1 0, 120, .inl fB))] sz) := by
  refine met_go (cc := cX3_takeNumber) (maxL := 5) (ret := (some .int)) (own := RX3) (by decide) rfl rfl (Nat.le_of_ble_eq_true rfl) ?_
  intro p e s m below meth c ls S hr hlocks hname hsz C w hl
  have hl : lv_has ls 5 [(0, .ref aRd), (1, .int lo), (2, .int hi)] := hl
  refine lv_aload_n S.1 S.2.1 dX3_takeNumber_0 rfl (lv_at hl 0 rfl) ?_
  refine w_get S C w (CC := RX3) (T := TX3) (N := 4) (ref := "GateSums$Reader") im_X3_takeNumber_X3 0 rfl rfl 3 (by decide) (List.mem_of_getElem? (i := 1) rfl) (fun _ h => h) rfl dX3_takeNumber_1 ?_
  refine lv_iconst (v := 2) S.1 S.2.1 dX3_takeNumber_4 (by decide) ?_
  refine lv_icmp_ne (tgt := 21) S.1 S.2.1 dX3_takeNumber_5 (by decide) (fun c5 => ?_) (fun c5 => ?_)
  · refine lv_iconst (v := (-1)) S.1 S.2.1 dX3_takeNumber_21 (by decide) ?_
    exact W.iret (v := (-1)) S.1 S.2.1 hr (fun t ht _ => ⟨⟨(-1), (rF, rT, rS), rfl, trivial, by rw [ht]; exact w.1, w.2.1⟩, w.2.2.F ht⟩) w.2.2.2.2 dX3_takeNumber_22
  · refine lv_aload_n S.1 S.2.1 dX3_takeNumber_8 rfl (lv_at hl 0 rfl) ?_
    refine w_get S C w (CC := RX3) (T := TX3) (N := 4) (ref := "GateSums$Reader") im_X3_takeNumber_X3 0 rfl rfl 2 (by decide) (List.mem_of_getElem? (i := 2) rfl) (fun _ h => h) rfl dX3_takeNumber_9 ?_
    refine lv_aload_n S.1 S.2.1 dX3_takeNumber_12 rfl (lv_at hl 0 rfl) ?_
    refine w_get S C w (CC := RX3) (T := TX3) (N := 4) (ref := "GateSums$Reader") im_X3_takeNumber_X3 0 rfl rfl 1 (by decide) (List.mem_of_getElem? (i := 3) rfl) (fun _ h => h) rfl dX3_takeNumber_13 ?_
    refine lv_isub S.1 S.2.1 dX3_takeNumber_16 ?_
    refine lv_iconst (v := 2) S.1 S.2.1 dX3_takeNumber_17 (by decide) ?_
    refine lv_icmp_le (tgt := 23) S.1 S.2.1 dX3_takeNumber_18 (by decide) (fun c18 => ?_) (fun c18 => ?_)
    · refine lv_iconst (v := 0) S.1 S.2.1 dX3_takeNumber_23 (by decide) ?_
      refine lv_istore_n (lv' := [(3, .int 0), (0, .ref aRd), (1, .int lo), (2, .int hi)]) S.1 S.2.1 dX3_takeNumber_24 rfl hl (by decide) rfl (fun ls hl => ?_)
      refine lv_aload_n S.1 S.2.1 dX3_takeNumber_25 rfl (lv_at hl 1 rfl) ?_
      refine w_get S C w (CC := RX3) (T := TX3) (N := 4) (ref := "GateSums$Reader") im_X3_takeNumber_X3 0 rfl rfl 1 (by decide) (List.mem_of_getElem? (i := 3) rfl) (fun _ h => h) rfl dX3_takeNumber_26 ?_
      refine lv_istore (lv' := [(4, .int rF), (3, .int 0), (0, .ref aRd), (1, .int lo), (2, .int hi)]) S.1 S.2.1 dX3_takeNumber_29 hl (by decide) rfl (fun ls hl => ?_)
      refine w_loop (G := G) (σ := Int32 × Int32) (nL := 5) 31 (fun x31 => (rT.toInt - x31.1.toInt).toNat) (fun x31 => True) (fun x31 => [(aRd, .inr (3, [.ref aT, .int rF, .int rT, .int rS])), (aT, .inr (5, [.ref aB, .int tL])), (aB, .inl (G.2.1 0, 120, .inl fB))]) (fun x31 => [(4, .int x31.1), (3, .int x31.2), (0, .ref aRd), (1, .int lo), (2, .int hi)]) (fun _ => []) ?_ (rF, 0) ls _ _ (trivial) w (lv_sub hl [0, 1, 2, 3, 4] rfl)
      intro x31 ls H locs hI31 w hl ih31
      have w : Wd G _ s [(aRd, .inr (3, [.ref aT, .int rF, .int rT, .int rS])), (aT, .inr (5, [.ref aB, .int tL])), (aB, .inl (G.2.1 0, 120, .inl fB))] H locs := w
      have hl : lv_has ls 5 [(4, .int x31.1), (3, .int x31.2), (0, .ref aRd), (1, .int lo), (2, .int hi)] := hl
      refine lv_iload S.1 S.2.1 dX3_takeNumber_31 (lv_at hl 0 rfl) ?_
      refine lv_aload_n S.1 S.2.1 dX3_takeNumber_33 rfl (lv_at hl 2 rfl) ?_
      refine w_get S C w (CC := RX3) (T := TX3) (N := 4) (ref := "GateSums$Reader") im_X3_takeNumber_X3 0 rfl rfl 2 (by decide) (List.mem_of_getElem? (i := 2) rfl) (fun _ h => h) rfl dX3_takeNumber_34 ?_
      refine lv_icmp_ge (tgt := 64) S.1 S.2.1 dX3_takeNumber_37 (by decide) (fun c37 => ?_) (fun c37 => ?_)
      · refine lv_iload_n S.1 S.2.1 dX3_takeNumber_64 rfl (lv_at hl 1 rfl) ?_
        refine lv_iload_n S.1 S.2.1 dX3_takeNumber_65 rfl (lv_at hl 3 rfl) ?_
        refine lv_icmp_lt (tgt := 74) S.1 S.2.1 dX3_takeNumber_66 (by decide) (fun c66 => ?_) (fun c66 => ?_)
        · refine lv_iconst (v := (-1)) S.1 S.2.1 dX3_takeNumber_74 (by decide) ?_
          exact W.iret (v := (-1)) S.1 S.2.1 hr (fun t ht _ => ⟨⟨(-1), (rF, rT, rS), rfl, trivial, by rw [ht]; exact w.1, w.2.1⟩, w.2.2.F ht⟩) w.2.2.2.2 dX3_takeNumber_75
        · refine lv_iload_n S.1 S.2.1 dX3_takeNumber_69 rfl (lv_at hl 1 rfl) ?_
          refine lv_iload_n S.1 S.2.1 dX3_takeNumber_70 rfl (lv_at hl 4 rfl) ?_
          refine lv_icmp_le (tgt := 76) S.1 S.2.1 dX3_takeNumber_71 (by decide) (fun c71 => ?_) (fun c71 => ?_)
          · refine lv_aload_n S.1 S.2.1 dX3_takeNumber_76 rfl (lv_at hl 2 rfl) ?_
            refine cq_v C w [0, 1, 2] [] [0, 1, 2] (wr := []) (w' := fun u : Int32 × Int32 × Int32 => [(aRd, .inr (3, [.ref aT, .int u.1, .int u.2.1, .int u.2.2])), (aT, .inr (5, [.ref aB, .int tL])), (aB, .inl (G.2.1 0, 120, .inl fB))]) (ws2 := fun u : Int32 × Int32 × Int32 => [(aRd, .inr (3, [.ref aT, .int u.1, .int u.2.1, .int u.2.2])), (aT, .inr (5, [.ref aB, .int tL])), (aB, .inl (G.2.1 0, 120, .inl fB))]) rfl rfl rfl (by decide) rfl (fun _ => rfl) (va_runV (As := []) (rest := []) S (c_X3_advance l G aRd aT aB _ rF rT rS tL fB) (cwV 0 S.2.2.2.2 gX3_takeNumber_X3_advance rfl rfl rfl (by decide +kernel) ⟨Nat.le_of_ble_eq_true rfl, Nat.le_of_ble_eq_true rfl⟩) ⟨wPre_blind, va_recv C.1 w.1 (ci := 3) (q0 := 0) rfl rfl, wPre_at C w [0, 1, 2] rfl rfl⟩ rfl rfl hl.1 rfl (lv_room (Nat.le_of_ble_eq_true rfl)) dX3_takeNumber_77 ⟨Nat.le_of_ble_eq_true rfl, Nat.le_of_ble_eq_true rfl⟩) (fun u77 H locs h77 w => ?_)
            have w : Wd G _ s [(aRd, .inr (3, [.ref aT, .int u77.1, .int u77.2.1, .int u77.2.2])), (aT, .inr (5, [.ref aB, .int tL])), (aB, .inl (G.2.1 0, 120, .inl fB))] H locs := w
            refine lv_iload_n S.1 S.2.1 dX3_takeNumber_80 rfl (lv_at hl 1 rfl) ?_
            exact W.iret (v := x31.2) S.1 S.2.1 hr (fun t ht _ => ⟨⟨x31.2, (u77.1, u77.2.1, u77.2.2), rfl, trivial, by rw [ht]; exact w.1, w.2.1⟩, w.2.2.F ht⟩) w.2.2.2.2 dX3_takeNumber_81
          · refine lv_iconst (v := (-1)) S.1 S.2.1 dX3_takeNumber_74 (by decide) ?_
            exact W.iret (v := (-1)) S.1 S.2.1 hr (fun t ht _ => ⟨⟨(-1), (rF, rT, rS), rfl, trivial, by rw [ht]; exact w.1, w.2.1⟩, w.2.2.F ht⟩) w.2.2.2.2 dX3_takeNumber_75
      · refine lv_bipush (v := 10) S.1 S.2.1 dX3_takeNumber_40 (by decide) ?_
        refine lv_iload_n S.1 S.2.1 dX3_takeNumber_42 rfl (lv_at hl 1 rfl) ?_
        refine lv_imul S.1 S.2.1 dX3_takeNumber_43 ?_
        refine lv_aload_n S.1 S.2.1 dX3_takeNumber_44 rfl (lv_at hl 2 rfl) ?_
        refine w_get S C w (CC := RX3) (T := TX3) (N := 4) (ref := "GateSums$Reader") im_X3_takeNumber_X3 0 rfl rfl 0 (by decide) (List.mem_of_getElem? (i := 4) rfl) (fun _ h => h) rfl dX3_takeNumber_45 ?_
        refine lv_iload S.1 S.2.1 dX3_takeNumber_48 (lv_at hl 0 rfl) ?_
        refine cs_i (va_runV (As := [.int x31.1]) (rest := [.int (10 * x31.2)]) S (c_X5_byteAt l G aT aB _ tL fB x31.1) (cwV 1 S.2.2.2.2 gX3_takeNumber_X5_byteAt rfl rfl rfl (by decide +kernel) ⟨Nat.le_of_ble_eq_true rfl, Nat.le_of_ble_eq_true rfl⟩) ⟨wPre_blind, va_recv C.1 w.1 (ci := 5) (q0 := 1) rfl rfl, wPre_at C w [1, 2] rfl rfl⟩ rfl rfl hl.1 rfl (lv_room (Nat.le_of_ble_eq_true rfl)) dX3_takeNumber_50 ⟨Nat.le_of_ble_eq_true rfl, Nat.le_of_ble_eq_true rfl⟩) (fun r50 h50 => ?_)
        refine w_topi (y := (byteAtF tL fB x31.1)) h50 ?_
        refine lv_iadd S.1 S.2.1 dX3_takeNumber_53 ?_
        refine lv_bipush (v := 48) S.1 S.2.1 dX3_takeNumber_54 (by decide) ?_
        refine lv_isub S.1 S.2.1 dX3_takeNumber_56 ?_
        refine lv_istore_n (lv' := [(3, .int (((10 * x31.2) + (byteAtF tL fB x31.1)) - 48)), (4, .int x31.1), (0, .ref aRd), (1, .int lo), (2, .int hi)]) S.1 S.2.1 dX3_takeNumber_57 rfl hl (by decide) rfl (fun ls hl => ?_)
        refine lv_iinc (v := (x31.1 + 1)) (lv' := [(4, .int (x31.1 + 1)), (3, .int (((10 * x31.2) + (byteAtF tL fB x31.1)) - 48)), (0, .ref aRd), (1, .int lo), (2, .int hi)]) S.1 S.2.1 dX3_takeNumber_58 hl (k := 1) rfl (rfl) (by decide) rfl (fun ls hl => ?_)
        refine lv_goto (tgt := 31) S.1 S.2.1 dX3_takeNumber_61 (by decide) ?_
        exact ih31 ((x31.1 + 1), (((10 * x31.2) + (byteAtF tL fB x31.1)) - 48)) ls _ _ (trivial) (up_mu c37) w (lv_sub hl [0, 1, 2, 3, 4] rfl)
    · refine lv_iconst (v := (-1)) S.1 S.2.1 dX3_takeNumber_21 (by decide) ?_
      exact W.iret (v := (-1)) S.1 S.2.1 hr (fun t ht _ => ⟨⟨(-1), (rF, rT, rS), rfl, trivial, by rw [ht]; exact w.1, w.2.1⟩, w.2.2.F ht⟩) w.2.2.2.2 dX3_takeNumber_22
set_option maxHeartbeats 4000000 in
set_option maxRecDepth 100000 in
theorem c_X3_gateKind (l : Launch) (G : GT) (aRd aT aB : Nat) (sz : Nat) (rF rT rS tL : Int32) (fB : Nat → Int32) : Met l yX3_gateKind wsX3_gateKind ({ frames := 5, cells := 0, slots := 0, locals := 107 }) (va_Pc [.ref aRd] (wPre G [(aRd, .inr (3, [.ref aT, .int rF, .int rT, .int rS])), (aT, .inr (5, [.ref aB, .int tL])), (aB, .inl (G.2.1 0, 120, .inl fB))] sz)) (vp_Si (fun r : Int32 => True)) 0 0 (fun _ => False) := by
  refine met_go (cc := cX3_gateKind) (maxL := 2) (ret := (some .int)) (own := RX3) (by decide) rfl rfl (Nat.le_of_ble_eq_true rfl) ?_
  intro p e s m below meth c ls S hr hlocks hname hsz C w hl
  have hl : lv_has ls 2 [(0, .ref aRd)] := hl
  refine lv_iconst (v := 0) S.1 S.2.1 dX3_gateKind_0 (by decide) ?_
  refine lv_istore_n (lv' := [(1, .int 0), (0, .ref aRd)]) S.1 S.2.1 dX3_gateKind_1 rfl hl (by decide) rfl (fun ls hl => ?_)
  refine w_loopS (σ := Nat) (nL := 2) 2 (fun x2 => 8 - x2) (fun x2 => x2 ≤ 8) (fun x2 => [(1, .int (nI x2)), (0, .ref aRd)]) (fun _ => []) ?_ 0 ls (Nat.zero_le _) (lv_sub hl [0, 1] rfl)
  intro x2 ls hI2 hl ih2
  have hl : lv_has ls 2 [(1, .int (nI x2)), (0, .ref aRd)] := hl
  refine lv_iload_n S.1 S.2.1 dX3_gateKind_2 rfl (lv_at hl 0 rfl) ?_
  refine lv_bipush (v := 8) S.1 S.2.1 dX3_gateKind_3 (by decide) ?_
  refine lv_icmp_ge (tgt := 27) S.1 S.2.1 dX3_gateKind_5 (by decide) (fun c5 => ?_) (fun c5 => ?_)
  · refine lv_iconst (v := (-1)) S.1 S.2.1 dX3_gateKind_27 (by decide) ?_
    exact W.iret (v := (-1)) S.1 S.2.1 hr (fun t ht _ => ⟨(-1), rfl, trivial, ht⟩) (fun q h => absurd h List.not_mem_nil) dX3_gateKind_28
  · refine lv_aload_n S.1 S.2.1 dX3_gateKind_8 rfl (lv_at hl 1 rfl) ?_
    refine lv_iload_n S.1 S.2.1 dX3_gateKind_9 rfl (lv_at hl 0 rfl) ?_
    refine va_csr (va_runS (As := [.int (nI x2)]) (rest := [.ref aRd]) S (c_X3_gateWord l G _ (nI x2)) (va_cwS 1 S.2.2.2.2 gX3_gateKind_X3_gateWord rfl rfl rfl (by decide +kernel) ⟨Nat.le_of_ble_eq_true rfl, Nat.le_of_ble_eq_true rfl⟩) ⟨wPre_blind, wPre_at C w [] rfl rfl⟩ rfl rfl hl.1 rfl (lv_room (Nat.le_of_ble_eq_true rfl)) dX3_gateKind_10 ⟨Nat.le_of_ble_eq_true rfl, Nat.le_of_ble_eq_true rfl⟩).run (fun r10 h10 => ?_)
    refine cs_i (va_runV (As := [.ref (G.2.2.2.1 r10)]) (rest := []) S (c_X3_isWord l G aRd aT aB _ rF rT rS tL fB r10 (h10)) (cwV 1 S.2.2.2.2 gX3_gateKind_X3_isWord rfl rfl rfl (by decide +kernel) ⟨Nat.le_of_ble_eq_true rfl, Nat.le_of_ble_eq_true rfl⟩) ⟨wPre_blind, va_recv C.1 w.1 (ci := 3) (q0 := 0) rfl rfl, wPre_at C w [0, 1, 2] rfl rfl⟩ rfl rfl hl.1 rfl (lv_room (Nat.le_of_ble_eq_true rfl)) dX3_gateKind_13 ⟨Nat.le_of_ble_eq_true rfl, Nat.le_of_ble_eq_true rfl⟩) (fun r13 h13 => ?_)
    refine lv_if_eq (tgt := 21) S.1 S.2.1 dX3_gateKind_16 (by decide) (fun c16 => ?_) (fun c16 => ?_)
    · refine lv_iinc (v := (nI (x2 + 1))) (lv' := [(1, .int (nI (x2 + 1))), (0, .ref aRd)]) S.1 S.2.1 dX3_gateKind_21 hl (k := 0) rfl (nI_1 _) (by decide) rfl (fun ls hl => ?_)
      refine lv_goto (tgt := 2) S.1 S.2.1 dX3_gateKind_24 (by decide) ?_
      exact ih2 (x2 + 1) ls (by have h := c5; rw [show (8 : Int32) = nI 8 from rfl, nI_leI (by decide) (by omega)] at h; omega) (by have h := c5; rw [show (8 : Int32) = nI 8 from rfl, nI_leI (by decide) (by omega)] at h; omega) (lv_sub hl [0, 1] rfl)
    · refine lv_iload_n S.1 S.2.1 dX3_gateKind_19 rfl (lv_at hl 0 rfl) ?_
      exact W.iret (v := (nI x2)) S.1 S.2.1 hr (fun t ht _ => ⟨(nI x2), rfl, trivial, ht⟩) (fun q h => absurd h List.not_mem_nil) dX3_gateKind_20
set_option maxHeartbeats 4000000 in
set_option maxRecDepth 100000 in
theorem c_X3_taskKind (l : Launch) (G : GT) (aRd aT aB : Nat) (sz : Nat) (rF rT rS tL : Int32) (fB : Nat → Int32) : Met l yX3_taskKind wsX3_taskKind ({ frames := 5, cells := 0, slots := 0, locals := 107 }) (va_Pc [.ref aRd] (wPre G [(aRd, .inr (3, [.ref aT, .int rF, .int rT, .int rS])), (aT, .inr (5, [.ref aB, .int tL])), (aB, .inl (G.2.1 0, 120, .inl fB))] sz)) (vp_Si (fun r : Int32 => True)) 0 0 (fun _ => False) := by
  refine met_go (cc := cX3_taskKind) (maxL := 2) (ret := (some .int)) (own := RX3) (by decide) rfl rfl (Nat.le_of_ble_eq_true rfl) ?_
  intro p e s m below meth c ls S hr hlocks hname hsz C w hl
  have hl : lv_has ls 2 [(0, .ref aRd)] := hl
  refine lv_iconst (v := 0) S.1 S.2.1 dX3_taskKind_0 (by decide) ?_
  refine lv_istore_n (lv' := [(1, .int 0), (0, .ref aRd)]) S.1 S.2.1 dX3_taskKind_1 rfl hl (by decide) rfl (fun ls hl => ?_)
  refine w_loopS (σ := Nat) (nL := 2) 2 (fun x2 => 4 - x2) (fun x2 => x2 ≤ 4) (fun x2 => [(1, .int (nI x2)), (0, .ref aRd)]) (fun _ => []) ?_ 0 ls (Nat.zero_le _) (lv_sub hl [0, 1] rfl)
  intro x2 ls hI2 hl ih2
  have hl : lv_has ls 2 [(1, .int (nI x2)), (0, .ref aRd)] := hl
  refine lv_iload_n S.1 S.2.1 dX3_taskKind_2 rfl (lv_at hl 0 rfl) ?_
  refine lv_iconst (v := 4) S.1 S.2.1 dX3_taskKind_3 (by decide) ?_
  refine lv_icmp_ge (tgt := 26) S.1 S.2.1 dX3_taskKind_4 (by decide) (fun c4 => ?_) (fun c4 => ?_)
  · refine lv_iconst (v := (-1)) S.1 S.2.1 dX3_taskKind_26 (by decide) ?_
    exact W.iret (v := (-1)) S.1 S.2.1 hr (fun t ht _ => ⟨(-1), rfl, trivial, ht⟩) (fun q h => absurd h List.not_mem_nil) dX3_taskKind_27
  · refine lv_aload_n S.1 S.2.1 dX3_taskKind_7 rfl (lv_at hl 1 rfl) ?_
    refine lv_iload_n S.1 S.2.1 dX3_taskKind_8 rfl (lv_at hl 0 rfl) ?_
    refine va_csr (va_runS (As := [.int (nI x2)]) (rest := [.ref aRd]) S (c_X3_taskWord l G _ (nI x2)) (va_cwS 1 S.2.2.2.2 gX3_taskKind_X3_taskWord rfl rfl rfl (by decide +kernel) ⟨Nat.le_of_ble_eq_true rfl, Nat.le_of_ble_eq_true rfl⟩) ⟨wPre_blind, wPre_at C w [] rfl rfl⟩ rfl rfl hl.1 rfl (lv_room (Nat.le_of_ble_eq_true rfl)) dX3_taskKind_9 ⟨Nat.le_of_ble_eq_true rfl, Nat.le_of_ble_eq_true rfl⟩).run (fun r9 h9 => ?_)
    refine cs_i (va_runV (As := [.ref (G.2.2.2.1 r9)]) (rest := []) S (c_X3_isWord l G aRd aT aB _ rF rT rS tL fB r9 (h9)) (cwV 1 S.2.2.2.2 gX3_taskKind_X3_isWord rfl rfl rfl (by decide +kernel) ⟨Nat.le_of_ble_eq_true rfl, Nat.le_of_ble_eq_true rfl⟩) ⟨wPre_blind, va_recv C.1 w.1 (ci := 3) (q0 := 0) rfl rfl, wPre_at C w [0, 1, 2] rfl rfl⟩ rfl rfl hl.1 rfl (lv_room (Nat.le_of_ble_eq_true rfl)) dX3_taskKind_12 ⟨Nat.le_of_ble_eq_true rfl, Nat.le_of_ble_eq_true rfl⟩) (fun r12 h12 => ?_)
    refine lv_if_eq (tgt := 20) S.1 S.2.1 dX3_taskKind_15 (by decide) (fun c15 => ?_) (fun c15 => ?_)
    · refine lv_iinc (v := (nI (x2 + 1))) (lv' := [(1, .int (nI (x2 + 1))), (0, .ref aRd)]) S.1 S.2.1 dX3_taskKind_20 hl (k := 0) rfl (nI_1 _) (by decide) rfl (fun ls hl => ?_)
      refine lv_goto (tgt := 2) S.1 S.2.1 dX3_taskKind_23 (by decide) ?_
      exact ih2 (x2 + 1) ls (by have h := c4; rw [show (4 : Int32) = nI 4 from rfl, nI_leI (by decide) (by omega)] at h; omega) (by have h := c4; rw [show (4 : Int32) = nI 4 from rfl, nI_leI (by decide) (by omega)] at h; omega) (lv_sub hl [0, 1] rfl)
    · refine lv_iload_n S.1 S.2.1 dX3_taskKind_18 rfl (lv_at hl 0 rfl) ?_
      exact W.iret (v := (nI x2)) S.1 S.2.1 hr (fun t ht _ => ⟨(nI x2), rfl, trivial, ht⟩) (fun q h => absurd h List.not_mem_nil) dX3_taskKind_19
