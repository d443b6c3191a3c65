set_option maxHeartbeats 4000000 in
set_option maxRecDepth 100000 in
theorem c_X7_goes (l : Launch) (G : GT) (sz : Nat) (k0 x0 y0 : Int32) : Met l yX7_goes wsX7_goes ({ frames := 0, cells := 0, slots := 0, locals := 0 }) (va_Pc [.int k0, .int x0, .int y0] (wPre G [] sz)) (vp_Si (fun r : Int32 => True)) 0 0 (fun _ => False) := by
  refine met_go (cc := cX7_goes) (maxL := 5) (ret := (some .int)) (own := RX7) (by decide) rfl rfl (Nat.le_of_ble_eq_true rfl) ?_
  intro p e s m below meth c ls S hr hlocks hname hsz C w hl
  have hl : lv_has ls 5 [(0, .int k0), (1, .int x0), (2, .int y0)] := hl
  refine lv_iload_n S.1 S.2.1 dX7_goes_0 rfl (lv_at hl 1 rfl) ?_
  refine lv_iload_n S.1 S.2.1 dX7_goes_1 rfl (lv_at hl 2 rfl) ?_
  refine lv_iand S.1 S.2.1 dX7_goes_2 ?_
  refine lv_istore_n (lv' := [(3, .int (x0 &&& y0)), (0, .int k0), (1, .int x0), (2, .int y0)]) S.1 S.2.1 dX7_goes_3 rfl hl (by decide) rfl (fun ls hl => ?_)
  refine lv_iload_n S.1 S.2.1 dX7_goes_4 rfl (lv_at hl 2 rfl) ?_
  refine lv_iload_n S.1 S.2.1 dX7_goes_5 rfl (lv_at hl 3 rfl) ?_
  refine lv_ior S.1 S.2.1 dX7_goes_6 ?_
  refine lv_istore (lv' := [(4, .int (x0 ||| y0)), (3, .int (x0 &&& y0)), (0, .int k0), (1, .int x0), (2, .int y0)]) S.1 S.2.1 dX7_goes_7 hl (by decide) rfl (fun ls hl => ?_)
  refine lv_iload_n S.1 S.2.1 dX7_goes_9 rfl (lv_at hl 2 rfl) ?_
  rcases sw_cases 0 6 k0.toInt (by decide) with c10 | ⟨c10n, c10l, c10q⟩
  · refine lv_tableOut (tgt := 80) S.1 S.2.1 dX7_goes_10 c10 (by decide) ?_
    refine lv_iload_n S.1 S.2.1 dX7_goes_80 rfl (lv_at hl 3 rfl) ?_
    refine lv_iconst (v := 1) S.1 S.2.1 dX7_goes_81 (by decide) ?_
    refine lv_iload_n S.1 S.2.1 dX7_goes_82 rfl (lv_at hl 4 rfl) ?_
    refine lv_isub S.1 S.2.1 dX7_goes_83 ?_
    refine lv_iand S.1 S.2.1 dX7_goes_84 ?_
    exact W.iret (v := (x0 &&& (1 - y0))) S.1 S.2.1 hr (fun t ht _ => ⟨(x0 &&& (1 - y0)), rfl, trivial, ht⟩) (fun q h => absurd h List.not_mem_nil) dX7_goes_85
  · have c10l2 : c10n < 7 := by omega
    rcases Nat.lt_or_ge c10n 1 with c10a | c10a
    · have c10e : c10n = 0 := by omega
      subst c10e
      have c10 : k0.toInt = 0 := by omega
      refine lv_tableIn (off := 42) (tgt := 52) S.1 S.2.1 dX7_goes_10 (by omega) (by omega) (by rw [c10]; rfl) (by decide) ?_
      refine lv_iconst (v := 1) S.1 S.2.1 dX7_goes_52 (by decide) ?_
      refine lv_iload_n S.1 S.2.1 dX7_goes_53 rfl (lv_at hl 3 rfl) ?_
      refine lv_isub S.1 S.2.1 dX7_goes_54 ?_
      exact W.iret (v := (1 - x0)) S.1 S.2.1 hr (fun t ht _ => ⟨(1 - x0), rfl, trivial, ht⟩) (fun q h => absurd h List.not_mem_nil) dX7_goes_55
    rcases Nat.lt_or_ge c10n 2 with c10a | c10a
    · have c10e : c10n = 1 := by omega
      subst c10e
      have c10 : k0.toInt = 1 := by omega
      refine lv_tableIn (off := 46) (tgt := 56) S.1 S.2.1 dX7_goes_10 (by omega) (by omega) (by rw [c10]; rfl) (by decide) ?_
      refine lv_iload_n S.1 S.2.1 dX7_goes_56 rfl (lv_at hl 1 rfl) ?_
      exact W.iret (v := (x0 &&& y0)) S.1 S.2.1 hr (fun t ht _ => ⟨(x0 &&& y0), rfl, trivial, ht⟩) (fun q h => absurd h List.not_mem_nil) dX7_goes_57
    rcases Nat.lt_or_ge c10n 3 with c10a | c10a
    · have c10e : c10n = 2 := by omega
      subst c10e
      have c10 : k0.toInt = 2 := by omega
      refine lv_tableIn (off := 48) (tgt := 58) S.1 S.2.1 dX7_goes_10 (by omega) (by omega) (by rw [c10]; rfl) (by decide) ?_
      refine lv_iload S.1 S.2.1 dX7_goes_58 (lv_at hl 0 rfl) ?_
      exact W.iret (v := (x0 ||| y0)) S.1 S.2.1 hr (fun t ht _ => ⟨(x0 ||| y0), rfl, trivial, ht⟩) (fun q h => absurd h List.not_mem_nil) dX7_goes_60
    rcases Nat.lt_or_ge c10n 4 with c10a | c10a
    · have c10e : c10n = 3 := by omega
      subst c10e
      have c10 : k0.toInt = 3 := by omega
      refine lv_tableIn (off := 51) (tgt := 61) S.1 S.2.1 dX7_goes_10 (by omega) (by omega) (by rw [c10]; rfl) (by decide) ?_
      refine lv_iload_n S.1 S.2.1 dX7_goes_61 rfl (lv_at hl 3 rfl) ?_
      refine lv_iload_n S.1 S.2.1 dX7_goes_62 rfl (lv_at hl 4 rfl) ?_
      refine lv_ixor S.1 S.2.1 dX7_goes_63 ?_
      exact W.iret (v := (x0 ^^^ y0)) S.1 S.2.1 hr (fun t ht _ => ⟨(x0 ^^^ y0), rfl, trivial, ht⟩) (fun q h => absurd h List.not_mem_nil) dX7_goes_64
    rcases Nat.lt_or_ge c10n 5 with c10a | c10a
    · have c10e : c10n = 4 := by omega
      subst c10e
      have c10 : k0.toInt = 4 := by omega
      refine lv_tableIn (off := 55) (tgt := 65) S.1 S.2.1 dX7_goes_10 (by omega) (by omega) (by rw [c10]; rfl) (by decide) ?_
      refine lv_iconst (v := 1) S.1 S.2.1 dX7_goes_65 (by decide) ?_
      refine lv_iload_n S.1 S.2.1 dX7_goes_66 rfl (lv_at hl 1 rfl) ?_
      refine lv_isub S.1 S.2.1 dX7_goes_67 ?_
      exact W.iret (v := (1 - (x0 &&& y0))) S.1 S.2.1 hr (fun t ht _ => ⟨(1 - (x0 &&& y0)), rfl, trivial, ht⟩) (fun q h => absurd h List.not_mem_nil) dX7_goes_68
    rcases Nat.lt_or_ge c10n 6 with c10a | c10a
    · have c10e : c10n = 5 := by omega
      subst c10e
      have c10 : k0.toInt = 5 := by omega
      refine lv_tableIn (off := 59) (tgt := 69) S.1 S.2.1 dX7_goes_10 (by omega) (by omega) (by rw [c10]; rfl) (by decide) ?_
      refine lv_iconst (v := 1) S.1 S.2.1 dX7_goes_69 (by decide) ?_
      refine lv_iload S.1 S.2.1 dX7_goes_70 (lv_at hl 0 rfl) ?_
      refine lv_isub S.1 S.2.1 dX7_goes_72 ?_
      exact W.iret (v := (1 - (x0 ||| y0))) S.1 S.2.1 hr (fun t ht _ => ⟨(1 - (x0 ||| y0)), rfl, trivial, ht⟩) (fun q h => absurd h List.not_mem_nil) dX7_goes_73
    have c10e : c10n = 6 := by omega
    subst c10e
    have c10 : k0.toInt = 6 := by omega
    refine lv_tableIn (off := 64) (tgt := 74) S.1 S.2.1 dX7_goes_10 (by omega) (by omega) (by rw [c10]; rfl) (by decide) ?_
    refine lv_iconst (v := 1) S.1 S.2.1 dX7_goes_74 (by decide) ?_
    refine lv_iload_n S.1 S.2.1 dX7_goes_75 rfl (lv_at hl 3 rfl) ?_
    refine lv_iload_n S.1 S.2.1 dX7_goes_76 rfl (lv_at hl 4 rfl) ?_
    refine lv_ixor S.1 S.2.1 dX7_goes_77 ?_
    refine lv_isub S.1 S.2.1 dX7_goes_78 ?_
    exact W.iret (v := (1 - (x0 ^^^ y0))) S.1 S.2.1 hr (fun t ht _ => ⟨(1 - (x0 ^^^ y0)), rfl, trivial, ht⟩) (fun q h => absurd h List.not_mem_nil) dX7_goes_79
theorem im_X7_signals_X7 : ∀ w ∈ u_ws RX7 TX7 16, w ∈ wsX7_signals := by decide +kernel
set_option maxHeartbeats 4000000 in
set_option maxRecDepth 100000 in
theorem c_X7_signals (l : Launch) (G : GT) (mO mS : Nat) (sz : Nat) (mD mR mT mW mQ mC mU mV : Nat) (mt ma mn my mm mf mg : Int32) (fS : Nat → Int32) (gN : Nat) (v0 : Int32) (hg : fS 1 = nI gN) (hgN : gN ≤ 12) : Met l yX7_signals wsX7_signals ({ frames := 1, cells := 0, slots := 0, locals := 24 }) (va_Pc [.ref mO, .int v0] (wPre G [(mO, .inr (7, [.ref mS, .ref mD, .ref mR, .ref mT, .int mt, .int ma, .int mn, .ref mW, .ref mQ, .ref mC, .int my, .ref mU, .ref mV, .int mm, .int mf, .int mg])), (mS, .inl (G.2.1 2, 49, .inl fS))] sz)) (vp_Si (fun r : Int32 => True)) 0 0 (fun _ => False) := by
  refine met_go (cc := cX7_signals) (maxL := 6) (ret := (some .int)) (own := RX7) (by decide) rfl rfl (Nat.le_of_ble_eq_true rfl) ?_
  intro p e s m below meth c ls S hr hlocks hname hsz C w hl
  have hl : lv_has ls 6 [(0, .ref mO), (1, .int v0)] := hl
  refine lv_iload_n S.1 S.2.1 dX7_signals_0 rfl (lv_at hl 1 rfl) ?_
  refine lv_istore_n (lv' := [(2, .int v0), (0, .ref mO), (1, .int v0)]) S.1 S.2.1 dX7_signals_1 rfl hl (by decide) rfl (fun ls hl => ?_)
  refine lv_iconst (v := 0) S.1 S.2.1 dX7_signals_2 (by decide) ?_
  refine lv_istore_n (lv' := [(3, .int 0), (2, .int v0), (0, .ref mO), (1, .int v0)]) S.1 S.2.1 dX7_signals_3 rfl hl (by decide) rfl (fun ls hl => ?_)
  refine w_loopS (σ := Nat × Int32) (nL := 6) 4 (fun x4 => gN - x4.1) (fun x4 => x4.1 ≤ gN) (fun x4 => [(3, .int (nI x4.1)), (2, .int x4.2), (0, .ref mO), (1, .int v0)]) (fun _ => []) ?_ (0, v0) ls (Nat.zero_le _) (lv_sub hl [0, 1, 2, 3] rfl)
  intro x4 ls hI4 hl ih4
  have hl : lv_has ls 6 [(3, .int (nI x4.1)), (2, .int x4.2), (0, .ref mO), (1, .int v0)] := hl
  refine lv_iload_n S.1 S.2.1 dX7_signals_4 rfl (lv_at hl 0 rfl) ?_
  refine lv_aload_n S.1 S.2.1 dX7_signals_5 rfl (lv_at hl 2 rfl) ?_
  refine w_get S C w (CC := RX7) (T := TX7) (N := 16) (ref := "GateSumsModel") im_X7_signals_X7 0 rfl rfl 0 (by decide) (List.mem_of_getElem? (i := 1) rfl) (fun _ h => h) rfl dX7_signals_6 ?_
  refine lv_iconst (v := 1) S.1 S.2.1 dX7_signals_9 (by decide) ?_
  refine w_iald S C w 1 rfl (by unfold vp_in; decide) dX7_signals_10 ?_
  refine w_topi (y := (nI gN)) (hg) ?_
  refine lv_icmp_ge (tgt := 94) S.1 S.2.1 dX7_signals_11 (by decide) (fun c11 => ?_) (fun c11 => ?_)
  · refine lv_iload_n S.1 S.2.1 dX7_signals_94 rfl (lv_at hl 1 rfl) ?_
    exact W.iret (v := x4.2) S.1 S.2.1 hr (fun t ht _ => ⟨x4.2, rfl, trivial, ht⟩) (fun q h => absurd h List.not_mem_nil) dX7_signals_95
  · refine lv_iload_n S.1 S.2.1 dX7_signals_14 rfl (lv_at hl 1 rfl) ?_
    refine lv_aload_n S.1 S.2.1 dX7_signals_15 rfl (lv_at hl 2 rfl) ?_
    refine w_get S C w (CC := RX7) (T := TX7) (N := 16) (ref := "GateSumsModel") im_X7_signals_X7 0 rfl rfl 0 (by decide) (List.mem_of_getElem? (i := 1) rfl) (fun _ h => h) rfl dX7_signals_16 ?_
    refine lv_bipush (v := 18) S.1 S.2.1 dX7_signals_19 (by decide) ?_
    refine lv_iload_n S.1 S.2.1 dX7_signals_21 rfl (lv_at hl 0 rfl) ?_
    refine lv_iadd S.1 S.2.1 dX7_signals_22 ?_
    refine w_iald S C w 1 rfl (ixA 18 _ (by have h := c11; rw [nI_leI (by omega) (by omega)] at h; omega)) dX7_signals_23 ?_
    refine lv_ishr S.1 S.2.1 dX7_signals_24 ?_
    refine lv_iconst (v := 1) S.1 S.2.1 dX7_signals_25 (by decide) ?_
    refine lv_iand S.1 S.2.1 dX7_signals_26 ?_
    refine lv_istore (lv' := [(4, .int ((x4.2 >>> ((fS (18 + (nI x4.1)).toNatClampNeg) &&& 31)) &&& 1)), (3, .int (nI x4.1)), (2, .int x4.2), (0, .ref mO), (1, .int v0)]) S.1 S.2.1 dX7_signals_27 hl (by decide) rfl (fun ls hl => ?_)
    refine lv_aload_n S.1 S.2.1 dX7_signals_29 rfl (lv_at hl 3 rfl) ?_
    refine w_get S C w (CC := RX7) (T := TX7) (N := 16) (ref := "GateSumsModel") im_X7_signals_X7 0 rfl rfl 0 (by decide) (List.mem_of_getElem? (i := 1) rfl) (fun _ h => h) rfl dX7_signals_30 ?_
    refine lv_bipush (v := 6) S.1 S.2.1 dX7_signals_33 (by decide) ?_
    refine lv_iload_n S.1 S.2.1 dX7_signals_35 rfl (lv_at hl 1 rfl) ?_
    refine lv_iadd S.1 S.2.1 dX7_signals_36 ?_
    refine w_iald S C w 1 rfl (ixA 6 _ (by have h := c11; rw [nI_leI (by omega) (by omega)] at h; omega)) dX7_signals_37 ?_
    refine lv_if_ne (tgt := 45) S.1 S.2.1 dX7_signals_38 (by decide) (fun c38 => ?_) (fun c38 => ?_)
    · refine lv_iload_n S.1 S.2.1 dX7_signals_45 rfl (lv_at hl 2 rfl) ?_
      refine lv_aload_n S.1 S.2.1 dX7_signals_46 rfl (lv_at hl 3 rfl) ?_
      refine w_get S C w (CC := RX7) (T := TX7) (N := 16) (ref := "GateSumsModel") im_X7_signals_X7 0 rfl rfl 0 (by decide) (List.mem_of_getElem? (i := 1) rfl) (fun _ h => h) rfl dX7_signals_47 ?_
      refine lv_bipush (v := 30) S.1 S.2.1 dX7_signals_50 (by decide) ?_
      refine lv_iload_n S.1 S.2.1 dX7_signals_52 rfl (lv_at hl 1 rfl) ?_
      refine lv_iadd S.1 S.2.1 dX7_signals_53 ?_
      refine w_iald S C w 1 rfl (ixA 30 _ (by have h := c11; rw [nI_leI (by omega) (by omega)] at h; omega)) dX7_signals_54 ?_
      refine lv_ishr S.1 S.2.1 dX7_signals_55 ?_
      refine lv_iconst (v := 1) S.1 S.2.1 dX7_signals_56 (by decide) ?_
      refine lv_iand S.1 S.2.1 dX7_signals_57 ?_
      refine lv_istore (lv' := [(5, .int ((x4.2 >>> ((fS (30 + (nI x4.1)).toNatClampNeg) &&& 31)) &&& 1)), (4, .int ((x4.2 >>> ((fS (18 + (nI x4.1)).toNatClampNeg) &&& 31)) &&& 1)), (3, .int (nI x4.1)), (2, .int x4.2), (0, .ref mO), (1, .int v0)]) S.1 S.2.1 dX7_signals_58 hl (by decide) rfl (fun ls hl => ?_)
      refine lv_iload_n S.1 S.2.1 dX7_signals_60 rfl (lv_at hl 3 rfl) ?_
      refine lv_aload_n S.1 S.2.1 dX7_signals_61 rfl (lv_at hl 4 rfl) ?_
      refine w_get S C w (CC := RX7) (T := TX7) (N := 16) (ref := "GateSumsModel") im_X7_signals_X7 0 rfl rfl 0 (by decide) (List.mem_of_getElem? (i := 1) rfl) (fun _ h => h) rfl dX7_signals_62 ?_
      refine lv_bipush (v := 6) S.1 S.2.1 dX7_signals_65 (by decide) ?_
      refine lv_iload_n S.1 S.2.1 dX7_signals_67 rfl (lv_at hl 2 rfl) ?_
      refine lv_iadd S.1 S.2.1 dX7_signals_68 ?_
      refine w_iald S C w 1 rfl (ixA 6 _ (by have h := c11; rw [nI_leI (by omega) (by omega)] at h; omega)) dX7_signals_69 ?_
      refine lv_iload S.1 S.2.1 dX7_signals_70 (lv_at hl 1 rfl) ?_
      refine lv_iload S.1 S.2.1 dX7_signals_72 (lv_at hl 0 rfl) ?_
      refine cs_i (va_runS (As := [.int (fS (6 + (nI x4.1)).toNatClampNeg), .int ((x4.2 >>> ((fS (18 + (nI x4.1)).toNatClampNeg) &&& 31)) &&& 1), .int ((x4.2 >>> ((fS (30 + (nI x4.1)).toNatClampNeg) &&& 31)) &&& 1)]) (rest := [.int x4.2]) S (c_X7_goes l G _ (fS (6 + (nI x4.1)).toNatClampNeg) ((x4.2 >>> ((fS (18 + (nI x4.1)).toNatClampNeg) &&& 31)) &&& 1) ((x4.2 >>> ((fS (30 + (nI x4.1)).toNatClampNeg) &&& 31)) &&& 1)) (va_cwS 3 S.2.2.2.2 gX7_signals_X7_goes rfl rfl rfl (by decide +kernel) ⟨Nat.le_of_ble_eq_true rfl, Nat.le_of_ble_eq_true rfl⟩) ⟨wPre_blind, wPre_at C w [] rfl rfl⟩ rfl rfl hl.1 rfl (lv_room (Nat.le_of_ble_eq_true rfl)) dX7_signals_74 ⟨Nat.le_of_ble_eq_true rfl, Nat.le_of_ble_eq_true rfl⟩) (fun r74 h74 => ?_)
      refine lv_aload_n S.1 S.2.1 dX7_signals_77 rfl (lv_at hl 4 rfl) ?_
      refine w_get S C w (CC := RX7) (T := TX7) (N := 16) (ref := "GateSumsModel") im_X7_signals_X7 0 rfl rfl 0 (by decide) (List.mem_of_getElem? (i := 1) rfl) (fun _ h => h) rfl dX7_signals_78 ?_
      refine lv_iconst (v := 0) S.1 S.2.1 dX7_signals_81 (by decide) ?_
      refine w_iald S C w 1 rfl (by unfold vp_in; decide) dX7_signals_82 ?_
      refine lv_iload_n S.1 S.2.1 dX7_signals_83 rfl (lv_at hl 2 rfl) ?_
      refine lv_iadd S.1 S.2.1 dX7_signals_84 ?_
      refine lv_ishl S.1 S.2.1 dX7_signals_85 ?_
      refine lv_ior S.1 S.2.1 dX7_signals_86 ?_
      refine lv_istore_n (lv' := [(2, .int (x4.2 ||| (r74 <<< (((fS (0 : Int32).toNatClampNeg) + (nI x4.1)) &&& 31)))), (5, .int ((x4.2 >>> ((fS (30 + (nI x4.1)).toNatClampNeg) &&& 31)) &&& 1)), (4, .int ((x4.2 >>> ((fS (18 + (nI x4.1)).toNatClampNeg) &&& 31)) &&& 1)), (3, .int (nI x4.1)), (0, .ref mO), (1, .int v0)]) S.1 S.2.1 dX7_signals_87 rfl hl (by decide) rfl (fun ls hl => ?_)
      refine lv_iinc (v := (nI (x4.1 + 1))) (lv' := [(3, .int (nI (x4.1 + 1))), (2, .int (x4.2 ||| (r74 <<< (((fS (0 : Int32).toNatClampNeg) + (nI x4.1)) &&& 31)))), (5, .int ((x4.2 >>> ((fS (30 + (nI x4.1)).toNatClampNeg) &&& 31)) &&& 1)), (4, .int ((x4.2 >>> ((fS (18 + (nI x4.1)).toNatClampNeg) &&& 31)) &&& 1)), (0, .ref mO), (1, .int v0)]) S.1 S.2.1 dX7_signals_88 hl (k := 3) rfl (nI_1 _) (by decide) rfl (fun ls hl => ?_)
      refine lv_goto (tgt := 4) S.1 S.2.1 dX7_signals_91 (by decide) ?_
      have hlt : x4.1 < gN := by have h := c11; rw [nI_leI (by omega) (by omega)] at h; omega
      exact ih4 (x4.1 + 1, (x4.2 ||| (r74 <<< (((fS (0 : Int32).toNatClampNeg) + (nI x4.1)) &&& 31)))) ls (hlt) (by dsimp only; omega) (lv_sub hl [0, 1, 4, 5] rfl)
    · refine lv_iconst (v := 0) S.1 S.2.1 dX7_signals_41 (by decide) ?_
      refine lv_goto (tgt := 58) S.1 S.2.1 dX7_signals_42 (by decide) ?_
      refine lv_istore (lv' := [(5, .int 0), (4, .int ((x4.2 >>> ((fS (18 + (nI x4.1)).toNatClampNeg) &&& 31)) &&& 1)), (3, .int (nI x4.1)), (2, .int x4.2), (0, .ref mO), (1, .int v0)]) S.1 S.2.1 dX7_signals_58 hl (by decide) rfl (fun ls hl => ?_)
      refine lv_iload_n S.1 S.2.1 dX7_signals_60 rfl (lv_at hl 3 rfl) ?_
      refine lv_aload_n S.1 S.2.1 dX7_signals_61 rfl (lv_at hl 4 rfl) ?_
      refine w_get S C w (CC := RX7) (T := TX7) (N := 16) (ref := "GateSumsModel") im_X7_signals_X7 0 rfl rfl 0 (by decide) (List.mem_of_getElem? (i := 1) rfl) (fun _ h => h) rfl dX7_signals_62 ?_
      refine lv_bipush (v := 6) S.1 S.2.1 dX7_signals_65 (by decide) ?_
      refine lv_iload_n S.1 S.2.1 dX7_signals_67 rfl (lv_at hl 2 rfl) ?_
      refine lv_iadd S.1 S.2.1 dX7_signals_68 ?_
      refine w_iald S C w 1 rfl (ixA 6 _ (by have h := c11; rw [nI_leI (by omega) (by omega)] at h; omega)) dX7_signals_69 ?_
      refine lv_iload S.1 S.2.1 dX7_signals_70 (lv_at hl 1 rfl) ?_
      refine lv_iload S.1 S.2.1 dX7_signals_72 (lv_at hl 0 rfl) ?_
      refine cs_i (va_runS (As := [.int (fS (6 + (nI x4.1)).toNatClampNeg), .int ((x4.2 >>> ((fS (18 + (nI x4.1)).toNatClampNeg) &&& 31)) &&& 1), .int 0]) (rest := [.int x4.2]) S (c_X7_goes l G _ (fS (6 + (nI x4.1)).toNatClampNeg) ((x4.2 >>> ((fS (18 + (nI x4.1)).toNatClampNeg) &&& 31)) &&& 1) 0) (va_cwS 3 S.2.2.2.2 gX7_signals_X7_goes rfl rfl rfl (by decide +kernel) ⟨Nat.le_of_ble_eq_true rfl, Nat.le_of_ble_eq_true rfl⟩) ⟨wPre_blind, wPre_at C w [] rfl rfl⟩ rfl rfl hl.1 rfl (lv_room (Nat.le_of_ble_eq_true rfl)) dX7_signals_74 ⟨Nat.le_of_ble_eq_true rfl, Nat.le_of_ble_eq_true rfl⟩) (fun r74_1 h74_1 => ?_)
      refine lv_aload_n S.1 S.2.1 dX7_signals_77 rfl (lv_at hl 4 rfl) ?_
      refine w_get S C w (CC := RX7) (T := TX7) (N := 16) (ref := "GateSumsModel") im_X7_signals_X7 0 rfl rfl 0 (by decide) (List.mem_of_getElem? (i := 1) rfl) (fun _ h => h) rfl dX7_signals_78 ?_
      refine lv_iconst (v := 0) S.1 S.2.1 dX7_signals_81 (by decide) ?_
      refine w_iald S C w 1 rfl (by unfold vp_in; decide) dX7_signals_82 ?_
      refine lv_iload_n S.1 S.2.1 dX7_signals_83 rfl (lv_at hl 2 rfl) ?_
      refine lv_iadd S.1 S.2.1 dX7_signals_84 ?_
      refine lv_ishl S.1 S.2.1 dX7_signals_85 ?_
      refine lv_ior S.1 S.2.1 dX7_signals_86 ?_
      refine lv_istore_n (lv' := [(2, .int (x4.2 ||| (r74_1 <<< (((fS (0 : Int32).toNatClampNeg) + (nI x4.1)) &&& 31)))), (5, .int 0), (4, .int ((x4.2 >>> ((fS (18 + (nI x4.1)).toNatClampNeg) &&& 31)) &&& 1)), (3, .int (nI x4.1)), (0, .ref mO), (1, .int v0)]) S.1 S.2.1 dX7_signals_87 rfl hl (by decide) rfl (fun ls hl => ?_)
      refine lv_iinc (v := (nI (x4.1 + 1))) (lv' := [(3, .int (nI (x4.1 + 1))), (2, .int (x4.2 ||| (r74_1 <<< (((fS (0 : Int32).toNatClampNeg) + (nI x4.1)) &&& 31)))), (5, .int 0), (4, .int ((x4.2 >>> ((fS (18 + (nI x4.1)).toNatClampNeg) &&& 31)) &&& 1)), (0, .ref mO), (1, .int v0)]) S.1 S.2.1 dX7_signals_88 hl (k := 3) rfl (nI_1 _) (by decide) rfl (fun ls hl => ?_)
      refine lv_goto (tgt := 4) S.1 S.2.1 dX7_signals_91 (by decide) ?_
      have hlt : x4.1 < gN := by have h := c11; rw [nI_leI (by omega) (by omega)] at h; omega
      exact ih4 (x4.1 + 1, (x4.2 ||| (r74_1 <<< (((fS (0 : Int32).toNatClampNeg) + (nI x4.1)) &&& 31)))) ls (hlt) (by dsimp only; omega) (lv_sub hl [0, 1, 4, 5] rfl)
theorem im_X7_stand_X7 : ∀ w ∈ u_ws RX7 TX7 16, w ∈ wsX7_stand := by decide +kernel
set_option maxHeartbeats 4000000 in
set_option maxRecDepth 100000 in
theorem c_X7_stand (l : Launch) (G : GT) (mO mS : Nat) (sz : Nat) (mD mR mT mW mQ mC mU mV : Nat) (mt ma mn my mm mf mg : Int32) (fS : Nat → Int32) (gN oN : Nat) (v0 : Int32) (hg : fS 1 = nI gN) (hgN : gN ≤ 12) (ho : fS 2 = nI oN) (hoN : oN ≤ 7) : Met l yX7_stand wsX7_stand ({ frames := 2, cells := 0, slots := 0, locals := 49 }) (va_Pc [.ref mO, .int v0] (wPre G [(mO, .inr (7, [.ref mS, .ref mD, .ref mR, .ref mT, .int mt, .int ma, .int mn, .ref mW, .ref mQ, .ref mC, .int my, .ref mU, .ref mV, .int mm, .int mf, .int mg])), (mS, .inl (G.2.1 2, 49, .inl fS))] sz)) (vp_Si (fun r : Int32 => True)) 0 0 (fun _ => False) := by
  refine met_go (cc := cX7_stand) (maxL := 5) (ret := (some .int)) (own := RX7) (by decide) rfl rfl (Nat.le_of_ble_eq_true rfl) ?_
  intro p e s m below meth c ls S hr hlocks hname hsz C w hl
  have hl : lv_has ls 5 [(0, .ref mO), (1, .int v0)] := hl
  refine lv_aload_n S.1 S.2.1 dX7_stand_0 rfl (lv_at hl 0 rfl) ?_
  refine lv_iload_n S.1 S.2.1 dX7_stand_1 rfl (lv_at hl 1 rfl) ?_
  refine cs_i (va_runV (As := [.int v0]) (rest := []) S (c_X7_signals l G mO mS _ mD mR mT mW mQ mC mU mV mt ma mn my mm mf mg fS gN v0 (hg) (hgN)) (cwV 1 S.2.2.2.2 gX7_stand_X7_signals rfl rfl rfl (by decide +kernel) ⟨Nat.le_of_ble_eq_true rfl, Nat.le_of_ble_eq_true rfl⟩) ⟨wPre_blind, va_recv C.1 w.1 (ci := 7) (q0 := 0) rfl rfl, wPre_at C w [0, 1] rfl rfl⟩ rfl rfl hl.1 rfl (lv_room (Nat.le_of_ble_eq_true rfl)) dX7_stand_2 ⟨Nat.le_of_ble_eq_true rfl, Nat.le_of_ble_eq_true rfl⟩) (fun r2 h2 => ?_)
  refine lv_istore_n (lv' := [(2, .int r2), (0, .ref mO), (1, .int v0)]) S.1 S.2.1 dX7_stand_5 rfl hl (by decide) rfl (fun ls hl => ?_)
  refine lv_iconst (v := 0) S.1 S.2.1 dX7_stand_6 (by decide) ?_
  refine lv_istore_n (lv' := [(3, .int 0), (2, .int r2), (0, .ref mO), (1, .int v0)]) S.1 S.2.1 dX7_stand_7 rfl hl (by decide) rfl (fun ls hl => ?_)
  refine lv_iconst (v := 0) S.1 S.2.1 dX7_stand_8 (by decide) ?_
  refine lv_istore (lv' := [(4, .int 0), (3, .int 0), (2, .int r2), (0, .ref mO), (1, .int v0)]) S.1 S.2.1 dX7_stand_9 hl (by decide) rfl (fun ls hl => ?_)
  refine w_loopS (σ := Nat × Int32) (nL := 5) 11 (fun x11 => oN - x11.1) (fun x11 => x11.1 ≤ oN) (fun x11 => [(4, .int (nI x11.1)), (3, .int x11.2), (2, .int r2), (0, .ref mO), (1, .int v0)]) (fun _ => []) ?_ (0, 0) ls (Nat.zero_le _) (lv_sub hl [0, 1, 2, 3, 4] rfl)
  intro x11 ls hI11 hl ih11
  have hl : lv_has ls 5 [(4, .int (nI x11.1)), (3, .int x11.2), (2, .int r2), (0, .ref mO), (1, .int v0)] := hl
  refine lv_iload S.1 S.2.1 dX7_stand_11 (lv_at hl 0 rfl) ?_
  refine lv_aload_n S.1 S.2.1 dX7_stand_13 rfl (lv_at hl 3 rfl) ?_
  refine w_get S C w (CC := RX7) (T := TX7) (N := 16) (ref := "GateSumsModel") im_X7_stand_X7 0 rfl rfl 0 (by decide) (List.mem_of_getElem? (i := 1) rfl) (fun _ h => h) rfl dX7_stand_14 ?_
  refine lv_iconst (v := 2) S.1 S.2.1 dX7_stand_17 (by decide) ?_
  refine w_iald S C w 1 rfl (by unfold vp_in; decide) dX7_stand_18 ?_
  refine w_topi (y := (nI oN)) (ho) ?_
  refine lv_icmp_ge (tgt := 48) S.1 S.2.1 dX7_stand_19 (by decide) (fun c19 => ?_) (fun c19 => ?_)
  · refine lv_iload_n S.1 S.2.1 dX7_stand_48 rfl (lv_at hl 1 rfl) ?_
    exact W.iret (v := x11.2) S.1 S.2.1 hr (fun t ht _ => ⟨x11.2, rfl, trivial, ht⟩) (fun q h => absurd h List.not_mem_nil) dX7_stand_49
  · refine lv_iload_n S.1 S.2.1 dX7_stand_22 rfl (lv_at hl 1 rfl) ?_
    refine lv_iload_n S.1 S.2.1 dX7_stand_23 rfl (lv_at hl 2 rfl) ?_
    refine lv_aload_n S.1 S.2.1 dX7_stand_24 rfl (lv_at hl 3 rfl) ?_
    refine w_get S C w (CC := RX7) (T := TX7) (N := 16) (ref := "GateSumsModel") im_X7_stand_X7 0 rfl rfl 0 (by decide) (List.mem_of_getElem? (i := 1) rfl) (fun _ h => h) rfl dX7_stand_25 ?_
    refine lv_bipush (v := 42) S.1 S.2.1 dX7_stand_28 (by decide) ?_
    refine lv_iload S.1 S.2.1 dX7_stand_30 (lv_at hl 0 rfl) ?_
    refine lv_iadd S.1 S.2.1 dX7_stand_32 ?_
    refine w_iald S C w 1 rfl (ixA 42 _ (by have h := c19; rw [nI_leI (by omega) (by omega)] at h; omega)) dX7_stand_33 ?_
    refine lv_ishr S.1 S.2.1 dX7_stand_34 ?_
    refine lv_iconst (v := 1) S.1 S.2.1 dX7_stand_35 (by decide) ?_
    refine lv_iand S.1 S.2.1 dX7_stand_36 ?_
    refine lv_iload S.1 S.2.1 dX7_stand_37 (lv_at hl 0 rfl) ?_
    refine lv_ishl S.1 S.2.1 dX7_stand_39 ?_
    refine lv_iadd S.1 S.2.1 dX7_stand_40 ?_
    refine lv_istore_n (lv' := [(3, .int (x11.2 + (((r2 >>> ((fS (42 + (nI x11.1)).toNatClampNeg) &&& 31)) &&& 1) <<< ((nI x11.1) &&& 31)))), (4, .int (nI x11.1)), (2, .int r2), (0, .ref mO), (1, .int v0)]) S.1 S.2.1 dX7_stand_41 rfl hl (by decide) rfl (fun ls hl => ?_)
    refine lv_iinc (v := (nI (x11.1 + 1))) (lv' := [(4, .int (nI (x11.1 + 1))), (3, .int (x11.2 + (((r2 >>> ((fS (42 + (nI x11.1)).toNatClampNeg) &&& 31)) &&& 1) <<< ((nI x11.1) &&& 31)))), (2, .int r2), (0, .ref mO), (1, .int v0)]) S.1 S.2.1 dX7_stand_42 hl (k := 1) rfl (nI_1 _) (by decide) rfl (fun ls hl => ?_)
    refine lv_goto (tgt := 11) S.1 S.2.1 dX7_stand_45 (by decide) ?_
    have hlt : x11.1 < oN := by have h := c19; rw [nI_leI (by omega) (by omega)] at h; omega
    exact ih11 (x11.1 + 1, (x11.2 + (((r2 >>> ((fS (42 + (nI x11.1)).toNatClampNeg) &&& 31)) &&& 1) <<< ((nI x11.1) &&& 31)))) ls (hlt) (by dsimp only; omega) (lv_sub hl [0, 1, 2, 3, 4] rfl)
theorem im_X7_task_X7 : ∀ w ∈ u_ws RX7 TX7 16, w ∈ wsX7_task := by decide +kernel
set_option maxHeartbeats 4000000 in
set_option maxRecDepth 100000 in
theorem c_X7_task (l : Launch) (G : GT) (mO mS : Nat) (sz : Nat) (mD mR mT mW mQ mC mU mV : Nat) (mt ma mn my mm mf mg : Int32) (fS : Nat → Int32) (v0 : Int32) : Met l yX7_task wsX7_task ({ frames := 0, cells := 0, slots := 0, locals := 0 }) (va_Pc [.ref mO, .int v0] (wPre G [(mO, .inr (7, [.ref mS, .ref mD, .ref mR, .ref mT, .int mt, .int ma, .int mn, .ref mW, .ref mQ, .ref mC, .int my, .ref mU, .ref mV, .int mm, .int mf, .int mg])), (mS, .inl (G.2.1 2, 49, .inl fS))] sz)) (vp_Si (fun r : Int32 => True)) 0 0 (fun _ => False) := by
  refine met_go (cc := cX7_task) (maxL := 5) (ret := (some .int)) (own := RX7) (by decide) rfl rfl (Nat.le_of_ble_eq_true rfl) ?_
  intro p e s m below meth c ls S hr hlocks hname hsz C w hl
  have hl : lv_has ls 5 [(0, .ref mO), (1, .int v0)] := hl
  refine lv_iload_n S.1 S.2.1 dX7_task_0 rfl (lv_at hl 1 rfl) ?_
  refine lv_iconst (v := 1) S.1 S.2.1 dX7_task_1 (by decide) ?_
  refine lv_aload_n S.1 S.2.1 dX7_task_2 rfl (lv_at hl 0 rfl) ?_
  refine w_get S C w (CC := RX7) (T := TX7) (N := 16) (ref := "GateSumsModel") im_X7_task_X7 0 rfl rfl 0 (by decide) (List.mem_of_getElem? (i := 1) rfl) (fun _ h => h) rfl dX7_task_3 ?_
  refine lv_iconst (v := 4) S.1 S.2.1 dX7_task_6 (by decide) ?_
  refine w_iald S C w 1 rfl (by unfold vp_in; decide) dX7_task_7 ?_
  refine lv_ishl S.1 S.2.1 dX7_task_8 ?_
  refine lv_iconst (v := 1) S.1 S.2.1 dX7_task_9 (by decide) ?_
  refine lv_isub S.1 S.2.1 dX7_task_10 ?_
  refine lv_iand S.1 S.2.1 dX7_task_11 ?_
  refine lv_istore_n (lv' := [(2, .int (v0 &&& (((1 : Int32) <<< ((fS (4 : Int32).toNatClampNeg) &&& 31)) - 1))), (0, .ref mO), (1, .int v0)]) S.1 S.2.1 dX7_task_12 rfl hl (by decide) rfl (fun ls hl => ?_)
  refine lv_iload_n S.1 S.2.1 dX7_task_13 rfl (lv_at hl 2 rfl) ?_
  refine lv_aload_n S.1 S.2.1 dX7_task_14 rfl (lv_at hl 1 rfl) ?_
  refine w_get S C w (CC := RX7) (T := TX7) (N := 16) (ref := "GateSumsModel") im_X7_task_X7 0 rfl rfl 0 (by decide) (List.mem_of_getElem? (i := 1) rfl) (fun _ h => h) rfl dX7_task_15 ?_
  refine lv_iconst (v := 4) S.1 S.2.1 dX7_task_18 (by decide) ?_
  refine w_iald S C w 1 rfl (by unfold vp_in; decide) dX7_task_19 ?_
  refine lv_ishr S.1 S.2.1 dX7_task_20 ?_
  refine lv_iconst (v := 1) S.1 S.2.1 dX7_task_21 (by decide) ?_
  refine lv_aload_n S.1 S.2.1 dX7_task_22 rfl (lv_at hl 1 rfl) ?_
  refine w_get S C w (CC := RX7) (T := TX7) (N := 16) (ref := "GateSumsModel") im_X7_task_X7 0 rfl rfl 0 (by decide) (List.mem_of_getElem? (i := 1) rfl) (fun _ h => h) rfl dX7_task_23 ?_
  refine lv_iconst (v := 5) S.1 S.2.1 dX7_task_26 (by decide) ?_
  refine w_iald S C w 1 rfl (by unfold vp_in; decide) dX7_task_27 ?_
  refine lv_ishl S.1 S.2.1 dX7_task_28 ?_
  refine lv_iconst (v := 1) S.1 S.2.1 dX7_task_29 (by decide) ?_
  refine lv_isub S.1 S.2.1 dX7_task_30 ?_
  refine lv_iand S.1 S.2.1 dX7_task_31 ?_
  refine lv_istore_n (lv' := [(3, .int ((v0 >>> ((fS (4 : Int32).toNatClampNeg) &&& 31)) &&& (((1 : Int32) <<< ((fS (5 : Int32).toNatClampNeg) &&& 31)) - 1))), (2, .int (v0 &&& (((1 : Int32) <<< ((fS (4 : Int32).toNatClampNeg) &&& 31)) - 1))), (0, .ref mO), (1, .int v0)]) S.1 S.2.1 dX7_task_32 rfl hl (by decide) rfl (fun ls hl => ?_)
  refine lv_aload_n S.1 S.2.1 dX7_task_33 rfl (lv_at hl 2 rfl) ?_
  refine w_get S C w (CC := RX7) (T := TX7) (N := 16) (ref := "GateSumsModel") im_X7_task_X7 0 rfl rfl 0 (by decide) (List.mem_of_getElem? (i := 1) rfl) (fun _ h => h) rfl dX7_task_34 ?_
  refine lv_iconst (v := 3) S.1 S.2.1 dX7_task_37 (by decide) ?_
  refine w_iald S C w 1 rfl (by unfold vp_in; decide) dX7_task_38 ?_
  refine lv_istore (lv' := [(4, .int (fS (3 : Int32).toNatClampNeg)), (3, .int ((v0 >>> ((fS (4 : Int32).toNatClampNeg) &&& 31)) &&& (((1 : Int32) <<< ((fS (5 : Int32).toNatClampNeg) &&& 31)) - 1))), (2, .int (v0 &&& (((1 : Int32) <<< ((fS (4 : Int32).toNatClampNeg) &&& 31)) - 1))), (0, .ref mO), (1, .int v0)]) S.1 S.2.1 dX7_task_39 hl (by decide) rfl (fun ls hl => ?_)
  refine lv_iload S.1 S.2.1 dX7_task_41 (lv_at hl 0 rfl) ?_
  refine lv_if_ne (tgt := 52) S.1 S.2.1 dX7_task_43 (by decide) (fun c43 => ?_) (fun c43 => ?_)
  · refine lv_iload S.1 S.2.1 dX7_task_52 (lv_at hl 0 rfl) ?_
    refine lv_iconst (v := 1) S.1 S.2.1 dX7_task_54 (by decide) ?_
    refine lv_icmp_ne (tgt := 64) S.1 S.2.1 dX7_task_55 (by decide) (fun c55 => ?_) (fun c55 => ?_)
    · refine lv_iload S.1 S.2.1 dX7_task_64 (lv_at hl 0 rfl) ?_
      refine lv_iconst (v := 2) S.1 S.2.1 dX7_task_66 (by decide) ?_
      refine lv_icmp_ne (tgt := 78) S.1 S.2.1 dX7_task_67 (by decide) (fun c67 => ?_) (fun c67 => ?_)
      · refine lv_iconst (v := 3) S.1 S.2.1 dX7_task_78 (by decide) ?_
        refine lv_iload_n S.1 S.2.1 dX7_task_79 rfl (lv_at hl 2 rfl) ?_
        refine lv_imul S.1 S.2.1 dX7_task_80 ?_
        refine lv_iload_n S.1 S.2.1 dX7_task_81 rfl (lv_at hl 1 rfl) ?_
        refine lv_isub S.1 S.2.1 dX7_task_82 ?_
        exact W.iret (v := ((3 * (v0 &&& (((1 : Int32) <<< ((fS (4 : Int32).toNatClampNeg) &&& 31)) - 1))) - ((v0 >>> ((fS (4 : Int32).toNatClampNeg) &&& 31)) &&& (((1 : Int32) <<< ((fS (5 : Int32).toNatClampNeg) &&& 31)) - 1)))) S.1 S.2.1 hr (fun t ht _ => ⟨((3 * (v0 &&& (((1 : Int32) <<< ((fS (4 : Int32).toNatClampNeg) &&& 31)) - 1))) - ((v0 >>> ((fS (4 : Int32).toNatClampNeg) &&& 31)) &&& (((1 : Int32) <<< ((fS (5 : Int32).toNatClampNeg) &&& 31)) - 1))), rfl, trivial, ht⟩) (fun q h => absurd h List.not_mem_nil) dX7_task_83
      · refine lv_iload_n S.1 S.2.1 dX7_task_70 rfl (lv_at hl 2 rfl) ?_
        refine lv_iload_n S.1 S.2.1 dX7_task_71 rfl (lv_at hl 2 rfl) ?_
        refine lv_imul S.1 S.2.1 dX7_task_72 ?_
        refine lv_iload_n S.1 S.2.1 dX7_task_73 rfl (lv_at hl 1 rfl) ?_
        refine lv_iadd S.1 S.2.1 dX7_task_74 ?_
        refine lv_goto (tgt := 83) S.1 S.2.1 dX7_task_75 (by decide) ?_
        exact W.iret (v := (((v0 &&& (((1 : Int32) <<< ((fS (4 : Int32).toNatClampNeg) &&& 31)) - 1)) * (v0 &&& (((1 : Int32) <<< ((fS (4 : Int32).toNatClampNeg) &&& 31)) - 1))) + ((v0 >>> ((fS (4 : Int32).toNatClampNeg) &&& 31)) &&& (((1 : Int32) <<< ((fS (5 : Int32).toNatClampNeg) &&& 31)) - 1)))) S.1 S.2.1 hr (fun t ht _ => ⟨(((v0 &&& (((1 : Int32) <<< ((fS (4 : Int32).toNatClampNeg) &&& 31)) - 1)) * (v0 &&& (((1 : Int32) <<< ((fS (4 : Int32).toNatClampNeg) &&& 31)) - 1))) + ((v0 >>> ((fS (4 : Int32).toNatClampNeg) &&& 31)) &&& (((1 : Int32) <<< ((fS (5 : Int32).toNatClampNeg) &&& 31)) - 1))), rfl, trivial, ht⟩) (fun q h => absurd h List.not_mem_nil) dX7_task_83
    · refine lv_iload_n S.1 S.2.1 dX7_task_58 rfl (lv_at hl 2 rfl) ?_
      refine lv_iload_n S.1 S.2.1 dX7_task_59 rfl (lv_at hl 1 rfl) ?_
      refine lv_imul S.1 S.2.1 dX7_task_60 ?_
      refine lv_goto (tgt := 83) S.1 S.2.1 dX7_task_61 (by decide) ?_
      exact W.iret (v := ((v0 &&& (((1 : Int32) <<< ((fS (4 : Int32).toNatClampNeg) &&& 31)) - 1)) * ((v0 >>> ((fS (4 : Int32).toNatClampNeg) &&& 31)) &&& (((1 : Int32) <<< ((fS (5 : Int32).toNatClampNeg) &&& 31)) - 1)))) S.1 S.2.1 hr (fun t ht _ => ⟨((v0 &&& (((1 : Int32) <<< ((fS (4 : Int32).toNatClampNeg) &&& 31)) - 1)) * ((v0 >>> ((fS (4 : Int32).toNatClampNeg) &&& 31)) &&& (((1 : Int32) <<< ((fS (5 : Int32).toNatClampNeg) &&& 31)) - 1))), rfl, trivial, ht⟩) (fun q h => absurd h List.not_mem_nil) dX7_task_83
  · refine lv_iload_n S.1 S.2.1 dX7_task_46 rfl (lv_at hl 2 rfl) ?_
    refine lv_iload_n S.1 S.2.1 dX7_task_47 rfl (lv_at hl 1 rfl) ?_
    refine lv_iadd S.1 S.2.1 dX7_task_48 ?_
    refine lv_goto (tgt := 83) S.1 S.2.1 dX7_task_49 (by decide) ?_
    exact W.iret (v := ((v0 &&& (((1 : Int32) <<< ((fS (4 : Int32).toNatClampNeg) &&& 31)) - 1)) + ((v0 >>> ((fS (4 : Int32).toNatClampNeg) &&& 31)) &&& (((1 : Int32) <<< ((fS (5 : Int32).toNatClampNeg) &&& 31)) - 1)))) S.1 S.2.1 hr (fun t ht _ => ⟨((v0 &&& (((1 : Int32) <<< ((fS (4 : Int32).toNatClampNeg) &&& 31)) - 1)) + ((v0 >>> ((fS (4 : Int32).toNatClampNeg) &&& 31)) &&& (((1 : Int32) <<< ((fS (5 : Int32).toNatClampNeg) &&& 31)) - 1))), rfl, trivial, ht⟩) (fun q h => absurd h List.not_mem_nil) dX7_task_83
theorem im_X7_wrongOnes_X7 : ∀ w ∈ u_ws RX7 TX7 16, w ∈ wsX7_wrongOnes := by decide +kernel
set_option maxHeartbeats 4000000 in
set_option maxRecDepth 100000 in
theorem c_X7_wrongOnes (l : Launch) (G : GT) (mO mS : Nat) (sz : Nat) (mD mR mT mW mQ mC mU mV : Nat) (mt ma mn my mm mf mg : Int32) (fS : Nat → Int32) (gN oN : Nat) (z0 : Int32) (hg : fS 1 = nI gN) (hgN : gN ≤ 12) (ho : fS 2 = nI oN) (hoN : oN ≤ 7) : Met l yX7_wrongOnes wsX7_wrongOnes ({ frames := 3, cells := 0, slots := 0, locals := 73 }) (va_Pc [.ref mO, .int z0] (wPre G [(mO, .inr (7, [.ref mS, .ref mD, .ref mR, .ref mT, .int mt, .int ma, .int mn, .ref mW, .ref mQ, .ref mC, .int my, .ref mU, .ref mV, .int mm, .int mf, .int mg])), (mS, .inl (G.2.1 2, 49, .inl fS))] sz)) (vp_Si (fun r : Int32 => True)) 0 0 (fun _ => False) := by
  refine met_go (cc := cX7_wrongOnes) (maxL := 4) (ret := (some .int)) (own := RX7) (by decide) rfl rfl (Nat.le_of_ble_eq_true rfl) ?_
  intro p e s m below meth c ls S hr hlocks hname hsz C w hl
  have hl : lv_has ls 4 [(0, .ref mO), (1, .int z0)] := hl
  refine lv_iconst (v := 0) S.1 S.2.1 dX7_wrongOnes_0 (by decide) ?_
  refine lv_istore_n (lv' := [(2, .int 0), (0, .ref mO), (1, .int z0)]) S.1 S.2.1 dX7_wrongOnes_1 rfl hl (by decide) rfl (fun ls hl => ?_)
  refine lv_iconst (v := 0) S.1 S.2.1 dX7_wrongOnes_2 (by decide) ?_
  refine lv_istore_n (lv' := [(3, .int 0), (2, .int 0), (0, .ref mO), (1, .int z0)]) S.1 S.2.1 dX7_wrongOnes_3 rfl hl (by decide) rfl (fun ls hl => ?_)
  refine w_loopS (σ := Nat × Int32) (nL := 4) 4 (fun x4 => ((1 : Int32) <<< ((fS (0 : Int32).toNatClampNeg) &&& 31)).toNatClampNeg - x4.1) (fun x4 => x4.1 ≤ ((1 : Int32) <<< ((fS (0 : Int32).toNatClampNeg) &&& 31)).toNatClampNeg) (fun x4 => [(3, .int (nI x4.1)), (2, .int x4.2), (0, .ref mO), (1, .int z0)]) (fun _ => []) ?_ (0, 0) ls (Nat.zero_le _) (lv_sub hl [0, 1, 2, 3] rfl)
  intro x4 ls hI4 hl ih4
  have hl : lv_has ls 4 [(3, .int (nI x4.1)), (2, .int x4.2), (0, .ref mO), (1, .int z0)] := hl
  refine lv_iload_n S.1 S.2.1 dX7_wrongOnes_4 rfl (lv_at hl 0 rfl) ?_
  refine lv_iconst (v := 1) S.1 S.2.1 dX7_wrongOnes_5 (by decide) ?_
  refine lv_aload_n S.1 S.2.1 dX7_wrongOnes_6 rfl (lv_at hl 2 rfl) ?_
  refine w_get S C w (CC := RX7) (T := TX7) (N := 16) (ref := "GateSumsModel") im_X7_wrongOnes_X7 0 rfl rfl 0 (by decide) (List.mem_of_getElem? (i := 1) rfl) (fun _ h => h) rfl dX7_wrongOnes_7 ?_
  refine lv_iconst (v := 0) S.1 S.2.1 dX7_wrongOnes_10 (by decide) ?_
  refine w_iald S C w 1 rfl (by unfold vp_in; decide) dX7_wrongOnes_11 ?_
  refine lv_ishl S.1 S.2.1 dX7_wrongOnes_12 ?_
  refine lv_icmp_ge (tgt := 44) S.1 S.2.1 dX7_wrongOnes_13 (by decide) (fun c13 => ?_) (fun c13 => ?_)
  · refine lv_iload_n S.1 S.2.1 dX7_wrongOnes_44 rfl (lv_at hl 3 rfl) ?_
    refine lv_if_eq (tgt := 52) S.1 S.2.1 dX7_wrongOnes_45 (by decide) (fun c45 => ?_) (fun c45 => ?_)
    · refine lv_iload_n S.1 S.2.1 dX7_wrongOnes_52 rfl (lv_at hl 1 rfl) ?_
      exact W.iret (v := x4.2) S.1 S.2.1 hr (fun t ht _ => ⟨x4.2, rfl, trivial, ht⟩) (fun q h => absurd h List.not_mem_nil) dX7_wrongOnes_53
    · refine lv_iconst (v := (-1)) S.1 S.2.1 dX7_wrongOnes_48 (by decide) ?_
      refine lv_goto (tgt := 53) S.1 S.2.1 dX7_wrongOnes_49 (by decide) ?_
      exact W.iret (v := (-1)) S.1 S.2.1 hr (fun t ht _ => ⟨(-1), rfl, trivial, ht⟩) (fun q h => absurd h List.not_mem_nil) dX7_wrongOnes_53
  · refine lv_aload_n S.1 S.2.1 dX7_wrongOnes_16 rfl (lv_at hl 2 rfl) ?_
    refine lv_iload_n S.1 S.2.1 dX7_wrongOnes_17 rfl (lv_at hl 0 rfl) ?_
    refine cs_i (va_runV (As := [.int (nI x4.1)]) (rest := []) S (c_X7_stand l G mO mS _ mD mR mT mW mQ mC mU mV mt ma mn my mm mf mg fS gN oN (nI x4.1) (hg) (hgN) (ho) (hoN)) (cwV 1 S.2.2.2.2 gX7_wrongOnes_X7_stand rfl rfl rfl (by decide +kernel) ⟨Nat.le_of_ble_eq_true rfl, Nat.le_of_ble_eq_true rfl⟩) ⟨wPre_blind, va_recv C.1 w.1 (ci := 7) (q0 := 0) rfl rfl, wPre_at C w [0, 1] rfl rfl⟩ rfl rfl hl.1 rfl (lv_room (Nat.le_of_ble_eq_true rfl)) dX7_wrongOnes_18 ⟨Nat.le_of_ble_eq_true rfl, Nat.le_of_ble_eq_true rfl⟩) (fun r18 h18 => ?_)
    refine lv_aload_n S.1 S.2.1 dX7_wrongOnes_21 rfl (lv_at hl 2 rfl) ?_
    refine lv_iload_n S.1 S.2.1 dX7_wrongOnes_22 rfl (lv_at hl 0 rfl) ?_
    refine cs_i (va_runV (As := [.int (nI x4.1)]) (rest := [.int r18]) S (c_X7_task l G mO mS _ mD mR mT mW mQ mC mU mV mt ma mn my mm mf mg fS (nI x4.1)) (cwV 1 S.2.2.2.2 gX7_wrongOnes_X7_task rfl rfl rfl (by decide +kernel) ⟨Nat.le_of_ble_eq_true rfl, Nat.le_of_ble_eq_true rfl⟩) ⟨wPre_blind, va_recv C.1 w.1 (ci := 7) (q0 := 0) rfl rfl, wPre_at C w [0, 1] rfl rfl⟩ rfl rfl hl.1 rfl (lv_room (Nat.le_of_ble_eq_true rfl)) dX7_wrongOnes_23 ⟨Nat.le_of_ble_eq_true rfl, Nat.le_of_ble_eq_true rfl⟩) (fun r23 h23 => ?_)
    refine lv_icmp_eq (tgt := 38) S.1 S.2.1 dX7_wrongOnes_26 (by decide) (fun c26 => ?_) (fun c26 => ?_)
    · refine lv_iinc (v := (nI (x4.1 + 1))) (lv' := [(3, .int (nI (x4.1 + 1))), (2, .int x4.2), (0, .ref mO), (1, .int z0)]) S.1 S.2.1 dX7_wrongOnes_38 hl (k := 0) rfl (nI_1 _) (by decide) rfl (fun ls hl => ?_)
      refine lv_goto (tgt := 4) S.1 S.2.1 dX7_wrongOnes_41 (by decide) ?_
      have hlt : x4.1 < ((1 : Int32) <<< ((fS (0 : Int32).toNatClampNeg) &&& 31)).toNatClampNeg := clt (by have := cl_lt ((1 : Int32) <<< ((fS (0 : Int32).toNatClampNeg) &&& 31)); omega) c13
      exact ih4 (x4.1 + 1, x4.2) ls (hlt) (by dsimp only; omega) (lv_sub hl [0, 1, 2, 3] rfl)
    · refine lv_iload_n S.1 S.2.1 dX7_wrongOnes_29 rfl (lv_at hl 3 rfl) ?_
      refine lv_if_eq (tgt := 35) S.1 S.2.1 dX7_wrongOnes_30 (by decide) (fun c30 => ?_) (fun c30 => ?_)
      · refine lv_iinc (v := (x4.2 + 1)) (lv' := [(2, .int (x4.2 + 1)), (3, .int (nI x4.1)), (0, .ref mO), (1, .int z0)]) S.1 S.2.1 dX7_wrongOnes_35 hl (k := 1) rfl (rfl) (by decide) rfl (fun ls hl => ?_)
        refine lv_iinc (v := (nI (x4.1 + 1))) (lv' := [(3, .int (nI (x4.1 + 1))), (2, .int (x4.2 + 1)), (0, .ref mO), (1, .int z0)]) S.1 S.2.1 dX7_wrongOnes_38 hl (k := 1) rfl (nI_1 _) (by decide) rfl (fun ls hl => ?_)
        refine lv_goto (tgt := 4) S.1 S.2.1 dX7_wrongOnes_41 (by decide) ?_
        have hlt : x4.1 < ((1 : Int32) <<< ((fS (0 : Int32).toNatClampNeg) &&& 31)).toNatClampNeg := clt (by have := cl_lt ((1 : Int32) <<< ((fS (0 : Int32).toNatClampNeg) &&& 31)); omega) c13
        exact ih4 (x4.1 + 1, (x4.2 + 1)) ls (hlt) (by dsimp only; omega) (lv_sub hl [0, 1, 2, 3] rfl)
      · refine lv_iload_n S.1 S.2.1 dX7_wrongOnes_33 rfl (lv_at hl 0 rfl) ?_
        exact W.iret (v := (nI x4.1)) S.1 S.2.1 hr (fun t ht _ => ⟨(nI x4.1), rfl, trivial, ht⟩) (fun q h => absurd h List.not_mem_nil) dX7_wrongOnes_34
set_option maxHeartbeats 4000000 in
set_option maxRecDepth 100000 in
theorem c_X7_ones (l : Launch) (G : GT) (sz : Nat) (x0 : Int32) : Met l yX7_ones wsX7_ones ({ frames := 0, cells := 0, slots := 0, locals := 0 }) (va_Pc [.int x0] (wPre G [] sz)) (vp_Si (fun r : Int32 => True)) 0 0 (fun _ => False) := by
  refine met_go (cc := cX7_ones) (maxL := 3) (ret := (some .int)) (own := RX7) (by decide) rfl rfl (Nat.le_of_ble_eq_true rfl) ?_
  intro p e s m below meth c ls S hr hlocks hname hsz C w hl
  have hl : lv_has ls 3 [(0, .int x0)] := hl
  refine lv_iconst (v := 0) S.1 S.2.1 dX7_ones_0 (by decide) ?_
  refine lv_istore_n (lv' := [(1, .int 0), (0, .int x0)]) S.1 S.2.1 dX7_ones_1 rfl hl (by decide) rfl (fun ls hl => ?_)
  refine lv_iconst (v := 0) S.1 S.2.1 dX7_ones_2 (by decide) ?_
  refine lv_istore_n (lv' := [(2, .int 0), (1, .int 0), (0, .int x0)]) S.1 S.2.1 dX7_ones_3 rfl hl (by decide) rfl (fun ls hl => ?_)
  refine w_loopS (σ := Nat × Int32) (nL := 3) 4 (fun x4 => 18 - x4.1) (fun x4 => x4.1 ≤ 18) (fun x4 => [(2, .int (nI x4.1)), (1, .int x4.2), (0, .int x0)]) (fun _ => []) ?_ (0, 0) ls (Nat.zero_le _) (lv_sub hl [0, 1, 2] rfl)
  intro x4 ls hI4 hl ih4
  have hl : lv_has ls 3 [(2, .int (nI x4.1)), (1, .int x4.2), (0, .int x0)] := hl
  refine lv_iload_n S.1 S.2.1 dX7_ones_4 rfl (lv_at hl 0 rfl) ?_
  refine lv_bipush (v := 18) S.1 S.2.1 dX7_ones_5 (by decide) ?_
  refine lv_icmp_ge (tgt := 24) S.1 S.2.1 dX7_ones_7 (by decide) (fun c7 => ?_) (fun c7 => ?_)
  · refine lv_iload_n S.1 S.2.1 dX7_ones_24 rfl (lv_at hl 1 rfl) ?_
    exact W.iret (v := x4.2) S.1 S.2.1 hr (fun t ht _ => ⟨x4.2, rfl, trivial, ht⟩) (fun q h => absurd h List.not_mem_nil) dX7_ones_25
  · refine lv_iload_n S.1 S.2.1 dX7_ones_10 rfl (lv_at hl 1 rfl) ?_
    refine lv_iload_n S.1 S.2.1 dX7_ones_11 rfl (lv_at hl 2 rfl) ?_
    refine lv_iload_n S.1 S.2.1 dX7_ones_12 rfl (lv_at hl 0 rfl) ?_
    refine lv_ishr S.1 S.2.1 dX7_ones_13 ?_
    refine lv_iconst (v := 1) S.1 S.2.1 dX7_ones_14 (by decide) ?_
    refine lv_iand S.1 S.2.1 dX7_ones_15 ?_
    refine lv_iadd S.1 S.2.1 dX7_ones_16 ?_
    refine lv_istore_n (lv' := [(1, .int (x4.2 + ((x0 >>> ((nI x4.1) &&& 31)) &&& 1))), (2, .int (nI x4.1)), (0, .int x0)]) S.1 S.2.1 dX7_ones_17 rfl hl (by decide) rfl (fun ls hl => ?_)
    refine lv_iinc (v := (nI (x4.1 + 1))) (lv' := [(2, .int (nI (x4.1 + 1))), (1, .int (x4.2 + ((x0 >>> ((nI x4.1) &&& 31)) &&& 1))), (0, .int x0)]) S.1 S.2.1 dX7_ones_18 hl (k := 1) rfl (nI_1 _) (by decide) rfl (fun ls hl => ?_)
    refine lv_goto (tgt := 4) S.1 S.2.1 dX7_ones_21 (by decide) ?_
    have hlt : x4.1 < 18 := by have h := c7; rw [show (18 : Int32) = nI 18 from rfl, nI_leI (by decide) (by omega)] at h; omega
    exact ih4 (x4.1 + 1, (x4.2 + ((x0 >>> ((nI x4.1) &&& 31)) &&& 1))) ls (hlt) (by dsimp only; omega) (lv_sub hl [0, 1, 2] rfl)
set_option maxHeartbeats 4000000 in
set_option maxRecDepth 100000 in
theorem c_X7_size (l : Launch) (G : GT) (sz : Nat) (x0 : Int64) : Met l yX7_size wsX7_size ({ frames := 0, cells := 0, slots := 0, locals := 0 }) (va_Pc [.long x0] (wPre G [] sz)) (vp_Sl (fun r : Int64 => True)) 0 0 (fun _ => False) := by
  refine met_go (cc := cX7_size) (maxL := 2) (ret := (some .long)) (own := RX7) (by decide) rfl rfl (Nat.le_of_ble_eq_true rfl) ?_
  intro p e s m below meth c ls S hr hlocks hname hsz C w hl
  have hl : lv_has ls 2 [(0, .long x0)] := hl
  refine lv_lload_n S.1 S.2.1 dX7_size_0 rfl (lv_at hl 0 rfl) ?_
  refine lv_lconst (v := 0) S.1 S.2.1 dX7_size_1 (by decide) ?_
  refine W.lcmp S.1 S.2.1 dX7_size_2 ?_
  refine lv_if_ge (tgt := 11) S.1 S.2.1 dX7_size_3 (by decide) (fun c3 => ?_) (fun c3 => ?_)
  · refine lv_lload_n S.1 S.2.1 dX7_size_11 rfl (lv_at hl 0 rfl) ?_
    exact W.lret (v := x0) S.1 S.2.1 hr (fun t ht _ => ⟨x0, rfl, trivial, ht⟩) (fun q h => absurd h List.not_mem_nil) dX7_size_12
  · refine lv_lload_n S.1 S.2.1 dX7_size_6 rfl (lv_at hl 0 rfl) ?_
    refine lv_lneg S.1 S.2.1 dX7_size_7 ?_
    refine lv_goto (tgt := 12) S.1 S.2.1 dX7_size_8 (by decide) ?_
    exact W.lret (v := (-x0)) S.1 S.2.1 hr (fun t ht _ => ⟨(-x0), rfl, trivial, ht⟩) (fun q h => absurd h List.not_mem_nil) dX7_size_12
theorem im_X7_adds_X7 : ∀ w ∈ u_ws RX7 TX7 16, w ∈ wsX7_adds := by decide +kernel
set_option maxHeartbeats 4000000 in
set_option maxRecDepth 100000 in
theorem c_X7_adds (l : Launch) (G : GT) (mO mU mV : Nat) (sz : Nat) (mS mD mR mT mW mQ mC : Nat) (mt ma mn my mf mg : Int32) (mM : Nat) (fU : Nat → Int32) (lV : Nat → Int64) (x0 : Int32) (b0 : Int64) (hm : mM < 200) : Met l yX7_adds wsX7_adds ({ frames := 0, cells := 0, slots := 0, locals := 0 }) (va_Pc [.ref mO, .int x0, .long b0] (wPre G [(mO, .inr (7, [.ref mS, .ref mD, .ref mR, .ref mT, .int mt, .int ma, .int mn, .ref mW, .ref mQ, .ref mC, .int my, .ref mU, .ref mV, .int (nI mM), .int mf, .int mg])), (mU, .inl (G.2.1 2, 200, .inl fU)), (mV, .inl (G.2.1 3, 200, .inr (.inl lV)))] sz)) (va_Qv (fun u : Nat × (Nat → Int32) × (Nat → Int64) => mM ≤ u.1 ∧ u.1 ≤ mM + 1) (bW G (va_A [(mO, .inr (7, [.ref mS, .ref mD, .ref mR, .ref mT, .int mt, .int ma, .int mn, .ref mW, .ref mQ, .ref mC, .int my, .ref mU, .ref mV, .int (nI mM), .int mf, .int mg])), (mU, .inl (G.2.1 2, 200, .inl fU)), (mV, .inl (G.2.1 3, 200, .inr (.inl lV)))] sz) (fun u : Nat × (Nat → Int32) × (Nat → Int64) => [(mO, .inr (7, [.ref mS, .ref mD, .ref mR, .ref mT, .int mt, .int ma, .int mn, .ref mW, .ref mQ, .ref mC, .int my, .ref mU, .ref mV, .int (nI u.1), .int mf, .int mg])), (mU, .inl (G.2.1 2, 200, .inl u.2.1)), (mV, .inl (G.2.1 3, 200, .inr (.inl u.2.2)))])) (va_A [(mO, .inr (7, [.ref mS, .ref mD, .ref mR, .ref mT, .int mt, .int ma, .int mn, .ref mW, .ref mQ, .ref mC, .int my, .ref mU, .ref mV, .int (nI mM), .int mf, .int mg])), (mU, .inl (G.2.1 2, 200, .inl fU)), (mV, .inl (G.2.1 3, 200, .inr (.inl lV)))] sz)) 0 0 (va_A [(mO, .inr (7, [.ref mS, .ref mD, .ref mR, .ref mT, .int mt, .int ma, .int mn, .ref mW, .ref mQ, .ref mC, .int my, .ref mU, .ref mV, .int (nI mM), .int mf, .int mg])), (mU, .inl (G.2.1 2, 200, .inl fU)), (mV, .inl (G.2.1 3, 200, .inr (.inl lV)))] sz) := by
  refine met_go (cc := cX7_adds) (maxL := 5) (ret := none) (own := RX7) (by decide) rfl rfl (Nat.le_of_ble_eq_true rfl) ?_
  intro p e s m below meth c ls S hr hlocks hname hsz C w hl
  have hl : lv_has ls 5 [(0, .ref mO), (1, .int x0), (2, .long b0)] := hl
  refine lv_iconst (v := 0) S.1 S.2.1 dX7_adds_0 (by decide) ?_
  refine lv_istore (lv' := [(4, .int 0), (0, .ref mO), (1, .int x0), (2, .long b0)]) S.1 S.2.1 dX7_adds_1 hl (by decide) rfl (fun ls hl => ?_)
  refine w_loop (G := G) (σ := Nat) (nL := 5) 3 (fun x3 => mM - x3) (fun x3 => x3 ≤ mM) (fun x3 => [(mO, .inr (7, [.ref mS, .ref mD, .ref mR, .ref mT, .int mt, .int ma, .int mn, .ref mW, .ref mQ, .ref mC, .int my, .ref mU, .ref mV, .int (nI mM), .int mf, .int mg])), (mU, .inl (G.2.1 2, 200, .inl fU)), (mV, .inl (G.2.1 3, 200, .inr (.inl lV)))]) (fun x3 => [(4, .int (nI x3)), (0, .ref mO), (1, .int x0), (2, .long b0)]) (fun _ => []) ?_ 0 ls _ _ (Nat.zero_le _) w (lv_sub hl [0, 1, 2, 3] rfl)
  intro x3 ls H locs hI3 w hl ih3
  have w : Wd G _ s [(mO, .inr (7, [.ref mS, .ref mD, .ref mR, .ref mT, .int mt, .int ma, .int mn, .ref mW, .ref mQ, .ref mC, .int my, .ref mU, .ref mV, .int (nI mM), .int mf, .int mg])), (mU, .inl (G.2.1 2, 200, .inl fU)), (mV, .inl (G.2.1 3, 200, .inr (.inl lV)))] H locs := w
  have hl : lv_has ls 5 [(4, .int (nI x3)), (0, .ref mO), (1, .int x0), (2, .long b0)] := hl
  refine lv_iload S.1 S.2.1 dX7_adds_3 (lv_at hl 0 rfl) ?_
  refine lv_aload_n S.1 S.2.1 dX7_adds_5 rfl (lv_at hl 1 rfl) ?_
  refine w_get S C w (CC := RX7) (T := TX7) (N := 16) (ref := "GateSumsModel") im_X7_adds_X7 0 rfl rfl 13 (by decide) (List.mem_of_getElem? (i := 1) rfl) (fun _ h => h) rfl dX7_adds_6 ?_
  refine lv_icmp_ge (tgt := 29) S.1 S.2.1 dX7_adds_9 (by decide) (fun c9 => ?_) (fun c9 => ?_)
  · refine lv_iload S.1 S.2.1 dX7_adds_29 (lv_at hl 0 rfl) ?_
    refine lv_aload_n S.1 S.2.1 dX7_adds_31 rfl (lv_at hl 1 rfl) ?_
    refine w_get S C w (CC := RX7) (T := TX7) (N := 16) (ref := "GateSumsModel") im_X7_adds_X7 0 rfl rfl 13 (by decide) (List.mem_of_getElem? (i := 1) rfl) (fun _ h => h) rfl dX7_adds_32 ?_
    refine lv_icmp_ne (tgt := 68) S.1 S.2.1 dX7_adds_35 (by decide) (fun c35 => ?_) (fun c35 => ?_)
    · refine lv_aload_n S.1 S.2.1 dX7_adds_68 rfl (lv_at hl 1 rfl) ?_
      refine w_get S C w (CC := RX7) (T := TX7) (N := 16) (ref := "GateSumsModel") im_X7_adds_X7 0 rfl rfl 12 (by decide) (List.mem_of_getElem? (i := 3) rfl) (fun _ h => h) rfl dX7_adds_69 ?_
      refine lv_iload S.1 S.2.1 dX7_adds_72 (lv_at hl 0 rfl) ?_
      refine lv_dup2_11 S.1 S.2.1 dX7_adds_74 rfl rfl ?_
      refine w_lald S C w 2 rfl (nIin (by omega) (by decide)) dX7_adds_75 ?_
      refine lv_lload_n S.1 S.2.1 dX7_adds_76 rfl (lv_at hl 3 rfl) ?_
      refine lv_ladd S.1 S.2.1 dX7_adds_77 ?_
      refine w_last S C w 2 rfl (nIin (by omega) (by decide)) (ws2 := [(mO, .inr (7, [.ref mS, .ref mD, .ref mR, .ref mT, .int mt, .int ma, .int mn, .ref mW, .ref mQ, .ref mC, .int my, .ref mU, .ref mV, .int (nI mM), .int mf, .int mg])), (mU, .inl (G.2.1 2, 200, .inl fU)), (mV, .inl (G.2.1 3, 200, .inr (.inl (vp_updL lV (nI x3).toNatClampNeg ((lV (nI x3).toNatClampNeg) + b0)))))]) rfl dX7_adds_78 (fun H locs w => ?_)
      exact W.vret S.1 S.2.1 hr (fun t ht _ => ⟨⟨(mM, fU, (vp_updL lV (nI x3).toNatClampNeg ((lV (nI x3).toNatClampNeg) + b0))), rfl, by first | exact ⟨Nat.le_refl _, Nat.le_succ _⟩ | exact ⟨Nat.le_succ _, Nat.le_refl _⟩, by rw [ht]; exact w.1, w.2.1⟩, w.2.2.F ht⟩) w.2.2.2.2 dX7_adds_79
    · refine lv_aload_n S.1 S.2.1 dX7_adds_38 rfl (lv_at hl 1 rfl) ?_
      refine w_get S C w (CC := RX7) (T := TX7) (N := 16) (ref := "GateSumsModel") im_X7_adds_X7 0 rfl rfl 11 (by decide) (List.mem_of_getElem? (i := 2) rfl) (fun _ h => h) rfl dX7_adds_39 ?_
      refine lv_aload_n S.1 S.2.1 dX7_adds_42 rfl (lv_at hl 1 rfl) ?_
      refine w_get S C w (CC := RX7) (T := TX7) (N := 16) (ref := "GateSumsModel") im_X7_adds_X7 0 rfl rfl 13 (by decide) (List.mem_of_getElem? (i := 1) rfl) (fun _ h => h) rfl dX7_adds_43 ?_
      refine lv_iload_n S.1 S.2.1 dX7_adds_46 rfl (lv_at hl 2 rfl) ?_
      refine w_iast S C w 1 rfl (nIin (by omega) (by decide)) (ws2 := [(mO, .inr (7, [.ref mS, .ref mD, .ref mR, .ref mT, .int mt, .int ma, .int mn, .ref mW, .ref mQ, .ref mC, .int my, .ref mU, .ref mV, .int (nI mM), .int mf, .int mg])), (mU, .inl (G.2.1 2, 200, .inl (upd fU (nI mM).toNatClampNeg x0))), (mV, .inl (G.2.1 3, 200, .inr (.inl lV)))]) rfl dX7_adds_47 (fun H locs w => ?_)
      refine lv_aload_n S.1 S.2.1 dX7_adds_48 rfl (lv_at hl 1 rfl) ?_
      refine w_get S C w (CC := RX7) (T := TX7) (N := 16) (ref := "GateSumsModel") im_X7_adds_X7 0 rfl rfl 12 (by decide) (List.mem_of_getElem? (i := 3) rfl) (fun _ h => h) rfl dX7_adds_49 ?_
      refine lv_aload_n S.1 S.2.1 dX7_adds_52 rfl (lv_at hl 1 rfl) ?_
      refine w_get S C w (CC := RX7) (T := TX7) (N := 16) (ref := "GateSumsModel") im_X7_adds_X7 0 rfl rfl 13 (by decide) (List.mem_of_getElem? (i := 1) rfl) (fun _ h => h) rfl dX7_adds_53 ?_
      refine lv_lconst (v := 0) S.1 S.2.1 dX7_adds_56 (by decide) ?_
      refine w_last S C w 2 rfl (nIin (by omega) (by decide)) (ws2 := [(mO, .inr (7, [.ref mS, .ref mD, .ref mR, .ref mT, .int mt, .int ma, .int mn, .ref mW, .ref mQ, .ref mC, .int my, .ref mU, .ref mV, .int (nI mM), .int mf, .int mg])), (mU, .inl (G.2.1 2, 200, .inl (upd fU (nI mM).toNatClampNeg x0))), (mV, .inl (G.2.1 3, 200, .inr (.inl (vp_updL lV (nI mM).toNatClampNeg 0))))]) rfl dX7_adds_57 (fun H locs w => ?_)
      refine lv_aload_n S.1 S.2.1 dX7_adds_58 rfl (lv_at hl 1 rfl) ?_
      refine lv_dup S.1 S.2.1 dX7_adds_59 rfl ?_
      refine w_get S C w (CC := RX7) (T := TX7) (N := 16) (ref := "GateSumsModel") im_X7_adds_X7 0 rfl rfl 13 (by decide) (List.mem_of_getElem? (i := 1) rfl) (fun _ h => h) rfl dX7_adds_60 ?_
      refine lv_iconst (v := 1) S.1 S.2.1 dX7_adds_63 (by decide) ?_
      refine lv_iadd S.1 S.2.1 dX7_adds_64 ?_
      refine w_topi (y := (nI (mM + 1))) (nI_1 _) ?_
      refine w_put S C w (CC := RX7) (T := TX7) (N := 16) (ref := "GateSumsModel") im_X7_adds_X7 tyX7 tyX7_ok nmX7 0 rfl rfl 13 (by decide) (List.mem_of_getElem? (i := 1) rfl) (fun _ h => h) rfl (ws2 := [(mO, .inr (7, [.ref mS, .ref mD, .ref mR, .ref mT, .int mt, .int ma, .int mn, .ref mW, .ref mQ, .ref mC, .int my, .ref mU, .ref mV, .int (nI (mM + 1)), .int mf, .int mg])), (mU, .inl (G.2.1 2, 200, .inl (upd fU (nI mM).toNatClampNeg x0))), (mV, .inl (G.2.1 3, 200, .inr (.inl (vp_updL lV (nI mM).toNatClampNeg 0))))]) (rfl) (rfl) (Nat.le_of_ble_eq_true rfl) rfl dX7_adds_65 (fun H locs w => ?_)
      refine lv_aload_n S.1 S.2.1 dX7_adds_68 rfl (lv_at hl 1 rfl) ?_
      refine w_get S C w (CC := RX7) (T := TX7) (N := 16) (ref := "GateSumsModel") im_X7_adds_X7 0 rfl rfl 12 (by decide) (List.mem_of_getElem? (i := 3) rfl) (fun _ h => h) rfl dX7_adds_69 ?_
      refine lv_iload S.1 S.2.1 dX7_adds_72 (lv_at hl 0 rfl) ?_
      refine lv_dup2_11 S.1 S.2.1 dX7_adds_74 rfl rfl ?_
      refine w_lald S C w 2 rfl (nIin (by omega) (by decide)) dX7_adds_75 ?_
      refine lv_lload_n S.1 S.2.1 dX7_adds_76 rfl (lv_at hl 3 rfl) ?_
      refine lv_ladd S.1 S.2.1 dX7_adds_77 ?_
      refine w_last S C w 2 rfl (nIin (by omega) (by decide)) (ws2 := [(mO, .inr (7, [.ref mS, .ref mD, .ref mR, .ref mT, .int mt, .int ma, .int mn, .ref mW, .ref mQ, .ref mC, .int my, .ref mU, .ref mV, .int (nI (mM + 1)), .int mf, .int mg])), (mU, .inl (G.2.1 2, 200, .inl (upd fU (nI mM).toNatClampNeg x0))), (mV, .inl (G.2.1 3, 200, .inr (.inl (vp_updL (vp_updL lV (nI mM).toNatClampNeg 0) (nI x3).toNatClampNeg (((vp_updL lV (nI mM).toNatClampNeg 0) (nI x3).toNatClampNeg) + b0)))))]) rfl dX7_adds_78 (fun H locs w => ?_)
      exact W.vret S.1 S.2.1 hr (fun t ht _ => ⟨⟨((mM + 1), (upd fU (nI mM).toNatClampNeg x0), (vp_updL (vp_updL lV (nI mM).toNatClampNeg 0) (nI x3).toNatClampNeg (((vp_updL lV (nI mM).toNatClampNeg 0) (nI x3).toNatClampNeg) + b0))), rfl, by first | exact ⟨Nat.le_refl _, Nat.le_succ _⟩ | exact ⟨Nat.le_succ _, Nat.le_refl _⟩, by rw [ht]; exact w.1, w.2.1⟩, w.2.2.F ht⟩) w.2.2.2.2 dX7_adds_79
  · refine lv_aload_n S.1 S.2.1 dX7_adds_12 rfl (lv_at hl 1 rfl) ?_
    refine w_get S C w (CC := RX7) (T := TX7) (N := 16) (ref := "GateSumsModel") im_X7_adds_X7 0 rfl rfl 11 (by decide) (List.mem_of_getElem? (i := 2) rfl) (fun _ h => h) rfl dX7_adds_13 ?_
    refine lv_iload S.1 S.2.1 dX7_adds_16 (lv_at hl 0 rfl) ?_
    refine w_iald S C w 1 rfl (nIin (by omega) (by decide)) dX7_adds_18 ?_
    refine lv_iload_n S.1 S.2.1 dX7_adds_19 rfl (lv_at hl 2 rfl) ?_
    refine lv_icmp_eq (tgt := 29) S.1 S.2.1 dX7_adds_20 (by decide) (fun c20 => ?_) (fun c20 => ?_)
    · refine lv_iload S.1 S.2.1 dX7_adds_29 (lv_at hl 0 rfl) ?_
      refine lv_aload_n S.1 S.2.1 dX7_adds_31 rfl (lv_at hl 1 rfl) ?_
      refine w_get S C w (CC := RX7) (T := TX7) (N := 16) (ref := "GateSumsModel") im_X7_adds_X7 0 rfl rfl 13 (by decide) (List.mem_of_getElem? (i := 1) rfl) (fun _ h => h) rfl dX7_adds_32 ?_
      refine lv_icmp_ne (tgt := 68) S.1 S.2.1 dX7_adds_35 (by decide) (fun c35_1 => ?_) (fun c35_1 => ?_)
      · refine lv_aload_n S.1 S.2.1 dX7_adds_68 rfl (lv_at hl 1 rfl) ?_
        refine w_get S C w (CC := RX7) (T := TX7) (N := 16) (ref := "GateSumsModel") im_X7_adds_X7 0 rfl rfl 12 (by decide) (List.mem_of_getElem? (i := 3) rfl) (fun _ h => h) rfl dX7_adds_69 ?_
        refine lv_iload S.1 S.2.1 dX7_adds_72 (lv_at hl 0 rfl) ?_
        refine lv_dup2_11 S.1 S.2.1 dX7_adds_74 rfl rfl ?_
        refine w_lald S C w 2 rfl (nIin (by omega) (by decide)) dX7_adds_75 ?_
        refine lv_lload_n S.1 S.2.1 dX7_adds_76 rfl (lv_at hl 3 rfl) ?_
        refine lv_ladd S.1 S.2.1 dX7_adds_77 ?_
        refine w_last S C w 2 rfl (nIin (by omega) (by decide)) (ws2 := [(mO, .inr (7, [.ref mS, .ref mD, .ref mR, .ref mT, .int mt, .int ma, .int mn, .ref mW, .ref mQ, .ref mC, .int my, .ref mU, .ref mV, .int (nI mM), .int mf, .int mg])), (mU, .inl (G.2.1 2, 200, .inl fU)), (mV, .inl (G.2.1 3, 200, .inr (.inl (vp_updL lV (nI x3).toNatClampNeg ((lV (nI x3).toNatClampNeg) + b0)))))]) rfl dX7_adds_78 (fun H locs w => ?_)
        exact W.vret S.1 S.2.1 hr (fun t ht _ => ⟨⟨(mM, fU, (vp_updL lV (nI x3).toNatClampNeg ((lV (nI x3).toNatClampNeg) + b0))), rfl, by first | exact ⟨Nat.le_refl _, Nat.le_succ _⟩ | exact ⟨Nat.le_succ _, Nat.le_refl _⟩, by rw [ht]; exact w.1, w.2.1⟩, w.2.2.F ht⟩) w.2.2.2.2 dX7_adds_79
      · refine lv_aload_n S.1 S.2.1 dX7_adds_38 rfl (lv_at hl 1 rfl) ?_
        refine w_get S C w (CC := RX7) (T := TX7) (N := 16) (ref := "GateSumsModel") im_X7_adds_X7 0 rfl rfl 11 (by decide) (List.mem_of_getElem? (i := 2) rfl) (fun _ h => h) rfl dX7_adds_39 ?_
        refine lv_aload_n S.1 S.2.1 dX7_adds_42 rfl (lv_at hl 1 rfl) ?_
        refine w_get S C w (CC := RX7) (T := TX7) (N := 16) (ref := "GateSumsModel") im_X7_adds_X7 0 rfl rfl 13 (by decide) (List.mem_of_getElem? (i := 1) rfl) (fun _ h => h) rfl dX7_adds_43 ?_
        refine lv_iload_n S.1 S.2.1 dX7_adds_46 rfl (lv_at hl 2 rfl) ?_
        refine w_iast S C w 1 rfl (nIin (by omega) (by decide)) (ws2 := [(mO, .inr (7, [.ref mS, .ref mD, .ref mR, .ref mT, .int mt, .int ma, .int mn, .ref mW, .ref mQ, .ref mC, .int my, .ref mU, .ref mV, .int (nI mM), .int mf, .int mg])), (mU, .inl (G.2.1 2, 200, .inl (upd fU (nI mM).toNatClampNeg x0))), (mV, .inl (G.2.1 3, 200, .inr (.inl lV)))]) rfl dX7_adds_47 (fun H locs w => ?_)
        refine lv_aload_n S.1 S.2.1 dX7_adds_48 rfl (lv_at hl 1 rfl) ?_
        refine w_get S C w (CC := RX7) (T := TX7) (N := 16) (ref := "GateSumsModel") im_X7_adds_X7 0 rfl rfl 12 (by decide) (List.mem_of_getElem? (i := 3) rfl) (fun _ h => h) rfl dX7_adds_49 ?_
        refine lv_aload_n S.1 S.2.1 dX7_adds_52 rfl (lv_at hl 1 rfl) ?_
        refine w_get S C w (CC := RX7) (T := TX7) (N := 16) (ref := "GateSumsModel") im_X7_adds_X7 0 rfl rfl 13 (by decide) (List.mem_of_getElem? (i := 1) rfl) (fun _ h => h) rfl dX7_adds_53 ?_
        refine lv_lconst (v := 0) S.1 S.2.1 dX7_adds_56 (by decide) ?_
        refine w_last S C w 2 rfl (nIin (by omega) (by decide)) (ws2 := [(mO, .inr (7, [.ref mS, .ref mD, .ref mR, .ref mT, .int mt, .int ma, .int mn, .ref mW, .ref mQ, .ref mC, .int my, .ref mU, .ref mV, .int (nI mM), .int mf, .int mg])), (mU, .inl (G.2.1 2, 200, .inl (upd fU (nI mM).toNatClampNeg x0))), (mV, .inl (G.2.1 3, 200, .inr (.inl (vp_updL lV (nI mM).toNatClampNeg 0))))]) rfl dX7_adds_57 (fun H locs w => ?_)
        refine lv_aload_n S.1 S.2.1 dX7_adds_58 rfl (lv_at hl 1 rfl) ?_
        refine lv_dup S.1 S.2.1 dX7_adds_59 rfl ?_
        refine w_get S C w (CC := RX7) (T := TX7) (N := 16) (ref := "GateSumsModel") im_X7_adds_X7 0 rfl rfl 13 (by decide) (List.mem_of_getElem? (i := 1) rfl) (fun _ h => h) rfl dX7_adds_60 ?_
        refine lv_iconst (v := 1) S.1 S.2.1 dX7_adds_63 (by decide) ?_
        refine lv_iadd S.1 S.2.1 dX7_adds_64 ?_
        refine w_topi (y := (nI (mM + 1))) (nI_1 _) ?_
        refine w_put S C w (CC := RX7) (T := TX7) (N := 16) (ref := "GateSumsModel") im_X7_adds_X7 tyX7 tyX7_ok nmX7 0 rfl rfl 13 (by decide) (List.mem_of_getElem? (i := 1) rfl) (fun _ h => h) rfl (ws2 := [(mO, .inr (7, [.ref mS, .ref mD, .ref mR, .ref mT, .int mt, .int ma, .int mn, .ref mW, .ref mQ, .ref mC, .int my, .ref mU, .ref mV, .int (nI (mM + 1)), .int mf, .int mg])), (mU, .inl (G.2.1 2, 200, .inl (upd fU (nI mM).toNatClampNeg x0))), (mV, .inl (G.2.1 3, 200, .inr (.inl (vp_updL lV (nI mM).toNatClampNeg 0))))]) (rfl) (rfl) (Nat.le_of_ble_eq_true rfl) rfl dX7_adds_65 (fun H locs w => ?_)
        refine lv_aload_n S.1 S.2.1 dX7_adds_68 rfl (lv_at hl 1 rfl) ?_
        refine w_get S C w (CC := RX7) (T := TX7) (N := 16) (ref := "GateSumsModel") im_X7_adds_X7 0 rfl rfl 12 (by decide) (List.mem_of_getElem? (i := 3) rfl) (fun _ h => h) rfl dX7_adds_69 ?_
        refine lv_iload S.1 S.2.1 dX7_adds_72 (lv_at hl 0 rfl) ?_
        refine lv_dup2_11 S.1 S.2.1 dX7_adds_74 rfl rfl ?_
        refine w_lald S C w 2 rfl (nIin (by omega) (by decide)) dX7_adds_75 ?_
        refine lv_lload_n S.1 S.2.1 dX7_adds_76 rfl (lv_at hl 3 rfl) ?_
        refine lv_ladd S.1 S.2.1 dX7_adds_77 ?_
        refine w_last S C w 2 rfl (nIin (by omega) (by decide)) (ws2 := [(mO, .inr (7, [.ref mS, .ref mD, .ref mR, .ref mT, .int mt, .int ma, .int mn, .ref mW, .ref mQ, .ref mC, .int my, .ref mU, .ref mV, .int (nI (mM + 1)), .int mf, .int mg])), (mU, .inl (G.2.1 2, 200, .inl (upd fU (nI mM).toNatClampNeg x0))), (mV, .inl (G.2.1 3, 200, .inr (.inl (vp_updL (vp_updL lV (nI mM).toNatClampNeg 0) (nI x3).toNatClampNeg (((vp_updL lV (nI mM).toNatClampNeg 0) (nI x3).toNatClampNeg) + b0)))))]) rfl dX7_adds_78 (fun H locs w => ?_)
        exact W.vret S.1 S.2.1 hr (fun t ht _ => ⟨⟨((mM + 1), (upd fU (nI mM).toNatClampNeg x0), (vp_updL (vp_updL lV (nI mM).toNatClampNeg 0) (nI x3).toNatClampNeg (((vp_updL lV (nI mM).toNatClampNeg 0) (nI x3).toNatClampNeg) + b0))), rfl, by first | exact ⟨Nat.le_refl _, Nat.le_succ _⟩ | exact ⟨Nat.le_succ _, Nat.le_refl _⟩, by rw [ht]; exact w.1, w.2.1⟩, w.2.2.F ht⟩) w.2.2.2.2 dX7_adds_79
    · refine lv_iinc (v := (nI (x3 + 1))) (lv' := [(4, .int (nI (x3 + 1))), (0, .ref mO), (1, .int x0), (2, .long b0)]) S.1 S.2.1 dX7_adds_23 hl (k := 0) rfl (nI_1 _) (by decide) rfl (fun ls hl => ?_)
      refine lv_goto (tgt := 3) S.1 S.2.1 dX7_adds_26 (by decide) ?_
      have hlt : x3 < mM := by have h := c9; rw [nI_leI (by omega) (by omega)] at h; omega
      exact ih3 (x3 + 1) ls _ _ (hlt) (by omega) w (lv_sub hl [0, 1, 2, 3] rfl)
theorem im_X7_becomes_X7 : ∀ w ∈ u_ws RX7 TX7 16, w ∈ wsX7_becomes := by decide +kernel
set_option maxHeartbeats 4000000 in
set_option maxRecDepth 100000 in
theorem c_X7_becomes (l : Launch) (G : GT) (mO mQ mC mU mV : Nat) (sz : Nat) (mS mD mR mT mW : Nat) (mt ma mn my mf mg : Int32) (mM : Nat) (fQ fU : Nat → Int32) (lC lV : Nat → Int64) (hm : mM ≤ 200) : Met l yX7_becomes wsX7_becomes ({ frames := 0, cells := 0, slots := 0, locals := 0 }) (va_Pc [.ref mO] (wPre G [(mO, .inr (7, [.ref mS, .ref mD, .ref mR, .ref mT, .int mt, .int ma, .int mn, .ref mW, .ref mQ, .ref mC, .int my, .ref mU, .ref mV, .int (nI mM), .int mf, .int mg])), (mQ, .inl (G.2.1 2, 200, .inl fQ)), (mC, .inl (G.2.1 3, 200, .inr (.inl lC))), (mU, .inl (G.2.1 2, 200, .inl fU)), (mV, .inl (G.2.1 3, 200, .inr (.inl lV)))] sz)) (va_Qi (fun (r : Int32) (u : Nat × (Nat → Int32) × (Nat → Int64)) => (r = 0 ∨ r = 1) ∧ u.1 ≤ mM ∧ (¬ r = 0 → u.1 ≤ 40)) (bW G (va_A [(mO, .inr (7, [.ref mS, .ref mD, .ref mR, .ref mT, .int mt, .int ma, .int mn, .ref mW, .ref mQ, .ref mC, .int my, .ref mU, .ref mV, .int (nI mM), .int mf, .int mg])), (mQ, .inl (G.2.1 2, 200, .inl fQ)), (mC, .inl (G.2.1 3, 200, .inr (.inl lC))), (mU, .inl (G.2.1 2, 200, .inl fU)), (mV, .inl (G.2.1 3, 200, .inr (.inl lV)))] sz) (fun u : Nat × (Nat → Int32) × (Nat → Int64) => [(mO, .inr (7, [.ref mS, .ref mD, .ref mR, .ref mT, .int mt, .int ma, .int mn, .ref mW, .ref mQ, .ref mC, .int (nI u.1), .ref mU, .ref mV, .int 0, .int mf, .int mg])), (mQ, .inl (G.2.1 2, 200, .inl u.2.1)), (mC, .inl (G.2.1 3, 200, .inr (.inl u.2.2))), (mU, .inl (G.2.1 2, 200, .inl fU)), (mV, .inl (G.2.1 3, 200, .inr (.inl lV)))])) (va_A [(mO, .inr (7, [.ref mS, .ref mD, .ref mR, .ref mT, .int mt, .int ma, .int mn, .ref mW, .ref mQ, .ref mC, .int my, .ref mU, .ref mV, .int (nI mM), .int mf, .int mg])), (mQ, .inl (G.2.1 2, 200, .inl fQ)), (mC, .inl (G.2.1 3, 200, .inr (.inl lC))), (mU, .inl (G.2.1 2, 200, .inl fU)), (mV, .inl (G.2.1 3, 200, .inr (.inl lV)))] sz)) 0 0 (va_A [(mO, .inr (7, [.ref mS, .ref mD, .ref mR, .ref mT, .int mt, .int ma, .int mn, .ref mW, .ref mQ, .ref mC, .int my, .ref mU, .ref mV, .int (nI mM), .int mf, .int mg])), (mQ, .inl (G.2.1 2, 200, .inl fQ)), (mC, .inl (G.2.1 3, 200, .inr (.inl lC))), (mU, .inl (G.2.1 2, 200, .inl fU)), (mV, .inl (G.2.1 3, 200, .inr (.inl lV)))] sz) := by
  refine met_go (cc := cX7_becomes) (maxL := 3) (ret := (some .boolean)) (own := RX7) (by decide) rfl rfl (Nat.le_of_ble_eq_true rfl) ?_
  intro p e s m below meth c ls S hr hlocks hname hsz C w hl
  have hl : lv_has ls 3 [(0, .ref mO)] := hl
  refine lv_aload_n S.1 S.2.1 dX7_becomes_0 rfl (lv_at hl 0 rfl) ?_
  refine lv_iconst (v := 0) S.1 S.2.1 dX7_becomes_1 (by decide) ?_
  refine w_put S C w (CC := RX7) (T := TX7) (N := 16) (ref := "GateSumsModel") im_X7_becomes_X7 tyX7 tyX7_ok nmX7 0 rfl rfl 10 (by decide) (List.mem_of_getElem? (i := 1) rfl) (fun _ h => h) rfl (ws2 := [(mO, .inr (7, [.ref mS, .ref mD, .ref mR, .ref mT, .int mt, .int ma, .int mn, .ref mW, .ref mQ, .ref mC, .int 0, .ref mU, .ref mV, .int (nI mM), .int mf, .int mg])), (mQ, .inl (G.2.1 2, 200, .inl fQ)), (mC, .inl (G.2.1 3, 200, .inr (.inl lC))), (mU, .inl (G.2.1 2, 200, .inl fU)), (mV, .inl (G.2.1 3, 200, .inr (.inl lV)))]) (rfl) (rfl) (Nat.le_of_ble_eq_true rfl) rfl dX7_becomes_2 (fun H locs w => ?_)
  refine lv_iconst (v := 0) S.1 S.2.1 dX7_becomes_5 (by decide) ?_
  refine lv_istore_n (lv' := [(1, .int 0), (0, .ref mO)]) S.1 S.2.1 dX7_becomes_6 rfl hl (by decide) rfl (fun ls hl => ?_)
  refine w_loop (G := G) (σ := Nat × Nat × (Nat → Int32) × (Nat → Int64)) (nL := 3) 7 (fun x7 => mM - x7.1) (fun x7 => x7.1 ≤ mM ∧ x7.2.1 ≤ x7.1) (fun x7 => [(mO, .inr (7, [.ref mS, .ref mD, .ref mR, .ref mT, .int mt, .int ma, .int mn, .ref mW, .ref mQ, .ref mC, .int (nI x7.2.1), .ref mU, .ref mV, .int (nI mM), .int mf, .int mg])), (mQ, .inl (G.2.1 2, 200, .inl x7.2.2.1)), (mC, .inl (G.2.1 3, 200, .inr (.inl x7.2.2.2))), (mU, .inl (G.2.1 2, 200, .inl fU)), (mV, .inl (G.2.1 3, 200, .inr (.inl lV)))]) (fun x7 => [(1, .int (nI x7.1)), (0, .ref mO)]) (fun _ => []) ?_ (0, 0, fQ, lC) ls _ _ (⟨Nat.zero_le _, Nat.le_refl _⟩) w (lv_sub hl [0, 1] rfl)
  intro x7 ls H locs hI7 w hl ih7
  have w : Wd G _ s [(mO, .inr (7, [.ref mS, .ref mD, .ref mR, .ref mT, .int mt, .int ma, .int mn, .ref mW, .ref mQ, .ref mC, .int (nI x7.2.1), .ref mU, .ref mV, .int (nI mM), .int mf, .int mg])), (mQ, .inl (G.2.1 2, 200, .inl x7.2.2.1)), (mC, .inl (G.2.1 3, 200, .inr (.inl x7.2.2.2))), (mU, .inl (G.2.1 2, 200, .inl fU)), (mV, .inl (G.2.1 3, 200, .inr (.inl lV)))] H locs := w
  have hl : lv_has ls 3 [(1, .int (nI x7.1)), (0, .ref mO)] := hl
  refine lv_iload_n S.1 S.2.1 dX7_becomes_7 rfl (lv_at hl 0 rfl) ?_
  refine lv_aload_n S.1 S.2.1 dX7_becomes_8 rfl (lv_at hl 1 rfl) ?_
  refine w_get S C w (CC := RX7) (T := TX7) (N := 16) (ref := "GateSumsModel") im_X7_becomes_X7 0 rfl rfl 13 (by decide) (List.mem_of_getElem? (i := 2) rfl) (fun _ h => h) rfl dX7_becomes_9 ?_
  refine lv_icmp_ge (tgt := 126) S.1 S.2.1 dX7_becomes_12 (by decide) (fun c12 => ?_) (fun c12 => ?_)
  · refine lv_aload_n S.1 S.2.1 dX7_becomes_126 rfl (lv_at hl 1 rfl) ?_
    refine lv_iconst (v := 0) S.1 S.2.1 dX7_becomes_127 (by decide) ?_
    refine w_put S C w (CC := RX7) (T := TX7) (N := 16) (ref := "GateSumsModel") im_X7_becomes_X7 tyX7 tyX7_ok nmX7 0 rfl rfl 13 (by decide) (List.mem_of_getElem? (i := 2) rfl) (fun _ h => h) rfl (ws2 := [(mO, .inr (7, [.ref mS, .ref mD, .ref mR, .ref mT, .int mt, .int ma, .int mn, .ref mW, .ref mQ, .ref mC, .int (nI x7.2.1), .ref mU, .ref mV, .int 0, .int mf, .int mg])), (mQ, .inl (G.2.1 2, 200, .inl x7.2.2.1)), (mC, .inl (G.2.1 3, 200, .inr (.inl x7.2.2.2))), (mU, .inl (G.2.1 2, 200, .inl fU)), (mV, .inl (G.2.1 3, 200, .inr (.inl lV)))]) (rfl) (rfl) (Nat.le_of_ble_eq_true rfl) rfl dX7_becomes_128 (fun H locs w => ?_)
    refine lv_aload_n S.1 S.2.1 dX7_becomes_131 rfl (lv_at hl 1 rfl) ?_
    refine w_get S C w (CC := RX7) (T := TX7) (N := 16) (ref := "GateSumsModel") im_X7_becomes_X7 0 rfl rfl 10 (by decide) (List.mem_of_getElem? (i := 1) rfl) (fun _ h => h) rfl dX7_becomes_132 ?_
    refine lv_bipush (v := 40) S.1 S.2.1 dX7_becomes_135 (by decide) ?_
    refine lv_icmp_gt (tgt := 144) S.1 S.2.1 dX7_becomes_137 (by decide) (fun c137 => ?_) (fun c137 => ?_)
    · refine lv_iconst (v := 0) S.1 S.2.1 dX7_becomes_144 (by decide) ?_
      exact W.zret (v := 0) S.1 S.2.1 hr (rfl) (fun t ht _ => ⟨⟨0, (x7.2.1, x7.2.2.1, x7.2.2.2), rfl, by first | exact ⟨Or.inr rfl, by have := hI7; omega, fun _ => gt40 (by have := hI7; omega) c137⟩ | exact ⟨Or.inl rfl, by have := hI7; omega, fun h => absurd rfl h⟩, by rw [ht]; exact w.1, w.2.1⟩, w.2.2.F ht⟩) w.2.2.2.2 dX7_becomes_145
    · refine lv_iconst (v := 1) S.1 S.2.1 dX7_becomes_140 (by decide) ?_
      refine lv_goto (tgt := 145) S.1 S.2.1 dX7_becomes_141 (by decide) ?_
      exact W.zret (v := 1) S.1 S.2.1 hr (rfl) (fun t ht _ => ⟨⟨1, (x7.2.1, x7.2.2.1, x7.2.2.2), rfl, by first | exact ⟨Or.inr rfl, by have := hI7; omega, fun _ => gt40 (by have := hI7; omega) c137⟩ | exact ⟨Or.inl rfl, by have := hI7; omega, fun h => absurd rfl h⟩, by rw [ht]; exact w.1, w.2.1⟩, w.2.2.F ht⟩) w.2.2.2.2 dX7_becomes_145
  · refine lv_aload_n S.1 S.2.1 dX7_becomes_15 rfl (lv_at hl 1 rfl) ?_
    refine w_get S C w (CC := RX7) (T := TX7) (N := 16) (ref := "GateSumsModel") im_X7_becomes_X7 0 rfl rfl 12 (by decide) (List.mem_of_getElem? (i := 3) rfl) (fun _ h => h) rfl dX7_becomes_16 ?_
    refine lv_iload_n S.1 S.2.1 dX7_becomes_19 rfl (lv_at hl 0 rfl) ?_
    refine w_lald S C w 4 rfl (nIin (by have h := c12; rw [nI_leI (by omega) (by omega)] at h; omega) (by decide)) dX7_becomes_20 ?_
    refine lv_lconst (v := 0) S.1 S.2.1 dX7_becomes_21 (by decide) ?_
    refine W.lcmp S.1 S.2.1 dX7_becomes_22 ?_
    refine lv_if_eq (tgt := 120) S.1 S.2.1 dX7_becomes_23 (by decide) (fun c23 => ?_) (fun c23 => ?_)
    · refine lv_iinc (v := (nI (x7.1 + 1))) (lv' := [(1, .int (nI (x7.1 + 1))), (0, .ref mO)]) S.1 S.2.1 dX7_becomes_120 hl (k := 0) rfl (nI_1 _) (by decide) rfl (fun ls hl => ?_)
      refine lv_goto (tgt := 7) S.1 S.2.1 dX7_becomes_123 (by decide) ?_
      have hlt : x7.1 < mM := by have h := c12; rw [nI_leI (by omega) (by omega)] at h; omega
      have hnn := hI7.2
      exact ih7 (x7.1 + 1, x7.2.1, x7.2.2.1, x7.2.2.2) ls _ _ (by dsimp only; omega) (by dsimp only; omega) w (lv_sub hl [0, 1] rfl)
    · refine lv_aload_n S.1 S.2.1 dX7_becomes_26 rfl (lv_at hl 1 rfl) ?_
      refine w_get S C w (CC := RX7) (T := TX7) (N := 16) (ref := "GateSumsModel") im_X7_becomes_X7 0 rfl rfl 10 (by decide) (List.mem_of_getElem? (i := 1) rfl) (fun _ h => h) rfl dX7_becomes_27 ?_
      refine lv_istore_n (lv' := [(2, .int (nI x7.2.1)), (1, .int (nI x7.1)), (0, .ref mO)]) S.1 S.2.1 dX7_becomes_30 rfl hl (by decide) rfl (fun ls hl => ?_)
      refine w_loop (G := G) (σ := Nat × (Nat → Int32) × (Nat → Int64)) (nL := 3) 31 (fun x31 => x31.1) (fun x31 => x31.1 ≤ x7.2.1) (fun x31 => [(mO, .inr (7, [.ref mS, .ref mD, .ref mR, .ref mT, .int mt, .int ma, .int mn, .ref mW, .ref mQ, .ref mC, .int (nI x7.2.1), .ref mU, .ref mV, .int (nI mM), .int mf, .int mg])), (mQ, .inl (G.2.1 2, 200, .inl x31.2.1)), (mC, .inl (G.2.1 3, 200, .inr (.inl x31.2.2))), (mU, .inl (G.2.1 2, 200, .inl fU)), (mV, .inl (G.2.1 3, 200, .inr (.inl lV)))]) (fun x31 => [(2, .int (nI x31.1)), (1, .int (nI x7.1)), (0, .ref mO)]) (fun _ => []) ?_ (x7.2.1, x7.2.2.1, x7.2.2.2) ls _ _ (Nat.le_refl _) w (lv_sub hl [0, 1, 2] rfl)
      intro x31 ls H locs hI31 w hl ih31
      have w : Wd G _ s [(mO, .inr (7, [.ref mS, .ref mD, .ref mR, .ref mT, .int mt, .int ma, .int mn, .ref mW, .ref mQ, .ref mC, .int (nI x7.2.1), .ref mU, .ref mV, .int (nI mM), .int mf, .int mg])), (mQ, .inl (G.2.1 2, 200, .inl x31.2.1)), (mC, .inl (G.2.1 3, 200, .inr (.inl x31.2.2))), (mU, .inl (G.2.1 2, 200, .inl fU)), (mV, .inl (G.2.1 3, 200, .inr (.inl lV)))] H locs := w
      have hl : lv_has ls 3 [(2, .int (nI x31.1)), (1, .int (nI x7.1)), (0, .ref mO)] := hl
      have hlt7 : x7.1 < mM := by have h := c12; rw [nI_leI (by omega) (by omega)] at h; omega
      have hnn7 := hI7.2
      refine lv_iload_n S.1 S.2.1 dX7_becomes_31 rfl (lv_at hl 0 rfl) ?_
      refine lv_if_le (tgt := 86) S.1 S.2.1 dX7_becomes_32 (by decide) (fun c32 => ?_) (fun c32 => ?_)
      · refine lv_aload_n S.1 S.2.1 dX7_becomes_86 rfl (lv_at hl 2 rfl) ?_
        refine w_get S C w (CC := RX7) (T := TX7) (N := 16) (ref := "GateSumsModel") im_X7_becomes_X7 0 rfl rfl 8 (by decide) (List.mem_of_getElem? (i := 4) rfl) (fun _ h => h) rfl dX7_becomes_87 ?_
        refine lv_iload_n S.1 S.2.1 dX7_becomes_90 rfl (lv_at hl 0 rfl) ?_
        refine lv_aload_n S.1 S.2.1 dX7_becomes_91 rfl (lv_at hl 2 rfl) ?_
        refine w_get S C w (CC := RX7) (T := TX7) (N := 16) (ref := "GateSumsModel") im_X7_becomes_X7 0 rfl rfl 11 (by decide) (List.mem_of_getElem? (i := 5) rfl) (fun _ h => h) rfl dX7_becomes_92 ?_
        refine lv_iload_n S.1 S.2.1 dX7_becomes_95 rfl (lv_at hl 1 rfl) ?_
        refine w_iald S C w 3 rfl (nIin (by omega) (by decide)) dX7_becomes_96 ?_
        refine w_iast S C w 1 rfl (nIin (by omega) (by decide)) (ws2 := [(mO, .inr (7, [.ref mS, .ref mD, .ref mR, .ref mT, .int mt, .int ma, .int mn, .ref mW, .ref mQ, .ref mC, .int (nI x7.2.1), .ref mU, .ref mV, .int (nI mM), .int mf, .int mg])), (mQ, .inl (G.2.1 2, 200, .inl (upd x31.2.1 (nI x31.1).toNatClampNeg (fU (nI x7.1).toNatClampNeg)))), (mC, .inl (G.2.1 3, 200, .inr (.inl x31.2.2))), (mU, .inl (G.2.1 2, 200, .inl fU)), (mV, .inl (G.2.1 3, 200, .inr (.inl lV)))]) rfl dX7_becomes_97 (fun H locs w => ?_)
        refine lv_aload_n S.1 S.2.1 dX7_becomes_98 rfl (lv_at hl 2 rfl) ?_
        refine w_get S C w (CC := RX7) (T := TX7) (N := 16) (ref := "GateSumsModel") im_X7_becomes_X7 0 rfl rfl 9 (by decide) (List.mem_of_getElem? (i := 6) rfl) (fun _ h => h) rfl dX7_becomes_99 ?_
        refine lv_iload_n S.1 S.2.1 dX7_becomes_102 rfl (lv_at hl 0 rfl) ?_
        refine lv_aload_n S.1 S.2.1 dX7_becomes_103 rfl (lv_at hl 2 rfl) ?_
        refine w_get S C w (CC := RX7) (T := TX7) (N := 16) (ref := "GateSumsModel") im_X7_becomes_X7 0 rfl rfl 12 (by decide) (List.mem_of_getElem? (i := 3) rfl) (fun _ h => h) rfl dX7_becomes_104 ?_
        refine lv_iload_n S.1 S.2.1 dX7_becomes_107 rfl (lv_at hl 1 rfl) ?_
        refine w_lald S C w 4 rfl (nIin (by omega) (by decide)) dX7_becomes_108 ?_
        refine w_last S C w 2 rfl (nIin (by omega) (by decide)) (ws2 := [(mO, .inr (7, [.ref mS, .ref mD, .ref mR, .ref mT, .int mt, .int ma, .int mn, .ref mW, .ref mQ, .ref mC, .int (nI x7.2.1), .ref mU, .ref mV, .int (nI mM), .int mf, .int mg])), (mQ, .inl (G.2.1 2, 200, .inl (upd x31.2.1 (nI x31.1).toNatClampNeg (fU (nI x7.1).toNatClampNeg)))), (mC, .inl (G.2.1 3, 200, .inr (.inl (vp_updL x31.2.2 (nI x31.1).toNatClampNeg (lV (nI x7.1).toNatClampNeg))))), (mU, .inl (G.2.1 2, 200, .inl fU)), (mV, .inl (G.2.1 3, 200, .inr (.inl lV)))]) rfl dX7_becomes_109 (fun H locs w => ?_)
        refine lv_aload_n S.1 S.2.1 dX7_becomes_110 rfl (lv_at hl 2 rfl) ?_
        refine lv_dup S.1 S.2.1 dX7_becomes_111 rfl ?_
        refine w_get S C w (CC := RX7) (T := TX7) (N := 16) (ref := "GateSumsModel") im_X7_becomes_X7 0 rfl rfl 10 (by decide) (List.mem_of_getElem? (i := 1) rfl) (fun _ h => h) rfl dX7_becomes_112 ?_
        refine lv_iconst (v := 1) S.1 S.2.1 dX7_becomes_115 (by decide) ?_
        refine lv_iadd S.1 S.2.1 dX7_becomes_116 ?_
        refine w_topi (y := (nI (x7.2.1 + 1))) (nI_1 _) ?_
        refine w_put S C w (CC := RX7) (T := TX7) (N := 16) (ref := "GateSumsModel") im_X7_becomes_X7 tyX7 tyX7_ok nmX7 0 rfl rfl 10 (by decide) (List.mem_of_getElem? (i := 1) rfl) (fun _ h => h) rfl (ws2 := [(mO, .inr (7, [.ref mS, .ref mD, .ref mR, .ref mT, .int mt, .int ma, .int mn, .ref mW, .ref mQ, .ref mC, .int (nI (x7.2.1 + 1)), .ref mU, .ref mV, .int (nI mM), .int mf, .int mg])), (mQ, .inl (G.2.1 2, 200, .inl (upd x31.2.1 (nI x31.1).toNatClampNeg (fU (nI x7.1).toNatClampNeg)))), (mC, .inl (G.2.1 3, 200, .inr (.inl (vp_updL x31.2.2 (nI x31.1).toNatClampNeg (lV (nI x7.1).toNatClampNeg))))), (mU, .inl (G.2.1 2, 200, .inl fU)), (mV, .inl (G.2.1 3, 200, .inr (.inl lV)))]) (rfl) (rfl) (Nat.le_of_ble_eq_true rfl) rfl dX7_becomes_117 (fun H locs w => ?_)
        refine lv_iinc (v := (nI (x7.1 + 1))) (lv' := [(1, .int (nI (x7.1 + 1))), (2, .int (nI x31.1)), (0, .ref mO)]) S.1 S.2.1 dX7_becomes_120 hl (k := 1) rfl (nI_1 _) (by decide) rfl (fun ls hl => ?_)
        refine lv_goto (tgt := 7) S.1 S.2.1 dX7_becomes_123 (by decide) ?_
        have hlt : x7.1 < mM := by have h := c12; rw [nI_leI (by omega) (by omega)] at h; omega
        have hnn := hI7.2
        exact ih7 (x7.1 + 1, (x7.2.1 + 1), (upd x31.2.1 (nI x31.1).toNatClampNeg (fU (nI x7.1).toNatClampNeg)), (vp_updL x31.2.2 (nI x31.1).toNatClampNeg (lV (nI x7.1).toNatClampNeg))) ls _ _ (by dsimp only; omega) (by dsimp only; omega) w (lv_sub hl [0, 2] rfl)
      · refine lv_aload_n S.1 S.2.1 dX7_becomes_35 rfl (lv_at hl 2 rfl) ?_
        refine w_get S C w (CC := RX7) (T := TX7) (N := 16) (ref := "GateSumsModel") im_X7_becomes_X7 0 rfl rfl 8 (by decide) (List.mem_of_getElem? (i := 4) rfl) (fun _ h => h) rfl dX7_becomes_36 ?_
        refine lv_iload_n S.1 S.2.1 dX7_becomes_39 rfl (lv_at hl 0 rfl) ?_
        refine lv_iconst (v := 1) S.1 S.2.1 dX7_becomes_40 (by decide) ?_
        refine lv_isub S.1 S.2.1 dX7_becomes_41 ?_
        refine w_topi (y := (nI (x31.1 - 1))) ((sub1 c32).1) ?_
        refine w_iald S C w 1 rfl (nIin (by omega) (by decide)) dX7_becomes_42 ?_
        refine lv_aload_n S.1 S.2.1 dX7_becomes_43 rfl (lv_at hl 2 rfl) ?_
        refine w_get S C w (CC := RX7) (T := TX7) (N := 16) (ref := "GateSumsModel") im_X7_becomes_X7 0 rfl rfl 11 (by decide) (List.mem_of_getElem? (i := 5) rfl) (fun _ h => h) rfl dX7_becomes_44 ?_
        refine lv_iload_n S.1 S.2.1 dX7_becomes_47 rfl (lv_at hl 1 rfl) ?_
        refine w_iald S C w 3 rfl (nIin (by omega) (by decide)) dX7_becomes_48 ?_
        refine lv_icmp_ge (tgt := 86) S.1 S.2.1 dX7_becomes_49 (by decide) (fun c49 => ?_) (fun c49 => ?_)
        · refine lv_aload_n S.1 S.2.1 dX7_becomes_86 rfl (lv_at hl 2 rfl) ?_
          refine w_get S C w (CC := RX7) (T := TX7) (N := 16) (ref := "GateSumsModel") im_X7_becomes_X7 0 rfl rfl 8 (by decide) (List.mem_of_getElem? (i := 4) rfl) (fun _ h => h) rfl dX7_becomes_87 ?_
          refine lv_iload_n S.1 S.2.1 dX7_becomes_90 rfl (lv_at hl 0 rfl) ?_
          refine lv_aload_n S.1 S.2.1 dX7_becomes_91 rfl (lv_at hl 2 rfl) ?_
          refine w_get S C w (CC := RX7) (T := TX7) (N := 16) (ref := "GateSumsModel") im_X7_becomes_X7 0 rfl rfl 11 (by decide) (List.mem_of_getElem? (i := 5) rfl) (fun _ h => h) rfl dX7_becomes_92 ?_
          refine lv_iload_n S.1 S.2.1 dX7_becomes_95 rfl (lv_at hl 1 rfl) ?_
          refine w_iald S C w 3 rfl (nIin (by omega) (by decide)) dX7_becomes_96 ?_
          refine w_iast S C w 1 rfl (nIin (by omega) (by decide)) (ws2 := [(mO, .inr (7, [.ref mS, .ref mD, .ref mR, .ref mT, .int mt, .int ma, .int mn, .ref mW, .ref mQ, .ref mC, .int (nI x7.2.1), .ref mU, .ref mV, .int (nI mM), .int mf, .int mg])), (mQ, .inl (G.2.1 2, 200, .inl (upd x31.2.1 (nI x31.1).toNatClampNeg (fU (nI x7.1).toNatClampNeg)))), (mC, .inl (G.2.1 3, 200, .inr (.inl x31.2.2))), (mU, .inl (G.2.1 2, 200, .inl fU)), (mV, .inl (G.2.1 3, 200, .inr (.inl lV)))]) rfl dX7_becomes_97 (fun H locs w => ?_)
          refine lv_aload_n S.1 S.2.1 dX7_becomes_98 rfl (lv_at hl 2 rfl) ?_
          refine w_get S C w (CC := RX7) (T := TX7) (N := 16) (ref := "GateSumsModel") im_X7_becomes_X7 0 rfl rfl 9 (by decide) (List.mem_of_getElem? (i := 6) rfl) (fun _ h => h) rfl dX7_becomes_99 ?_
          refine lv_iload_n S.1 S.2.1 dX7_becomes_102 rfl (lv_at hl 0 rfl) ?_
          refine lv_aload_n S.1 S.2.1 dX7_becomes_103 rfl (lv_at hl 2 rfl) ?_
          refine w_get S C w (CC := RX7) (T := TX7) (N := 16) (ref := "GateSumsModel") im_X7_becomes_X7 0 rfl rfl 12 (by decide) (List.mem_of_getElem? (i := 3) rfl) (fun _ h => h) rfl dX7_becomes_104 ?_
          refine lv_iload_n S.1 S.2.1 dX7_becomes_107 rfl (lv_at hl 1 rfl) ?_
          refine w_lald S C w 4 rfl (nIin (by omega) (by decide)) dX7_becomes_108 ?_
          refine w_last S C w 2 rfl (nIin (by omega) (by decide)) (ws2 := [(mO, .inr (7, [.ref mS, .ref mD, .ref mR, .ref mT, .int mt, .int ma, .int mn, .ref mW, .ref mQ, .ref mC, .int (nI x7.2.1), .ref mU, .ref mV, .int (nI mM), .int mf, .int mg])), (mQ, .inl (G.2.1 2, 200, .inl (upd x31.2.1 (nI x31.1).toNatClampNeg (fU (nI x7.1).toNatClampNeg)))), (mC, .inl (G.2.1 3, 200, .inr (.inl (vp_updL x31.2.2 (nI x31.1).toNatClampNeg (lV (nI x7.1).toNatClampNeg))))), (mU, .inl (G.2.1 2, 200, .inl fU)), (mV, .inl (G.2.1 3, 200, .inr (.inl lV)))]) rfl dX7_becomes_109 (fun H locs w => ?_)
          refine lv_aload_n S.1 S.2.1 dX7_becomes_110 rfl (lv_at hl 2 rfl) ?_
          refine lv_dup S.1 S.2.1 dX7_becomes_111 rfl ?_
          refine w_get S C w (CC := RX7) (T := TX7) (N := 16) (ref := "GateSumsModel") im_X7_becomes_X7 0 rfl rfl 10 (by decide) (List.mem_of_getElem? (i := 1) rfl) (fun _ h => h) rfl dX7_becomes_112 ?_
          refine lv_iconst (v := 1) S.1 S.2.1 dX7_becomes_115 (by decide) ?_
          refine lv_iadd S.1 S.2.1 dX7_becomes_116 ?_
          refine w_topi (y := (nI (x7.2.1 + 1))) (nI_1 _) ?_
          refine w_put S C w (CC := RX7) (T := TX7) (N := 16) (ref := "GateSumsModel") im_X7_becomes_X7 tyX7 tyX7_ok nmX7 0 rfl rfl 10 (by decide) (List.mem_of_getElem? (i := 1) rfl) (fun _ h => h) rfl (ws2 := [(mO, .inr (7, [.ref mS, .ref mD, .ref mR, .ref mT, .int mt, .int ma, .int mn, .ref mW, .ref mQ, .ref mC, .int (nI (x7.2.1 + 1)), .ref mU, .ref mV, .int (nI mM), .int mf, .int mg])), (mQ, .inl (G.2.1 2, 200, .inl (upd x31.2.1 (nI x31.1).toNatClampNeg (fU (nI x7.1).toNatClampNeg)))), (mC, .inl (G.2.1 3, 200, .inr (.inl (vp_updL x31.2.2 (nI x31.1).toNatClampNeg (lV (nI x7.1).toNatClampNeg))))), (mU, .inl (G.2.1 2, 200, .inl fU)), (mV, .inl (G.2.1 3, 200, .inr (.inl lV)))]) (rfl) (rfl) (Nat.le_of_ble_eq_true rfl) rfl dX7_becomes_117 (fun H locs w => ?_)
          refine lv_iinc (v := (nI (x7.1 + 1))) (lv' := [(1, .int (nI (x7.1 + 1))), (2, .int (nI x31.1)), (0, .ref mO)]) S.1 S.2.1 dX7_becomes_120 hl (k := 1) rfl (nI_1 _) (by decide) rfl (fun ls hl => ?_)
          refine lv_goto (tgt := 7) S.1 S.2.1 dX7_becomes_123 (by decide) ?_
          have hlt : x7.1 < mM := by have h := c12; rw [nI_leI (by omega) (by omega)] at h; omega
          have hnn := hI7.2
          exact ih7 (x7.1 + 1, (x7.2.1 + 1), (upd x31.2.1 (nI x31.1).toNatClampNeg (fU (nI x7.1).toNatClampNeg)), (vp_updL x31.2.2 (nI x31.1).toNatClampNeg (lV (nI x7.1).toNatClampNeg))) ls _ _ (by dsimp only; omega) (by dsimp only; omega) w (lv_sub hl [0, 2] rfl)
        · refine lv_aload_n S.1 S.2.1 dX7_becomes_52 rfl (lv_at hl 2 rfl) ?_
          refine w_get S C w (CC := RX7) (T := TX7) (N := 16) (ref := "GateSumsModel") im_X7_becomes_X7 0 rfl rfl 8 (by decide) (List.mem_of_getElem? (i := 4) rfl) (fun _ h => h) rfl dX7_becomes_53 ?_
          refine lv_iload_n S.1 S.2.1 dX7_becomes_56 rfl (lv_at hl 0 rfl) ?_
          refine lv_aload_n S.1 S.2.1 dX7_becomes_57 rfl (lv_at hl 2 rfl) ?_
          refine w_get S C w (CC := RX7) (T := TX7) (N := 16) (ref := "GateSumsModel") im_X7_becomes_X7 0 rfl rfl 8 (by decide) (List.mem_of_getElem? (i := 4) rfl) (fun _ h => h) rfl dX7_becomes_58 ?_
          refine lv_iload_n S.1 S.2.1 dX7_becomes_61 rfl (lv_at hl 0 rfl) ?_
          refine lv_iconst (v := 1) S.1 S.2.1 dX7_becomes_62 (by decide) ?_
          refine lv_isub S.1 S.2.1 dX7_becomes_63 ?_
          refine w_topi (y := (nI (x31.1 - 1))) ((sub1 c32).1) ?_
          refine w_iald S C w 1 rfl (nIin (by omega) (by decide)) dX7_becomes_64 ?_
          refine w_iast S C w 1 rfl (nIin (by omega) (by decide)) (ws2 := [(mO, .inr (7, [.ref mS, .ref mD, .ref mR, .ref mT, .int mt, .int ma, .int mn, .ref mW, .ref mQ, .ref mC, .int (nI x7.2.1), .ref mU, .ref mV, .int (nI mM), .int mf, .int mg])), (mQ, .inl (G.2.1 2, 200, .inl (upd x31.2.1 (nI x31.1).toNatClampNeg (x31.2.1 (nI (x31.1 - 1)).toNatClampNeg)))), (mC, .inl (G.2.1 3, 200, .inr (.inl x31.2.2))), (mU, .inl (G.2.1 2, 200, .inl fU)), (mV, .inl (G.2.1 3, 200, .inr (.inl lV)))]) rfl dX7_becomes_65 (fun H locs w => ?_)
          refine lv_aload_n S.1 S.2.1 dX7_becomes_66 rfl (lv_at hl 2 rfl) ?_
          refine w_get S C w (CC := RX7) (T := TX7) (N := 16) (ref := "GateSumsModel") im_X7_becomes_X7 0 rfl rfl 9 (by decide) (List.mem_of_getElem? (i := 6) rfl) (fun _ h => h) rfl dX7_becomes_67 ?_
          refine lv_iload_n S.1 S.2.1 dX7_becomes_70 rfl (lv_at hl 0 rfl) ?_
          refine lv_aload_n S.1 S.2.1 dX7_becomes_71 rfl (lv_at hl 2 rfl) ?_
          refine w_get S C w (CC := RX7) (T := TX7) (N := 16) (ref := "GateSumsModel") im_X7_becomes_X7 0 rfl rfl 9 (by decide) (List.mem_of_getElem? (i := 6) rfl) (fun _ h => h) rfl dX7_becomes_72 ?_
          refine lv_iload_n S.1 S.2.1 dX7_becomes_75 rfl (lv_at hl 0 rfl) ?_
          refine lv_iconst (v := 1) S.1 S.2.1 dX7_becomes_76 (by decide) ?_
          refine lv_isub S.1 S.2.1 dX7_becomes_77 ?_
          refine w_topi (y := (nI (x31.1 - 1))) ((sub1 c32).1) ?_
          refine w_lald S C w 2 rfl (nIin (by omega) (by decide)) dX7_becomes_78 ?_
          refine w_last S C w 2 rfl (nIin (by omega) (by decide)) (ws2 := [(mO, .inr (7, [.ref mS, .ref mD, .ref mR, .ref mT, .int mt, .int ma, .int mn, .ref mW, .ref mQ, .ref mC, .int (nI x7.2.1), .ref mU, .ref mV, .int (nI mM), .int mf, .int mg])), (mQ, .inl (G.2.1 2, 200, .inl (upd x31.2.1 (nI x31.1).toNatClampNeg (x31.2.1 (nI (x31.1 - 1)).toNatClampNeg)))), (mC, .inl (G.2.1 3, 200, .inr (.inl (vp_updL x31.2.2 (nI x31.1).toNatClampNeg (x31.2.2 (nI (x31.1 - 1)).toNatClampNeg))))), (mU, .inl (G.2.1 2, 200, .inl fU)), (mV, .inl (G.2.1 3, 200, .inr (.inl lV)))]) rfl dX7_becomes_79 (fun H locs w => ?_)
          refine lv_iinc (v := (nI (x31.1 - 1))) (lv' := [(2, .int (nI (x31.1 - 1))), (1, .int (nI x7.1)), (0, .ref mO)]) S.1 S.2.1 dX7_becomes_80 hl (k := 0) rfl (dec1 (sub1 c32).2) (by decide) rfl (fun ls hl => ?_)
          refine lv_goto (tgt := 31) S.1 S.2.1 dX7_becomes_83 (by decide) ?_
          exact ih31 (x31.1 - 1, (upd x31.2.1 (nI x31.1).toNatClampNeg (x31.2.1 (nI (x31.1 - 1)).toNatClampNeg)), (vp_updL x31.2.2 (nI x31.1).toNatClampNeg (x31.2.2 (nI (x31.1 - 1)).toNatClampNeg))) ls _ _ (by dsimp only; omega) (by dsimp only; have := (sub1 c32).2; omega) w (lv_sub hl [0, 1, 2] rfl)
