set_option maxHeartbeats 4000000 in
set_option maxRecDepth 100000 in
theorem s_X7_goes (l : Launch) (G : GT) (sz : Nat) (k0 x0 y0 : Int32) : Met l yX7_goes wsX7_goes ({ frames := 0, cells := 0, slots := 0, locals := 0 }) (va_Pc [.int k0, .int x0, .int y0] (wPre G [] sz)) (vp_Si (fun r : Int32 => r = (goesF k0 x0 y0))) 0 0 (fun _ => False) := by
  refine met_go (cc := cX7_goes) (maxL := 5) (ret := (some .int)) (own := RX7) (by decide) rfl rfl (Nat.le_of_ble_eq_true rfl) ?_
  intro p e s m below meth c ls S hr hlocks hname hsz C w hl
  have hl : lv_has ls 5 [(0, .int k0), (1, .int x0), (2, .int y0)] := hl
  refine lv_iload_n S.1 S.2.1 dX7_goes_0 rfl (lv_at hl 1 rfl) ?_
  refine lv_iload_n S.1 S.2.1 dX7_goes_1 rfl (lv_at hl 2 rfl) ?_
  refine lv_iand S.1 S.2.1 dX7_goes_2 ?_
  refine lv_istore_n (lv' := [(3, .int (x0 &&& y0)), (0, .int k0), (1, .int x0), (2, .int y0)]) S.1 S.2.1 dX7_goes_3 rfl hl (by decide) rfl (fun ls hl => ?_)
  refine lv_iload_n S.1 S.2.1 dX7_goes_4 rfl (lv_at hl 2 rfl) ?_
  refine lv_iload_n S.1 S.2.1 dX7_goes_5 rfl (lv_at hl 3 rfl) ?_
  refine lv_ior S.1 S.2.1 dX7_goes_6 ?_
  refine lv_istore (lv' := [(4, .int (x0 ||| y0)), (3, .int (x0 &&& y0)), (0, .int k0), (1, .int x0), (2, .int y0)]) S.1 S.2.1 dX7_goes_7 hl (by decide) rfl (fun ls hl => ?_)
  refine lv_iload_n S.1 S.2.1 dX7_goes_9 rfl (lv_at hl 2 rfl) ?_
  rcases sw_cases 0 6 k0.toInt (by decide) with c10 | ⟨c10n, c10l, c10q⟩
  · refine lv_tableOut (tgt := 80) S.1 S.2.1 dX7_goes_10 c10 (by decide) ?_
    refine lv_iload_n S.1 S.2.1 dX7_goes_80 rfl (lv_at hl 3 rfl) ?_
    refine lv_iconst (v := 1) S.1 S.2.1 dX7_goes_81 (by decide) ?_
    refine lv_iload_n S.1 S.2.1 dX7_goes_82 rfl (lv_at hl 4 rfl) ?_
    refine lv_isub S.1 S.2.1 dX7_goes_83 ?_
    refine lv_iand S.1 S.2.1 dX7_goes_84 ?_
    exact W.iret (v := (x0 &&& (1 - y0))) S.1 S.2.1 hr (fun t ht _ => ⟨(x0 &&& (1 - y0)), rfl, by unfold goesF; first | (rw [if_pos (by omega)]; first | done | rfl) | (rw [if_neg (by omega), if_pos (by omega)]; first | done | rfl) | (rw [if_neg (by omega), if_neg (by omega), if_pos (by omega)]; first | done | rfl) | (rw [if_neg (by omega), if_neg (by omega), if_neg (by omega), if_pos (by omega)]; first | done | rfl) | (rw [if_neg (by omega), if_neg (by omega), if_neg (by omega), if_neg (by omega), if_pos (by omega)]; first | done | rfl) | (rw [if_neg (by omega), if_neg (by omega), if_neg (by omega), if_neg (by omega), if_neg (by omega), if_pos (by omega)]; first | done | rfl) | (rw [if_neg (by omega), if_neg (by omega), if_neg (by omega), if_neg (by omega), if_neg (by omega), if_neg (by omega), if_pos (by omega)]; first | done | rfl) | (rw [if_neg (by omega), if_neg (by omega), if_neg (by omega), if_neg (by omega), if_neg (by omega), if_neg (by omega), if_neg (by omega)]; first | done | rfl), ht⟩) (fun q h => absurd h List.not_mem_nil) dX7_goes_85
  · have c10l2 : c10n < 7 := by omega
    rcases Nat.lt_or_ge c10n 1 with c10a | c10a
    · have c10e : c10n = 0 := by omega
      subst c10e
      have c10 : k0.toInt = 0 := by omega
      refine lv_tableIn (off := 42) (tgt := 52) S.1 S.2.1 dX7_goes_10 (by omega) (by omega) (by rw [c10]; rfl) (by decide) ?_
      refine lv_iconst (v := 1) S.1 S.2.1 dX7_goes_52 (by decide) ?_
      refine lv_iload_n S.1 S.2.1 dX7_goes_53 rfl (lv_at hl 3 rfl) ?_
      refine lv_isub S.1 S.2.1 dX7_goes_54 ?_
      exact W.iret (v := (1 - x0)) S.1 S.2.1 hr (fun t ht _ => ⟨(1 - x0), rfl, by unfold goesF; first | (rw [if_pos (by omega)]; first | done | rfl) | (rw [if_neg (by omega), if_pos (by omega)]; first | done | rfl) | (rw [if_neg (by omega), if_neg (by omega), if_pos (by omega)]; first | done | rfl) | (rw [if_neg (by omega), if_neg (by omega), if_neg (by omega), if_pos (by omega)]; first | done | rfl) | (rw [if_neg (by omega), if_neg (by omega), if_neg (by omega), if_neg (by omega), if_pos (by omega)]; first | done | rfl) | (rw [if_neg (by omega), if_neg (by omega), if_neg (by omega), if_neg (by omega), if_neg (by omega), if_pos (by omega)]; first | done | rfl) | (rw [if_neg (by omega), if_neg (by omega), if_neg (by omega), if_neg (by omega), if_neg (by omega), if_neg (by omega), if_pos (by omega)]; first | done | rfl) | (rw [if_neg (by omega), if_neg (by omega), if_neg (by omega), if_neg (by omega), if_neg (by omega), if_neg (by omega), if_neg (by omega)]; first | done | rfl), ht⟩) (fun q h => absurd h List.not_mem_nil) dX7_goes_55
    rcases Nat.lt_or_ge c10n 2 with c10a | c10a
    · have c10e : c10n = 1 := by omega
      subst c10e
      have c10 : k0.toInt = 1 := by omega
      refine lv_tableIn (off := 46) (tgt := 56) S.1 S.2.1 dX7_goes_10 (by omega) (by omega) (by rw [c10]; rfl) (by decide) ?_
      refine lv_iload_n S.1 S.2.1 dX7_goes_56 rfl (lv_at hl 1 rfl) ?_
      exact W.iret (v := (x0 &&& y0)) S.1 S.2.1 hr (fun t ht _ => ⟨(x0 &&& y0), rfl, by unfold goesF; first | (rw [if_pos (by omega)]; first | done | rfl) | (rw [if_neg (by omega), if_pos (by omega)]; first | done | rfl) | (rw [if_neg (by omega), if_neg (by omega), if_pos (by omega)]; first | done | rfl) | (rw [if_neg (by omega), if_neg (by omega), if_neg (by omega), if_pos (by omega)]; first | done | rfl) | (rw [if_neg (by omega), if_neg (by omega), if_neg (by omega), if_neg (by omega), if_pos (by omega)]; first | done | rfl) | (rw [if_neg (by omega), if_neg (by omega), if_neg (by omega), if_neg (by omega), if_neg (by omega), if_pos (by omega)]; first | done | rfl) | (rw [if_neg (by omega), if_neg (by omega), if_neg (by omega), if_neg (by omega), if_neg (by omega), if_neg (by omega), if_pos (by omega)]; first | done | rfl) | (rw [if_neg (by omega), if_neg (by omega), if_neg (by omega), if_neg (by omega), if_neg (by omega), if_neg (by omega), if_neg (by omega)]; first | done | rfl), ht⟩) (fun q h => absurd h List.not_mem_nil) dX7_goes_57
    rcases Nat.lt_or_ge c10n 3 with c10a | c10a
    · have c10e : c10n = 2 := by omega
      subst c10e
      have c10 : k0.toInt = 2 := by omega
      refine lv_tableIn (off := 48) (tgt := 58) S.1 S.2.1 dX7_goes_10 (by omega) (by omega) (by rw [c10]; rfl) (by decide) ?_
      refine lv_iload S.1 S.2.1 dX7_goes_58 (lv_at hl 0 rfl) ?_
      exact W.iret (v := (x0 ||| y0)) S.1 S.2.1 hr (fun t ht _ => ⟨(x0 ||| y0), rfl, by unfold goesF; first | (rw [if_pos (by omega)]; first | done | rfl) | (rw [if_neg (by omega), if_pos (by omega)]; first | done | rfl) | (rw [if_neg (by omega), if_neg (by omega), if_pos (by omega)]; first | done | rfl) | (rw [if_neg (by omega), if_neg (by omega), if_neg (by omega), if_pos (by omega)]; first | done | rfl) | (rw [if_neg (by omega), if_neg (by omega), if_neg (by omega), if_neg (by omega), if_pos (by omega)]; first | done | rfl) | (rw [if_neg (by omega), if_neg (by omega), if_neg (by omega), if_neg (by omega), if_neg (by omega), if_pos (by omega)]; first | done | rfl) | (rw [if_neg (by omega), if_neg (by omega), if_neg (by omega), if_neg (by omega), if_neg (by omega), if_neg (by omega), if_pos (by omega)]; first | done | rfl) | (rw [if_neg (by omega), if_neg (by omega), if_neg (by omega), if_neg (by omega), if_neg (by omega), if_neg (by omega), if_neg (by omega)]; first | done | rfl), ht⟩) (fun q h => absurd h List.not_mem_nil) dX7_goes_60
    rcases Nat.lt_or_ge c10n 4 with c10a | c10a
    · have c10e : c10n = 3 := by omega
      subst c10e
      have c10 : k0.toInt = 3 := by omega
      refine lv_tableIn (off := 51) (tgt := 61) S.1 S.2.1 dX7_goes_10 (by omega) (by omega) (by rw [c10]; rfl) (by decide) ?_
      refine lv_iload_n S.1 S.2.1 dX7_goes_61 rfl (lv_at hl 3 rfl) ?_
      refine lv_iload_n S.1 S.2.1 dX7_goes_62 rfl (lv_at hl 4 rfl) ?_
      refine lv_ixor S.1 S.2.1 dX7_goes_63 ?_
      exact W.iret (v := (x0 ^^^ y0)) S.1 S.2.1 hr (fun t ht _ => ⟨(x0 ^^^ y0), rfl, by unfold goesF; first | (rw [if_pos (by omega)]; first | done | rfl) | (rw [if_neg (by omega), if_pos (by omega)]; first | done | rfl) | (rw [if_neg (by omega), if_neg (by omega), if_pos (by omega)]; first | done | rfl) | (rw [if_neg (by omega), if_neg (by omega), if_neg (by omega), if_pos (by omega)]; first | done | rfl) | (rw [if_neg (by omega), if_neg (by omega), if_neg (by omega), if_neg (by omega), if_pos (by omega)]; first | done | rfl) | (rw [if_neg (by omega), if_neg (by omega), if_neg (by omega), if_neg (by omega), if_neg (by omega), if_pos (by omega)]; first | done | rfl) | (rw [if_neg (by omega), if_neg (by omega), if_neg (by omega), if_neg (by omega), if_neg (by omega), if_neg (by omega), if_pos (by omega)]; first | done | rfl) | (rw [if_neg (by omega), if_neg (by omega), if_neg (by omega), if_neg (by omega), if_neg (by omega), if_neg (by omega), if_neg (by omega)]; first | done | rfl), ht⟩) (fun q h => absurd h List.not_mem_nil) dX7_goes_64
    rcases Nat.lt_or_ge c10n 5 with c10a | c10a
    · have c10e : c10n = 4 := by omega
      subst c10e
      have c10 : k0.toInt = 4 := by omega
      refine lv_tableIn (off := 55) (tgt := 65) S.1 S.2.1 dX7_goes_10 (by omega) (by omega) (by rw [c10]; rfl) (by decide) ?_
      refine lv_iconst (v := 1) S.1 S.2.1 dX7_goes_65 (by decide) ?_
      refine lv_iload_n S.1 S.2.1 dX7_goes_66 rfl (lv_at hl 1 rfl) ?_
      refine lv_isub S.1 S.2.1 dX7_goes_67 ?_
      exact W.iret (v := (1 - (x0 &&& y0))) S.1 S.2.1 hr (fun t ht _ => ⟨(1 - (x0 &&& y0)), rfl, by unfold goesF; first | (rw [if_pos (by omega)]; first | done | rfl) | (rw [if_neg (by omega), if_pos (by omega)]; first | done | rfl) | (rw [if_neg (by omega), if_neg (by omega), if_pos (by omega)]; first | done | rfl) | (rw [if_neg (by omega), if_neg (by omega), if_neg (by omega), if_pos (by omega)]; first | done | rfl) | (rw [if_neg (by omega), if_neg (by omega), if_neg (by omega), if_neg (by omega), if_pos (by omega)]; first | done | rfl) | (rw [if_neg (by omega), if_neg (by omega), if_neg (by omega), if_neg (by omega), if_neg (by omega), if_pos (by omega)]; first | done | rfl) | (rw [if_neg (by omega), if_neg (by omega), if_neg (by omega), if_neg (by omega), if_neg (by omega), if_neg (by omega), if_pos (by omega)]; first | done | rfl) | (rw [if_neg (by omega), if_neg (by omega), if_neg (by omega), if_neg (by omega), if_neg (by omega), if_neg (by omega), if_neg (by omega)]; first | done | rfl), ht⟩) (fun q h => absurd h List.not_mem_nil) dX7_goes_68
    rcases Nat.lt_or_ge c10n 6 with c10a | c10a
    · have c10e : c10n = 5 := by omega
      subst c10e
      have c10 : k0.toInt = 5 := by omega
      refine lv_tableIn (off := 59) (tgt := 69) S.1 S.2.1 dX7_goes_10 (by omega) (by omega) (by rw [c10]; rfl) (by decide) ?_
      refine lv_iconst (v := 1) S.1 S.2.1 dX7_goes_69 (by decide) ?_
      refine lv_iload S.1 S.2.1 dX7_goes_70 (lv_at hl 0 rfl) ?_
      refine lv_isub S.1 S.2.1 dX7_goes_72 ?_
      exact W.iret (v := (1 - (x0 ||| y0))) S.1 S.2.1 hr (fun t ht _ => ⟨(1 - (x0 ||| y0)), rfl, by unfold goesF; first | (rw [if_pos (by omega)]; first | done | rfl) | (rw [if_neg (by omega), if_pos (by omega)]; first | done | rfl) | (rw [if_neg (by omega), if_neg (by omega), if_pos (by omega)]; first | done | rfl) | (rw [if_neg (by omega), if_neg (by omega), if_neg (by omega), if_pos (by omega)]; first | done | rfl) | (rw [if_neg (by omega), if_neg (by omega), if_neg (by omega), if_neg (by omega), if_pos (by omega)]; first | done | rfl) | (rw [if_neg (by omega), if_neg (by omega), if_neg (by omega), if_neg (by omega), if_neg (by omega), if_pos (by omega)]; first | done | rfl) | (rw [if_neg (by omega), if_neg (by omega), if_neg (by omega), if_neg (by omega), if_neg (by omega), if_neg (by omega), if_pos (by omega)]; first | done | rfl) | (rw [if_neg (by omega), if_neg (by omega), if_neg (by omega), if_neg (by omega), if_neg (by omega), if_neg (by omega), if_neg (by omega)]; first | done | rfl), ht⟩) (fun q h => absurd h List.not_mem_nil) dX7_goes_73
    have c10e : c10n = 6 := by omega
    subst c10e
    have c10 : k0.toInt = 6 := by omega
    refine lv_tableIn (off := 64) (tgt := 74) S.1 S.2.1 dX7_goes_10 (by omega) (by omega) (by rw [c10]; rfl) (by decide) ?_
    refine lv_iconst (v := 1) S.1 S.2.1 dX7_goes_74 (by decide) ?_
    refine lv_iload_n S.1 S.2.1 dX7_goes_75 rfl (lv_at hl 3 rfl) ?_
    refine lv_iload_n S.1 S.2.1 dX7_goes_76 rfl (lv_at hl 4 rfl) ?_
    refine lv_ixor S.1 S.2.1 dX7_goes_77 ?_
    refine lv_isub S.1 S.2.1 dX7_goes_78 ?_
    exact W.iret (v := (1 - (x0 ^^^ y0))) S.1 S.2.1 hr (fun t ht _ => ⟨(1 - (x0 ^^^ y0)), rfl, by unfold goesF; first | (rw [if_pos (by omega)]; first | done | rfl) | (rw [if_neg (by omega), if_pos (by omega)]; first | done | rfl) | (rw [if_neg (by omega), if_neg (by omega), if_pos (by omega)]; first | done | rfl) | (rw [if_neg (by omega), if_neg (by omega), if_neg (by omega), if_pos (by omega)]; first | done | rfl) | (rw [if_neg (by omega), if_neg (by omega), if_neg (by omega), if_neg (by omega), if_pos (by omega)]; first | done | rfl) | (rw [if_neg (by omega), if_neg (by omega), if_neg (by omega), if_neg (by omega), if_neg (by omega), if_pos (by omega)]; first | done | rfl) | (rw [if_neg (by omega), if_neg (by omega), if_neg (by omega), if_neg (by omega), if_neg (by omega), if_neg (by omega), if_pos (by omega)]; first | done | rfl) | (rw [if_neg (by omega), if_neg (by omega), if_neg (by omega), if_neg (by omega), if_neg (by omega), if_neg (by omega), if_neg (by omega)]; first | done | rfl), ht⟩) (fun q h => absurd h List.not_mem_nil) dX7_goes_79
set_option maxHeartbeats 4000000 in
set_option maxRecDepth 100000 in
theorem s_X7_signals (l : Launch) (G : GT) (mO mS : Nat) (sz : Nat) (mD mR mT mW mQ mC mU mV : Nat) (mt ma mn my mm mf mg : Int32) (fS : Nat → Int32) (gN : Nat) (v0 : Int32) (hg : fS 1 = nI gN) (hgN : gN ≤ 12) : Met l yX7_signals wsX7_signals ({ frames := 1, cells := 0, slots := 0, locals := 24 }) (va_Pc [.ref mO, .int v0] (wPre G [(mO, .inr (7, [.ref mS, .ref mD, .ref mR, .ref mT, .int mt, .int ma, .int mn, .ref mW, .ref mQ, .ref mC, .int my, .ref mU, .ref mV, .int mm, .int mf, .int mg])), (mS, .inl (G.2.1 2, 49, .inl fS))] sz)) (vp_Si (fun r : Int32 => r = (sgM fS v0 gN))) 0 0 (fun _ => False) := by
  refine met_go (cc := cX7_signals) (maxL := 6) (ret := (some .int)) (own := RX7) (by decide) rfl rfl (Nat.le_of_ble_eq_true rfl) ?_
  intro p e s m below meth c ls S hr hlocks hname hsz C w hl
  have hl : lv_has ls 6 [(0, .ref mO), (1, .int v0)] := hl
  refine lv_iload_n S.1 S.2.1 dX7_signals_0 rfl (lv_at hl 1 rfl) ?_
  refine lv_istore_n (lv' := [(2, .int v0), (0, .ref mO), (1, .int v0)]) S.1 S.2.1 dX7_signals_1 rfl hl (by decide) rfl (fun ls hl => ?_)
  refine lv_iconst (v := 0) S.1 S.2.1 dX7_signals_2 (by decide) ?_
  refine lv_istore_n (lv' := [(3, .int 0), (2, .int v0), (0, .ref mO), (1, .int v0)]) S.1 S.2.1 dX7_signals_3 rfl hl (by decide) rfl (fun ls hl => ?_)
  refine w_loopS (σ := Nat × Int32) (nL := 6) 4 (fun x4 => gN - x4.1) (fun x4 => x4.1 ≤ gN ∧ x4.2 = sgM fS v0 x4.1) (fun x4 => [(3, .int (nI x4.1)), (2, .int x4.2), (0, .ref mO), (1, .int v0)]) (fun _ => []) ?_ (0, v0) ls (⟨Nat.zero_le _, rfl⟩) (lv_sub hl [0, 1, 2, 3] rfl)
  intro x4 ls hI4 hl ih4
  have hl : lv_has ls 6 [(3, .int (nI x4.1)), (2, .int x4.2), (0, .ref mO), (1, .int v0)] := hl
  have hA1 := hI4.1
  refine lv_iload_n S.1 S.2.1 dX7_signals_4 rfl (lv_at hl 0 rfl) ?_
  refine lv_aload_n S.1 S.2.1 dX7_signals_5 rfl (lv_at hl 2 rfl) ?_
  refine w_get S C w (CC := RX7) (T := TX7) (N := 16) (ref := "GateSumsModel") im_X7_signals_X7 0 rfl rfl 0 (by decide) (List.mem_of_getElem? (i := 1) rfl) (fun _ h => h) rfl dX7_signals_6 ?_
  refine lv_iconst (v := 1) S.1 S.2.1 dX7_signals_9 (by decide) ?_
  refine w_iald S C w 1 rfl (by unfold vp_in; decide) dX7_signals_10 ?_
  refine w_topi (y := (nI gN)) (hg) ?_
  refine lv_icmp_ge (tgt := 94) S.1 S.2.1 dX7_signals_11 (by decide) (fun c11 => ?_) (fun c11 => ?_)
  · refine lv_iload_n S.1 S.2.1 dX7_signals_94 rfl (lv_at hl 1 rfl) ?_
    exact W.iret (v := x4.2) S.1 S.2.1 hr (fun t ht _ => ⟨x4.2, rfl, (by have e : x4.1 = gN := (by have h := c11; rw [nI_leI (by omega) (by omega)] at h; omega); rw [hI4.2, e]), ht⟩) (fun q h => absurd h List.not_mem_nil) dX7_signals_95
  · refine lv_iload_n S.1 S.2.1 dX7_signals_14 rfl (lv_at hl 1 rfl) ?_
    refine lv_aload_n S.1 S.2.1 dX7_signals_15 rfl (lv_at hl 2 rfl) ?_
    refine w_get S C w (CC := RX7) (T := TX7) (N := 16) (ref := "GateSumsModel") im_X7_signals_X7 0 rfl rfl 0 (by decide) (List.mem_of_getElem? (i := 1) rfl) (fun _ h => h) rfl dX7_signals_16 ?_
    refine lv_bipush (v := 18) S.1 S.2.1 dX7_signals_19 (by decide) ?_
    refine lv_iload_n S.1 S.2.1 dX7_signals_21 rfl (lv_at hl 0 rfl) ?_
    refine lv_iadd S.1 S.2.1 dX7_signals_22 ?_
    refine w_iald S C w 1 rfl (ixA 18 _ (by have h := c11; rw [nI_leI (by omega) (by omega)] at h; omega)) dX7_signals_23 ?_
    refine w_topi (y := (fS (18 + x4.1))) (congrArg fS (ixc 18 _ (by have h := c11; rw [nI_leI (by omega) (by omega)] at h; omega))) ?_
    refine lv_ishr S.1 S.2.1 dX7_signals_24 ?_
    refine lv_iconst (v := 1) S.1 S.2.1 dX7_signals_25 (by decide) ?_
    refine lv_iand S.1 S.2.1 dX7_signals_26 ?_
    refine lv_istore (lv' := [(4, .int ((x4.2 >>> ((fS (18 + x4.1)) &&& 31)) &&& 1)), (3, .int (nI x4.1)), (2, .int x4.2), (0, .ref mO), (1, .int v0)]) S.1 S.2.1 dX7_signals_27 hl (by decide) rfl (fun ls hl => ?_)
    refine lv_aload_n S.1 S.2.1 dX7_signals_29 rfl (lv_at hl 3 rfl) ?_
    refine w_get S C w (CC := RX7) (T := TX7) (N := 16) (ref := "GateSumsModel") im_X7_signals_X7 0 rfl rfl 0 (by decide) (List.mem_of_getElem? (i := 1) rfl) (fun _ h => h) rfl dX7_signals_30 ?_
    refine lv_bipush (v := 6) S.1 S.2.1 dX7_signals_33 (by decide) ?_
    refine lv_iload_n S.1 S.2.1 dX7_signals_35 rfl (lv_at hl 1 rfl) ?_
    refine lv_iadd S.1 S.2.1 dX7_signals_36 ?_
    refine w_iald S C w 1 rfl (ixA 6 _ (by have h := c11; rw [nI_leI (by omega) (by omega)] at h; omega)) dX7_signals_37 ?_
    refine w_joini 58 [] (fun z58 => z58 = if fS (6 + x4.1) = 0 then 0 else ((x4.2 >>> (fS (30 + x4.1) &&& 31)) &&& 1)) (fun z58 hz58 => ?_) (fun J58 => ?_)
    · refine lv_istore (lv' := [(5, .int z58), (4, .int ((x4.2 >>> ((fS (18 + x4.1)) &&& 31)) &&& 1)), (3, .int (nI x4.1)), (2, .int x4.2), (0, .ref mO), (1, .int v0)]) S.1 S.2.1 dX7_signals_58 hl (by decide) rfl (fun ls hl => ?_)
      refine lv_iload_n S.1 S.2.1 dX7_signals_60 rfl (lv_at hl 3 rfl) ?_
      refine lv_aload_n S.1 S.2.1 dX7_signals_61 rfl (lv_at hl 4 rfl) ?_
      refine w_get S C w (CC := RX7) (T := TX7) (N := 16) (ref := "GateSumsModel") im_X7_signals_X7 0 rfl rfl 0 (by decide) (List.mem_of_getElem? (i := 1) rfl) (fun _ h => h) rfl dX7_signals_62 ?_
      refine lv_bipush (v := 6) S.1 S.2.1 dX7_signals_65 (by decide) ?_
      refine lv_iload_n S.1 S.2.1 dX7_signals_67 rfl (lv_at hl 2 rfl) ?_
      refine lv_iadd S.1 S.2.1 dX7_signals_68 ?_
      refine w_iald S C w 1 rfl (ixA 6 _ (by have h := c11; rw [nI_leI (by omega) (by omega)] at h; omega)) dX7_signals_69 ?_
      refine w_topi (y := (fS (6 + x4.1))) (congrArg fS (ixc 6 _ (by have h := c11; rw [nI_leI (by omega) (by omega)] at h; omega))) ?_
      refine lv_iload S.1 S.2.1 dX7_signals_70 (lv_at hl 1 rfl) ?_
      refine lv_iload S.1 S.2.1 dX7_signals_72 (lv_at hl 0 rfl) ?_
      refine cs_i (va_runS (As := [.int (fS (6 + x4.1)), .int ((x4.2 >>> ((fS (18 + x4.1)) &&& 31)) &&& 1), .int z58]) (rest := [.int x4.2]) S (s_X7_goes l G _ (fS (6 + x4.1)) ((x4.2 >>> ((fS (18 + x4.1)) &&& 31)) &&& 1) z58) (va_cwS 3 S.2.2.2.2 gX7_signals_X7_goes rfl rfl rfl (by decide +kernel) ⟨Nat.le_of_ble_eq_true rfl, Nat.le_of_ble_eq_true rfl⟩) ⟨wPre_blind, wPre_at C w [] rfl rfl⟩ rfl rfl hl.1 rfl (lv_room (Nat.le_of_ble_eq_true rfl)) dX7_signals_74 ⟨Nat.le_of_ble_eq_true rfl, Nat.le_of_ble_eq_true rfl⟩) (fun r74 h74 => ?_)
      refine w_topi (y := (goesF (fS (6 + x4.1)) ((x4.2 >>> ((fS (18 + x4.1)) &&& 31)) &&& 1) z58)) h74 ?_
      refine lv_aload_n S.1 S.2.1 dX7_signals_77 rfl (lv_at hl 4 rfl) ?_
      refine w_get S C w (CC := RX7) (T := TX7) (N := 16) (ref := "GateSumsModel") im_X7_signals_X7 0 rfl rfl 0 (by decide) (List.mem_of_getElem? (i := 1) rfl) (fun _ h => h) rfl dX7_signals_78 ?_
      refine lv_iconst (v := 0) S.1 S.2.1 dX7_signals_81 (by decide) ?_
      refine w_iald S C w 1 rfl (by unfold vp_in; decide) dX7_signals_82 ?_
      refine w_topi (y := (fS 0)) (rfl) ?_
      refine lv_iload_n S.1 S.2.1 dX7_signals_83 rfl (lv_at hl 2 rfl) ?_
      refine lv_iadd S.1 S.2.1 dX7_signals_84 ?_
      refine lv_ishl S.1 S.2.1 dX7_signals_85 ?_
      refine lv_ior S.1 S.2.1 dX7_signals_86 ?_
      refine lv_istore_n (lv' := [(2, .int (x4.2 ||| ((goesF (fS (6 + x4.1)) ((x4.2 >>> ((fS (18 + x4.1)) &&& 31)) &&& 1) z58) <<< (((fS 0) + (nI x4.1)) &&& 31)))), (5, .int z58), (4, .int ((x4.2 >>> ((fS (18 + x4.1)) &&& 31)) &&& 1)), (3, .int (nI x4.1)), (0, .ref mO), (1, .int v0)]) S.1 S.2.1 dX7_signals_87 rfl hl (by decide) rfl (fun ls hl => ?_)
      refine lv_iinc (v := (nI (x4.1 + 1))) (lv' := [(3, .int (nI (x4.1 + 1))), (2, .int (x4.2 ||| ((goesF (fS (6 + x4.1)) ((x4.2 >>> ((fS (18 + x4.1)) &&& 31)) &&& 1) z58) <<< (((fS 0) + (nI x4.1)) &&& 31)))), (5, .int z58), (4, .int ((x4.2 >>> ((fS (18 + x4.1)) &&& 31)) &&& 1)), (0, .ref mO), (1, .int v0)]) S.1 S.2.1 dX7_signals_88 hl (k := 3) rfl (nI_1 _) (by decide) rfl (fun ls hl => ?_)
      refine lv_goto (tgt := 4) S.1 S.2.1 dX7_signals_91 (by decide) ?_
      have hlt : x4.1 < gN := (by have h := c11; rw [nI_leI (by omega) (by omega)] at h; omega)
      exact ih4 (x4.1 + 1, (x4.2 ||| ((goesF (fS (6 + x4.1)) ((x4.2 >>> ((fS (18 + x4.1)) &&& 31)) &&& 1) z58) <<< (((fS 0) + (nI x4.1)) &&& 31)))) ls (⟨hlt, (by dsimp only; rw [hz58, hI4.2]; rfl)⟩) (by dsimp only; omega) (lv_sub hl [0, 1, 4, 5] rfl)
    · refine w_topi (y := (fS (6 + x4.1))) (congrArg fS (ixc 6 _ (by have h := c11; rw [nI_leI (by omega) (by omega)] at h; omega))) ?_
      refine lv_if_ne (tgt := 45) S.1 S.2.1 dX7_signals_38 (by decide) (fun c38 => ?_) (fun c38 => ?_)
      · refine lv_iload_n S.1 S.2.1 dX7_signals_45 rfl (lv_at hl 2 rfl) ?_
        refine lv_aload_n S.1 S.2.1 dX7_signals_46 rfl (lv_at hl 3 rfl) ?_
        refine w_get S C w (CC := RX7) (T := TX7) (N := 16) (ref := "GateSumsModel") im_X7_signals_X7 0 rfl rfl 0 (by decide) (List.mem_of_getElem? (i := 1) rfl) (fun _ h => h) rfl dX7_signals_47 ?_
        refine lv_bipush (v := 30) S.1 S.2.1 dX7_signals_50 (by decide) ?_
        refine lv_iload_n S.1 S.2.1 dX7_signals_52 rfl (lv_at hl 1 rfl) ?_
        refine lv_iadd S.1 S.2.1 dX7_signals_53 ?_
        refine w_iald S C w 1 rfl (ixA 30 _ (by have h := c11; rw [nI_leI (by omega) (by omega)] at h; omega)) dX7_signals_54 ?_
        refine w_topi (y := (fS (30 + x4.1))) (congrArg fS (ixc 30 _ (by have h := c11; rw [nI_leI (by omega) (by omega)] at h; omega))) ?_
        refine lv_ishr S.1 S.2.1 dX7_signals_55 ?_
        refine lv_iconst (v := 1) S.1 S.2.1 dX7_signals_56 (by decide) ?_
        refine lv_iand S.1 S.2.1 dX7_signals_57 ?_
        exact J58 ((x4.2 >>> ((fS (30 + x4.1)) &&& 31)) &&& 1) (by first | exact (if_pos c38).symm | exact (if_neg c38).symm)
      · refine lv_iconst (v := 0) S.1 S.2.1 dX7_signals_41 (by decide) ?_
        refine lv_goto (tgt := 58) S.1 S.2.1 dX7_signals_42 (by decide) ?_
        exact J58 0 (by first | exact (if_pos c38).symm | exact (if_neg c38).symm)
set_option maxHeartbeats 4000000 in
set_option maxRecDepth 100000 in
theorem s_X7_stand (l : Launch) (G : GT) (mO mS : Nat) (sz : Nat) (mD mR mT mW mQ mC mU mV : Nat) (mt ma mn my mm mf mg : Int32) (fS : Nat → Int32) (gN oN : Nat) (v0 : Int32) (hg : fS 1 = nI gN) (hgN : gN ≤ 12) (ho : fS 2 = nI oN) (hoN : oN ≤ 7) : Met l yX7_stand wsX7_stand ({ frames := 2, cells := 0, slots := 0, locals := 49 }) (va_Pc [.ref mO, .int v0] (wPre G [(mO, .inr (7, [.ref mS, .ref mD, .ref mR, .ref mT, .int mt, .int ma, .int mn, .ref mW, .ref mQ, .ref mC, .int my, .ref mU, .ref mV, .int mm, .int mf, .int mg])), (mS, .inl (G.2.1 2, 49, .inl fS))] sz)) (vp_Si (fun r : Int32 => r = (stM fS v0 gN oN))) 0 0 (fun _ => False) := by
  refine met_go (cc := cX7_stand) (maxL := 5) (ret := (some .int)) (own := RX7) (by decide) rfl rfl (Nat.le_of_ble_eq_true rfl) ?_
  intro p e s m below meth c ls S hr hlocks hname hsz C w hl
  have hl : lv_has ls 5 [(0, .ref mO), (1, .int v0)] := hl
  refine lv_aload_n S.1 S.2.1 dX7_stand_0 rfl (lv_at hl 0 rfl) ?_
  refine lv_iload_n S.1 S.2.1 dX7_stand_1 rfl (lv_at hl 1 rfl) ?_
  refine cs_i (va_runV (As := [.int v0]) (rest := []) S (s_X7_signals l G mO mS _ mD mR mT mW mQ mC mU mV mt ma mn my mm mf mg fS gN v0 (hg) (hgN)) (cwV 1 S.2.2.2.2 gX7_stand_X7_signals rfl rfl rfl (by decide +kernel) ⟨Nat.le_of_ble_eq_true rfl, Nat.le_of_ble_eq_true rfl⟩) ⟨wPre_blind, va_recv C.1 w.1 (ci := 7) (q0 := 0) rfl rfl, wPre_at C w [0, 1] rfl rfl⟩ rfl rfl hl.1 rfl (lv_room (Nat.le_of_ble_eq_true rfl)) dX7_stand_2 ⟨Nat.le_of_ble_eq_true rfl, Nat.le_of_ble_eq_true rfl⟩) (fun r2 h2 => ?_)
  refine w_topi (y := (sgM fS v0 gN)) h2 ?_
  refine lv_istore_n (lv' := [(2, .int (sgM fS v0 gN)), (0, .ref mO), (1, .int v0)]) S.1 S.2.1 dX7_stand_5 rfl hl (by decide) rfl (fun ls hl => ?_)
  refine lv_iconst (v := 0) S.1 S.2.1 dX7_stand_6 (by decide) ?_
  refine lv_istore_n (lv' := [(3, .int 0), (2, .int (sgM fS v0 gN)), (0, .ref mO), (1, .int v0)]) S.1 S.2.1 dX7_stand_7 rfl hl (by decide) rfl (fun ls hl => ?_)
  refine lv_iconst (v := 0) S.1 S.2.1 dX7_stand_8 (by decide) ?_
  refine lv_istore (lv' := [(4, .int 0), (3, .int 0), (2, .int (sgM fS v0 gN)), (0, .ref mO), (1, .int v0)]) S.1 S.2.1 dX7_stand_9 hl (by decide) rfl (fun ls hl => ?_)
  refine w_loopS (σ := Nat × Int32) (nL := 5) 11 (fun x11 => oN - x11.1) (fun x11 => x11.1 ≤ oN ∧ x11.2 = st2 fS (sgM fS v0 gN) x11.1) (fun x11 => [(4, .int (nI x11.1)), (3, .int x11.2), (2, .int (sgM fS v0 gN)), (0, .ref mO), (1, .int v0)]) (fun _ => []) ?_ (0, 0) ls (⟨Nat.zero_le _, rfl⟩) (lv_sub hl [0, 1, 2, 3, 4] rfl)
  intro x11 ls hI11 hl ih11
  have hl : lv_has ls 5 [(4, .int (nI x11.1)), (3, .int x11.2), (2, .int (sgM fS v0 gN)), (0, .ref mO), (1, .int v0)] := hl
  have hA1 := hI11.1
  refine lv_iload S.1 S.2.1 dX7_stand_11 (lv_at hl 0 rfl) ?_
  refine lv_aload_n S.1 S.2.1 dX7_stand_13 rfl (lv_at hl 3 rfl) ?_
  refine w_get S C w (CC := RX7) (T := TX7) (N := 16) (ref := "GateSumsModel") im_X7_stand_X7 0 rfl rfl 0 (by decide) (List.mem_of_getElem? (i := 1) rfl) (fun _ h => h) rfl dX7_stand_14 ?_
  refine lv_iconst (v := 2) S.1 S.2.1 dX7_stand_17 (by decide) ?_
  refine w_iald S C w 1 rfl (by unfold vp_in; decide) dX7_stand_18 ?_
  refine w_topi (y := (nI oN)) (ho) ?_
  refine lv_icmp_ge (tgt := 48) S.1 S.2.1 dX7_stand_19 (by decide) (fun c19 => ?_) (fun c19 => ?_)
  · refine lv_iload_n S.1 S.2.1 dX7_stand_48 rfl (lv_at hl 1 rfl) ?_
    exact W.iret (v := x11.2) S.1 S.2.1 hr (fun t ht _ => ⟨x11.2, rfl, (by have e : x11.1 = oN := (by have h := c19; rw [nI_leI (by omega) (by omega)] at h; omega); rw [hI11.2, e]; rfl), ht⟩) (fun q h => absurd h List.not_mem_nil) dX7_stand_49
  · refine lv_iload_n S.1 S.2.1 dX7_stand_22 rfl (lv_at hl 1 rfl) ?_
    refine lv_iload_n S.1 S.2.1 dX7_stand_23 rfl (lv_at hl 2 rfl) ?_
    refine lv_aload_n S.1 S.2.1 dX7_stand_24 rfl (lv_at hl 3 rfl) ?_
    refine w_get S C w (CC := RX7) (T := TX7) (N := 16) (ref := "GateSumsModel") im_X7_stand_X7 0 rfl rfl 0 (by decide) (List.mem_of_getElem? (i := 1) rfl) (fun _ h => h) rfl dX7_stand_25 ?_
    refine lv_bipush (v := 42) S.1 S.2.1 dX7_stand_28 (by decide) ?_
    refine lv_iload S.1 S.2.1 dX7_stand_30 (lv_at hl 0 rfl) ?_
    refine lv_iadd S.1 S.2.1 dX7_stand_32 ?_
    refine w_iald S C w 1 rfl (ixA 42 _ (by have h := c19; rw [nI_leI (by omega) (by omega)] at h; omega)) dX7_stand_33 ?_
    refine w_topi (y := (fS (42 + x11.1))) (congrArg fS (ixc 42 _ (by have h := c19; rw [nI_leI (by omega) (by omega)] at h; omega))) ?_
    refine lv_ishr S.1 S.2.1 dX7_stand_34 ?_
    refine lv_iconst (v := 1) S.1 S.2.1 dX7_stand_35 (by decide) ?_
    refine lv_iand S.1 S.2.1 dX7_stand_36 ?_
    refine lv_iload S.1 S.2.1 dX7_stand_37 (lv_at hl 0 rfl) ?_
    refine lv_ishl S.1 S.2.1 dX7_stand_39 ?_
    refine lv_iadd S.1 S.2.1 dX7_stand_40 ?_
    refine lv_istore_n (lv' := [(3, .int (x11.2 + ((((sgM fS v0 gN) >>> ((fS (42 + x11.1)) &&& 31)) &&& 1) <<< ((nI x11.1) &&& 31)))), (4, .int (nI x11.1)), (2, .int (sgM fS v0 gN)), (0, .ref mO), (1, .int v0)]) S.1 S.2.1 dX7_stand_41 rfl hl (by decide) rfl (fun ls hl => ?_)
    refine lv_iinc (v := (nI (x11.1 + 1))) (lv' := [(4, .int (nI (x11.1 + 1))), (3, .int (x11.2 + ((((sgM fS v0 gN) >>> ((fS (42 + x11.1)) &&& 31)) &&& 1) <<< ((nI x11.1) &&& 31)))), (2, .int (sgM fS v0 gN)), (0, .ref mO), (1, .int v0)]) S.1 S.2.1 dX7_stand_42 hl (k := 1) rfl (nI_1 _) (by decide) rfl (fun ls hl => ?_)
    refine lv_goto (tgt := 11) S.1 S.2.1 dX7_stand_45 (by decide) ?_
    have hlt : x11.1 < oN := (by have h := c19; rw [nI_leI (by omega) (by omega)] at h; omega)
    exact ih11 (x11.1 + 1, (x11.2 + ((((sgM fS v0 gN) >>> ((fS (42 + x11.1)) &&& 31)) &&& 1) <<< ((nI x11.1) &&& 31)))) ls (⟨hlt, (by dsimp only; rw [hI11.2]; rfl)⟩) (by dsimp only; omega) (lv_sub hl [0, 1, 2, 3, 4] rfl)
set_option maxHeartbeats 4000000 in
set_option maxRecDepth 100000 in
theorem s_X7_task (l : Launch) (G : GT) (mO mS : Nat) (sz : Nat) (mD mR mT mW mQ mC mU mV : Nat) (mt ma mn my mm mf mg : Int32) (fS : Nat → Int32) (v0 : Int32) : Met l yX7_task wsX7_task ({ frames := 0, cells := 0, slots := 0, locals := 0 }) (va_Pc [.ref mO, .int v0] (wPre G [(mO, .inr (7, [.ref mS, .ref mD, .ref mR, .ref mT, .int mt, .int ma, .int mn, .ref mW, .ref mQ, .ref mC, .int my, .ref mU, .ref mV, .int mm, .int mf, .int mg])), (mS, .inl (G.2.1 2, 49, .inl fS))] sz)) (vp_Si (fun r : Int32 => r = (tkM fS v0))) 0 0 (fun _ => False) := by
  refine met_go (cc := cX7_task) (maxL := 5) (ret := (some .int)) (own := RX7) (by decide) rfl rfl (Nat.le_of_ble_eq_true rfl) ?_
  intro p e s m below meth c ls S hr hlocks hname hsz C w hl
  have hl : lv_has ls 5 [(0, .ref mO), (1, .int v0)] := hl
  refine lv_iload_n S.1 S.2.1 dX7_task_0 rfl (lv_at hl 1 rfl) ?_
  refine lv_iconst (v := 1) S.1 S.2.1 dX7_task_1 (by decide) ?_
  refine lv_aload_n S.1 S.2.1 dX7_task_2 rfl (lv_at hl 0 rfl) ?_
  refine w_get S C w (CC := RX7) (T := TX7) (N := 16) (ref := "GateSumsModel") im_X7_task_X7 0 rfl rfl 0 (by decide) (List.mem_of_getElem? (i := 1) rfl) (fun _ h => h) rfl dX7_task_3 ?_
  refine lv_iconst (v := 4) S.1 S.2.1 dX7_task_6 (by decide) ?_
  refine w_iald S C w 1 rfl (by unfold vp_in; decide) dX7_task_7 ?_
  refine lv_ishl S.1 S.2.1 dX7_task_8 ?_
  refine lv_iconst (v := 1) S.1 S.2.1 dX7_task_9 (by decide) ?_
  refine lv_isub S.1 S.2.1 dX7_task_10 ?_
  refine lv_iand S.1 S.2.1 dX7_task_11 ?_
  refine lv_istore_n (lv' := [(2, .int (v0 &&& (((1 : Int32) <<< ((fS (4 : Int32).toNatClampNeg) &&& 31)) - 1))), (0, .ref mO), (1, .int v0)]) S.1 S.2.1 dX7_task_12 rfl hl (by decide) rfl (fun ls hl => ?_)
  refine lv_iload_n S.1 S.2.1 dX7_task_13 rfl (lv_at hl 2 rfl) ?_
  refine lv_aload_n S.1 S.2.1 dX7_task_14 rfl (lv_at hl 1 rfl) ?_
  refine w_get S C w (CC := RX7) (T := TX7) (N := 16) (ref := "GateSumsModel") im_X7_task_X7 0 rfl rfl 0 (by decide) (List.mem_of_getElem? (i := 1) rfl) (fun _ h => h) rfl dX7_task_15 ?_
  refine lv_iconst (v := 4) S.1 S.2.1 dX7_task_18 (by decide) ?_
  refine w_iald S C w 1 rfl (by unfold vp_in; decide) dX7_task_19 ?_
  refine lv_ishr S.1 S.2.1 dX7_task_20 ?_
  refine lv_iconst (v := 1) S.1 S.2.1 dX7_task_21 (by decide) ?_
  refine lv_aload_n S.1 S.2.1 dX7_task_22 rfl (lv_at hl 1 rfl) ?_
  refine w_get S C w (CC := RX7) (T := TX7) (N := 16) (ref := "GateSumsModel") im_X7_task_X7 0 rfl rfl 0 (by decide) (List.mem_of_getElem? (i := 1) rfl) (fun _ h => h) rfl dX7_task_23 ?_
  refine lv_iconst (v := 5) S.1 S.2.1 dX7_task_26 (by decide) ?_
  refine w_iald S C w 1 rfl (by unfold vp_in; decide) dX7_task_27 ?_
  refine lv_ishl S.1 S.2.1 dX7_task_28 ?_
  refine lv_iconst (v := 1) S.1 S.2.1 dX7_task_29 (by decide) ?_
  refine lv_isub S.1 S.2.1 dX7_task_30 ?_
  refine lv_iand S.1 S.2.1 dX7_task_31 ?_
  refine lv_istore_n (lv' := [(3, .int ((v0 >>> ((fS (4 : Int32).toNatClampNeg) &&& 31)) &&& (((1 : Int32) <<< ((fS (5 : Int32).toNatClampNeg) &&& 31)) - 1))), (2, .int (v0 &&& (((1 : Int32) <<< ((fS (4 : Int32).toNatClampNeg) &&& 31)) - 1))), (0, .ref mO), (1, .int v0)]) S.1 S.2.1 dX7_task_32 rfl hl (by decide) rfl (fun ls hl => ?_)
  refine lv_aload_n S.1 S.2.1 dX7_task_33 rfl (lv_at hl 2 rfl) ?_
  refine w_get S C w (CC := RX7) (T := TX7) (N := 16) (ref := "GateSumsModel") im_X7_task_X7 0 rfl rfl 0 (by decide) (List.mem_of_getElem? (i := 1) rfl) (fun _ h => h) rfl dX7_task_34 ?_
  refine lv_iconst (v := 3) S.1 S.2.1 dX7_task_37 (by decide) ?_
  refine w_iald S C w 1 rfl (by unfold vp_in; decide) dX7_task_38 ?_
  refine lv_istore (lv' := [(4, .int (fS (3 : Int32).toNatClampNeg)), (3, .int ((v0 >>> ((fS (4 : Int32).toNatClampNeg) &&& 31)) &&& (((1 : Int32) <<< ((fS (5 : Int32).toNatClampNeg) &&& 31)) - 1))), (2, .int (v0 &&& (((1 : Int32) <<< ((fS (4 : Int32).toNatClampNeg) &&& 31)) - 1))), (0, .ref mO), (1, .int v0)]) S.1 S.2.1 dX7_task_39 hl (by decide) rfl (fun ls hl => ?_)
  refine lv_iload S.1 S.2.1 dX7_task_41 (lv_at hl 0 rfl) ?_
  refine lv_if_ne (tgt := 52) S.1 S.2.1 dX7_task_43 (by decide) (fun c43 => ?_) (fun c43 => ?_)
  · refine lv_iload S.1 S.2.1 dX7_task_52 (lv_at hl 0 rfl) ?_
    refine lv_iconst (v := 1) S.1 S.2.1 dX7_task_54 (by decide) ?_
    refine lv_icmp_ne (tgt := 64) S.1 S.2.1 dX7_task_55 (by decide) (fun c55 => ?_) (fun c55 => ?_)
    · refine lv_iload S.1 S.2.1 dX7_task_64 (lv_at hl 0 rfl) ?_
      refine lv_iconst (v := 2) S.1 S.2.1 dX7_task_66 (by decide) ?_
      refine lv_icmp_ne (tgt := 78) S.1 S.2.1 dX7_task_67 (by decide) (fun c67 => ?_) (fun c67 => ?_)
      · refine lv_iconst (v := 3) S.1 S.2.1 dX7_task_78 (by decide) ?_
        refine lv_iload_n S.1 S.2.1 dX7_task_79 rfl (lv_at hl 2 rfl) ?_
        refine lv_imul S.1 S.2.1 dX7_task_80 ?_
        refine lv_iload_n S.1 S.2.1 dX7_task_81 rfl (lv_at hl 1 rfl) ?_
        refine lv_isub S.1 S.2.1 dX7_task_82 ?_
        exact W.iret (v := ((3 * (v0 &&& (((1 : Int32) <<< ((fS (4 : Int32).toNatClampNeg) &&& 31)) - 1))) - ((v0 >>> ((fS (4 : Int32).toNatClampNeg) &&& 31)) &&& (((1 : Int32) <<< ((fS (5 : Int32).toNatClampNeg) &&& 31)) - 1)))) S.1 S.2.1 hr (fun t ht _ => ⟨((3 * (v0 &&& (((1 : Int32) <<< ((fS (4 : Int32).toNatClampNeg) &&& 31)) - 1))) - ((v0 >>> ((fS (4 : Int32).toNatClampNeg) &&& 31)) &&& (((1 : Int32) <<< ((fS (5 : Int32).toNatClampNeg) &&& 31)) - 1))), rfl, by first | exact (if_pos c43).symm | exact ((if_neg c43).trans (if_pos c55)).symm | exact ((if_neg c43).trans ((if_neg c55).trans (if_pos c67))).symm | exact ((if_neg c43).trans ((if_neg c55).trans (if_neg c67))).symm, ht⟩) (fun q h => absurd h List.not_mem_nil) dX7_task_83
      · refine lv_iload_n S.1 S.2.1 dX7_task_70 rfl (lv_at hl 2 rfl) ?_
        refine lv_iload_n S.1 S.2.1 dX7_task_71 rfl (lv_at hl 2 rfl) ?_
        refine lv_imul S.1 S.2.1 dX7_task_72 ?_
        refine lv_iload_n S.1 S.2.1 dX7_task_73 rfl (lv_at hl 1 rfl) ?_
        refine lv_iadd S.1 S.2.1 dX7_task_74 ?_
        refine lv_goto (tgt := 83) S.1 S.2.1 dX7_task_75 (by decide) ?_
        exact W.iret (v := (((v0 &&& (((1 : Int32) <<< ((fS (4 : Int32).toNatClampNeg) &&& 31)) - 1)) * (v0 &&& (((1 : Int32) <<< ((fS (4 : Int32).toNatClampNeg) &&& 31)) - 1))) + ((v0 >>> ((fS (4 : Int32).toNatClampNeg) &&& 31)) &&& (((1 : Int32) <<< ((fS (5 : Int32).toNatClampNeg) &&& 31)) - 1)))) S.1 S.2.1 hr (fun t ht _ => ⟨(((v0 &&& (((1 : Int32) <<< ((fS (4 : Int32).toNatClampNeg) &&& 31)) - 1)) * (v0 &&& (((1 : Int32) <<< ((fS (4 : Int32).toNatClampNeg) &&& 31)) - 1))) + ((v0 >>> ((fS (4 : Int32).toNatClampNeg) &&& 31)) &&& (((1 : Int32) <<< ((fS (5 : Int32).toNatClampNeg) &&& 31)) - 1))), rfl, by first | exact (if_pos c43).symm | exact ((if_neg c43).trans (if_pos c55)).symm | exact ((if_neg c43).trans ((if_neg c55).trans (if_pos c67))).symm | exact ((if_neg c43).trans ((if_neg c55).trans (if_neg c67))).symm, ht⟩) (fun q h => absurd h List.not_mem_nil) dX7_task_83
    · refine lv_iload_n S.1 S.2.1 dX7_task_58 rfl (lv_at hl 2 rfl) ?_
      refine lv_iload_n S.1 S.2.1 dX7_task_59 rfl (lv_at hl 1 rfl) ?_
      refine lv_imul S.1 S.2.1 dX7_task_60 ?_
      refine lv_goto (tgt := 83) S.1 S.2.1 dX7_task_61 (by decide) ?_
      exact W.iret (v := ((v0 &&& (((1 : Int32) <<< ((fS (4 : Int32).toNatClampNeg) &&& 31)) - 1)) * ((v0 >>> ((fS (4 : Int32).toNatClampNeg) &&& 31)) &&& (((1 : Int32) <<< ((fS (5 : Int32).toNatClampNeg) &&& 31)) - 1)))) S.1 S.2.1 hr (fun t ht _ => ⟨((v0 &&& (((1 : Int32) <<< ((fS (4 : Int32).toNatClampNeg) &&& 31)) - 1)) * ((v0 >>> ((fS (4 : Int32).toNatClampNeg) &&& 31)) &&& (((1 : Int32) <<< ((fS (5 : Int32).toNatClampNeg) &&& 31)) - 1))), rfl, by first | exact (if_pos c43).symm | exact ((if_neg c43).trans (if_pos c55)).symm | exact ((if_neg c43).trans ((if_neg c55).trans (if_pos @c67))).symm | exact ((if_neg c43).trans ((if_neg c55).trans (if_neg @c67))).symm, ht⟩) (fun q h => absurd h List.not_mem_nil) dX7_task_83
  · refine lv_iload_n S.1 S.2.1 dX7_task_46 rfl (lv_at hl 2 rfl) ?_
    refine lv_iload_n S.1 S.2.1 dX7_task_47 rfl (lv_at hl 1 rfl) ?_
    refine lv_iadd S.1 S.2.1 dX7_task_48 ?_
    refine lv_goto (tgt := 83) S.1 S.2.1 dX7_task_49 (by decide) ?_
    exact W.iret (v := ((v0 &&& (((1 : Int32) <<< ((fS (4 : Int32).toNatClampNeg) &&& 31)) - 1)) + ((v0 >>> ((fS (4 : Int32).toNatClampNeg) &&& 31)) &&& (((1 : Int32) <<< ((fS (5 : Int32).toNatClampNeg) &&& 31)) - 1)))) S.1 S.2.1 hr (fun t ht _ => ⟨((v0 &&& (((1 : Int32) <<< ((fS (4 : Int32).toNatClampNeg) &&& 31)) - 1)) + ((v0 >>> ((fS (4 : Int32).toNatClampNeg) &&& 31)) &&& (((1 : Int32) <<< ((fS (5 : Int32).toNatClampNeg) &&& 31)) - 1))), rfl, by first | exact (if_pos c43).symm | exact ((if_neg c43).trans (if_pos @c55)).symm | exact ((if_neg c43).trans ((if_neg @c55).trans (if_pos @c67))).symm | exact ((if_neg c43).trans ((if_neg @c55).trans (if_neg @c67))).symm, ht⟩) (fun q h => absurd h List.not_mem_nil) dX7_task_83
set_option maxHeartbeats 4000000 in
set_option maxRecDepth 100000 in
theorem s_X7_wrongOnes (l : Launch) (G : GT) (mO mS : Nat) (sz : Nat) (mD mR mT mW mQ mC mU mV : Nat) (mt ma mn my mm mf mg : Int32) (fS : Nat → Int32) (gN oN : Nat) (z0 : Int32) (hg : fS 1 = nI gN) (hgN : gN ≤ 12) (ho : fS 2 = nI oN) (hoN : oN ≤ 7) : Met l yX7_wrongOnes wsX7_wrongOnes ({ frames := 3, cells := 0, slots := 0, locals := 73 }) (va_Pc [.ref mO, .int z0] (wPre G [(mO, .inr (7, [.ref mS, .ref mD, .ref mR, .ref mT, .int mt, .int ma, .int mn, .ref mW, .ref mQ, .ref mC, .int my, .ref mU, .ref mV, .int mm, .int mf, .int mg])), (mS, .inl (G.2.1 2, 49, .inl fS))] sz)) (vp_Si (fun r : Int32 => r = (if z0 = 0 then foldF (countW1 (wqM fS gN oN)) (allN (fS 0)) 0 else firstW (wqM fS gN oN) (allN (fS 0)) 0))) 0 0 (fun _ => False) := by
  refine met_go (cc := cX7_wrongOnes) (maxL := 4) (ret := (some .int)) (own := RX7) (by decide) rfl rfl (Nat.le_of_ble_eq_true rfl) ?_
  intro p e s m below meth c ls S hr hlocks hname hsz C w hl
  have hl : lv_has ls 4 [(0, .ref mO), (1, .int z0)] := hl
  refine lv_iconst (v := 0) S.1 S.2.1 dX7_wrongOnes_0 (by decide) ?_
  refine lv_istore_n (lv' := [(2, .int 0), (0, .ref mO), (1, .int z0)]) S.1 S.2.1 dX7_wrongOnes_1 rfl hl (by decide) rfl (fun ls hl => ?_)
  refine lv_iconst (v := 0) S.1 S.2.1 dX7_wrongOnes_2 (by decide) ?_
  refine lv_istore_n (lv' := [(3, .int 0), (2, .int 0), (0, .ref mO), (1, .int z0)]) S.1 S.2.1 dX7_wrongOnes_3 rfl hl (by decide) rfl (fun ls hl => ?_)
  refine w_loopS (σ := Nat × Int32) (nL := 4) 4 (fun x4 => (allN (fS 0)) - x4.1) (fun x4 => x4.1 ≤ (allN (fS 0)) ∧ x4.2 = (if z0 = 0 then foldF (countW1 (wqM fS gN oN)) x4.1 0 else 0) ∧ (¬ z0 = 0 → firstW (wqM fS gN oN) (allN (fS 0)) 0 = firstW (wqM fS gN oN) ((allN (fS 0)) - x4.1) x4.1)) (fun x4 => [(3, .int (nI x4.1)), (2, .int x4.2), (0, .ref mO), (1, .int z0)]) (fun _ => []) ?_ (0, 0) ls (⟨Nat.zero_le _, (by by_cases h : z0 = 0; rw [if_pos h]; rfl; rw [if_neg h]), fun _ => rfl⟩) (lv_sub hl [0, 1, 2, 3] rfl)
  intro x4 ls hI4 hl ih4
  have hl : lv_has ls 4 [(3, .int (nI x4.1)), (2, .int x4.2), (0, .ref mO), (1, .int z0)] := hl
  have hA1 := hI4.1
  refine lv_iload_n S.1 S.2.1 dX7_wrongOnes_4 rfl (lv_at hl 0 rfl) ?_
  refine lv_iconst (v := 1) S.1 S.2.1 dX7_wrongOnes_5 (by decide) ?_
  refine lv_aload_n S.1 S.2.1 dX7_wrongOnes_6 rfl (lv_at hl 2 rfl) ?_
  refine w_get S C w (CC := RX7) (T := TX7) (N := 16) (ref := "GateSumsModel") im_X7_wrongOnes_X7 0 rfl rfl 0 (by decide) (List.mem_of_getElem? (i := 1) rfl) (fun _ h => h) rfl dX7_wrongOnes_7 ?_
  refine lv_iconst (v := 0) S.1 S.2.1 dX7_wrongOnes_10 (by decide) ?_
  refine w_iald S C w 1 rfl (by unfold vp_in; decide) dX7_wrongOnes_11 ?_
  refine lv_ishl S.1 S.2.1 dX7_wrongOnes_12 ?_
  refine lv_icmp_ge (tgt := 44) S.1 S.2.1 dX7_wrongOnes_13 (by decide) (fun c13 => ?_) (fun c13 => ?_)
  · refine lv_iload_n S.1 S.2.1 dX7_wrongOnes_44 rfl (lv_at hl 3 rfl) ?_
    refine lv_if_eq (tgt := 52) S.1 S.2.1 dX7_wrongOnes_45 (by decide) (fun c45 => ?_) (fun c45 => ?_)
    · refine lv_iload_n S.1 S.2.1 dX7_wrongOnes_52 rfl (lv_at hl 1 rfl) ?_
      exact W.iret (v := x4.2) S.1 S.2.1 hr (fun t ht _ => ⟨x4.2, rfl, (by have e : x4.1 = allN (fS 0) := Nat.le_antisymm hI4.1 (cge (by have := allN_lt (fS 0); omega) c13); first | (rw [if_neg c45, hI4.2.2 c45, e, Nat.sub_self]; rfl) | (rw [if_pos c45, hI4.2.1, if_pos c45, e])), ht⟩) (fun q h => absurd h List.not_mem_nil) dX7_wrongOnes_53
    · refine lv_iconst (v := (-1)) S.1 S.2.1 dX7_wrongOnes_48 (by decide) ?_
      refine lv_goto (tgt := 53) S.1 S.2.1 dX7_wrongOnes_49 (by decide) ?_
      exact W.iret (v := (-1)) S.1 S.2.1 hr (fun t ht _ => ⟨(-1), rfl, (by have e : x4.1 = allN (fS 0) := Nat.le_antisymm hI4.1 (cge (by have := allN_lt (fS 0); omega) c13); first | (rw [if_neg c45, hI4.2.2 c45, e, Nat.sub_self]; rfl) | (rw [if_pos c45, hI4.2.1, if_pos c45, e])), ht⟩) (fun q h => absurd h List.not_mem_nil) dX7_wrongOnes_53
  · refine lv_aload_n S.1 S.2.1 dX7_wrongOnes_16 rfl (lv_at hl 2 rfl) ?_
    refine lv_iload_n S.1 S.2.1 dX7_wrongOnes_17 rfl (lv_at hl 0 rfl) ?_
    refine cs_i (va_runV (As := [.int (nI x4.1)]) (rest := []) S (s_X7_stand l G mO mS _ mD mR mT mW mQ mC mU mV mt ma mn my mm mf mg fS gN oN (nI x4.1) (hg) (hgN) (ho) (hoN)) (cwV 1 S.2.2.2.2 gX7_wrongOnes_X7_stand rfl rfl rfl (by decide +kernel) ⟨Nat.le_of_ble_eq_true rfl, Nat.le_of_ble_eq_true rfl⟩) ⟨wPre_blind, va_recv C.1 w.1 (ci := 7) (q0 := 0) rfl rfl, wPre_at C w [0, 1] rfl rfl⟩ rfl rfl hl.1 rfl (lv_room (Nat.le_of_ble_eq_true rfl)) dX7_wrongOnes_18 ⟨Nat.le_of_ble_eq_true rfl, Nat.le_of_ble_eq_true rfl⟩) (fun r18 h18 => ?_)
    refine w_topi (y := (stM fS (nI x4.1) gN oN)) h18 ?_
    refine lv_aload_n S.1 S.2.1 dX7_wrongOnes_21 rfl (lv_at hl 2 rfl) ?_
    refine lv_iload_n S.1 S.2.1 dX7_wrongOnes_22 rfl (lv_at hl 0 rfl) ?_
    refine cs_i (va_runV (As := [.int (nI x4.1)]) (rest := [.int (stM fS (nI x4.1) gN oN)]) S (s_X7_task l G mO mS _ mD mR mT mW mQ mC mU mV mt ma mn my mm mf mg fS (nI x4.1)) (cwV 1 S.2.2.2.2 gX7_wrongOnes_X7_task rfl rfl rfl (by decide +kernel) ⟨Nat.le_of_ble_eq_true rfl, Nat.le_of_ble_eq_true rfl⟩) ⟨wPre_blind, va_recv C.1 w.1 (ci := 7) (q0 := 0) rfl rfl, wPre_at C w [0, 1] rfl rfl⟩ rfl rfl hl.1 rfl (lv_room (Nat.le_of_ble_eq_true rfl)) dX7_wrongOnes_23 ⟨Nat.le_of_ble_eq_true rfl, Nat.le_of_ble_eq_true rfl⟩) (fun r23 h23 => ?_)
    refine w_topi (y := (tkM fS (nI x4.1))) h23 ?_
    refine lv_icmp_eq (tgt := 38) S.1 S.2.1 dX7_wrongOnes_26 (by decide) (fun c26 => ?_) (fun c26 => ?_)
    · refine lv_iinc (v := (nI (x4.1 + 1))) (lv' := [(3, .int (nI (x4.1 + 1))), (2, .int x4.2), (0, .ref mO), (1, .int z0)]) S.1 S.2.1 dX7_wrongOnes_38 hl (k := 0) rfl (nI_1 _) (by decide) rfl (fun ls hl => ?_)
      refine lv_goto (tgt := 4) S.1 S.2.1 dX7_wrongOnes_41 (by decide) ?_
      have hlt : x4.1 < (allN (fS 0)) := clt (by have := allN_lt (fS 0); omega) c13
      exact ih4 (x4.1 + 1, x4.2) ls (wrong_step hlt hI4 (by unfold wqM; first | (rw [if_pos c26]; exact Or.inl ⟨rfl, rfl⟩) | (rw [if_neg c26]; exact Or.inr ⟨by decide, @c30, rfl⟩))) (by dsimp only; omega) (lv_sub hl [0, 1, 2, 3] rfl)
    · refine lv_iload_n S.1 S.2.1 dX7_wrongOnes_29 rfl (lv_at hl 3 rfl) ?_
      refine lv_if_eq (tgt := 35) S.1 S.2.1 dX7_wrongOnes_30 (by decide) (fun c30 => ?_) (fun c30 => ?_)
      · refine lv_iinc (v := (x4.2 + 1)) (lv' := [(2, .int (x4.2 + 1)), (3, .int (nI x4.1)), (0, .ref mO), (1, .int z0)]) S.1 S.2.1 dX7_wrongOnes_35 hl (k := 1) rfl (rfl) (by decide) rfl (fun ls hl => ?_)
        refine lv_iinc (v := (nI (x4.1 + 1))) (lv' := [(3, .int (nI (x4.1 + 1))), (2, .int (x4.2 + 1)), (0, .ref mO), (1, .int z0)]) S.1 S.2.1 dX7_wrongOnes_38 hl (k := 1) rfl (nI_1 _) (by decide) rfl (fun ls hl => ?_)
        refine lv_goto (tgt := 4) S.1 S.2.1 dX7_wrongOnes_41 (by decide) ?_
        have hlt : x4.1 < (allN (fS 0)) := clt (by have := allN_lt (fS 0); omega) c13
        exact ih4 (x4.1 + 1, (x4.2 + 1)) ls (wrong_step hlt hI4 (by unfold wqM; first | (rw [if_pos c26]; exact Or.inl ⟨rfl, rfl⟩) | (rw [if_neg c26]; exact Or.inr ⟨by decide, c30, rfl⟩))) (by dsimp only; omega) (lv_sub hl [0, 1, 2, 3] rfl)
      · refine lv_iload_n S.1 S.2.1 dX7_wrongOnes_33 rfl (lv_at hl 0 rfl) ?_
        exact W.iret (v := (nI x4.1)) S.1 S.2.1 hr (fun t ht _ => ⟨(nI x4.1), rfl, (by rw [if_neg c30, hI4.2.2 c30]; exact (firstW_at (clt (by have := allN_lt (fS 0); omega) c13) (by unfold wqM; rw [if_neg c26]; decide)).symm), ht⟩) (fun q h => absurd h List.not_mem_nil) dX7_wrongOnes_34
