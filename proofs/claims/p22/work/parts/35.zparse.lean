set_option maxHeartbeats 4000000 in
set_option maxRecDepth 100000 in
theorem z_X3_advance (l : Launch) (G : GT) (aRd aT aB : Nat) (sz : Nat) (rF rS : Int32) (tN cN : Nat) (fB : Nat → Int32) (htN : tN ≤ 120) (hcN : cN ≤ tN) : Met l yX3_advance wsX3_advance ({ frames := 1, cells := 0, slots := 0, locals := 21 }) (va_Pc [.ref aRd] (wPre G [(aRd, .inr (3, [.ref aT, .int rF, .int (nI cN), .int rS])), (aT, .inr (5, [.ref aB, .int (nI tN)])), (aB, .inl (G.2.1 0, 120, .inl fB))] sz)) (va_Qv (fun u : Unit => True) (bW G (va_A [(aRd, .inr (3, [.ref aT, .int rF, .int (nI cN), .int rS])), (aT, .inr (5, [.ref aB, .int (nI tN)])), (aB, .inl (G.2.1 0, 120, .inl fB))] sz) (fun u : Unit => [(aRd, .inr (3, [.ref aT, .int (nI (sk tN fB cN)), .int (nI (toB tN fB (sk tN fB cN))), .int (sortF (bA tN fB (sk tN fB cN)))])), (aT, .inr (5, [.ref aB, .int (nI tN)])), (aB, .inl (G.2.1 0, 120, .inl fB))])) (va_A [(aRd, .inr (3, [.ref aT, .int rF, .int (nI cN), .int rS])), (aT, .inr (5, [.ref aB, .int (nI tN)])), (aB, .inl (G.2.1 0, 120, .inl fB))] sz)) 0 0 (va_A [(aRd, .inr (3, [.ref aT, .int rF, .int (nI cN), .int rS])), (aT, .inr (5, [.ref aB, .int (nI tN)])), (aB, .inl (G.2.1 0, 120, .inl fB))] sz) := by
  refine met_go (cc := cX3_advance) (maxL := 2) (ret := none) (own := RX3) (by decide) rfl rfl (Nat.le_of_ble_eq_true rfl) ?_
  intro p e s m below meth c ls S hr hlocks hname hsz C w hl
  have hl : lv_has ls 2 [(0, .ref aRd)] := hl
  refine lv_aload_n S.1 S.2.1 dX3_advance_0 rfl (lv_at hl 0 rfl) ?_
  refine lv_aload_n S.1 S.2.1 dX3_advance_1 rfl (lv_at hl 0 rfl) ?_
  refine w_get S C w (CC := RX3) (T := TX3) (N := 4) (ref := "GateSums$Reader") im_X3_advance_X3 0 rfl rfl 2 (by decide) (List.mem_of_getElem? (i := 1) rfl) (fun _ h => h) rfl dX3_advance_2 ?_
  refine w_put S C w (CC := RX3) (T := TX3) (N := 4) (ref := "GateSums$Reader") im_X3_advance_X3 tyX3 tyX3_ok nmX3 0 rfl rfl 1 (by decide) (List.mem_of_getElem? (i := 2) rfl) (fun _ h => h) rfl (ws2 := [(aRd, .inr (3, [.ref aT, .int (nI cN), .int (nI cN), .int rS])), (aT, .inr (5, [.ref aB, .int (nI tN)])), (aB, .inl (G.2.1 0, 120, .inl fB))]) (rfl) (rfl) (Nat.le_of_ble_eq_true rfl) rfl dX3_advance_5 (fun H locs w => ?_)
  refine w_loop (G := G) (σ := Nat) (nL := 2) 8 (fun x8 => tN - x8) (fun x8 => cN ≤ x8 ∧ x8 ≤ tN ∧ ∀ j, cN ≤ j → j < x8 → bA tN fB j = 32) (fun x8 => [(aRd, .inr (3, [.ref aT, .int (nI x8), .int (nI cN), .int rS])), (aT, .inr (5, [.ref aB, .int (nI tN)])), (aB, .inl (G.2.1 0, 120, .inl fB))]) (fun x8 => [(0, .ref aRd)]) (fun _ => []) ?_ cN ls _ _ (⟨Nat.le_refl _, hcN, fun j h1 h2 => absurd h2 (by omega)⟩) w (lv_sub hl [0] rfl)
  intro x8 ls H locs hI8 w hl ih8
  have w : Wd G _ s [(aRd, .inr (3, [.ref aT, .int (nI x8), .int (nI cN), .int rS])), (aT, .inr (5, [.ref aB, .int (nI tN)])), (aB, .inl (G.2.1 0, 120, .inl fB))] H locs := w
  have hl : lv_has ls 2 [(0, .ref aRd)] := hl
  have hA1 := hI8.1
  have hA2 := hI8.2.1
  refine lv_aload_n S.1 S.2.1 dX3_advance_8 rfl (lv_at hl 0 rfl) ?_
  refine w_join0 51 [] (x8 = (sk tN fB cN)) (fun hz51 => ?_) (fun J51 => ?_)
  · have hB := sk_le (f := fB) hcN
    have w : Wd G (va_A [(aRd, .inr (3, [.ref aT, .int rF, .int (nI cN), .int rS])), (aT, .inr (5, [.ref aB, .int (nI tN)])), (aB, .inl (G.2.1 0, 120, .inl fB))] sz) s [(aRd, .inr (3, [.ref aT, .int (nI (sk tN fB cN)), .int (nI cN), .int rS])), (aT, .inr (5, [.ref aB, .int (nI tN)])), (aB, .inl (G.2.1 0, 120, .inl fB))] H locs := by rw [show (nI x8) = (nI (sk tN fB cN)) from congrArg nI hz51] at w; exact w
    refine lv_aload_n S.1 S.2.1 dX3_advance_51 rfl (lv_at hl 0 rfl) ?_
    refine lv_aload_n S.1 S.2.1 dX3_advance_52 rfl (lv_at hl 0 rfl) ?_
    refine w_get S C w (CC := RX3) (T := TX3) (N := 4) (ref := "GateSums$Reader") im_X3_advance_X3 0 rfl rfl 0 (by decide) (List.mem_of_getElem? (i := 3) rfl) (fun _ h => h) rfl dX3_advance_53 ?_
    refine lv_aload_n S.1 S.2.1 dX3_advance_56 rfl (lv_at hl 0 rfl) ?_
    refine w_get S C w (CC := RX3) (T := TX3) (N := 4) (ref := "GateSums$Reader") im_X3_advance_X3 0 rfl rfl 1 (by decide) (List.mem_of_getElem? (i := 2) rfl) (fun _ h => h) rfl dX3_advance_57 ?_
    refine cs_i (va_runV (As := [.int (nI (sk tN fB cN))]) (rest := [.ref aRd]) S (c_X5_byteAt l G aT aB _ (nI tN) fB (nI (sk tN fB cN))) (cwV 1 S.2.2.2.2 gX3_advance_X5_byteAt rfl rfl rfl (by decide +kernel) ⟨Nat.le_of_ble_eq_true rfl, Nat.le_of_ble_eq_true rfl⟩) ⟨wPre_blind, va_recv C.1 w.1 (ci := 5) (q0 := 1) rfl rfl, wPre_at C w [1, 2] rfl rfl⟩ rfl rfl hl.1 rfl (lv_room (Nat.le_of_ble_eq_true rfl)) dX3_advance_60 ⟨Nat.le_of_ble_eq_true rfl, Nat.le_of_ble_eq_true rfl⟩) (fun r60 h60 => ?_)
    refine w_topi (y := (byteAtF (nI tN) fB (nI (sk tN fB cN)))) h60 ?_
    refine w_topi (y := (bA tN fB (sk tN fB cN))) (byteAtC htN (by omega)) ?_
    refine cs_i (va_runS (As := [.int (bA tN fB (sk tN fB cN))]) (rest := [.ref aRd]) S (c_X3_sortOf l G _ (bA tN fB (sk tN fB cN))) (va_cwS 1 S.2.2.2.2 gX3_advance_X3_sortOf rfl rfl rfl (by decide +kernel) ⟨Nat.le_of_ble_eq_true rfl, Nat.le_of_ble_eq_true rfl⟩) ⟨wPre_blind, wPre_at C w [] rfl rfl⟩ rfl rfl hl.1 rfl (lv_room (Nat.le_of_ble_eq_true rfl)) dX3_advance_63 ⟨Nat.le_of_ble_eq_true rfl, Nat.le_of_ble_eq_true rfl⟩) (fun r63 h63 => ?_)
    refine w_topi (y := (sortOfF (bA tN fB (sk tN fB cN)))) h63 ?_
    refine w_topi (y := (sortF (bA tN fB (sk tN fB cN)))) (sortO_eq _) ?_
    refine w_put S C w (CC := RX3) (T := TX3) (N := 4) (ref := "GateSums$Reader") im_X3_advance_X3 tyX3 tyX3_ok nmX3 0 rfl rfl 3 (by decide) (List.mem_of_getElem? (i := 5) rfl) (fun _ h => h) rfl (ws2 := [(aRd, .inr (3, [.ref aT, .int (nI (sk tN fB cN)), .int (nI cN), .int (sortF (bA tN fB (sk tN fB cN)))])), (aT, .inr (5, [.ref aB, .int (nI tN)])), (aB, .inl (G.2.1 0, 120, .inl fB))]) (rfl) (rfl) (Nat.le_of_ble_eq_true rfl) rfl dX3_advance_66 (fun H locs w => ?_)
    refine lv_aload_n S.1 S.2.1 dX3_advance_69 rfl (lv_at hl 0 rfl) ?_
    refine lv_aload_n S.1 S.2.1 dX3_advance_70 rfl (lv_at hl 0 rfl) ?_
    refine w_get S C w (CC := RX3) (T := TX3) (N := 4) (ref := "GateSums$Reader") im_X3_advance_X3 0 rfl rfl 3 (by decide) (List.mem_of_getElem? (i := 5) rfl) (fun _ h => h) rfl dX3_advance_71 ?_
    refine w_joini 90 [.ref aRd] (fun z90 => ∃ k : Nat, z90 = nI k ∧ (((sortF (bA tN fB (sk tN fB cN))) = 0 ∧ k = (sk tN fB cN)) ∨ (¬ (sortF (bA tN fB (sk tN fB cN))) = 0 ∧ k = (sk tN fB cN) + 1))) (fun z90 hz90 => ?_) (fun J90 => ?_)
    · obtain ⟨kN, hke, hkk⟩ := hz90
      refine w_topi (y := (nI kN)) (hke) ?_
      refine w_put S C w (CC := RX3) (T := TX3) (N := 4) (ref := "GateSums$Reader") im_X3_advance_X3 tyX3 tyX3_ok nmX3 0 rfl rfl 2 (by decide) (List.mem_of_getElem? (i := 1) rfl) (fun _ h => h) rfl (ws2 := [(aRd, .inr (3, [.ref aT, .int (nI (sk tN fB cN)), .int (nI kN), .int (sortF (bA tN fB (sk tN fB cN)))])), (aT, .inr (5, [.ref aB, .int (nI tN)])), (aB, .inl (G.2.1 0, 120, .inl fB))]) (rfl) (rfl) (Nat.le_of_ble_eq_true rfl) rfl dX3_advance_90 (fun H locs w => ?_)
      refine w_joini 114 [] (fun z114 => (z114 = 1 ∧ ((sortF (bA tN fB (sk tN fB cN))) = 1 ∨ (sortF (bA tN fB (sk tN fB cN))) = 2)) ∨ (z114 = 0 ∧ ¬ ((sortF (bA tN fB (sk tN fB cN))) = 1 ∨ (sortF (bA tN fB (sk tN fB cN))) = 2))) (fun z114 hz114 => ?_) (fun J114 => ?_)
      · have hkt := kt_le hB hkk
        refine lv_istore_n (lv' := [(1, .int z114), (0, .ref aRd)]) S.1 S.2.1 dX3_advance_114 rfl hl (by decide) rfl (fun ls hl => ?_)
        refine w_loop (G := G) (σ := Nat) (nL := 2) 115 (fun x115 => tN - x115) (fun x115 => kN ≤ x115 ∧ x115 ≤ tN ∧ (z114 = 0 → x115 = kN) ∧ ∀ j, kN ≤ j → j < x115 → j < tN ∧ sortF (fB j) = (sortF (bA tN fB (sk tN fB cN)))) (fun x115 => [(aRd, .inr (3, [.ref aT, .int (nI (sk tN fB cN)), .int (nI x115), .int (sortF (bA tN fB (sk tN fB cN)))])), (aT, .inr (5, [.ref aB, .int (nI tN)])), (aB, .inl (G.2.1 0, 120, .inl fB))]) (fun x115 => [(1, .int z114), (0, .ref aRd)]) (fun _ => []) ?_ kN ls _ _ (⟨Nat.le_refl _, hkt, fun _ => rfl, fun j h1 h2 => absurd h2 (by omega)⟩) w (lv_sub hl [0, 1] rfl)
        intro x115 ls H locs hI115 w hl ih115
        have w : Wd G _ s [(aRd, .inr (3, [.ref aT, .int (nI (sk tN fB cN)), .int (nI x115), .int (sortF (bA tN fB (sk tN fB cN)))])), (aT, .inr (5, [.ref aB, .int (nI tN)])), (aB, .inl (G.2.1 0, 120, .inl fB))] H locs := w
        have hl : lv_has ls 2 [(1, .int z114), (0, .ref aRd)] := hl
        have hT1 := hI115.1
        have hT2 := hI115.2.1
        refine lv_iload_n S.1 S.2.1 dX3_advance_115 rfl (lv_at hl 0 rfl) ?_
        refine lv_if_eq (tgt := 167) S.1 S.2.1 dX3_advance_116 (by decide) (fun c116 => ?_) (fun c116 => ?_)
        · have w : Wd G (va_A [(aRd, .inr (3, [.ref aT, .int rF, .int (nI cN), .int rS])), (aT, .inr (5, [.ref aB, .int (nI tN)])), (aB, .inl (G.2.1 0, 120, .inl fB))] sz) s [(aRd, .inr (3, [.ref aT, .int (nI (sk tN fB cN)), .int (nI (toB tN fB (sk tN fB cN))), .int (sortF (bA tN fB (sk tN fB cN)))])), (aT, .inr (5, [.ref aB, .int (nI tN)])), (aB, .inl (G.2.1 0, 120, .inl fB))] H locs := by have e : x115 = toB tN fB (sk tN fB cN) := adv_end hkk hz114 hI115.1 hI115.2.2.2 hI115.2.2.1 (by first | exact Or.inl c116 | exact Or.inr (Or.inr @c151) | exact Or.inr (Or.inl (by have h := @c130; rw [nI_leI (by omega) (by omega)] at h; exact h))); rw [← e]; exact w
          exact W.vret S.1 S.2.1 hr (fun t ht _ => ⟨⟨(), rfl, trivial, by rw [ht]; exact w.1, w.2.1⟩, w.2.2.F ht⟩) w.2.2.2.2 dX3_advance_167
        · refine lv_aload_n S.1 S.2.1 dX3_advance_119 rfl (lv_at hl 1 rfl) ?_
          refine w_get S C w (CC := RX3) (T := TX3) (N := 4) (ref := "GateSums$Reader") im_X3_advance_X3 0 rfl rfl 2 (by decide) (List.mem_of_getElem? (i := 1) rfl) (fun _ h => h) rfl dX3_advance_120 ?_
          refine lv_aload_n S.1 S.2.1 dX3_advance_123 rfl (lv_at hl 1 rfl) ?_
          refine w_get S C w (CC := RX3) (T := TX3) (N := 4) (ref := "GateSums$Reader") im_X3_advance_X3 0 rfl rfl 0 (by decide) (List.mem_of_getElem? (i := 3) rfl) (fun _ h => h) rfl dX3_advance_124 ?_
          refine w_get S C w (CC := RX5) (T := TX5) (N := 2) (ref := "GateSums$Text") im_X3_advance_X5 1 rfl rfl 1 (by decide) (List.mem_of_getElem? (i := 4) rfl) (fun _ h => h) rfl dX3_advance_127 ?_
          refine lv_icmp_ge (tgt := 167) S.1 S.2.1 dX3_advance_130 (by decide) (fun c130 => ?_) (fun c130 => ?_)
          · have w : Wd G (va_A [(aRd, .inr (3, [.ref aT, .int rF, .int (nI cN), .int rS])), (aT, .inr (5, [.ref aB, .int (nI tN)])), (aB, .inl (G.2.1 0, 120, .inl fB))] sz) s [(aRd, .inr (3, [.ref aT, .int (nI (sk tN fB cN)), .int (nI (toB tN fB (sk tN fB cN))), .int (sortF (bA tN fB (sk tN fB cN)))])), (aT, .inr (5, [.ref aB, .int (nI tN)])), (aB, .inl (G.2.1 0, 120, .inl fB))] H locs := by have e : x115 = toB tN fB (sk tN fB cN) := adv_end hkk hz114 hI115.1 hI115.2.2.2 hI115.2.2.1 (by first | exact Or.inl c116 | exact Or.inr (Or.inr @c151) | exact Or.inr (Or.inl (by have h := c130; rw [nI_leI (by omega) (by omega)] at h; exact h))); rw [← e]; exact w
            exact W.vret S.1 S.2.1 hr (fun t ht _ => ⟨⟨(), rfl, trivial, by rw [ht]; exact w.1, w.2.1⟩, w.2.2.F ht⟩) w.2.2.2.2 dX3_advance_167
          · refine lv_aload_n S.1 S.2.1 dX3_advance_133 rfl (lv_at hl 1 rfl) ?_
            refine w_get S C w (CC := RX3) (T := TX3) (N := 4) (ref := "GateSums$Reader") im_X3_advance_X3 0 rfl rfl 0 (by decide) (List.mem_of_getElem? (i := 3) rfl) (fun _ h => h) rfl dX3_advance_134 ?_
            refine lv_aload_n S.1 S.2.1 dX3_advance_137 rfl (lv_at hl 1 rfl) ?_
            refine w_get S C w (CC := RX3) (T := TX3) (N := 4) (ref := "GateSums$Reader") im_X3_advance_X3 0 rfl rfl 2 (by decide) (List.mem_of_getElem? (i := 1) rfl) (fun _ h => h) rfl dX3_advance_138 ?_
            refine cs_i (va_runV (As := [.int (nI x115)]) (rest := []) S (c_X5_byteAt l G aT aB _ (nI tN) fB (nI x115)) (cwV 1 S.2.2.2.2 gX3_advance_X5_byteAt rfl rfl rfl (by decide +kernel) ⟨Nat.le_of_ble_eq_true rfl, Nat.le_of_ble_eq_true rfl⟩) ⟨wPre_blind, va_recv C.1 w.1 (ci := 5) (q0 := 1) rfl rfl, wPre_at C w [1, 2] rfl rfl⟩ rfl rfl hl.1 rfl (lv_room (Nat.le_of_ble_eq_true rfl)) dX3_advance_141 ⟨Nat.le_of_ble_eq_true rfl, Nat.le_of_ble_eq_true rfl⟩) (fun r141 h141 => ?_)
            refine w_topi (y := (byteAtF (nI tN) fB (nI x115))) h141 ?_
            refine w_topi (y := (bA tN fB x115)) (byteAtC htN (by omega)) ?_
            refine cs_i (va_runS (As := [.int (bA tN fB x115)]) (rest := []) S (c_X3_sortOf l G _ (bA tN fB x115)) (va_cwS 1 S.2.2.2.2 gX3_advance_X3_sortOf rfl rfl rfl (by decide +kernel) ⟨Nat.le_of_ble_eq_true rfl, Nat.le_of_ble_eq_true rfl⟩) ⟨wPre_blind, wPre_at C w [] rfl rfl⟩ rfl rfl hl.1 rfl (lv_room (Nat.le_of_ble_eq_true rfl)) dX3_advance_144 ⟨Nat.le_of_ble_eq_true rfl, Nat.le_of_ble_eq_true rfl⟩) (fun r144 h144 => ?_)
            refine w_topi (y := (sortOfF (bA tN fB x115))) h144 ?_
            refine w_topi (y := (sortF (bA tN fB x115))) (sortO_eq _) ?_
            refine lv_aload_n S.1 S.2.1 dX3_advance_147 rfl (lv_at hl 1 rfl) ?_
            refine w_get S C w (CC := RX3) (T := TX3) (N := 4) (ref := "GateSums$Reader") im_X3_advance_X3 0 rfl rfl 3 (by decide) (List.mem_of_getElem? (i := 5) rfl) (fun _ h => h) rfl dX3_advance_148 ?_
            refine lv_icmp_ne (tgt := 167) S.1 S.2.1 dX3_advance_151 (by decide) (fun c151 => ?_) (fun c151 => ?_)
            · have w : Wd G (va_A [(aRd, .inr (3, [.ref aT, .int rF, .int (nI cN), .int rS])), (aT, .inr (5, [.ref aB, .int (nI tN)])), (aB, .inl (G.2.1 0, 120, .inl fB))] sz) s [(aRd, .inr (3, [.ref aT, .int (nI (sk tN fB cN)), .int (nI (toB tN fB (sk tN fB cN))), .int (sortF (bA tN fB (sk tN fB cN)))])), (aT, .inr (5, [.ref aB, .int (nI tN)])), (aB, .inl (G.2.1 0, 120, .inl fB))] H locs := by have e : x115 = toB tN fB (sk tN fB cN) := adv_end hkk hz114 hI115.1 hI115.2.2.2 hI115.2.2.1 (by first | exact Or.inl c116 | exact Or.inr (Or.inr c151) | exact Or.inr (Or.inl (by have h := c130; rw [nI_leI (by omega) (by omega)] at h; exact h))); rw [← e]; exact w
              exact W.vret S.1 S.2.1 hr (fun t ht _ => ⟨⟨(), rfl, trivial, by rw [ht]; exact w.1, w.2.1⟩, w.2.2.F ht⟩) w.2.2.2.2 dX3_advance_167
            · refine lv_aload_n S.1 S.2.1 dX3_advance_154 rfl (lv_at hl 1 rfl) ?_
              refine lv_dup S.1 S.2.1 dX3_advance_155 rfl ?_
              refine w_get S C w (CC := RX3) (T := TX3) (N := 4) (ref := "GateSums$Reader") im_X3_advance_X3 0 rfl rfl 2 (by decide) (List.mem_of_getElem? (i := 1) rfl) (fun _ h => h) rfl dX3_advance_156 ?_
              refine lv_iconst (v := 1) S.1 S.2.1 dX3_advance_159 (by decide) ?_
              refine lv_iadd S.1 S.2.1 dX3_advance_160 ?_
              refine w_topi (y := (nI (x115 + 1))) (nI_1 _) ?_
              refine w_put S C w (CC := RX3) (T := TX3) (N := 4) (ref := "GateSums$Reader") im_X3_advance_X3 tyX3 tyX3_ok nmX3 0 rfl rfl 2 (by decide) (List.mem_of_getElem? (i := 1) rfl) (fun _ h => h) rfl (ws2 := [(aRd, .inr (3, [.ref aT, .int (nI (sk tN fB cN)), .int (nI (x115 + 1)), .int (sortF (bA tN fB (sk tN fB cN)))])), (aT, .inr (5, [.ref aB, .int (nI tN)])), (aB, .inl (G.2.1 0, 120, .inl fB))]) (rfl) (rfl) (Nat.le_of_ble_eq_true rfl) rfl dX3_advance_161 (fun H locs w => ?_)
              refine lv_goto (tgt := 115) S.1 S.2.1 dX3_advance_164 (by decide) ?_
              have hlt : x115 < tN := by have h := c130; rw [nI_leI (by omega) (by omega)] at h; omega
              exact ih115 (x115 + 1) ls _ _ (⟨by omega, hlt, fun q => absurd q c116, rw_step hI115.2.2.2 hlt c151⟩) (by omega) w (lv_sub hl [0, 1] rfl)
      · refine lv_aload_n S.1 S.2.1 dX3_advance_93 rfl (lv_at hl 0 rfl) ?_
        refine w_get S C w (CC := RX3) (T := TX3) (N := 4) (ref := "GateSums$Reader") im_X3_advance_X3 0 rfl rfl 3 (by decide) (List.mem_of_getElem? (i := 5) rfl) (fun _ h => h) rfl dX3_advance_94 ?_
        refine lv_iconst (v := 1) S.1 S.2.1 dX3_advance_97 (by decide) ?_
        refine lv_icmp_eq (tgt := 109) S.1 S.2.1 dX3_advance_98 (by decide) (fun c98 => ?_) (fun c98 => ?_)
        · refine lv_iconst (v := 1) S.1 S.2.1 dX3_advance_109 (by decide) ?_
          refine lv_goto (tgt := 114) S.1 S.2.1 dX3_advance_110 (by decide) ?_
          exact J114 1 (by first | exact Or.inl ⟨rfl, Or.inl c98⟩ | exact Or.inl ⟨rfl, Or.inr @c106⟩ | exact Or.inr ⟨rfl, fun q => Or.elim q c98 @c106⟩)
        · refine lv_aload_n S.1 S.2.1 dX3_advance_101 rfl (lv_at hl 0 rfl) ?_
          refine w_get S C w (CC := RX3) (T := TX3) (N := 4) (ref := "GateSums$Reader") im_X3_advance_X3 0 rfl rfl 3 (by decide) (List.mem_of_getElem? (i := 5) rfl) (fun _ h => h) rfl dX3_advance_102 ?_
          refine lv_iconst (v := 2) S.1 S.2.1 dX3_advance_105 (by decide) ?_
          refine lv_icmp_ne (tgt := 113) S.1 S.2.1 dX3_advance_106 (by decide) (fun c106 => ?_) (fun c106 => ?_)
          · refine lv_iconst (v := 0) S.1 S.2.1 dX3_advance_113 (by decide) ?_
            exact J114 0 (by first | exact Or.inl ⟨rfl, Or.inl c98⟩ | exact Or.inl ⟨rfl, Or.inr c106⟩ | exact Or.inr ⟨rfl, fun q => Or.elim q c98 c106⟩)
          · refine lv_iconst (v := 1) S.1 S.2.1 dX3_advance_109 (by decide) ?_
            refine lv_goto (tgt := 114) S.1 S.2.1 dX3_advance_110 (by decide) ?_
            exact J114 1 (by first | exact Or.inl ⟨rfl, Or.inl c98⟩ | exact Or.inl ⟨rfl, Or.inr c106⟩ | exact Or.inr ⟨rfl, fun q => Or.elim q c98 c106⟩)
    · refine lv_if_ne (tgt := 84) S.1 S.2.1 dX3_advance_74 (by decide) (fun c74 => ?_) (fun c74 => ?_)
      · refine lv_aload_n S.1 S.2.1 dX3_advance_84 rfl (lv_at hl 0 rfl) ?_
        refine w_get S C w (CC := RX3) (T := TX3) (N := 4) (ref := "GateSums$Reader") im_X3_advance_X3 0 rfl rfl 1 (by decide) (List.mem_of_getElem? (i := 2) rfl) (fun _ h => h) rfl dX3_advance_85 ?_
        refine lv_iconst (v := 1) S.1 S.2.1 dX3_advance_88 (by decide) ?_
        refine lv_iadd S.1 S.2.1 dX3_advance_89 ?_
        exact J90 ((nI (sk tN fB cN)) + 1) (by first | exact ⟨_, rfl, Or.inl ⟨c74, rfl⟩⟩ | exact ⟨_, nI_1 _, Or.inr ⟨c74, rfl⟩⟩)
      · refine lv_aload_n S.1 S.2.1 dX3_advance_77 rfl (lv_at hl 0 rfl) ?_
        refine w_get S C w (CC := RX3) (T := TX3) (N := 4) (ref := "GateSums$Reader") im_X3_advance_X3 0 rfl rfl 1 (by decide) (List.mem_of_getElem? (i := 2) rfl) (fun _ h => h) rfl dX3_advance_78 ?_
        refine lv_goto (tgt := 90) S.1 S.2.1 dX3_advance_81 (by decide) ?_
        exact J90 (nI (sk tN fB cN)) (by first | exact ⟨_, rfl, Or.inl ⟨c74, rfl⟩⟩ | exact ⟨_, nI_1 _, Or.inr ⟨c74, rfl⟩⟩)
  · refine w_get S C w (CC := RX3) (T := TX3) (N := 4) (ref := "GateSums$Reader") im_X3_advance_X3 0 rfl rfl 1 (by decide) (List.mem_of_getElem? (i := 2) rfl) (fun _ h => h) rfl dX3_advance_9 ?_
    refine lv_aload_n S.1 S.2.1 dX3_advance_12 rfl (lv_at hl 0 rfl) ?_
    refine w_get S C w (CC := RX3) (T := TX3) (N := 4) (ref := "GateSums$Reader") im_X3_advance_X3 0 rfl rfl 0 (by decide) (List.mem_of_getElem? (i := 3) rfl) (fun _ h => h) rfl dX3_advance_13 ?_
    refine w_get S C w (CC := RX5) (T := TX5) (N := 2) (ref := "GateSums$Text") im_X3_advance_X5 1 rfl rfl 1 (by decide) (List.mem_of_getElem? (i := 4) rfl) (fun _ h => h) rfl dX3_advance_16 ?_
    refine lv_icmp_ge (tgt := 51) S.1 S.2.1 dX3_advance_19 (by decide) (fun c19 => ?_) (fun c19 => ?_)
    · exact J51 (by first | exact sk_uniq hI8.1 @c35 hI8.2.2 | exact sk_end hI8.1 hI8.2.1 hI8.2.2 (by have h := c19; rw [nI_leI (by omega) (by omega)] at h; exact h))
    · refine lv_aload_n S.1 S.2.1 dX3_advance_22 rfl (lv_at hl 0 rfl) ?_
      refine w_get S C w (CC := RX3) (T := TX3) (N := 4) (ref := "GateSums$Reader") im_X3_advance_X3 0 rfl rfl 0 (by decide) (List.mem_of_getElem? (i := 3) rfl) (fun _ h => h) rfl dX3_advance_23 ?_
      refine lv_aload_n S.1 S.2.1 dX3_advance_26 rfl (lv_at hl 0 rfl) ?_
      refine w_get S C w (CC := RX3) (T := TX3) (N := 4) (ref := "GateSums$Reader") im_X3_advance_X3 0 rfl rfl 1 (by decide) (List.mem_of_getElem? (i := 2) rfl) (fun _ h => h) rfl dX3_advance_27 ?_
      refine cs_i (va_runV (As := [.int (nI x8)]) (rest := []) S (c_X5_byteAt l G aT aB _ (nI tN) fB (nI x8)) (cwV 1 S.2.2.2.2 gX3_advance_X5_byteAt rfl rfl rfl (by decide +kernel) ⟨Nat.le_of_ble_eq_true rfl, Nat.le_of_ble_eq_true rfl⟩) ⟨wPre_blind, va_recv C.1 w.1 (ci := 5) (q0 := 1) rfl rfl, wPre_at C w [1, 2] rfl rfl⟩ rfl rfl hl.1 rfl (lv_room (Nat.le_of_ble_eq_true rfl)) dX3_advance_30 ⟨Nat.le_of_ble_eq_true rfl, Nat.le_of_ble_eq_true rfl⟩) (fun r30 h30 => ?_)
      refine w_topi (y := (byteAtF (nI tN) fB (nI x8))) h30 ?_
      refine w_topi (y := (bA tN fB x8)) (byteAtC htN (by omega)) ?_
      refine lv_bipush (v := 32) S.1 S.2.1 dX3_advance_33 (by decide) ?_
      refine lv_icmp_ne (tgt := 51) S.1 S.2.1 dX3_advance_35 (by decide) (fun c35 => ?_) (fun c35 => ?_)
      · exact J51 (by first | exact sk_uniq hI8.1 c35 hI8.2.2 | exact sk_end hI8.1 hI8.2.1 hI8.2.2 (by have h := c19; rw [nI_leI (by omega) (by omega)] at h; exact h))
      · refine lv_aload_n S.1 S.2.1 dX3_advance_38 rfl (lv_at hl 0 rfl) ?_
        refine lv_dup S.1 S.2.1 dX3_advance_39 rfl ?_
        refine w_get S C w (CC := RX3) (T := TX3) (N := 4) (ref := "GateSums$Reader") im_X3_advance_X3 0 rfl rfl 1 (by decide) (List.mem_of_getElem? (i := 2) rfl) (fun _ h => h) rfl dX3_advance_40 ?_
        refine lv_iconst (v := 1) S.1 S.2.1 dX3_advance_43 (by decide) ?_
        refine lv_iadd S.1 S.2.1 dX3_advance_44 ?_
        refine w_topi (y := (nI (x8 + 1))) (nI_1 _) ?_
        refine w_put S C w (CC := RX3) (T := TX3) (N := 4) (ref := "GateSums$Reader") im_X3_advance_X3 tyX3 tyX3_ok nmX3 0 rfl rfl 1 (by decide) (List.mem_of_getElem? (i := 2) rfl) (fun _ h => h) rfl (ws2 := [(aRd, .inr (3, [.ref aT, .int (nI (x8 + 1)), .int (nI cN), .int rS])), (aT, .inr (5, [.ref aB, .int (nI tN)])), (aB, .inl (G.2.1 0, 120, .inl fB))]) (rfl) (rfl) (Nat.le_of_ble_eq_true rfl) rfl dX3_advance_45 (fun H locs w => ?_)
        refine lv_goto (tgt := 8) S.1 S.2.1 dX3_advance_48 (by decide) ?_
        have hlt : x8 < tN := bA_lt c35 (by decide)
        exact ih8 (x8 + 1) ls _ _ (⟨by omega, hlt, sp_step hI8.2.2 c35⟩) (by omega) w (lv_sub hl [0] rfl)
set_option maxHeartbeats 4000000 in
set_option maxRecDepth 100000 in
theorem z_X3_isWord (l : Launch) (G : GT) (aRd aT aB : Nat) (sz : Nat) (tN aN : Nat) (fB : Nat → Int32) (kS : Nat) (htN : tN ≤ 120) (haN : aN ≤ tN) (hk : kS < 16) : Met l yX3_isWord wsX3_isWord ({ frames := 4, cells := 0, slots := 0, locals := 85 }) (va_Pc [.ref aRd, .ref (G.2.2.2.1 kS)] (wPre G [(aRd, .inr (3, [.ref aT, .int (nI (sk tN fB aN)), .int (nI (toB tN fB (sk tN fB aN))), .int (sortF (bA tN fB (sk tN fB aN)))])), (aT, .inr (5, [.ref aB, .int (nI tN)])), (aB, .inl (G.2.1 0, 120, .inl fB))] sz)) (vp_Si (fun r : Int32 => (r = 1 ∧ CW tN fB (kj kS) (sk tN fB aN)) ∨ (r = 0 ∧ ¬ CW tN fB (kj kS) (sk tN fB aN)))) 0 0 (fun _ => False) := by
  refine met_go (cc := cX3_isWord) (maxL := 3) (ret := (some .boolean)) (own := RX3) (by decide) rfl rfl (Nat.le_of_ble_eq_true rfl) ?_
  intro p e s m below meth c ls S hr hlocks hname hsz C w hl
  have hB := sk_le (f := fB) haN
  have hBT := toB_ge tN fB (sk tN fB aN)
  have hT := toB_le (f := fB) hB
  have hl : lv_has ls 3 [(0, .ref aRd), (1, .ref (G.2.2.2.1 kS))] := hl
  refine lv_aload_n S.1 S.2.1 dX3_isWord_0 rfl (lv_at hl 0 rfl) ?_
  refine w_get S C w (CC := RX3) (T := TX3) (N := 4) (ref := "GateSums$Reader") im_X3_isWord_X3 0 rfl rfl 3 (by decide) (List.mem_of_getElem? (i := 1) rfl) (fun _ h => h) rfl dX3_isWord_1 ?_
  refine lv_iconst (v := 1) S.1 S.2.1 dX3_isWord_4 (by decide) ?_
  refine lv_icmp_ne (tgt := 24) S.1 S.2.1 dX3_isWord_5 (by decide) (fun c5 => ?_) (fun c5 => ?_)
  · refine lv_iconst (v := 0) S.1 S.2.1 dX3_isWord_24 (by decide) ?_
    exact W.zret (v := 0) S.1 S.2.1 hr (rfl) (fun t ht _ => ⟨0, rfl, by first | exact Or.inr ⟨rfl, cw_len hk @c21⟩ | exact Or.inr ⟨rfl, cw_sort (kj_lt _ hk) c5⟩, ht⟩) (fun q h => absurd h List.not_mem_nil) dX3_isWord_25
  · refine lv_aload_n S.1 S.2.1 dX3_isWord_8 rfl (lv_at hl 0 rfl) ?_
    refine w_get S C w (CC := RX3) (T := TX3) (N := 4) (ref := "GateSums$Reader") im_X3_isWord_X3 0 rfl rfl 2 (by decide) (List.mem_of_getElem? (i := 2) rfl) (fun _ h => h) rfl dX3_isWord_9 ?_
    refine lv_aload_n S.1 S.2.1 dX3_isWord_12 rfl (lv_at hl 0 rfl) ?_
    refine w_get S C w (CC := RX3) (T := TX3) (N := 4) (ref := "GateSums$Reader") im_X3_isWord_X3 0 rfl rfl 1 (by decide) (List.mem_of_getElem? (i := 3) rfl) (fun _ h => h) rfl dX3_isWord_13 ?_
    refine lv_isub S.1 S.2.1 dX3_isWord_16 ?_
    refine w_topi (y := (nI ((toB tN fB (sk tN fB aN)) - (sk tN fB aN)))) (pk_sub hBT) ?_
    refine lv_aload_n S.1 S.2.1 dX3_isWord_17 rfl (lv_at hl 1 rfl) ?_
    refine cs_i (va_runV (As := []) (rest := [.int (nI ((toB tN fB (sk tN fB aN)) - (sk tN fB aN)))]) S (c_J0_length_8abf5 l G _ kS (hk)) (cwV 0 S.2.2.2.2 gX3_isWord_J0_length_8abf5 rfl rfl rfl (by decide +kernel) ⟨Nat.le_of_ble_eq_true rfl, Nat.le_of_ble_eq_true rfl⟩) ⟨wPre_blind, vk_recv C.2.2.1.2.1 hk w.2.2, wPre_at C w [] rfl rfl⟩ rfl rfl hl.1 rfl (lv_room (Nat.le_of_ble_eq_true rfl)) dX3_isWord_18 ⟨Nat.le_of_ble_eq_true rfl, Nat.le_of_ble_eq_true rfl⟩) (fun r18 h18 => ?_)
    refine w_topi (y := (Int32.ofNat (slen kS))) h18 ?_
    refine lv_icmp_eq (tgt := 26) S.1 S.2.1 dX3_isWord_21 (by decide) (fun c21 => ?_) (fun c21 => ?_)
    · refine lv_iconst (v := 0) S.1 S.2.1 dX3_isWord_26 (by decide) ?_
      refine lv_istore_n (lv' := [(2, .int 0), (0, .ref aRd), (1, .ref (G.2.2.2.1 kS))]) S.1 S.2.1 dX3_isWord_27 rfl hl (by decide) rfl (fun ls hl => ?_)
      refine w_loopS (σ := Nat) (nL := 3) 28 (fun x28 => slen kS - x28) (fun x28 => x28 ≤ slen kS ∧ ∀ i, i < x28 → bA tN fB ((sk tN fB aN) + i) = wch (kj kS) i) (fun x28 => [(2, .int (nI x28)), (0, .ref aRd), (1, .ref (G.2.2.2.1 kS))]) (fun _ => []) ?_ 0 ls (⟨Nat.zero_le _, fun i h => absurd h (Nat.not_lt_zero i)⟩) (lv_sub hl [0, 1, 2] rfl)
      intro x28 ls hI28 hl ih28
      have hl : lv_has ls 3 [(2, .int (nI x28)), (0, .ref aRd), (1, .ref (G.2.2.2.1 kS))] := hl
      have hs28 : slen kS ≤ 7 := by rw [slen_w kS hk]; exact wln_le _ (kj_lt _ hk)
      have hj28 := hI28.1
      refine lv_iload_n S.1 S.2.1 dX3_isWord_28 rfl (lv_at hl 0 rfl) ?_
      refine lv_aload_n S.1 S.2.1 dX3_isWord_29 rfl (lv_at hl 2 rfl) ?_
      refine cs_i (va_runV (As := []) (rest := [.int (nI x28)]) S (c_J0_length_8abf5 l G _ kS (hk)) (cwV 0 S.2.2.2.2 gX3_isWord_J0_length_8abf5 rfl rfl rfl (by decide +kernel) ⟨Nat.le_of_ble_eq_true rfl, Nat.le_of_ble_eq_true rfl⟩) ⟨wPre_blind, vk_recv C.2.2.1.2.1 hk w.2.2, wPre_at C w [] rfl rfl⟩ rfl rfl hl.1 rfl (lv_room (Nat.le_of_ble_eq_true rfl)) dX3_isWord_30 ⟨Nat.le_of_ble_eq_true rfl, Nat.le_of_ble_eq_true rfl⟩) (fun r30 h30 => ?_)
      refine w_topi (y := (Int32.ofNat (slen kS))) h30 ?_
      refine lv_icmp_ge (tgt := 65) S.1 S.2.1 dX3_isWord_33 (by decide) (fun c33 => ?_) (fun c33 => ?_)
      · refine lv_iconst (v := 1) S.1 S.2.1 dX3_isWord_65 (by decide) ?_
        exact W.zret (v := 1) S.1 S.2.1 hr (rfl) (fun t ht _ => ⟨1, rfl, Or.inl ⟨rfl, cw_yes hk c5 c21 (by omega) (str_ge hk (by omega) c33) hI28.2⟩, ht⟩) (fun q h => absurd h List.not_mem_nil) dX3_isWord_66
      · refine lv_aload_n S.1 S.2.1 dX3_isWord_36 rfl (lv_at hl 1 rfl) ?_
        refine w_get S C w (CC := RX3) (T := TX3) (N := 4) (ref := "GateSums$Reader") im_X3_isWord_X3 0 rfl rfl 0 (by decide) (List.mem_of_getElem? (i := 4) rfl) (fun _ h => h) rfl dX3_isWord_37 ?_
        refine lv_aload_n S.1 S.2.1 dX3_isWord_40 rfl (lv_at hl 1 rfl) ?_
        refine w_get S C w (CC := RX3) (T := TX3) (N := 4) (ref := "GateSums$Reader") im_X3_isWord_X3 0 rfl rfl 1 (by decide) (List.mem_of_getElem? (i := 3) rfl) (fun _ h => h) rfl dX3_isWord_41 ?_
        refine lv_iload_n S.1 S.2.1 dX3_isWord_44 rfl (lv_at hl 0 rfl) ?_
        refine lv_iadd S.1 S.2.1 dX3_isWord_45 ?_
        refine w_topi (y := (nI ((sk tN fB aN) + x28))) (nI_add _ _) ?_
        refine cs_i (va_runV (As := [.int (nI ((sk tN fB aN) + x28))]) (rest := []) S (c_X5_byteAt l G aT aB _ (nI tN) fB (nI ((sk tN fB aN) + x28))) (cwV 1 S.2.2.2.2 gX3_isWord_X5_byteAt rfl rfl rfl (by decide +kernel) ⟨Nat.le_of_ble_eq_true rfl, Nat.le_of_ble_eq_true rfl⟩) ⟨wPre_blind, va_recv C.1 w.1 (ci := 5) (q0 := 1) rfl rfl, wPre_at C w [1, 2] rfl rfl⟩ rfl rfl hl.1 rfl (lv_room (Nat.le_of_ble_eq_true rfl)) dX3_isWord_46 ⟨Nat.le_of_ble_eq_true rfl, Nat.le_of_ble_eq_true rfl⟩) (fun r46 h46 => ?_)
        refine w_topi (y := (byteAtF (nI tN) fB (nI ((sk tN fB aN) + x28)))) h46 ?_
        refine w_topi (y := (bA tN fB ((sk tN fB aN) + x28))) (byteAtC htN (by omega)) ?_
        refine lv_aload_n S.1 S.2.1 dX3_isWord_49 rfl (lv_at hl 2 rfl) ?_
        refine lv_iload_n S.1 S.2.1 dX3_isWord_50 rfl (lv_at hl 0 rfl) ?_
        refine cs_i (va_runV (As := [.int (nI x28)]) (rest := [.int (bA tN fB ((sk tN fB aN) + x28))]) S (c_J0_charAt_5068e l G _ kS (nI x28) (hk) (str_in hk (by omega) c33)) (cwV 1 S.2.2.2.2 gX3_isWord_J0_charAt_5068e rfl rfl rfl (by decide +kernel) ⟨Nat.le_of_ble_eq_true rfl, Nat.le_of_ble_eq_true rfl⟩) ⟨wPre_blind, vk_recv C.2.2.1.2.1 hk w.2.2, wPre_at C w [] rfl rfl⟩ rfl rfl hl.1 rfl (lv_room (Nat.le_of_ble_eq_true rfl)) dX3_isWord_51 ⟨Nat.le_of_ble_eq_true rfl, Nat.le_of_ble_eq_true rfl⟩) (fun r51 h51 => ?_)
        refine w_topi (y := ((sbyt kS (nI x28).toNatClampNeg &&& 255).toUInt32 % 65536).toInt32) h51 ?_
        refine w_topi (y := (wch (kj kS) x28)) ((by rw [nIc (by omega)]; exact ch_w kS hk _ (str_lt hk (by omega) c33))) ?_
        refine lv_icmp_eq (tgt := 59) S.1 S.2.1 dX3_isWord_54 (by decide) (fun c54 => ?_) (fun c54 => ?_)
        · refine lv_iinc (v := (nI (x28 + 1))) (lv' := [(2, .int (nI (x28 + 1))), (0, .ref aRd), (1, .ref (G.2.2.2.1 kS))]) S.1 S.2.1 dX3_isWord_59 hl (k := 0) rfl (nI_1 _) (by decide) rfl (fun ls hl => ?_)
          refine lv_goto (tgt := 28) S.1 S.2.1 dX3_isWord_62 (by decide) ?_
          have hlt := str_lt hk (by omega) c33
          exact ih28 (x28 + 1) ls (⟨hlt, wd_step (P := fun i => bA tN fB ((sk tN fB aN) + i) = wch (kj kS) i) hI28.2 c54⟩) (by omega) (lv_sub hl [0, 1, 2] rfl)
        · refine lv_iconst (v := 0) S.1 S.2.1 dX3_isWord_57 (by decide) ?_
          exact W.zret (v := 0) S.1 S.2.1 hr (rfl) (fun t ht _ => ⟨0, rfl, Or.inr ⟨rfl, fun q => c54 (q.1 _ (by rw [← slen_w kS hk]; exact str_lt hk (by omega) c33))⟩, ht⟩) (fun q h => absurd h List.not_mem_nil) dX3_isWord_58
    · refine lv_iconst (v := 0) S.1 S.2.1 dX3_isWord_24 (by decide) ?_
      exact W.zret (v := 0) S.1 S.2.1 hr (rfl) (fun t ht _ => ⟨0, rfl, by first | exact Or.inr ⟨rfl, cw_len hk c21⟩ | exact Or.inr ⟨rfl, cw_sort (kj_lt _ hk) c5⟩, ht⟩) (fun q h => absurd h List.not_mem_nil) dX3_isWord_25
set_option maxHeartbeats 4000000 in
set_option maxRecDepth 100000 in
theorem z_X3_takeWord (l : Launch) (G : GT) (aRd aT aB : Nat) (sz : Nat) (tN aN : Nat) (fB : Nat → Int32) (kS : Nat) (htN : tN ≤ 120) (haN : aN ≤ tN) (hk : kS < 16) : Met l yX3_takeWord wsX3_takeWord ({ frames := 5, cells := 0, slots := 0, locals := 107 }) (va_Pc [.ref aRd, .ref (G.2.2.2.1 kS)] (wPre G [(aRd, .inr (3, [.ref aT, .int (nI (sk tN fB aN)), .int (nI (toB tN fB (sk tN fB aN))), .int (sortF (bA tN fB (sk tN fB aN)))])), (aT, .inr (5, [.ref aB, .int (nI tN)])), (aB, .inl (G.2.1 0, 120, .inl fB))] sz)) (va_Qi (fun (r : Int32) (u : Nat) => ((r = 1 ∧ tkW tN fB (kj kS) aN = some u) ∨ (r = 0 ∧ tkW tN fB (kj kS) aN = none)) ∧ (r = 0 → u = aN) ∧ u ≤ tN) (bW G (va_A [(aRd, .inr (3, [.ref aT, .int (nI (sk tN fB aN)), .int (nI (toB tN fB (sk tN fB aN))), .int (sortF (bA tN fB (sk tN fB aN)))])), (aT, .inr (5, [.ref aB, .int (nI tN)])), (aB, .inl (G.2.1 0, 120, .inl fB))] sz) (fun u : Nat => [(aRd, .inr (3, [.ref aT, .int (nI (sk tN fB u)), .int (nI (toB tN fB (sk tN fB u))), .int (sortF (bA tN fB (sk tN fB u)))])), (aT, .inr (5, [.ref aB, .int (nI tN)])), (aB, .inl (G.2.1 0, 120, .inl fB))])) (va_A [(aRd, .inr (3, [.ref aT, .int (nI (sk tN fB aN)), .int (nI (toB tN fB (sk tN fB aN))), .int (sortF (bA tN fB (sk tN fB aN)))])), (aT, .inr (5, [.ref aB, .int (nI tN)])), (aB, .inl (G.2.1 0, 120, .inl fB))] sz)) 0 0 (va_A [(aRd, .inr (3, [.ref aT, .int (nI (sk tN fB aN)), .int (nI (toB tN fB (sk tN fB aN))), .int (sortF (bA tN fB (sk tN fB aN)))])), (aT, .inr (5, [.ref aB, .int (nI tN)])), (aB, .inl (G.2.1 0, 120, .inl fB))] sz) := by
  refine met_go (cc := cX3_takeWord) (maxL := 2) (ret := (some .boolean)) (own := RX3) (by decide) rfl rfl (Nat.le_of_ble_eq_true rfl) ?_
  intro p e s m below meth c ls S hr hlocks hname hsz C w hl
  have hB := sk_le (f := fB) haN
  have hBT := toB_ge tN fB (sk tN fB aN)
  have hT := toB_le (f := fB) hB
  have hl : lv_has ls 2 [(0, .ref aRd), (1, .ref (G.2.2.2.1 kS))] := hl
  refine lv_aload_n S.1 S.2.1 dX3_takeWord_0 rfl (lv_at hl 0 rfl) ?_
  refine lv_aload_n S.1 S.2.1 dX3_takeWord_1 rfl (lv_at hl 1 rfl) ?_
  refine cs_i (va_runV (As := [.ref (G.2.2.2.1 kS)]) (rest := []) S (z_X3_isWord l G aRd aT aB _ tN aN fB kS (htN) (haN) (hk)) (cwV 1 S.2.2.2.2 gX3_takeWord_X3_isWord rfl rfl rfl (by decide +kernel) ⟨Nat.le_of_ble_eq_true rfl, Nat.le_of_ble_eq_true rfl⟩) ⟨wPre_blind, va_recv C.1 w.1 (ci := 3) (q0 := 0) rfl rfl, wPre_at C w [0, 1, 2] rfl rfl⟩ rfl rfl hl.1 rfl (lv_room (Nat.le_of_ble_eq_true rfl)) dX3_takeWord_2 ⟨Nat.le_of_ble_eq_true rfl, Nat.le_of_ble_eq_true rfl⟩) (fun r2 h2 => ?_)
  refine lv_if_ne (tgt := 10) S.1 S.2.1 dX3_takeWord_5 (by decide) (fun c5 => ?_) (fun c5 => ?_)
  · refine lv_aload_n S.1 S.2.1 dX3_takeWord_10 rfl (lv_at hl 0 rfl) ?_
    refine cq_v C w [0, 1, 2] [] [0, 1, 2] (wr := []) (w' := fun u : Unit => [(aRd, .inr (3, [.ref aT, .int (nI (sk tN fB (toB tN fB (sk tN fB aN)))), .int (nI (toB tN fB (sk tN fB (toB tN fB (sk tN fB aN))))), .int (sortF (bA tN fB (sk tN fB (toB tN fB (sk tN fB aN)))))])), (aT, .inr (5, [.ref aB, .int (nI tN)])), (aB, .inl (G.2.1 0, 120, .inl fB))]) (ws2 := fun u : Unit => [(aRd, .inr (3, [.ref aT, .int (nI (sk tN fB (toB tN fB (sk tN fB aN)))), .int (nI (toB tN fB (sk tN fB (toB tN fB (sk tN fB aN))))), .int (sortF (bA tN fB (sk tN fB (toB tN fB (sk tN fB aN)))))])), (aT, .inr (5, [.ref aB, .int (nI tN)])), (aB, .inl (G.2.1 0, 120, .inl fB))]) rfl rfl rfl (by decide) rfl (fun _ => rfl) (va_runV (As := []) (rest := []) S (z_X3_advance l G aRd aT aB _ (nI (sk tN fB aN)) (sortF (bA tN fB (sk tN fB aN))) tN (toB tN fB (sk tN fB aN)) fB (htN) (hT)) (cwV 0 S.2.2.2.2 gX3_takeWord_X3_advance rfl rfl rfl (by decide +kernel) ⟨Nat.le_of_ble_eq_true rfl, Nat.le_of_ble_eq_true rfl⟩) ⟨wPre_blind, va_recv C.1 w.1 (ci := 3) (q0 := 0) rfl rfl, wPre_at C w [0, 1, 2] rfl rfl⟩ rfl rfl hl.1 rfl (lv_room (Nat.le_of_ble_eq_true rfl)) dX3_takeWord_11 ⟨Nat.le_of_ble_eq_true rfl, Nat.le_of_ble_eq_true rfl⟩) (fun u11 H locs h11 w => ?_)
    have w : Wd G _ s [(aRd, .inr (3, [.ref aT, .int (nI (sk tN fB (toB tN fB (sk tN fB aN)))), .int (nI (toB tN fB (sk tN fB (toB tN fB (sk tN fB aN))))), .int (sortF (bA tN fB (sk tN fB (toB tN fB (sk tN fB aN)))))])), (aT, .inr (5, [.ref aB, .int (nI tN)])), (aB, .inl (G.2.1 0, 120, .inl fB))] H locs := w
    refine lv_iconst (v := 1) S.1 S.2.1 dX3_takeWord_14 (by decide) ?_
    exact W.zret (v := 1) S.1 S.2.1 hr (rfl) (fun t ht _ => ⟨⟨1, (toB tN fB (sk tN fB aN)), rfl, ⟨Or.inl ⟨rfl, cw_to (kj_lt _ hk) (or_yes h2 c5)⟩, fun q => absurd q (by decide), hT⟩, by rw [ht]; exact w.1, w.2.1⟩, w.2.2.F ht⟩) w.2.2.2.2 dX3_takeWord_15
  · refine lv_iconst (v := 0) S.1 S.2.1 dX3_takeWord_8 (by decide) ?_
    exact W.zret (v := 0) S.1 S.2.1 hr (rfl) (fun t ht _ => ⟨⟨0, aN, rfl, ⟨Or.inr ⟨rfl, if_neg (or_not h2 c5)⟩, fun _ => rfl, haN⟩, by rw [ht]; exact w.1, w.2.1⟩, w.2.2.F ht⟩) w.2.2.2.2 dX3_takeWord_9
set_option maxHeartbeats 4000000 in
set_option maxRecDepth 100000 in
theorem z_X3_takeSemicolon (l : Launch) (G : GT) (aRd aT aB : Nat) (sz : Nat) (tN aN : Nat) (fB : Nat → Int32) (htN : tN ≤ 120) (haN : aN ≤ tN) : Met l yX3_takeSemicolon wsX3_takeSemicolon ({ frames := 2, cells := 0, slots := 0, locals := 42 }) (va_Pc [.ref aRd] (wPre G [(aRd, .inr (3, [.ref aT, .int (nI (sk tN fB aN)), .int (nI (toB tN fB (sk tN fB aN))), .int (sortF (bA tN fB (sk tN fB aN)))])), (aT, .inr (5, [.ref aB, .int (nI tN)])), (aB, .inl (G.2.1 0, 120, .inl fB))] sz)) (va_Qi (fun (r : Int32) (u : Nat) => ((r = 1 ∧ tkS tN fB aN = some u) ∨ (r = 0 ∧ tkS tN fB aN = none)) ∧ u ≤ tN) (bW G (va_A [(aRd, .inr (3, [.ref aT, .int (nI (sk tN fB aN)), .int (nI (toB tN fB (sk tN fB aN))), .int (sortF (bA tN fB (sk tN fB aN)))])), (aT, .inr (5, [.ref aB, .int (nI tN)])), (aB, .inl (G.2.1 0, 120, .inl fB))] sz) (fun u : Nat => [(aRd, .inr (3, [.ref aT, .int (nI (sk tN fB u)), .int (nI (toB tN fB (sk tN fB u))), .int (sortF (bA tN fB (sk tN fB u)))])), (aT, .inr (5, [.ref aB, .int (nI tN)])), (aB, .inl (G.2.1 0, 120, .inl fB))])) (va_A [(aRd, .inr (3, [.ref aT, .int (nI (sk tN fB aN)), .int (nI (toB tN fB (sk tN fB aN))), .int (sortF (bA tN fB (sk tN fB aN)))])), (aT, .inr (5, [.ref aB, .int (nI tN)])), (aB, .inl (G.2.1 0, 120, .inl fB))] sz)) 0 0 (va_A [(aRd, .inr (3, [.ref aT, .int (nI (sk tN fB aN)), .int (nI (toB tN fB (sk tN fB aN))), .int (sortF (bA tN fB (sk tN fB aN)))])), (aT, .inr (5, [.ref aB, .int (nI tN)])), (aB, .inl (G.2.1 0, 120, .inl fB))] sz) := by
  refine met_go (cc := cX3_takeSemicolon) (maxL := 1) (ret := (some .boolean)) (own := RX3) (by decide) rfl rfl (Nat.le_of_ble_eq_true rfl) ?_
  intro p e s m below meth c ls S hr hlocks hname hsz C w hl
  have hB := sk_le (f := fB) haN
  have hBT := toB_ge tN fB (sk tN fB aN)
  have hT := toB_le (f := fB) hB
  have hl : lv_has ls 1 [(0, .ref aRd)] := hl
  refine lv_aload_n S.1 S.2.1 dX3_takeSemicolon_0 rfl (lv_at hl 0 rfl) ?_
  refine w_get S C w (CC := RX3) (T := TX3) (N := 4) (ref := "GateSums$Reader") im_X3_takeSemicolon_X3 0 rfl rfl 3 (by decide) (List.mem_of_getElem? (i := 1) rfl) (fun _ h => h) rfl dX3_takeSemicolon_1 ?_
  refine lv_iconst (v := 3) S.1 S.2.1 dX3_takeSemicolon_4 (by decide) ?_
  refine lv_icmp_ne (tgt := 24) S.1 S.2.1 dX3_takeSemicolon_5 (by decide) (fun c5 => ?_) (fun c5 => ?_)
  · refine lv_iconst (v := 0) S.1 S.2.1 dX3_takeSemicolon_24 (by decide) ?_
    exact W.zret (v := 0) S.1 S.2.1 hr (rfl) (fun t ht _ => ⟨⟨0, aN, rfl, by first | exact ⟨Or.inr ⟨rfl, tkS_no @c21⟩, haN⟩ | exact ⟨Or.inr ⟨rfl, semi_sort c5⟩, haN⟩, by rw [ht]; exact w.1, w.2.1⟩, w.2.2.F ht⟩) w.2.2.2.2 dX3_takeSemicolon_25
  · refine lv_aload_n S.1 S.2.1 dX3_takeSemicolon_8 rfl (lv_at hl 0 rfl) ?_
    refine w_get S C w (CC := RX3) (T := TX3) (N := 4) (ref := "GateSums$Reader") im_X3_takeSemicolon_X3 0 rfl rfl 0 (by decide) (List.mem_of_getElem? (i := 2) rfl) (fun _ h => h) rfl dX3_takeSemicolon_9 ?_
    refine lv_aload_n S.1 S.2.1 dX3_takeSemicolon_12 rfl (lv_at hl 0 rfl) ?_
    refine w_get S C w (CC := RX3) (T := TX3) (N := 4) (ref := "GateSums$Reader") im_X3_takeSemicolon_X3 0 rfl rfl 1 (by decide) (List.mem_of_getElem? (i := 3) rfl) (fun _ h => h) rfl dX3_takeSemicolon_13 ?_
    refine cs_i (va_runV (As := [.int (nI (sk tN fB aN))]) (rest := []) S (c_X5_byteAt l G aT aB _ (nI tN) fB (nI (sk tN fB aN))) (cwV 1 S.2.2.2.2 gX3_takeSemicolon_X5_byteAt rfl rfl rfl (by decide +kernel) ⟨Nat.le_of_ble_eq_true rfl, Nat.le_of_ble_eq_true rfl⟩) ⟨wPre_blind, va_recv C.1 w.1 (ci := 5) (q0 := 1) rfl rfl, wPre_at C w [1, 2] rfl rfl⟩ rfl rfl hl.1 rfl (lv_room (Nat.le_of_ble_eq_true rfl)) dX3_takeSemicolon_16 ⟨Nat.le_of_ble_eq_true rfl, Nat.le_of_ble_eq_true rfl⟩) (fun r16 h16 => ?_)
    refine w_topi (y := (byteAtF (nI tN) fB (nI (sk tN fB aN)))) h16 ?_
    refine w_topi (y := (bA tN fB (sk tN fB aN))) (byteAtC htN (by omega)) ?_
    refine lv_bipush (v := 59) S.1 S.2.1 dX3_takeSemicolon_19 (by decide) ?_
    refine lv_icmp_eq (tgt := 26) S.1 S.2.1 dX3_takeSemicolon_21 (by decide) (fun c21 => ?_) (fun c21 => ?_)
    · refine lv_aload_n S.1 S.2.1 dX3_takeSemicolon_26 rfl (lv_at hl 0 rfl) ?_
      refine cq_v C w [0, 1, 2] [] [0, 1, 2] (wr := []) (w' := fun u : Unit => [(aRd, .inr (3, [.ref aT, .int (nI (sk tN fB (toB tN fB (sk tN fB aN)))), .int (nI (toB tN fB (sk tN fB (toB tN fB (sk tN fB aN))))), .int (sortF (bA tN fB (sk tN fB (toB tN fB (sk tN fB aN)))))])), (aT, .inr (5, [.ref aB, .int (nI tN)])), (aB, .inl (G.2.1 0, 120, .inl fB))]) (ws2 := fun u : Unit => [(aRd, .inr (3, [.ref aT, .int (nI (sk tN fB (toB tN fB (sk tN fB aN)))), .int (nI (toB tN fB (sk tN fB (toB tN fB (sk tN fB aN))))), .int (sortF (bA tN fB (sk tN fB (toB tN fB (sk tN fB aN)))))])), (aT, .inr (5, [.ref aB, .int (nI tN)])), (aB, .inl (G.2.1 0, 120, .inl fB))]) rfl rfl rfl (by decide) rfl (fun _ => rfl) (va_runV (As := []) (rest := []) S (z_X3_advance l G aRd aT aB _ (nI (sk tN fB aN)) (sortF (bA tN fB (sk tN fB aN))) tN (toB tN fB (sk tN fB aN)) fB (htN) (hT)) (cwV 0 S.2.2.2.2 gX3_takeSemicolon_X3_advance rfl rfl rfl (by decide +kernel) ⟨Nat.le_of_ble_eq_true rfl, Nat.le_of_ble_eq_true rfl⟩) ⟨wPre_blind, va_recv C.1 w.1 (ci := 3) (q0 := 0) rfl rfl, wPre_at C w [0, 1, 2] rfl rfl⟩ rfl rfl hl.1 rfl (lv_room (Nat.le_of_ble_eq_true rfl)) dX3_takeSemicolon_27 ⟨Nat.le_of_ble_eq_true rfl, Nat.le_of_ble_eq_true rfl⟩) (fun u27 H locs h27 w => ?_)
      have w : Wd G _ s [(aRd, .inr (3, [.ref aT, .int (nI (sk tN fB (toB tN fB (sk tN fB aN)))), .int (nI (toB tN fB (sk tN fB (toB tN fB (sk tN fB aN))))), .int (sortF (bA tN fB (sk tN fB (toB tN fB (sk tN fB aN)))))])), (aT, .inr (5, [.ref aB, .int (nI tN)])), (aB, .inl (G.2.1 0, 120, .inl fB))] H locs := w
      refine lv_iconst (v := 1) S.1 S.2.1 dX3_takeSemicolon_30 (by decide) ?_
      exact W.zret (v := 1) S.1 S.2.1 hr (rfl) (fun t ht _ => ⟨⟨1, (toB tN fB (sk tN fB aN)), rfl, ⟨Or.inl ⟨rfl, semi_to c21⟩, hT⟩, by rw [ht]; exact w.1, w.2.1⟩, w.2.2.F ht⟩) w.2.2.2.2 dX3_takeSemicolon_31
    · refine lv_iconst (v := 0) S.1 S.2.1 dX3_takeSemicolon_24 (by decide) ?_
      exact W.zret (v := 0) S.1 S.2.1 hr (rfl) (fun t ht _ => ⟨⟨0, aN, rfl, by first | exact ⟨Or.inr ⟨rfl, tkS_no c21⟩, haN⟩ | exact ⟨Or.inr ⟨rfl, semi_sort c5⟩, haN⟩, by rw [ht]; exact w.1, w.2.1⟩, w.2.2.F ht⟩) w.2.2.2.2 dX3_takeSemicolon_25
set_option maxHeartbeats 4000000 in
set_option maxRecDepth 100000 in
theorem z_X3_takeNumber (l : Launch) (G : GT) (aRd aT aB : Nat) (sz : Nat) (tN aN : Nat) (fB : Nat → Int32) (lo hi : Int32) (htN : tN ≤ 120) (haN : aN ≤ tN) (hlo : ¬ lo < 0) : Met l yX3_takeNumber wsX3_takeNumber ({ frames := 2, cells := 0, slots := 0, locals := 42 }) (va_Pc [.ref aRd, .int lo, .int hi] (wPre G [(aRd, .inr (3, [.ref aT, .int (nI (sk tN fB aN)), .int (nI (toB tN fB (sk tN fB aN))), .int (sortF (bA tN fB (sk tN fB aN)))])), (aT, .inr (5, [.ref aB, .int (nI tN)])), (aB, .inl (G.2.1 0, 120, .inl fB))] sz)) (va_Qi (fun (r : Int32) (u : Nat) => ((tkN tN fB lo hi aN = some (r, u) ∧ ¬ r = -1) ∨ (r = -1 ∧ tkN tN fB lo hi aN = none)) ∧ (r = -1 → u = aN) ∧ u ≤ tN) (bW G (va_A [(aRd, .inr (3, [.ref aT, .int (nI (sk tN fB aN)), .int (nI (toB tN fB (sk tN fB aN))), .int (sortF (bA tN fB (sk tN fB aN)))])), (aT, .inr (5, [.ref aB, .int (nI tN)])), (aB, .inl (G.2.1 0, 120, .inl fB))] sz) (fun u : Nat => [(aRd, .inr (3, [.ref aT, .int (nI (sk tN fB u)), .int (nI (toB tN fB (sk tN fB u))), .int (sortF (bA tN fB (sk tN fB u)))])), (aT, .inr (5, [.ref aB, .int (nI tN)])), (aB, .inl (G.2.1 0, 120, .inl fB))])) (va_A [(aRd, .inr (3, [.ref aT, .int (nI (sk tN fB aN)), .int (nI (toB tN fB (sk tN fB aN))), .int (sortF (bA tN fB (sk tN fB aN)))])), (aT, .inr (5, [.ref aB, .int (nI tN)])), (aB, .inl (G.2.1 0, 120, .inl fB))] sz)) 0 0 (va_A [(aRd, .inr (3, [.ref aT, .int (nI (sk tN fB aN)), .int (nI (toB tN fB (sk tN fB aN))), .int (sortF (bA tN fB (sk tN fB aN)))])), (aT, .inr (5, [.ref aB, .int (nI tN)])), (aB, .inl (G.2.1 0, 120, .inl fB))] sz) := by
  refine met_go (cc := cX3_takeNumber) (maxL := 5) (ret := (some .int)) (own := RX3) (by decide) rfl rfl (Nat.le_of_ble_eq_true rfl) ?_
  intro p e s m below meth c ls S hr hlocks hname hsz C w hl
  have hB := sk_le (f := fB) haN
  have hBT := toB_ge tN fB (sk tN fB aN)
  have hT := toB_le (f := fB) hB
  have hl : lv_has ls 5 [(0, .ref aRd), (1, .int lo), (2, .int hi)] := hl
  refine lv_aload_n S.1 S.2.1 dX3_takeNumber_0 rfl (lv_at hl 0 rfl) ?_
  refine w_get S C w (CC := RX3) (T := TX3) (N := 4) (ref := "GateSums$Reader") im_X3_takeNumber_X3 0 rfl rfl 3 (by decide) (List.mem_of_getElem? (i := 1) rfl) (fun _ h => h) rfl dX3_takeNumber_1 ?_
  refine lv_iconst (v := 2) S.1 S.2.1 dX3_takeNumber_4 (by decide) ?_
  refine lv_icmp_ne (tgt := 21) S.1 S.2.1 dX3_takeNumber_5 (by decide) (fun c5 => ?_) (fun c5 => ?_)
  · refine lv_iconst (v := (-1)) S.1 S.2.1 dX3_takeNumber_21 (by decide) ?_
    exact W.iret (v := (-1)) S.1 S.2.1 hr (fun t ht _ => ⟨⟨(-1), aN, rfl, by first | exact ⟨Or.inr ⟨rfl, if_neg (fun q => two_gt (by omega) @c18 q.2.1)⟩, fun _ => rfl, haN⟩ | exact ⟨Or.inr ⟨rfl, tkN_no c5⟩, fun _ => rfl, haN⟩, by rw [ht]; exact w.1, w.2.1⟩, w.2.2.F ht⟩) w.2.2.2.2 dX3_takeNumber_22
  · refine lv_aload_n S.1 S.2.1 dX3_takeNumber_8 rfl (lv_at hl 0 rfl) ?_
    refine w_get S C w (CC := RX3) (T := TX3) (N := 4) (ref := "GateSums$Reader") im_X3_takeNumber_X3 0 rfl rfl 2 (by decide) (List.mem_of_getElem? (i := 2) rfl) (fun _ h => h) rfl dX3_takeNumber_9 ?_
    refine lv_aload_n S.1 S.2.1 dX3_takeNumber_12 rfl (lv_at hl 0 rfl) ?_
    refine w_get S C w (CC := RX3) (T := TX3) (N := 4) (ref := "GateSums$Reader") im_X3_takeNumber_X3 0 rfl rfl 1 (by decide) (List.mem_of_getElem? (i := 3) rfl) (fun _ h => h) rfl dX3_takeNumber_13 ?_
    refine lv_isub S.1 S.2.1 dX3_takeNumber_16 ?_
    refine w_topi (y := (nI ((toB tN fB (sk tN fB aN)) - (sk tN fB aN)))) (pk_sub hBT) ?_
    refine lv_iconst (v := 2) S.1 S.2.1 dX3_takeNumber_17 (by decide) ?_
    refine lv_icmp_le (tgt := 23) S.1 S.2.1 dX3_takeNumber_18 (by decide) (fun c18 => ?_) (fun c18 => ?_)
    · refine lv_iconst (v := 0) S.1 S.2.1 dX3_takeNumber_23 (by decide) ?_
      refine lv_istore_n (lv' := [(3, .int 0), (0, .ref aRd), (1, .int lo), (2, .int hi)]) S.1 S.2.1 dX3_takeNumber_24 rfl hl (by decide) rfl (fun ls hl => ?_)
      refine lv_aload_n S.1 S.2.1 dX3_takeNumber_25 rfl (lv_at hl 1 rfl) ?_
      refine w_get S C w (CC := RX3) (T := TX3) (N := 4) (ref := "GateSums$Reader") im_X3_takeNumber_X3 0 rfl rfl 1 (by decide) (List.mem_of_getElem? (i := 3) rfl) (fun _ h => h) rfl dX3_takeNumber_26 ?_
      refine lv_istore (lv' := [(4, .int (nI (sk tN fB aN))), (3, .int 0), (0, .ref aRd), (1, .int lo), (2, .int hi)]) S.1 S.2.1 dX3_takeNumber_29 hl (by decide) rfl (fun ls hl => ?_)
      refine w_loopS (σ := Nat × Int32) (nL := 5) 31 (fun x31 => (toB tN fB (sk tN fB aN)) - x31.1) (fun x31 => (sk tN fB aN) ≤ x31.1 ∧ x31.1 ≤ (toB tN fB (sk tN fB aN)) ∧ x31.2 = nv fB (sk tN fB aN) (x31.1 - (sk tN fB aN))) (fun x31 => [(4, .int (nI x31.1)), (3, .int x31.2), (0, .ref aRd), (1, .int lo), (2, .int hi)]) (fun _ => []) ?_ ((sk tN fB aN), 0) ls (⟨Nat.le_refl _, hBT, by dsimp only; rw [Nat.sub_self]; rfl⟩) (lv_sub hl [0, 1, 2, 3, 4] rfl)
      intro x31 ls hI31 hl ih31
      have hl : lv_has ls 5 [(4, .int (nI x31.1)), (3, .int x31.2), (0, .ref aRd), (1, .int lo), (2, .int hi)] := hl
      have hA1 := hI31.1
      have hA2 := hI31.2.1
      refine lv_iload S.1 S.2.1 dX3_takeNumber_31 (lv_at hl 0 rfl) ?_
      refine lv_aload_n S.1 S.2.1 dX3_takeNumber_33 rfl (lv_at hl 2 rfl) ?_
      refine w_get S C w (CC := RX3) (T := TX3) (N := 4) (ref := "GateSums$Reader") im_X3_takeNumber_X3 0 rfl rfl 2 (by decide) (List.mem_of_getElem? (i := 2) rfl) (fun _ h => h) rfl dX3_takeNumber_34 ?_
      refine lv_icmp_ge (tgt := 64) S.1 S.2.1 dX3_takeNumber_37 (by decide) (fun c37 => ?_) (fun c37 => ?_)
      · have hke : x31.1 = (toB tN fB (sk tN fB aN)) := by have h := c37; rw [nI_leI (by omega) (by omega)] at h; omega
        have hvv : x31.2 = nv fB (sk tN fB aN) ((toB tN fB (sk tN fB aN)) - (sk tN fB aN)) := by rw [← hke]; exact hI31.2.2
        refine lv_iload_n S.1 S.2.1 dX3_takeNumber_64 rfl (lv_at hl 1 rfl) ?_
        refine lv_iload_n S.1 S.2.1 dX3_takeNumber_65 rfl (lv_at hl 3 rfl) ?_
        refine lv_icmp_lt (tgt := 74) S.1 S.2.1 dX3_takeNumber_66 (by decide) (fun c66 => ?_) (fun c66 => ?_)
        · refine lv_iconst (v := (-1)) S.1 S.2.1 dX3_takeNumber_74 (by decide) ?_
          exact W.iret (v := (-1)) S.1 S.2.1 hr (fun t ht _ => ⟨⟨(-1), aN, rfl, ⟨Or.inr ⟨rfl, if_neg (fun q => q.2.2 (by rw [← hvv]; first | exact inF_hi c66 @c71 | exact inF_lo c66))⟩, fun _ => rfl, haN⟩, by rw [ht]; exact w.1, w.2.1⟩, w.2.2.F ht⟩) w.2.2.2.2 dX3_takeNumber_75
        · refine lv_iload_n S.1 S.2.1 dX3_takeNumber_69 rfl (lv_at hl 1 rfl) ?_
          refine lv_iload_n S.1 S.2.1 dX3_takeNumber_70 rfl (lv_at hl 4 rfl) ?_
          refine lv_icmp_le (tgt := 76) S.1 S.2.1 dX3_takeNumber_71 (by decide) (fun c71 => ?_) (fun c71 => ?_)
          · refine lv_aload_n S.1 S.2.1 dX3_takeNumber_76 rfl (lv_at hl 2 rfl) ?_
            refine cq_v C w [0, 1, 2] [] [0, 1, 2] (wr := []) (w' := fun u : Unit => [(aRd, .inr (3, [.ref aT, .int (nI (sk tN fB (toB tN fB (sk tN fB aN)))), .int (nI (toB tN fB (sk tN fB (toB tN fB (sk tN fB aN))))), .int (sortF (bA tN fB (sk tN fB (toB tN fB (sk tN fB aN)))))])), (aT, .inr (5, [.ref aB, .int (nI tN)])), (aB, .inl (G.2.1 0, 120, .inl fB))]) (ws2 := fun u : Unit => [(aRd, .inr (3, [.ref aT, .int (nI (sk tN fB (toB tN fB (sk tN fB aN)))), .int (nI (toB tN fB (sk tN fB (toB tN fB (sk tN fB aN))))), .int (sortF (bA tN fB (sk tN fB (toB tN fB (sk tN fB aN)))))])), (aT, .inr (5, [.ref aB, .int (nI tN)])), (aB, .inl (G.2.1 0, 120, .inl fB))]) rfl rfl rfl (by decide) rfl (fun _ => rfl) (va_runV (As := []) (rest := []) S (z_X3_advance l G aRd aT aB _ (nI (sk tN fB aN)) (sortF (bA tN fB (sk tN fB aN))) tN (toB tN fB (sk tN fB aN)) fB (htN) (hT)) (cwV 0 S.2.2.2.2 gX3_takeNumber_X3_advance rfl rfl rfl (by decide +kernel) ⟨Nat.le_of_ble_eq_true rfl, Nat.le_of_ble_eq_true rfl⟩) ⟨wPre_blind, va_recv C.1 w.1 (ci := 3) (q0 := 0) rfl rfl, wPre_at C w [0, 1, 2] rfl rfl⟩ rfl rfl hl.1 rfl (lv_room (Nat.le_of_ble_eq_true rfl)) dX3_takeNumber_77 ⟨Nat.le_of_ble_eq_true rfl, Nat.le_of_ble_eq_true rfl⟩) (fun u77 H locs h77 w => ?_)
            have w : Wd G _ s [(aRd, .inr (3, [.ref aT, .int (nI (sk tN fB (toB tN fB (sk tN fB aN)))), .int (nI (toB tN fB (sk tN fB (toB tN fB (sk tN fB aN))))), .int (sortF (bA tN fB (sk tN fB (toB tN fB (sk tN fB aN)))))])), (aT, .inr (5, [.ref aB, .int (nI tN)])), (aB, .inl (G.2.1 0, 120, .inl fB))] H locs := w
            refine lv_iload_n S.1 S.2.1 dX3_takeNumber_80 rfl (lv_at hl 1 rfl) ?_
            exact W.iret (v := x31.2) S.1 S.2.1 hr (fun t ht _ => ⟨⟨x31.2, (toB tN fB (sk tN fB aN)), rfl, ⟨Or.inl ⟨by (rw [hvv]; exact if_pos ⟨c5, two_le (by omega) c18, by rw [← hvv]; exact inF_ok1 c66 c71⟩), ne_m1 hlo c66⟩, fun q => absurd q (ne_m1 hlo c66), hT⟩, by rw [ht]; exact w.1, w.2.1⟩, w.2.2.F ht⟩) w.2.2.2.2 dX3_takeNumber_81
          · refine lv_iconst (v := (-1)) S.1 S.2.1 dX3_takeNumber_74 (by decide) ?_
            exact W.iret (v := (-1)) S.1 S.2.1 hr (fun t ht _ => ⟨⟨(-1), aN, rfl, ⟨Or.inr ⟨rfl, if_neg (fun q => q.2.2 (by rw [← hvv]; first | exact inF_hi c66 c71 | exact inF_lo c66))⟩, fun _ => rfl, haN⟩, by rw [ht]; exact w.1, w.2.1⟩, w.2.2.F ht⟩) w.2.2.2.2 dX3_takeNumber_75
      · refine lv_bipush (v := 10) S.1 S.2.1 dX3_takeNumber_40 (by decide) ?_
        refine lv_iload_n S.1 S.2.1 dX3_takeNumber_42 rfl (lv_at hl 1 rfl) ?_
        refine lv_imul S.1 S.2.1 dX3_takeNumber_43 ?_
        refine lv_aload_n S.1 S.2.1 dX3_takeNumber_44 rfl (lv_at hl 2 rfl) ?_
        refine w_get S C w (CC := RX3) (T := TX3) (N := 4) (ref := "GateSums$Reader") im_X3_takeNumber_X3 0 rfl rfl 0 (by decide) (List.mem_of_getElem? (i := 4) rfl) (fun _ h => h) rfl dX3_takeNumber_45 ?_
        refine lv_iload S.1 S.2.1 dX3_takeNumber_48 (lv_at hl 0 rfl) ?_
        refine cs_i (va_runV (As := [.int (nI x31.1)]) (rest := [.int (10 * x31.2)]) S (c_X5_byteAt l G aT aB _ (nI tN) fB (nI x31.1)) (cwV 1 S.2.2.2.2 gX3_takeNumber_X5_byteAt rfl rfl rfl (by decide +kernel) ⟨Nat.le_of_ble_eq_true rfl, Nat.le_of_ble_eq_true rfl⟩) ⟨wPre_blind, va_recv C.1 w.1 (ci := 5) (q0 := 1) rfl rfl, wPre_at C w [1, 2] rfl rfl⟩ rfl rfl hl.1 rfl (lv_room (Nat.le_of_ble_eq_true rfl)) dX3_takeNumber_50 ⟨Nat.le_of_ble_eq_true rfl, Nat.le_of_ble_eq_true rfl⟩) (fun r50 h50 => ?_)
        refine w_topi (y := (byteAtF (nI tN) fB (nI x31.1))) h50 ?_
        refine w_topi (y := (bA tN fB x31.1)) (byteAtC htN (by omega)) ?_
        refine lv_iadd S.1 S.2.1 dX3_takeNumber_53 ?_
        refine lv_bipush (v := 48) S.1 S.2.1 dX3_takeNumber_54 (by decide) ?_
        refine lv_isub S.1 S.2.1 dX3_takeNumber_56 ?_
        refine lv_istore_n (lv' := [(3, .int (((10 * x31.2) + (bA tN fB x31.1)) - 48)), (4, .int (nI x31.1)), (0, .ref aRd), (1, .int lo), (2, .int hi)]) S.1 S.2.1 dX3_takeNumber_57 rfl hl (by decide) rfl (fun ls hl => ?_)
        refine lv_iinc (v := (nI (x31.1 + 1))) (lv' := [(4, .int (nI (x31.1 + 1))), (3, .int (((10 * x31.2) + (bA tN fB x31.1)) - 48)), (0, .ref aRd), (1, .int lo), (2, .int hi)]) S.1 S.2.1 dX3_takeNumber_58 hl (k := 1) rfl (nI_1 _) (by decide) rfl (fun ls hl => ?_)
        refine lv_goto (tgt := 31) S.1 S.2.1 dX3_takeNumber_61 (by decide) ?_
        have hlt : x31.1 < (toB tN fB (sk tN fB aN)) := by have h := c37; rw [nI_leI (by omega) (by omega)] at h; omega
        exact ih31 (x31.1 + 1, (((10 * x31.2) + (bA tN fB x31.1)) - 48)) ls (⟨by dsimp only; omega, hlt, (by dsimp only; rw [bA_in (by omega), hI31.2.2]; exact nv_step hA1)⟩) (by dsimp only; omega) (lv_sub hl [0, 1, 2, 3, 4] rfl)
    · refine lv_iconst (v := (-1)) S.1 S.2.1 dX3_takeNumber_21 (by decide) ?_
      exact W.iret (v := (-1)) S.1 S.2.1 hr (fun t ht _ => ⟨⟨(-1), aN, rfl, by first | exact ⟨Or.inr ⟨rfl, if_neg (fun q => two_gt (by omega) c18 q.2.1)⟩, fun _ => rfl, haN⟩ | exact ⟨Or.inr ⟨rfl, tkN_no c5⟩, fun _ => rfl, haN⟩, by rw [ht]; exact w.1, w.2.1⟩, w.2.2.F ht⟩) w.2.2.2.2 dX3_takeNumber_22
set_option maxHeartbeats 4000000 in
set_option maxRecDepth 100000 in
theorem z_X3_gateWord (l : Launch) (G : GT) (sz : Nat) (jN : Nat) (hj : jN < 8) : Met l yX3_gateWord wsX3_gateWord ({ frames := 0, cells := 0, slots := 0, locals := 0 }) (va_Pc [.int (nI jN)] (wPre G [] sz)) (va_Sr (fun r : Nat => r = jN + 2) (fun k => Value.ref (G.2.2.2.1 k))) 0 0 (fun _ => False) := by
  refine met_go (cc := cX3_gateWord) (maxL := 1) (ret := (some (.object "java/lang/String"))) (own := RX3) (by decide) rfl rfl (Nat.le_of_ble_eq_true rfl) ?_
  intro p e s m below meth c ls S hr hlocks hname hsz C w hl
  have hl : lv_has ls 1 [(0, .int (nI jN))] := hl
  refine lv_iload_n S.1 S.2.1 dX3_gateWord_0 rfl (lv_at hl 0 rfl) ?_
  rcases sw_cases 0 6 (nI jN).toInt (by decide) with c1 | ⟨c1n, c1l, c1q⟩
  · refine lv_tableOut (tgt := 65) S.1 S.2.1 dX3_gateWord_1 c1 (by decide) ?_
    refine va_ldcS (tx := "but") S.1 S.2.1 S.2.2.2.1 (C.2.2.1.2.2.1 9 _ rfl) dX3_gateWord_65 ?_
    exact W.aret (v := .ref (G.2.2.2.1 9)) S.1 S.2.1 hr (Or.inl ⟨_, rfl⟩) (Or.inr ⟨_, rfl⟩) (fun t ht _ => ⟨9, rfl, by have hx : (nI jN).toInt = (jN : Int) := nI_toInt (by omega); omega, ht⟩) (fun q h => absurd h List.not_mem_nil) dX3_gateWord_67
  · have c1l2 : c1n < 7 := by omega
    rcases Nat.lt_or_ge c1n 1 with c1a | c1a
    · have c1e : c1n = 0 := by omega
      subst c1e
      have c1 : (nI jN).toInt = 0 := by omega
      refine lv_tableIn (off := 43) (tgt := 44) S.1 S.2.1 dX3_gateWord_1 (by omega) (by omega) (by rw [c1]; rfl) (by decide) ?_
      refine va_ldcS (tx := "not") S.1 S.2.1 S.2.2.2.1 (C.2.2.1.2.2.1 2 _ rfl) dX3_gateWord_44 ?_
      exact W.aret (v := .ref (G.2.2.2.1 2)) S.1 S.2.1 hr (Or.inl ⟨_, rfl⟩) (Or.inr ⟨_, rfl⟩) (fun t ht _ => ⟨2, rfl, by have hx : (nI jN).toInt = (jN : Int) := nI_toInt (by omega); omega, ht⟩) (fun q h => absurd h List.not_mem_nil) dX3_gateWord_46
    rcases Nat.lt_or_ge c1n 2 with c1a | c1a
    · have c1e : c1n = 1 := by omega
      subst c1e
      have c1 : (nI jN).toInt = 1 := by omega
      refine lv_tableIn (off := 46) (tgt := 47) S.1 S.2.1 dX3_gateWord_1 (by omega) (by omega) (by rw [c1]; rfl) (by decide) ?_
      refine va_ldcS (tx := "and") S.1 S.2.1 S.2.2.2.1 (C.2.2.1.2.2.1 3 _ rfl) dX3_gateWord_47 ?_
      exact W.aret (v := .ref (G.2.2.2.1 3)) S.1 S.2.1 hr (Or.inl ⟨_, rfl⟩) (Or.inr ⟨_, rfl⟩) (fun t ht _ => ⟨3, rfl, by have hx : (nI jN).toInt = (jN : Int) := nI_toInt (by omega); omega, ht⟩) (fun q h => absurd h List.not_mem_nil) dX3_gateWord_49
    rcases Nat.lt_or_ge c1n 3 with c1a | c1a
    · have c1e : c1n = 2 := by omega
      subst c1e
      have c1 : (nI jN).toInt = 2 := by omega
      refine lv_tableIn (off := 49) (tgt := 50) S.1 S.2.1 dX3_gateWord_1 (by omega) (by omega) (by rw [c1]; rfl) (by decide) ?_
      refine va_ldcS (tx := "or") S.1 S.2.1 S.2.2.2.1 (C.2.2.1.2.2.1 4 _ rfl) dX3_gateWord_50 ?_
      exact W.aret (v := .ref (G.2.2.2.1 4)) S.1 S.2.1 hr (Or.inl ⟨_, rfl⟩) (Or.inr ⟨_, rfl⟩) (fun t ht _ => ⟨4, rfl, by have hx : (nI jN).toInt = (jN : Int) := nI_toInt (by omega); omega, ht⟩) (fun q h => absurd h List.not_mem_nil) dX3_gateWord_52
    rcases Nat.lt_or_ge c1n 4 with c1a | c1a
    · have c1e : c1n = 3 := by omega
      subst c1e
      have c1 : (nI jN).toInt = 3 := by omega
      refine lv_tableIn (off := 52) (tgt := 53) S.1 S.2.1 dX3_gateWord_1 (by omega) (by omega) (by rw [c1]; rfl) (by decide) ?_
      refine va_ldcS (tx := "xor") S.1 S.2.1 S.2.2.2.1 (C.2.2.1.2.2.1 5 _ rfl) dX3_gateWord_53 ?_
      exact W.aret (v := .ref (G.2.2.2.1 5)) S.1 S.2.1 hr (Or.inl ⟨_, rfl⟩) (Or.inr ⟨_, rfl⟩) (fun t ht _ => ⟨5, rfl, by have hx : (nI jN).toInt = (jN : Int) := nI_toInt (by omega); omega, ht⟩) (fun q h => absurd h List.not_mem_nil) dX3_gateWord_55
    rcases Nat.lt_or_ge c1n 5 with c1a | c1a
    · have c1e : c1n = 4 := by omega
      subst c1e
      have c1 : (nI jN).toInt = 4 := by omega
      refine lv_tableIn (off := 55) (tgt := 56) S.1 S.2.1 dX3_gateWord_1 (by omega) (by omega) (by rw [c1]; rfl) (by decide) ?_
      refine va_ldcS (tx := "nand") S.1 S.2.1 S.2.2.2.1 (C.2.2.1.2.2.1 6 _ rfl) dX3_gateWord_56 ?_
      exact W.aret (v := .ref (G.2.2.2.1 6)) S.1 S.2.1 hr (Or.inl ⟨_, rfl⟩) (Or.inr ⟨_, rfl⟩) (fun t ht _ => ⟨6, rfl, by have hx : (nI jN).toInt = (jN : Int) := nI_toInt (by omega); omega, ht⟩) (fun q h => absurd h List.not_mem_nil) dX3_gateWord_58
    rcases Nat.lt_or_ge c1n 6 with c1a | c1a
    · have c1e : c1n = 5 := by omega
      subst c1e
      have c1 : (nI jN).toInt = 5 := by omega
      refine lv_tableIn (off := 58) (tgt := 59) S.1 S.2.1 dX3_gateWord_1 (by omega) (by omega) (by rw [c1]; rfl) (by decide) ?_
      refine va_ldcS (tx := "nor") S.1 S.2.1 S.2.2.2.1 (C.2.2.1.2.2.1 7 _ rfl) dX3_gateWord_59 ?_
      exact W.aret (v := .ref (G.2.2.2.1 7)) S.1 S.2.1 hr (Or.inl ⟨_, rfl⟩) (Or.inr ⟨_, rfl⟩) (fun t ht _ => ⟨7, rfl, by have hx : (nI jN).toInt = (jN : Int) := nI_toInt (by omega); omega, ht⟩) (fun q h => absurd h List.not_mem_nil) dX3_gateWord_61
    have c1e : c1n = 6 := by omega
    subst c1e
    have c1 : (nI jN).toInt = 6 := by omega
    refine lv_tableIn (off := 61) (tgt := 62) S.1 S.2.1 dX3_gateWord_1 (by omega) (by omega) (by rw [c1]; rfl) (by decide) ?_
    refine va_ldcS (tx := "xnor") S.1 S.2.1 S.2.2.2.1 (C.2.2.1.2.2.1 8 _ rfl) dX3_gateWord_62 ?_
    exact W.aret (v := .ref (G.2.2.2.1 8)) S.1 S.2.1 hr (Or.inl ⟨_, rfl⟩) (Or.inr ⟨_, rfl⟩) (fun t ht _ => ⟨8, rfl, by have hx : (nI jN).toInt = (jN : Int) := nI_toInt (by omega); omega, ht⟩) (fun q h => absurd h List.not_mem_nil) dX3_gateWord_64
set_option maxHeartbeats 4000000 in
set_option maxRecDepth 100000 in
theorem z_X3_taskWord (l : Launch) (G : GT) (sz : Nat) (jN : Nat) (hj : jN < 4) : Met l yX3_taskWord wsX3_taskWord ({ frames := 0, cells := 0, slots := 0, locals := 0 }) (va_Pc [.int (nI jN)] (wPre G [] sz)) (va_Sr (fun r : Nat => r = jN + 12) (fun k => Value.ref (G.2.2.2.1 k))) 0 0 (fun _ => False) := by
  refine met_go (cc := cX3_taskWord) (maxL := 1) (ret := (some (.object "java/lang/String"))) (own := RX3) (by decide) rfl rfl (Nat.le_of_ble_eq_true rfl) ?_
  intro p e s m below meth c ls S hr hlocks hname hsz C w hl
  have hl : lv_has ls 1 [(0, .int (nI jN))] := hl
  refine lv_iload_n S.1 S.2.1 dX3_taskWord_0 rfl (lv_at hl 0 rfl) ?_
  rcases sw_cases 0 2 (nI jN).toInt (by decide) with c1 | ⟨c1n, c1l, c1q⟩
  · refine lv_tableOut (tgt := 37) S.1 S.2.1 dX3_taskWord_1 c1 (by decide) ?_
    refine va_ldcS (tx := "triple") S.1 S.2.1 S.2.2.2.1 (C.2.2.1.2.2.1 15 _ rfl) dX3_taskWord_37 ?_
    exact W.aret (v := .ref (G.2.2.2.1 15)) S.1 S.2.1 hr (Or.inl ⟨_, rfl⟩) (Or.inr ⟨_, rfl⟩) (fun t ht _ => ⟨15, rfl, by have hx : (nI jN).toInt = (jN : Int) := nI_toInt (by omega); omega, ht⟩) (fun q h => absurd h List.not_mem_nil) dX3_taskWord_39
  · have c1l2 : c1n < 3 := by omega
    rcases Nat.lt_or_ge c1n 1 with c1a | c1a
    · have c1e : c1n = 0 := by omega
      subst c1e
      have c1 : (nI jN).toInt = 0 := by omega
      refine lv_tableIn (off := 27) (tgt := 28) S.1 S.2.1 dX3_taskWord_1 (by omega) (by omega) (by rw [c1]; rfl) (by decide) ?_
      refine va_ldcS (tx := "sum") S.1 S.2.1 S.2.2.2.1 (C.2.2.1.2.2.1 12 _ rfl) dX3_taskWord_28 ?_
      exact W.aret (v := .ref (G.2.2.2.1 12)) S.1 S.2.1 hr (Or.inl ⟨_, rfl⟩) (Or.inr ⟨_, rfl⟩) (fun t ht _ => ⟨12, rfl, by have hx : (nI jN).toInt = (jN : Int) := nI_toInt (by omega); omega, ht⟩) (fun q h => absurd h List.not_mem_nil) dX3_taskWord_30
    rcases Nat.lt_or_ge c1n 2 with c1a | c1a
    · have c1e : c1n = 1 := by omega
      subst c1e
      have c1 : (nI jN).toInt = 1 := by omega
      refine lv_tableIn (off := 30) (tgt := 31) S.1 S.2.1 dX3_taskWord_1 (by omega) (by omega) (by rw [c1]; rfl) (by decide) ?_
      refine va_ldcS (tx := "product") S.1 S.2.1 S.2.2.2.1 (C.2.2.1.2.2.1 13 _ rfl) dX3_taskWord_31 ?_
      exact W.aret (v := .ref (G.2.2.2.1 13)) S.1 S.2.1 hr (Or.inl ⟨_, rfl⟩) (Or.inr ⟨_, rfl⟩) (fun t ht _ => ⟨13, rfl, by have hx : (nI jN).toInt = (jN : Int) := nI_toInt (by omega); omega, ht⟩) (fun q h => absurd h List.not_mem_nil) dX3_taskWord_33
    have c1e : c1n = 2 := by omega
    subst c1e
    have c1 : (nI jN).toInt = 2 := by omega
    refine lv_tableIn (off := 33) (tgt := 34) S.1 S.2.1 dX3_taskWord_1 (by omega) (by omega) (by rw [c1]; rfl) (by decide) ?_
    refine va_ldcS (tx := "square") S.1 S.2.1 S.2.2.2.1 (C.2.2.1.2.2.1 14 _ rfl) dX3_taskWord_34 ?_
    exact W.aret (v := .ref (G.2.2.2.1 14)) S.1 S.2.1 hr (Or.inl ⟨_, rfl⟩) (Or.inr ⟨_, rfl⟩) (fun t ht _ => ⟨14, rfl, by have hx : (nI jN).toInt = (jN : Int) := nI_toInt (by omega); omega, ht⟩) (fun q h => absurd h List.not_mem_nil) dX3_taskWord_36
set_option maxHeartbeats 4000000 in
set_option maxRecDepth 100000 in
theorem z_X3_gateKind (l : Launch) (G : GT) (aRd aT aB : Nat) (sz : Nat) (tN aN : Nat) (fB : Nat → Int32) (htN : tN ≤ 120) (haN : aN ≤ tN) : Met l yX3_gateKind wsX3_gateKind ({ frames := 5, cells := 0, slots := 0, locals := 107 }) (va_Pc [.ref aRd] (wPre G [(aRd, .inr (3, [.ref aT, .int (nI (sk tN fB aN)), .int (nI (toB tN fB (sk tN fB aN))), .int (sortF (bA tN fB (sk tN fB aN)))])), (aT, .inr (5, [.ref aB, .int (nI tN)])), (aB, .inl (G.2.1 0, 120, .inl fB))] sz)) (vp_Si (fun r : Int32 => (∃ k, 0 ≤ k ∧ k < 0 + 8 ∧ CW tN fB k (sk tN fB aN) ∧ r = nI (k - 0)) ∨ (r = -1 ∧ ∀ j, 0 ≤ j → j < 0 + 8 → ¬ CW tN fB j (sk tN fB aN)))) 0 0 (fun _ => False) := by
  refine met_go (cc := cX3_gateKind) (maxL := 2) (ret := (some .int)) (own := RX3) (by decide) rfl rfl (Nat.le_of_ble_eq_true rfl) ?_
  intro p e s m below meth c ls S hr hlocks hname hsz C w hl
  have hB := sk_le (f := fB) haN
  have hBT := toB_ge tN fB (sk tN fB aN)
  have hT := toB_le (f := fB) hB
  have hl : lv_has ls 2 [(0, .ref aRd)] := hl
  refine lv_iconst (v := 0) S.1 S.2.1 dX3_gateKind_0 (by decide) ?_
  refine lv_istore_n (lv' := [(1, .int 0), (0, .ref aRd)]) S.1 S.2.1 dX3_gateKind_1 rfl hl (by decide) rfl (fun ls hl => ?_)
  refine w_loopS (σ := Nat) (nL := 2) 2 (fun x2 => 8 - x2) (fun x2 => x2 ≤ 8 ∧ ∀ j, 0 ≤ j → j < 0 + x2 → ¬ CW tN fB j (sk tN fB aN)) (fun x2 => [(1, .int (nI x2)), (0, .ref aRd)]) (fun _ => []) ?_ 0 ls (⟨Nat.zero_le _, fun j h1 h2 => absurd h2 (by omega)⟩) (lv_sub hl [0, 1] rfl)
  intro x2 ls hI2 hl ih2
  have hl : lv_has ls 2 [(1, .int (nI x2)), (0, .ref aRd)] := hl
  have hA1 := hI2.1
  refine lv_iload_n S.1 S.2.1 dX3_gateKind_2 rfl (lv_at hl 0 rfl) ?_
  refine lv_bipush (v := 8) S.1 S.2.1 dX3_gateKind_3 (by decide) ?_
  refine lv_icmp_ge (tgt := 27) S.1 S.2.1 dX3_gateKind_5 (by decide) (fun c5 => ?_) (fun c5 => ?_)
  · refine lv_iconst (v := (-1)) S.1 S.2.1 dX3_gateKind_27 (by decide) ?_
    exact W.iret (v := (-1)) S.1 S.2.1 hr (fun t ht _ => ⟨(-1), rfl, Or.inr ⟨rfl, fun j h1 h2 => hI2.2 j h1 (by have h := c5; rw [show (8 : Int32) = nI 8 from rfl, nI_leI (by decide) (by omega)] at h; omega)⟩, ht⟩) (fun q h => absurd h List.not_mem_nil) dX3_gateKind_28
  · refine lv_aload_n S.1 S.2.1 dX3_gateKind_8 rfl (lv_at hl 1 rfl) ?_
    refine lv_iload_n S.1 S.2.1 dX3_gateKind_9 rfl (lv_at hl 0 rfl) ?_
    refine va_csr (va_runS (As := [.int (nI x2)]) (rest := [.ref aRd]) S (z_X3_gateWord l G _ x2 (by have h := c5; rw [show (8 : Int32) = nI 8 from rfl, nI_leI (by decide) (by omega)] at h; omega)) (va_cwS 1 S.2.2.2.2 gX3_gateKind_X3_gateWord rfl rfl rfl (by decide +kernel) ⟨Nat.le_of_ble_eq_true rfl, Nat.le_of_ble_eq_true rfl⟩) ⟨wPre_blind, wPre_at C w [] rfl rfl⟩ rfl rfl hl.1 rfl (lv_room (Nat.le_of_ble_eq_true rfl)) dX3_gateKind_10 ⟨Nat.le_of_ble_eq_true rfl, Nat.le_of_ble_eq_true rfl⟩).run (fun r10 h10 => ?_)
    refine cs_i (va_runV (As := [.ref (G.2.2.2.1 r10)]) (rest := []) S (z_X3_isWord l G aRd aT aB _ tN aN fB r10 (htN) (haN) ((by rw [h10]; have h := c5; rw [show (8 : Int32) = nI 8 from rfl, nI_leI (by decide) (by omega)] at h; omega))) (cwV 1 S.2.2.2.2 gX3_gateKind_X3_isWord rfl rfl rfl (by decide +kernel) ⟨Nat.le_of_ble_eq_true rfl, Nat.le_of_ble_eq_true rfl⟩) ⟨wPre_blind, va_recv C.1 w.1 (ci := 3) (q0 := 0) rfl rfl, wPre_at C w [0, 1, 2] rfl rfl⟩ rfl rfl hl.1 rfl (lv_room (Nat.le_of_ble_eq_true rfl)) dX3_gateKind_13 ⟨Nat.le_of_ble_eq_true rfl, Nat.le_of_ble_eq_true rfl⟩) (fun r13 h13 => ?_)
    refine lv_if_eq (tgt := 21) S.1 S.2.1 dX3_gateKind_16 (by decide) (fun c16 => ?_) (fun c16 => ?_)
    · refine lv_iinc (v := (nI (x2 + 1))) (lv' := [(1, .int (nI (x2 + 1))), (0, .ref aRd)]) S.1 S.2.1 dX3_gateKind_21 hl (k := 0) rfl (nI_1 _) (by decide) rfl (fun ls hl => ?_)
      refine lv_goto (tgt := 2) S.1 S.2.1 dX3_gateKind_24 (by decide) ?_
      have hlt : x2 < 8 := by have h := c5; rw [show (8 : Int32) = nI 8 from rfl, nI_leI (by decide) (by omega)] at h; omega
      have hno : ¬ CW tN fB (0 + x2) (sk tN fB aN) := by have h := or_not h13 c16; rw [h10, kj_gate hlt] at h; exact h
      exact ih2 (x2 + 1) ls (⟨hlt, kind_step hI2.2 hno⟩) (by omega) (lv_sub hl [0, 1] rfl)
    · have hlt : x2 < 8 := by have h := c5; rw [show (8 : Int32) = nI 8 from rfl, nI_leI (by decide) (by omega)] at h; omega
      refine lv_iload_n S.1 S.2.1 dX3_gateKind_19 rfl (lv_at hl 0 rfl) ?_
      exact W.iret (v := (nI x2)) S.1 S.2.1 hr (fun t ht _ => ⟨(nI x2), rfl, Or.inl ⟨0 + x2, by omega, by omega, (by have h := or_yes h13 c16; rw [h10, kj_gate (by omega)] at h; exact h), by rw [Nat.add_sub_cancel_left]⟩, ht⟩) (fun q h => absurd h List.not_mem_nil) dX3_gateKind_20
set_option maxHeartbeats 4000000 in
set_option maxRecDepth 100000 in
theorem z_X3_taskKind (l : Launch) (G : GT) (aRd aT aB : Nat) (sz : Nat) (tN aN : Nat) (fB : Nat → Int32) (htN : tN ≤ 120) (haN : aN ≤ tN) : Met l yX3_taskKind wsX3_taskKind ({ frames := 5, cells := 0, slots := 0, locals := 107 }) (va_Pc [.ref aRd] (wPre G [(aRd, .inr (3, [.ref aT, .int (nI (sk tN fB aN)), .int (nI (toB tN fB (sk tN fB aN))), .int (sortF (bA tN fB (sk tN fB aN)))])), (aT, .inr (5, [.ref aB, .int (nI tN)])), (aB, .inl (G.2.1 0, 120, .inl fB))] sz)) (vp_Si (fun r : Int32 => (∃ k, 8 ≤ k ∧ k < 8 + 4 ∧ CW tN fB k (sk tN fB aN) ∧ r = nI (k - 8)) ∨ (r = -1 ∧ ∀ j, 8 ≤ j → j < 8 + 4 → ¬ CW tN fB j (sk tN fB aN)))) 0 0 (fun _ => False) := by
  refine met_go (cc := cX3_taskKind) (maxL := 2) (ret := (some .int)) (own := RX3) (by decide) rfl rfl (Nat.le_of_ble_eq_true rfl) ?_
  intro p e s m below meth c ls S hr hlocks hname hsz C w hl
  have hB := sk_le (f := fB) haN
  have hBT := toB_ge tN fB (sk tN fB aN)
  have hT := toB_le (f := fB) hB
  have hl : lv_has ls 2 [(0, .ref aRd)] := hl
  refine lv_iconst (v := 0) S.1 S.2.1 dX3_taskKind_0 (by decide) ?_
  refine lv_istore_n (lv' := [(1, .int 0), (0, .ref aRd)]) S.1 S.2.1 dX3_taskKind_1 rfl hl (by decide) rfl (fun ls hl => ?_)
  refine w_loopS (σ := Nat) (nL := 2) 2 (fun x2 => 4 - x2) (fun x2 => x2 ≤ 4 ∧ ∀ j, 8 ≤ j → j < 8 + x2 → ¬ CW tN fB j (sk tN fB aN)) (fun x2 => [(1, .int (nI x2)), (0, .ref aRd)]) (fun _ => []) ?_ 0 ls (⟨Nat.zero_le _, fun j h1 h2 => absurd h2 (by omega)⟩) (lv_sub hl [0, 1] rfl)
  intro x2 ls hI2 hl ih2
  have hl : lv_has ls 2 [(1, .int (nI x2)), (0, .ref aRd)] := hl
  have hA1 := hI2.1
  refine lv_iload_n S.1 S.2.1 dX3_taskKind_2 rfl (lv_at hl 0 rfl) ?_
  refine lv_iconst (v := 4) S.1 S.2.1 dX3_taskKind_3 (by decide) ?_
  refine lv_icmp_ge (tgt := 26) S.1 S.2.1 dX3_taskKind_4 (by decide) (fun c4 => ?_) (fun c4 => ?_)
  · refine lv_iconst (v := (-1)) S.1 S.2.1 dX3_taskKind_26 (by decide) ?_
    exact W.iret (v := (-1)) S.1 S.2.1 hr (fun t ht _ => ⟨(-1), rfl, Or.inr ⟨rfl, fun j h1 h2 => hI2.2 j h1 (by have h := c4; rw [show (4 : Int32) = nI 4 from rfl, nI_leI (by decide) (by omega)] at h; omega)⟩, ht⟩) (fun q h => absurd h List.not_mem_nil) dX3_taskKind_27
  · refine lv_aload_n S.1 S.2.1 dX3_taskKind_7 rfl (lv_at hl 1 rfl) ?_
    refine lv_iload_n S.1 S.2.1 dX3_taskKind_8 rfl (lv_at hl 0 rfl) ?_
    refine va_csr (va_runS (As := [.int (nI x2)]) (rest := [.ref aRd]) S (z_X3_taskWord l G _ x2 (by have h := c4; rw [show (4 : Int32) = nI 4 from rfl, nI_leI (by decide) (by omega)] at h; omega)) (va_cwS 1 S.2.2.2.2 gX3_taskKind_X3_taskWord rfl rfl rfl (by decide +kernel) ⟨Nat.le_of_ble_eq_true rfl, Nat.le_of_ble_eq_true rfl⟩) ⟨wPre_blind, wPre_at C w [] rfl rfl⟩ rfl rfl hl.1 rfl (lv_room (Nat.le_of_ble_eq_true rfl)) dX3_taskKind_9 ⟨Nat.le_of_ble_eq_true rfl, Nat.le_of_ble_eq_true rfl⟩).run (fun r9 h9 => ?_)
    refine cs_i (va_runV (As := [.ref (G.2.2.2.1 r9)]) (rest := []) S (z_X3_isWord l G aRd aT aB _ tN aN fB r9 (htN) (haN) ((by rw [h9]; have h := c4; rw [show (4 : Int32) = nI 4 from rfl, nI_leI (by decide) (by omega)] at h; omega))) (cwV 1 S.2.2.2.2 gX3_taskKind_X3_isWord rfl rfl rfl (by decide +kernel) ⟨Nat.le_of_ble_eq_true rfl, Nat.le_of_ble_eq_true rfl⟩) ⟨wPre_blind, va_recv C.1 w.1 (ci := 3) (q0 := 0) rfl rfl, wPre_at C w [0, 1, 2] rfl rfl⟩ rfl rfl hl.1 rfl (lv_room (Nat.le_of_ble_eq_true rfl)) dX3_taskKind_12 ⟨Nat.le_of_ble_eq_true rfl, Nat.le_of_ble_eq_true rfl⟩) (fun r12 h12 => ?_)
    refine lv_if_eq (tgt := 20) S.1 S.2.1 dX3_taskKind_15 (by decide) (fun c15 => ?_) (fun c15 => ?_)
    · refine lv_iinc (v := (nI (x2 + 1))) (lv' := [(1, .int (nI (x2 + 1))), (0, .ref aRd)]) S.1 S.2.1 dX3_taskKind_20 hl (k := 0) rfl (nI_1 _) (by decide) rfl (fun ls hl => ?_)
      refine lv_goto (tgt := 2) S.1 S.2.1 dX3_taskKind_23 (by decide) ?_
      have hlt : x2 < 4 := by have h := c4; rw [show (4 : Int32) = nI 4 from rfl, nI_leI (by decide) (by omega)] at h; omega
      have hno : ¬ CW tN fB (8 + x2) (sk tN fB aN) := by have h := or_not h12 c15; rw [h9, kj_task hlt] at h; exact h
      exact ih2 (x2 + 1) ls (⟨hlt, kind_step hI2.2 hno⟩) (by omega) (lv_sub hl [0, 1] rfl)
    · have hlt : x2 < 4 := by have h := c4; rw [show (4 : Int32) = nI 4 from rfl, nI_leI (by decide) (by omega)] at h; omega
      refine lv_iload_n S.1 S.2.1 dX3_taskKind_18 rfl (lv_at hl 0 rfl) ?_
      exact W.iret (v := (nI x2)) S.1 S.2.1 hr (fun t ht _ => ⟨(nI x2), rfl, Or.inl ⟨8 + x2, by omega, by omega, (by have h := or_yes h12 c15; rw [h9, kj_task (by omega)] at h; exact h), by rw [Nat.add_sub_cancel_left]⟩, ht⟩) (fun q h => absurd h List.not_mem_nil) dX3_taskKind_19
