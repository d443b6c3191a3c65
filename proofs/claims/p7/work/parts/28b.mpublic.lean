theorem im_X7_of_X7 : ∀ w ∈ u_ws RX7 TX7 16, w ∈ wsX7_of := by decide +kernel
set_option maxHeartbeats 4000000 in
set_option maxRecDepth 100000 in
theorem w_X7_of (l : Launch) (G : GT) (mO mS mR : Nat) (sz : Nat) (mD mT mW mQ mC mU mV : Nat) (mt ma mn my mm mf mg : Int32) (fS fR : Nat → Int32) (i0 j0 : Int32) (hok : okM fS) : Met l yX7_of wsX7_of ({ frames := 2, cells := 0, slots := 0, locals := 43 }) (va_Pc [.ref mO, .int i0, .int j0] (wPre G [(mO, .inr (7, [.ref mS, .ref mD, .ref mR, .ref mT, .int mt, .int ma, .int mn, .ref mW, .ref mQ, .ref mC, .int my, .ref mU, .ref mV, .int mm, .int mf, .int mg])), (mS, .inl (G.2.1 2, 49, .inl fS)), (mR, .inl (G.2.1 2, 3, .inl fR))] sz)) (va_Qi (fun (r : Int32) (u : (Nat → Int32)) => True) (bW G (va_A [(mO, .inr (7, [.ref mS, .ref mD, .ref mR, .ref mT, .int mt, .int ma, .int mn, .ref mW, .ref mQ, .ref mC, .int my, .ref mU, .ref mV, .int mm, .int mf, .int mg])), (mS, .inl (G.2.1 2, 49, .inl fS)), (mR, .inl (G.2.1 2, 3, .inl fR))] sz) (fun u : (Nat → Int32) => [(mO, .inr (7, [.ref mS, .ref mD, .ref mR, .ref mT, .int mt, .int ma, .int mn, .ref mW, .ref mQ, .ref mC, .int my, .ref mU, .ref mV, .int mm, .int mf, .int mg])), (mS, .inl (G.2.1 2, 49, .inl fS)), (mR, .inl (G.2.1 2, 3, .inl u))])) (va_A [(mO, .inr (7, [.ref mS, .ref mD, .ref mR, .ref mT, .int mt, .int ma, .int mn, .ref mW, .ref mQ, .ref mC, .int my, .ref mU, .ref mV, .int mm, .int mf, .int mg])), (mS, .inl (G.2.1 2, 49, .inl fS)), (mR, .inl (G.2.1 2, 3, .inl fR))] sz)) 0 0 (va_A [(mO, .inr (7, [.ref mS, .ref mD, .ref mR, .ref mT, .int mt, .int ma, .int mn, .ref mW, .ref mQ, .ref mC, .int my, .ref mU, .ref mV, .int mm, .int mf, .int mg])), (mS, .inl (G.2.1 2, 49, .inl fS)), (mR, .inl (G.2.1 2, 3, .inl fR))] sz) := by
  refine met_go (cc := cX7_of) (maxL := 7) (ret := (some .int)) (own := RX7) (by decide) rfl rfl (Nat.le_of_ble_eq_true rfl) ?_
  intro p e s m below meth c ls S hr hlocks hname hsz C w hl
  obtain ⟨nN, gN, oN, pN, qN, h0_, hnN, hg, hgN, ho, hoN, hp, hpN, hq, hqN⟩ := id hok
  have hl : lv_has ls 7 [(0, .ref mO), (1, .int i0), (2, .int j0)] := hl
  refine w_joini 22 [] (fun z22 => ¬ z22 = 0 → ¬ gateM fS i0 = 0) (fun z22 hz22 => ?_) (fun J22 => ?_)
  · refine lv_istore_n (lv' := [(3, .int z22), (0, .ref mO), (1, .int i0), (2, .int j0)]) S.1 S.2.1 dX7_of_22 rfl hl (by decide) rfl (fun ls hl => ?_)
    refine lv_iload_n S.1 S.2.1 dX7_of_23 rfl (lv_at hl 0 rfl) ?_
    refine lv_if_eq (tgt := 34) S.1 S.2.1 dX7_of_24 (by decide) (fun c24 => ?_) (fun c24 => ?_)
    · refine lv_aload_n S.1 S.2.1 dX7_of_34 rfl (lv_at hl 1 rfl) ?_
      refine lv_iload_n S.1 S.2.1 dX7_of_35 rfl (lv_at hl 0 rfl) ?_
      refine cq_i C w [0, 2] [1] [1, 0, 2] (wr := [(mS, .inl (G.2.1 2, 49, .inl fS))]) (w' := fun u : (Nat → Int32) => [(mO, .inr (7, [.ref mS, .ref mD, .ref mR, .ref mT, .int mt, .int ma, .int mn, .ref mW, .ref mQ, .ref mC, .int my, .ref mU, .ref mV, .int mm, .int mf, .int mg])), (mR, .inl (G.2.1 2, 3, .inl u))]) (ws2 := fun u : (Nat → Int32) => [(mO, .inr (7, [.ref mS, .ref mD, .ref mR, .ref mT, .int mt, .int ma, .int mn, .ref mW, .ref mQ, .ref mC, .int my, .ref mU, .ref mV, .int mm, .int mf, .int mg])), (mS, .inl (G.2.1 2, 49, .inl fS)), (mR, .inl (G.2.1 2, 3, .inl u))]) rfl rfl rfl (by decide) rfl (fun _ => rfl) (va_runV (As := [.int z22]) (rest := []) S (c_X7_none l G mO mR _ mS mD mT mW mQ mC mU mV mt ma mn my mm mf mg fR z22) (cwV 1 S.2.2.2.2 gX7_of_X7_none rfl rfl rfl (by decide +kernel) ⟨Nat.le_of_ble_eq_true rfl, Nat.le_of_ble_eq_true rfl⟩) ⟨wPre_blind, va_recv C.1 w.1 (ci := 7) (q0 := 0) rfl rfl, wPre_at C w [0, 2] rfl rfl⟩ rfl rfl hl.1 rfl (lv_room (Nat.le_of_ble_eq_true rfl)) dX7_of_36 ⟨Nat.le_of_ble_eq_true rfl, Nat.le_of_ble_eq_true rfl⟩) (fun r36 u36 H locs h36 w => ?_)
      have w : Wd G _ s [(mO, .inr (7, [.ref mS, .ref mD, .ref mR, .ref mT, .int mt, .int ma, .int mn, .ref mW, .ref mQ, .ref mC, .int my, .ref mU, .ref mV, .int mm, .int mf, .int mg])), (mS, .inl (G.2.1 2, 49, .inl fS)), (mR, .inl (G.2.1 2, 3, .inl u36))] H locs := w
      exact W.iret (v := r36) S.1 S.2.1 hr (fun t ht _ => ⟨⟨r36, u36, rfl, trivial, by rw [ht]; exact w.1, w.2.1⟩, w.2.2.F ht⟩) w.2.2.2.2 dX7_of_39
    · refine lv_aload_n S.1 S.2.1 dX7_of_27 rfl (lv_at hl 1 rfl) ?_
      refine cs_i (va_runV (As := []) (rest := []) S (c_X7_isThere l G mO mS _ mD mR mT mW mQ mC mU mV mt ma mn my mm mf mg fS) (cwV 0 S.2.2.2.2 gX7_of_X7_isThere rfl rfl rfl (by decide +kernel) ⟨Nat.le_of_ble_eq_true rfl, Nat.le_of_ble_eq_true rfl⟩) ⟨wPre_blind, va_recv C.1 w.1 (ci := 7) (q0 := 0) rfl rfl, wPre_at C w [0, 1] rfl rfl⟩ rfl rfl hl.1 rfl (lv_room (Nat.le_of_ble_eq_true rfl)) dX7_of_28 ⟨Nat.le_of_ble_eq_true rfl, Nat.le_of_ble_eq_true rfl⟩) (fun r28 h28 => ?_)
      refine w_topi (y := (thereM fS)) h28 ?_
      refine lv_if_ne (tgt := 40) S.1 S.2.1 dX7_of_31 (by decide) (fun c31 => ?_) (fun c31 => ?_)
      · obtain ⟨kN, hkN, hke⟩ := gate_ok hg hgN (hz22 c24) c31
        refine lv_iload_n S.1 S.2.1 dX7_of_40 rfl (lv_at hl 3 rfl) ?_
        refine lv_iconst (v := 3) S.1 S.2.1 dX7_of_41 (by decide) ?_
        refine lv_icmp_ge (tgt := 88) S.1 S.2.1 dX7_of_42 (by decide) (fun c42 => ?_) (fun c42 => ?_)
        · refine lv_aload_n S.1 S.2.1 dX7_of_88 rfl (lv_at hl 1 rfl) ?_
          refine w_get S C w (CC := RX7) (T := TX7) (N := 16) (ref := "GateSumsModel") im_X7_of_X7 0 rfl rfl 0 (by decide) (List.mem_of_getElem? (i := 1) rfl) (fun _ h => h) rfl dX7_of_89 ?_
          refine lv_iconst (v := 0) S.1 S.2.1 dX7_of_92 (by decide) ?_
          refine w_iald S C w 1 rfl (by unfold vp_in; decide) dX7_of_93 ?_
          refine lv_iload_n S.1 S.2.1 dX7_of_94 rfl (lv_at hl 2 rfl) ?_
          refine lv_iadd S.1 S.2.1 dX7_of_95 ?_
          refine lv_istore (lv' := [(4, .int ((fS (0 : Int32).toNatClampNeg) + i0)), (3, .int z22), (0, .ref mO), (1, .int i0), (2, .int j0)]) S.1 S.2.1 dX7_of_96 hl (by decide) rfl (fun ls hl => ?_)
          refine lv_iconst (v := 0) S.1 S.2.1 dX7_of_98 (by decide) ?_
          refine lv_istore (lv' := [(5, .int 0), (4, .int ((fS (0 : Int32).toNatClampNeg) + i0)), (3, .int z22), (0, .ref mO), (1, .int i0), (2, .int j0)]) S.1 S.2.1 dX7_of_99 hl (by decide) rfl (fun ls hl => ?_)
          refine lv_iconst (v := 0) S.1 S.2.1 dX7_of_101 (by decide) ?_
          refine lv_istore (lv' := [(6, .int 0), (5, .int 0), (4, .int ((fS (0 : Int32).toNatClampNeg) + i0)), (3, .int z22), (0, .ref mO), (1, .int i0), (2, .int j0)]) S.1 S.2.1 dX7_of_102 hl (by decide) rfl (fun ls hl => ?_)
          refine w_loop (G := G) (σ := Nat × Int32) (nL := 7) 104 (fun x104 => gN - x104.1) (fun x104 => x104.1 ≤ gN) (fun x104 => [(mO, .inr (7, [.ref mS, .ref mD, .ref mR, .ref mT, .int mt, .int ma, .int mn, .ref mW, .ref mQ, .ref mC, .int my, .ref mU, .ref mV, .int mm, .int mf, .int mg])), (mS, .inl (G.2.1 2, 49, .inl fS)), (mR, .inl (G.2.1 2, 3, .inl fR))]) (fun x104 => [(6, .int (nI x104.1)), (5, .int x104.2), (4, .int ((fS (0 : Int32).toNatClampNeg) + i0)), (3, .int z22), (0, .ref mO), (1, .int i0), (2, .int j0)]) (fun _ => []) ?_ (0, 0) ls _ _ (Nat.zero_le _) w (lv_sub hl [0, 1, 2, 3, 4, 5, 6] rfl)
          intro x104 ls H locs hI104 w hl ih104
          have w : Wd G _ s [(mO, .inr (7, [.ref mS, .ref mD, .ref mR, .ref mT, .int mt, .int ma, .int mn, .ref mW, .ref mQ, .ref mC, .int my, .ref mU, .ref mV, .int mm, .int mf, .int mg])), (mS, .inl (G.2.1 2, 49, .inl fS)), (mR, .inl (G.2.1 2, 3, .inl fR))] H locs := w
          have hl : lv_has ls 7 [(6, .int (nI x104.1)), (5, .int x104.2), (4, .int ((fS (0 : Int32).toNatClampNeg) + i0)), (3, .int z22), (0, .ref mO), (1, .int i0), (2, .int j0)] := hl
          refine lv_iload S.1 S.2.1 dX7_of_104 (lv_at hl 0 rfl) ?_
          refine lv_aload_n S.1 S.2.1 dX7_of_106 rfl (lv_at hl 4 rfl) ?_
          refine w_get S C w (CC := RX7) (T := TX7) (N := 16) (ref := "GateSumsModel") im_X7_of_X7 0 rfl rfl 0 (by decide) (List.mem_of_getElem? (i := 1) rfl) (fun _ h => h) rfl dX7_of_107 ?_
          refine lv_iconst (v := 1) S.1 S.2.1 dX7_of_110 (by decide) ?_
          refine w_iald S C w 1 rfl (by unfold vp_in; decide) dX7_of_111 ?_
          refine w_topi (y := (nI gN)) (hg) ?_
          refine lv_icmp_ge (tgt := 161) S.1 S.2.1 dX7_of_112 (by decide) (fun c112 => ?_) (fun c112 => ?_)
          · refine lv_iconst (v := 0) S.1 S.2.1 dX7_of_161 (by decide) ?_
            refine lv_istore (lv' := [(6, .int 0), (5, .int x104.2), (4, .int ((fS (0 : Int32).toNatClampNeg) + i0)), (3, .int z22), (0, .ref mO), (1, .int i0), (2, .int j0)]) S.1 S.2.1 dX7_of_162 hl (by decide) rfl (fun ls hl => ?_)
            refine w_loop (G := G) (σ := Nat × Int32) (nL := 7) 164 (fun x164 => oN - x164.1) (fun x164 => x164.1 ≤ oN) (fun x164 => [(mO, .inr (7, [.ref mS, .ref mD, .ref mR, .ref mT, .int mt, .int ma, .int mn, .ref mW, .ref mQ, .ref mC, .int my, .ref mU, .ref mV, .int mm, .int mf, .int mg])), (mS, .inl (G.2.1 2, 49, .inl fS)), (mR, .inl (G.2.1 2, 3, .inl fR))]) (fun x164 => [(6, .int (nI x164.1)), (5, .int x164.2), (4, .int ((fS (0 : Int32).toNatClampNeg) + i0)), (3, .int z22), (0, .ref mO), (1, .int i0), (2, .int j0)]) (fun _ => []) ?_ (0, x104.2) ls _ _ (Nat.zero_le _) w (lv_sub hl [0, 1, 2, 3, 4, 5, 6] rfl)
            intro x164 ls H locs hI164 w hl ih164
            have w : Wd G _ s [(mO, .inr (7, [.ref mS, .ref mD, .ref mR, .ref mT, .int mt, .int ma, .int mn, .ref mW, .ref mQ, .ref mC, .int my, .ref mU, .ref mV, .int mm, .int mf, .int mg])), (mS, .inl (G.2.1 2, 49, .inl fS)), (mR, .inl (G.2.1 2, 3, .inl fR))] H locs := w
            have hl : lv_has ls 7 [(6, .int (nI x164.1)), (5, .int x164.2), (4, .int ((fS (0 : Int32).toNatClampNeg) + i0)), (3, .int z22), (0, .ref mO), (1, .int i0), (2, .int j0)] := hl
            refine lv_iload S.1 S.2.1 dX7_of_164 (lv_at hl 0 rfl) ?_
            refine lv_aload_n S.1 S.2.1 dX7_of_166 rfl (lv_at hl 4 rfl) ?_
            refine w_get S C w (CC := RX7) (T := TX7) (N := 16) (ref := "GateSumsModel") im_X7_of_X7 0 rfl rfl 0 (by decide) (List.mem_of_getElem? (i := 1) rfl) (fun _ h => h) rfl dX7_of_167 ?_
            refine lv_iconst (v := 2) S.1 S.2.1 dX7_of_170 (by decide) ?_
            refine w_iald S C w 1 rfl (by unfold vp_in; decide) dX7_of_171 ?_
            refine w_topi (y := (nI oN)) (ho) ?_
            refine lv_icmp_ge (tgt := 206) S.1 S.2.1 dX7_of_172 (by decide) (fun c172 => ?_) (fun c172 => ?_)
            · refine lv_iload S.1 S.2.1 dX7_of_206 (lv_at hl 1 rfl) ?_
              exact W.iret (v := x164.2) S.1 S.2.1 hr (fun t ht _ => ⟨⟨x164.2, fR, rfl, trivial, by rw [ht]; exact w.1, w.2.1⟩, w.2.2.F ht⟩) w.2.2.2.2 dX7_of_208
            · refine lv_iload S.1 S.2.1 dX7_of_175 (lv_at hl 1 rfl) ?_
              refine lv_aload_n S.1 S.2.1 dX7_of_177 rfl (lv_at hl 4 rfl) ?_
              refine w_get S C w (CC := RX7) (T := TX7) (N := 16) (ref := "GateSumsModel") im_X7_of_X7 0 rfl rfl 0 (by decide) (List.mem_of_getElem? (i := 1) rfl) (fun _ h => h) rfl dX7_of_178 ?_
              refine lv_bipush (v := 42) S.1 S.2.1 dX7_of_181 (by decide) ?_
              refine lv_iload S.1 S.2.1 dX7_of_183 (lv_at hl 0 rfl) ?_
              refine lv_iadd S.1 S.2.1 dX7_of_185 ?_
              refine w_iald S C w 1 rfl (ixA 42 _ (by have h := c172; rw [nI_leI (by omega) (by omega)] at h; omega)) dX7_of_186 ?_
              refine lv_iload S.1 S.2.1 dX7_of_187 (lv_at hl 2 rfl) ?_
              refine lv_icmp_ne (tgt := 196) S.1 S.2.1 dX7_of_189 (by decide) (fun c189 => ?_) (fun c189 => ?_)
              · refine lv_iconst (v := 0) S.1 S.2.1 dX7_of_196 (by decide) ?_
                refine lv_iadd S.1 S.2.1 dX7_of_197 ?_
                refine lv_istore (lv' := [(5, .int (x164.2 + 0)), (6, .int (nI x164.1)), (4, .int ((fS (0 : Int32).toNatClampNeg) + i0)), (3, .int z22), (0, .ref mO), (1, .int i0), (2, .int j0)]) S.1 S.2.1 dX7_of_198 hl (by decide) rfl (fun ls hl => ?_)
                refine lv_iinc (v := (nI (x164.1 + 1))) (lv' := [(6, .int (nI (x164.1 + 1))), (5, .int (x164.2 + 0)), (4, .int ((fS (0 : Int32).toNatClampNeg) + i0)), (3, .int z22), (0, .ref mO), (1, .int i0), (2, .int j0)]) S.1 S.2.1 dX7_of_200 hl (k := 1) rfl (nI_1 _) (by decide) rfl (fun ls hl => ?_)
                refine lv_goto (tgt := 164) S.1 S.2.1 dX7_of_203 (by decide) ?_
                have hlt : x164.1 < oN := by have h := c172; rw [nI_leI (by omega) (by omega)] at h; omega
                exact ih164 (x164.1 + 1, (x164.2 + 0)) ls _ _ (hlt) (by dsimp only; omega) w (lv_sub hl [0, 1, 2, 3, 4, 5, 6] rfl)
              · refine lv_iconst (v := 1) S.1 S.2.1 dX7_of_192 (by decide) ?_
                refine lv_goto (tgt := 197) S.1 S.2.1 dX7_of_193 (by decide) ?_
                refine lv_iadd S.1 S.2.1 dX7_of_197 ?_
                refine lv_istore (lv' := [(5, .int (x164.2 + 1)), (6, .int (nI x164.1)), (4, .int ((fS (0 : Int32).toNatClampNeg) + i0)), (3, .int z22), (0, .ref mO), (1, .int i0), (2, .int j0)]) S.1 S.2.1 dX7_of_198 hl (by decide) rfl (fun ls hl => ?_)
                refine lv_iinc (v := (nI (x164.1 + 1))) (lv' := [(6, .int (nI (x164.1 + 1))), (5, .int (x164.2 + 1)), (4, .int ((fS (0 : Int32).toNatClampNeg) + i0)), (3, .int z22), (0, .ref mO), (1, .int i0), (2, .int j0)]) S.1 S.2.1 dX7_of_200 hl (k := 1) rfl (nI_1 _) (by decide) rfl (fun ls hl => ?_)
                refine lv_goto (tgt := 164) S.1 S.2.1 dX7_of_203 (by decide) ?_
                have hlt : x164.1 < oN := by have h := c172; rw [nI_leI (by omega) (by omega)] at h; omega
                exact ih164 (x164.1 + 1, (x164.2 + 1)) ls _ _ (hlt) (by dsimp only; omega) w (lv_sub hl [0, 1, 2, 3, 4, 5, 6] rfl)
          · refine lv_iload S.1 S.2.1 dX7_of_115 (lv_at hl 1 rfl) ?_
            refine lv_aload_n S.1 S.2.1 dX7_of_117 rfl (lv_at hl 4 rfl) ?_
            refine w_get S C w (CC := RX7) (T := TX7) (N := 16) (ref := "GateSumsModel") im_X7_of_X7 0 rfl rfl 0 (by decide) (List.mem_of_getElem? (i := 1) rfl) (fun _ h => h) rfl dX7_of_118 ?_
            refine lv_bipush (v := 18) S.1 S.2.1 dX7_of_121 (by decide) ?_
            refine lv_iload S.1 S.2.1 dX7_of_123 (lv_at hl 0 rfl) ?_
            refine lv_iadd S.1 S.2.1 dX7_of_125 ?_
            refine w_iald S C w 1 rfl (ixA 18 _ (by have h := c112; rw [nI_leI (by omega) (by omega)] at h; omega)) dX7_of_126 ?_
            refine lv_iload S.1 S.2.1 dX7_of_127 (lv_at hl 2 rfl) ?_
            refine lv_icmp_eq (tgt := 147) S.1 S.2.1 dX7_of_129 (by decide) (fun c129 => ?_) (fun c129 => ?_)
            · refine lv_iconst (v := 1) S.1 S.2.1 dX7_of_147 (by decide) ?_
              refine lv_goto (tgt := 152) S.1 S.2.1 dX7_of_148 (by decide) ?_
              refine lv_iadd S.1 S.2.1 dX7_of_152 ?_
              refine lv_istore (lv' := [(5, .int (x104.2 + 1)), (6, .int (nI x104.1)), (4, .int ((fS (0 : Int32).toNatClampNeg) + i0)), (3, .int z22), (0, .ref mO), (1, .int i0), (2, .int j0)]) S.1 S.2.1 dX7_of_153 hl (by decide) rfl (fun ls hl => ?_)
              refine lv_iinc (v := (nI (x104.1 + 1))) (lv' := [(6, .int (nI (x104.1 + 1))), (5, .int (x104.2 + 1)), (4, .int ((fS (0 : Int32).toNatClampNeg) + i0)), (3, .int z22), (0, .ref mO), (1, .int i0), (2, .int j0)]) S.1 S.2.1 dX7_of_155 hl (k := 1) rfl (nI_1 _) (by decide) rfl (fun ls hl => ?_)
              refine lv_goto (tgt := 104) S.1 S.2.1 dX7_of_158 (by decide) ?_
              have hlt : x104.1 < gN := by have h := c112; rw [nI_leI (by omega) (by omega)] at h; omega
              exact ih104 (x104.1 + 1, (x104.2 + 1)) ls _ _ (hlt) (by dsimp only; omega) w (lv_sub hl [0, 1, 2, 3, 4, 5, 6] rfl)
            · refine lv_aload_n S.1 S.2.1 dX7_of_132 rfl (lv_at hl 4 rfl) ?_
              refine w_get S C w (CC := RX7) (T := TX7) (N := 16) (ref := "GateSumsModel") im_X7_of_X7 0 rfl rfl 0 (by decide) (List.mem_of_getElem? (i := 1) rfl) (fun _ h => h) rfl dX7_of_133 ?_
              refine lv_bipush (v := 30) S.1 S.2.1 dX7_of_136 (by decide) ?_
              refine lv_iload S.1 S.2.1 dX7_of_138 (lv_at hl 0 rfl) ?_
              refine lv_iadd S.1 S.2.1 dX7_of_140 ?_
              refine w_iald S C w 1 rfl (ixA 30 _ (by have h := c112; rw [nI_leI (by omega) (by omega)] at h; omega)) dX7_of_141 ?_
              refine lv_iload S.1 S.2.1 dX7_of_142 (lv_at hl 2 rfl) ?_
              refine lv_icmp_ne (tgt := 151) S.1 S.2.1 dX7_of_144 (by decide) (fun c144 => ?_) (fun c144 => ?_)
              · refine lv_iconst (v := 0) S.1 S.2.1 dX7_of_151 (by decide) ?_
                refine lv_iadd S.1 S.2.1 dX7_of_152 ?_
                refine lv_istore (lv' := [(5, .int (x104.2 + 0)), (6, .int (nI x104.1)), (4, .int ((fS (0 : Int32).toNatClampNeg) + i0)), (3, .int z22), (0, .ref mO), (1, .int i0), (2, .int j0)]) S.1 S.2.1 dX7_of_153 hl (by decide) rfl (fun ls hl => ?_)
                refine lv_iinc (v := (nI (x104.1 + 1))) (lv' := [(6, .int (nI (x104.1 + 1))), (5, .int (x104.2 + 0)), (4, .int ((fS (0 : Int32).toNatClampNeg) + i0)), (3, .int z22), (0, .ref mO), (1, .int i0), (2, .int j0)]) S.1 S.2.1 dX7_of_155 hl (k := 1) rfl (nI_1 _) (by decide) rfl (fun ls hl => ?_)
                refine lv_goto (tgt := 104) S.1 S.2.1 dX7_of_158 (by decide) ?_
                have hlt : x104.1 < gN := by have h := c112; rw [nI_leI (by omega) (by omega)] at h; omega
                exact ih104 (x104.1 + 1, (x104.2 + 0)) ls _ _ (hlt) (by dsimp only; omega) w (lv_sub hl [0, 1, 2, 3, 4, 5, 6] rfl)
              · refine lv_iconst (v := 1) S.1 S.2.1 dX7_of_147 (by decide) ?_
                refine lv_goto (tgt := 152) S.1 S.2.1 dX7_of_148 (by decide) ?_
                refine lv_iadd S.1 S.2.1 dX7_of_152 ?_
                refine lv_istore (lv' := [(5, .int (x104.2 + 1)), (6, .int (nI x104.1)), (4, .int ((fS (0 : Int32).toNatClampNeg) + i0)), (3, .int z22), (0, .ref mO), (1, .int i0), (2, .int j0)]) S.1 S.2.1 dX7_of_153 hl (by decide) rfl (fun ls hl => ?_)
                refine lv_iinc (v := (nI (x104.1 + 1))) (lv' := [(6, .int (nI (x104.1 + 1))), (5, .int (x104.2 + 1)), (4, .int ((fS (0 : Int32).toNatClampNeg) + i0)), (3, .int z22), (0, .ref mO), (1, .int i0), (2, .int j0)]) S.1 S.2.1 dX7_of_155 hl (k := 1) rfl (nI_1 _) (by decide) rfl (fun ls hl => ?_)
                refine lv_goto (tgt := 104) S.1 S.2.1 dX7_of_158 (by decide) ?_
                have hlt : x104.1 < gN := by have h := c112; rw [nI_leI (by omega) (by omega)] at h; omega
                exact ih104 (x104.1 + 1, (x104.2 + 1)) ls _ _ (hlt) (by dsimp only; omega) w (lv_sub hl [0, 1, 2, 3, 4, 5, 6] rfl)
        · refine lv_iload_n S.1 S.2.1 dX7_of_45 rfl (lv_at hl 3 rfl) ?_
          refine lv_if_ne (tgt := 61) S.1 S.2.1 dX7_of_46 (by decide) (fun c46 => ?_) (fun c46 => ?_)
          · refine lv_iload_n S.1 S.2.1 dX7_of_61 rfl (lv_at hl 3 rfl) ?_
            refine lv_iconst (v := 1) S.1 S.2.1 dX7_of_62 (by decide) ?_
            refine lv_icmp_ne (tgt := 78) S.1 S.2.1 dX7_of_63 (by decide) (fun c63 => ?_) (fun c63 => ?_)
            · refine lv_aload_n S.1 S.2.1 dX7_of_78 rfl (lv_at hl 1 rfl) ?_
              refine w_get S C w (CC := RX7) (T := TX7) (N := 16) (ref := "GateSumsModel") im_X7_of_X7 0 rfl rfl 0 (by decide) (List.mem_of_getElem? (i := 1) rfl) (fun _ h => h) rfl dX7_of_79 ?_
              refine lv_bipush (v := 30) S.1 S.2.1 dX7_of_82 (by decide) ?_
              refine lv_iload_n S.1 S.2.1 dX7_of_84 rfl (lv_at hl 2 rfl) ?_
              refine lv_iadd S.1 S.2.1 dX7_of_85 ?_
              refine w_topi (y := (nI (30 + kN))) (iadd 30 hke) ?_
              refine w_iald S C w 1 rfl (nIin (by omega) (by decide)) dX7_of_86 ?_
              exact W.iret (v := (fS (nI (30 + kN)).toNatClampNeg)) S.1 S.2.1 hr (fun t ht _ => ⟨⟨(fS (nI (30 + kN)).toNatClampNeg), fR, rfl, trivial, by rw [ht]; exact w.1, w.2.1⟩, w.2.2.F ht⟩) w.2.2.2.2 dX7_of_87
            · refine lv_aload_n S.1 S.2.1 dX7_of_66 rfl (lv_at hl 1 rfl) ?_
              refine w_get S C w (CC := RX7) (T := TX7) (N := 16) (ref := "GateSumsModel") im_X7_of_X7 0 rfl rfl 0 (by decide) (List.mem_of_getElem? (i := 1) rfl) (fun _ h => h) rfl dX7_of_67 ?_
              refine lv_bipush (v := 18) S.1 S.2.1 dX7_of_70 (by decide) ?_
              refine lv_iload_n S.1 S.2.1 dX7_of_72 rfl (lv_at hl 2 rfl) ?_
              refine lv_iadd S.1 S.2.1 dX7_of_73 ?_
              refine w_topi (y := (nI (18 + kN))) (iadd 18 hke) ?_
              refine w_iald S C w 1 rfl (nIin (by omega) (by decide)) dX7_of_74 ?_
              refine lv_goto (tgt := 87) S.1 S.2.1 dX7_of_75 (by decide) ?_
              exact W.iret (v := (fS (nI (18 + kN)).toNatClampNeg)) S.1 S.2.1 hr (fun t ht _ => ⟨⟨(fS (nI (18 + kN)).toNatClampNeg), fR, rfl, trivial, by rw [ht]; exact w.1, w.2.1⟩, w.2.2.F ht⟩) w.2.2.2.2 dX7_of_87
          · refine lv_aload_n S.1 S.2.1 dX7_of_49 rfl (lv_at hl 1 rfl) ?_
            refine w_get S C w (CC := RX7) (T := TX7) (N := 16) (ref := "GateSumsModel") im_X7_of_X7 0 rfl rfl 0 (by decide) (List.mem_of_getElem? (i := 1) rfl) (fun _ h => h) rfl dX7_of_50 ?_
            refine lv_bipush (v := 6) S.1 S.2.1 dX7_of_53 (by decide) ?_
            refine lv_iload_n S.1 S.2.1 dX7_of_55 rfl (lv_at hl 2 rfl) ?_
            refine lv_iadd S.1 S.2.1 dX7_of_56 ?_
            refine w_topi (y := (nI (6 + kN))) (iadd 6 hke) ?_
            refine w_iald S C w 1 rfl (nIin (by omega) (by decide)) dX7_of_57 ?_
            refine lv_goto (tgt := 87) S.1 S.2.1 dX7_of_58 (by decide) ?_
            exact W.iret (v := (fS (nI (6 + kN)).toNatClampNeg)) S.1 S.2.1 hr (fun t ht _ => ⟨⟨(fS (nI (6 + kN)).toNatClampNeg), fR, rfl, trivial, by rw [ht]; exact w.1, w.2.1⟩, w.2.2.F ht⟩) w.2.2.2.2 dX7_of_87
      · refine lv_aload_n S.1 S.2.1 dX7_of_34 rfl (lv_at hl 1 rfl) ?_
        refine lv_iload_n S.1 S.2.1 dX7_of_35 rfl (lv_at hl 0 rfl) ?_
        refine cq_i C w [0, 2] [1] [1, 0, 2] (wr := [(mS, .inl (G.2.1 2, 49, .inl fS))]) (w' := fun u : (Nat → Int32) => [(mO, .inr (7, [.ref mS, .ref mD, .ref mR, .ref mT, .int mt, .int ma, .int mn, .ref mW, .ref mQ, .ref mC, .int my, .ref mU, .ref mV, .int mm, .int mf, .int mg])), (mR, .inl (G.2.1 2, 3, .inl u))]) (ws2 := fun u : (Nat → Int32) => [(mO, .inr (7, [.ref mS, .ref mD, .ref mR, .ref mT, .int mt, .int ma, .int mn, .ref mW, .ref mQ, .ref mC, .int my, .ref mU, .ref mV, .int mm, .int mf, .int mg])), (mS, .inl (G.2.1 2, 49, .inl fS)), (mR, .inl (G.2.1 2, 3, .inl u))]) rfl rfl rfl (by decide) rfl (fun _ => rfl) (va_runV (As := [.int z22]) (rest := []) S (c_X7_none l G mO mR _ mS mD mT mW mQ mC mU mV mt ma mn my mm mf mg fR z22) (cwV 1 S.2.2.2.2 gX7_of_X7_none rfl rfl rfl (by decide +kernel) ⟨Nat.le_of_ble_eq_true rfl, Nat.le_of_ble_eq_true rfl⟩) ⟨wPre_blind, va_recv C.1 w.1 (ci := 7) (q0 := 0) rfl rfl, wPre_at C w [0, 2] rfl rfl⟩ rfl rfl hl.1 rfl (lv_room (Nat.le_of_ble_eq_true rfl)) dX7_of_36 ⟨Nat.le_of_ble_eq_true rfl, Nat.le_of_ble_eq_true rfl⟩) (fun r36_1 u36_1 H locs h36_1 w => ?_)
        have w : Wd G _ s [(mO, .inr (7, [.ref mS, .ref mD, .ref mR, .ref mT, .int mt, .int ma, .int mn, .ref mW, .ref mQ, .ref mC, .int my, .ref mU, .ref mV, .int mm, .int mf, .int mg])), (mS, .inl (G.2.1 2, 49, .inl fS)), (mR, .inl (G.2.1 2, 3, .inl u36_1))] H locs := w
        exact W.iret (v := r36_1) S.1 S.2.1 hr (fun t ht _ => ⟨⟨r36_1, u36_1, rfl, trivial, by rw [ht]; exact w.1, w.2.1⟩, w.2.2.F ht⟩) w.2.2.2.2 dX7_of_39
  · refine lv_aload_n S.1 S.2.1 dX7_of_0 rfl (lv_at hl 0 rfl) ?_
    refine lv_iload_n S.1 S.2.1 dX7_of_1 rfl (lv_at hl 1 rfl) ?_
    refine cs_i (va_runV (As := [.int i0]) (rest := []) S (c_X7_isGate l G mO mS _ mD mR mT mW mQ mC mU mV mt ma mn my mm mf mg fS i0) (cwV 1 S.2.2.2.2 gX7_of_X7_isGate rfl rfl rfl (by decide +kernel) ⟨Nat.le_of_ble_eq_true rfl, Nat.le_of_ble_eq_true rfl⟩) ⟨wPre_blind, va_recv C.1 w.1 (ci := 7) (q0 := 0) rfl rfl, wPre_at C w [0, 1] rfl rfl⟩ rfl rfl hl.1 rfl (lv_room (Nat.le_of_ble_eq_true rfl)) dX7_of_2 ⟨Nat.le_of_ble_eq_true rfl, Nat.le_of_ble_eq_true rfl⟩) (fun r2 h2 => ?_)
    refine w_topi (y := (gateM fS i0)) h2 ?_
    refine lv_if_eq (tgt := 21) S.1 S.2.1 dX7_of_5 (by decide) (fun c5 => ?_) (fun c5 => ?_)
    · refine lv_iconst (v := 0) S.1 S.2.1 dX7_of_21 (by decide) ?_
      exact J22 0 (by first | exact fun _ => c5 | exact fun h => absurd rfl h)
    · refine lv_iload_n S.1 S.2.1 dX7_of_8 rfl (lv_at hl 2 rfl) ?_
      refine lv_iconst (v := 0) S.1 S.2.1 dX7_of_9 (by decide) ?_
      refine lv_iconst (v := 3) S.1 S.2.1 dX7_of_10 (by decide) ?_
      refine cs_i (va_runS (As := [.int j0, .int 0, .int 3]) (rest := []) S (c_X7_in l G _ j0 0 3) (va_cwS 3 S.2.2.2.2 gX7_of_X7_in rfl rfl rfl (by decide +kernel) ⟨Nat.le_of_ble_eq_true rfl, Nat.le_of_ble_eq_true rfl⟩) ⟨wPre_blind, wPre_at C w [] rfl rfl⟩ rfl rfl hl.1 rfl (lv_room (Nat.le_of_ble_eq_true rfl)) dX7_of_11 ⟨Nat.le_of_ble_eq_true rfl, Nat.le_of_ble_eq_true rfl⟩) (fun r11 h11 => ?_)
      refine w_topi (y := (inF j0 0 3)) h11 ?_
      refine lv_if_eq (tgt := 21) S.1 S.2.1 dX7_of_14 (by decide) (fun c14 => ?_) (fun c14 => ?_)
      · refine lv_iconst (v := 0) S.1 S.2.1 dX7_of_21 (by decide) ?_
        exact J22 0 (by first | exact fun _ => c5 | exact fun h => absurd rfl h)
      · refine lv_iconst (v := 1) S.1 S.2.1 dX7_of_17 (by decide) ?_
        refine lv_goto (tgt := 22) S.1 S.2.1 dX7_of_18 (by decide) ?_
        exact J22 1 (by first | exact fun _ => c5 | exact fun h => absurd rfl h)
theorem im_X7_told_X7 : ∀ w ∈ u_ws RX7 TX7 16, w ∈ wsX7_told := by decide +kernel
set_option maxHeartbeats 4000000 in
set_option maxRecDepth 100000 in
theorem w_X7_told (l : Launch) (G : GT) (mO mS mR : Nat) (sz : Nat) (mD mT mW mQ mC mU mV : Nat) (mt ma mn my mm mf mg : Int32) (fS fR : Nat → Int32) (i0 j0 : Int32) (hok : okM fS) : Met l yX7_told wsX7_told ({ frames := 2, cells := 0, slots := 0, locals := 42 }) (va_Pc [.ref mO, .int i0, .int j0] (wPre G [(mO, .inr (7, [.ref mS, .ref mD, .ref mR, .ref mT, .int mt, .int ma, .int mn, .ref mW, .ref mQ, .ref mC, .int my, .ref mU, .ref mV, .int mm, .int mf, .int mg])), (mS, .inl (G.2.1 2, 49, .inl fS)), (mR, .inl (G.2.1 2, 3, .inl fR))] sz)) (va_Qi (fun (r : Int32) (u : (Nat → Int32)) => True) (bW G (va_A [(mO, .inr (7, [.ref mS, .ref mD, .ref mR, .ref mT, .int mt, .int ma, .int mn, .ref mW, .ref mQ, .ref mC, .int my, .ref mU, .ref mV, .int mm, .int mf, .int mg])), (mS, .inl (G.2.1 2, 49, .inl fS)), (mR, .inl (G.2.1 2, 3, .inl fR))] sz) (fun u : (Nat → Int32) => [(mO, .inr (7, [.ref mS, .ref mD, .ref mR, .ref mT, .int mt, .int ma, .int mn, .ref mW, .ref mQ, .ref mC, .int my, .ref mU, .ref mV, .int mm, .int mf, .int mg])), (mS, .inl (G.2.1 2, 49, .inl fS)), (mR, .inl (G.2.1 2, 3, .inl u))])) (va_A [(mO, .inr (7, [.ref mS, .ref mD, .ref mR, .ref mT, .int mt, .int ma, .int mn, .ref mW, .ref mQ, .ref mC, .int my, .ref mU, .ref mV, .int mm, .int mf, .int mg])), (mS, .inl (G.2.1 2, 49, .inl fS)), (mR, .inl (G.2.1 2, 3, .inl fR))] sz)) 0 0 (va_A [(mO, .inr (7, [.ref mS, .ref mD, .ref mR, .ref mT, .int mt, .int ma, .int mn, .ref mW, .ref mQ, .ref mC, .int my, .ref mU, .ref mV, .int mm, .int mf, .int mg])), (mS, .inl (G.2.1 2, 49, .inl fS)), (mR, .inl (G.2.1 2, 3, .inl fR))] sz) := by
  refine met_go (cc := cX7_told) (maxL := 4) (ret := (some .int)) (own := RX7) (by decide) rfl rfl (Nat.le_of_ble_eq_true rfl) ?_
  intro p e s m below meth c ls S hr hlocks hname hsz C w hl
  obtain ⟨nN, gN, oN, pN, qN, h0_, hnN, hg, hgN, ho, hoN, hp, hpN, hq, hqN⟩ := id hok
  have hl : lv_has ls 4 [(0, .ref mO), (1, .int i0), (2, .int j0)] := hl
  refine w_joini 50 [] (fun z50 => ¬ z50 = 0 → ((i0 = 0 → ¬ outM fS j0 = 0) ∧ (¬ i0 = 0 → ¬ inF i0 1 3 = 0))) (fun z50 hz50 => ?_) (fun J50 => ?_)
  · refine lv_istore_n (lv' := [(3, .int z50), (0, .ref mO), (1, .int i0), (2, .int j0)]) S.1 S.2.1 dX7_told_50 rfl hl (by decide) rfl (fun ls hl => ?_)
    refine lv_iload_n S.1 S.2.1 dX7_told_51 rfl (lv_at hl 0 rfl) ?_
    refine lv_if_eq (tgt := 62) S.1 S.2.1 dX7_told_52 (by decide) (fun c52 => ?_) (fun c52 => ?_)
    · refine lv_aload_n S.1 S.2.1 dX7_told_62 rfl (lv_at hl 1 rfl) ?_
      refine lv_iload_n S.1 S.2.1 dX7_told_63 rfl (lv_at hl 0 rfl) ?_
      refine cq_i C w [0, 2] [1] [1, 0, 2] (wr := [(mS, .inl (G.2.1 2, 49, .inl fS))]) (w' := fun u : (Nat → Int32) => [(mO, .inr (7, [.ref mS, .ref mD, .ref mR, .ref mT, .int mt, .int ma, .int mn, .ref mW, .ref mQ, .ref mC, .int my, .ref mU, .ref mV, .int mm, .int mf, .int mg])), (mR, .inl (G.2.1 2, 3, .inl u))]) (ws2 := fun u : (Nat → Int32) => [(mO, .inr (7, [.ref mS, .ref mD, .ref mR, .ref mT, .int mt, .int ma, .int mn, .ref mW, .ref mQ, .ref mC, .int my, .ref mU, .ref mV, .int mm, .int mf, .int mg])), (mS, .inl (G.2.1 2, 49, .inl fS)), (mR, .inl (G.2.1 2, 3, .inl u))]) rfl rfl rfl (by decide) rfl (fun _ => rfl) (va_runV (As := [.int z50]) (rest := []) S (c_X7_none l G mO mR _ mS mD mT mW mQ mC mU mV mt ma mn my mm mf mg fR z50) (cwV 1 S.2.2.2.2 gX7_told_X7_none rfl rfl rfl (by decide +kernel) ⟨Nat.le_of_ble_eq_true rfl, Nat.le_of_ble_eq_true rfl⟩) ⟨wPre_blind, va_recv C.1 w.1 (ci := 7) (q0 := 0) rfl rfl, wPre_at C w [0, 2] rfl rfl⟩ rfl rfl hl.1 rfl (lv_room (Nat.le_of_ble_eq_true rfl)) dX7_told_64 ⟨Nat.le_of_ble_eq_true rfl, Nat.le_of_ble_eq_true rfl⟩) (fun r64 u64 H locs h64 w => ?_)
      have w : Wd G _ s [(mO, .inr (7, [.ref mS, .ref mD, .ref mR, .ref mT, .int mt, .int ma, .int mn, .ref mW, .ref mQ, .ref mC, .int my, .ref mU, .ref mV, .int mm, .int mf, .int mg])), (mS, .inl (G.2.1 2, 49, .inl fS)), (mR, .inl (G.2.1 2, 3, .inl u64))] H locs := w
      exact W.iret (v := r64) S.1 S.2.1 hr (fun t ht _ => ⟨⟨r64, u64, rfl, trivial, by rw [ht]; exact w.1, w.2.1⟩, w.2.2.F ht⟩) w.2.2.2.2 dX7_told_67
    · refine lv_aload_n S.1 S.2.1 dX7_told_55 rfl (lv_at hl 1 rfl) ?_
      refine cs_i (va_runV (As := []) (rest := []) S (c_X7_isThere l G mO mS _ mD mR mT mW mQ mC mU mV mt ma mn my mm mf mg fS) (cwV 0 S.2.2.2.2 gX7_told_X7_isThere rfl rfl rfl (by decide +kernel) ⟨Nat.le_of_ble_eq_true rfl, Nat.le_of_ble_eq_true rfl⟩) ⟨wPre_blind, va_recv C.1 w.1 (ci := 7) (q0 := 0) rfl rfl, wPre_at C w [0, 1] rfl rfl⟩ rfl rfl hl.1 rfl (lv_room (Nat.le_of_ble_eq_true rfl)) dX7_told_56 ⟨Nat.le_of_ble_eq_true rfl, Nat.le_of_ble_eq_true rfl⟩) (fun r56 h56 => ?_)
      refine w_topi (y := (thereM fS)) h56 ?_
      refine lv_if_ne (tgt := 68) S.1 S.2.1 dX7_told_59 (by decide) (fun c59 => ?_) (fun c59 => ?_)
      · refine lv_iload_n S.1 S.2.1 dX7_told_68 rfl (lv_at hl 2 rfl) ?_
        refine lv_if_ne (tgt := 84) S.1 S.2.1 dX7_told_69 (by decide) (fun c69 => ?_) (fun c69 => ?_)
        · obtain ⟨mN, hm1, hm3, hme⟩ := inF_ok (lo := 1) (hi := 3) rfl rfl (by decide) (by decide) ((hz50 c52).2 c69)
          refine lv_aload_n S.1 S.2.1 dX7_told_84 rfl (lv_at hl 1 rfl) ?_
          refine w_get S C w (CC := RX7) (T := TX7) (N := 16) (ref := "GateSumsModel") im_X7_told_X7 0 rfl rfl 0 (by decide) (List.mem_of_getElem? (i := 1) rfl) (fun _ h => h) rfl dX7_told_85 ?_
          refine lv_iconst (v := 3) S.1 S.2.1 dX7_told_88 (by decide) ?_
          refine lv_iload_n S.1 S.2.1 dX7_told_89 rfl (lv_at hl 2 rfl) ?_
          refine lv_iadd S.1 S.2.1 dX7_told_90 ?_
          refine lv_iconst (v := 1) S.1 S.2.1 dX7_told_91 (by decide) ?_
          refine lv_isub S.1 S.2.1 dX7_told_92 ?_
          refine w_topi (y := (nI (2 + mN))) (t31 hme) ?_
          refine w_iald S C w 1 rfl (nIin (by omega) (by decide)) dX7_told_93 ?_
          exact W.iret (v := (fS (nI (2 + mN)).toNatClampNeg)) S.1 S.2.1 hr (fun t ht _ => ⟨⟨(fS (nI (2 + mN)).toNatClampNeg), fR, rfl, trivial, by rw [ht]; exact w.1, w.2.1⟩, w.2.2.F ht⟩) w.2.2.2.2 dX7_told_94
        · obtain ⟨kN, hkN, hke⟩ := place_ok ho hoN ((hz50 c52).1 c69) c59
          refine lv_aload_n S.1 S.2.1 dX7_told_72 rfl (lv_at hl 1 rfl) ?_
          refine w_get S C w (CC := RX7) (T := TX7) (N := 16) (ref := "GateSumsModel") im_X7_told_X7 0 rfl rfl 0 (by decide) (List.mem_of_getElem? (i := 1) rfl) (fun _ h => h) rfl dX7_told_73 ?_
          refine lv_bipush (v := 42) S.1 S.2.1 dX7_told_76 (by decide) ?_
          refine lv_iload_n S.1 S.2.1 dX7_told_78 rfl (lv_at hl 3 rfl) ?_
          refine lv_iadd S.1 S.2.1 dX7_told_79 ?_
          refine w_topi (y := (nI (42 + kN))) (iadd 42 hke) ?_
          refine w_iald S C w 1 rfl (nIin (by omega) (by decide)) dX7_told_80 ?_
          refine lv_goto (tgt := 94) S.1 S.2.1 dX7_told_81 (by decide) ?_
          exact W.iret (v := (fS (nI (42 + kN)).toNatClampNeg)) S.1 S.2.1 hr (fun t ht _ => ⟨⟨(fS (nI (42 + kN)).toNatClampNeg), fR, rfl, trivial, by rw [ht]; exact w.1, w.2.1⟩, w.2.2.F ht⟩) w.2.2.2.2 dX7_told_94
      · refine lv_aload_n S.1 S.2.1 dX7_told_62 rfl (lv_at hl 1 rfl) ?_
        refine lv_iload_n S.1 S.2.1 dX7_told_63 rfl (lv_at hl 0 rfl) ?_
        refine cq_i C w [0, 2] [1] [1, 0, 2] (wr := [(mS, .inl (G.2.1 2, 49, .inl fS))]) (w' := fun u : (Nat → Int32) => [(mO, .inr (7, [.ref mS, .ref mD, .ref mR, .ref mT, .int mt, .int ma, .int mn, .ref mW, .ref mQ, .ref mC, .int my, .ref mU, .ref mV, .int mm, .int mf, .int mg])), (mR, .inl (G.2.1 2, 3, .inl u))]) (ws2 := fun u : (Nat → Int32) => [(mO, .inr (7, [.ref mS, .ref mD, .ref mR, .ref mT, .int mt, .int ma, .int mn, .ref mW, .ref mQ, .ref mC, .int my, .ref mU, .ref mV, .int mm, .int mf, .int mg])), (mS, .inl (G.2.1 2, 49, .inl fS)), (mR, .inl (G.2.1 2, 3, .inl u))]) rfl rfl rfl (by decide) rfl (fun _ => rfl) (va_runV (As := [.int z50]) (rest := []) S (c_X7_none l G mO mR _ mS mD mT mW mQ mC mU mV mt ma mn my mm mf mg fR z50) (cwV 1 S.2.2.2.2 gX7_told_X7_none rfl rfl rfl (by decide +kernel) ⟨Nat.le_of_ble_eq_true rfl, Nat.le_of_ble_eq_true rfl⟩) ⟨wPre_blind, va_recv C.1 w.1 (ci := 7) (q0 := 0) rfl rfl, wPre_at C w [0, 2] rfl rfl⟩ rfl rfl hl.1 rfl (lv_room (Nat.le_of_ble_eq_true rfl)) dX7_told_64 ⟨Nat.le_of_ble_eq_true rfl, Nat.le_of_ble_eq_true rfl⟩) (fun r64_1 u64_1 H locs h64_1 w => ?_)
        have w : Wd G _ s [(mO, .inr (7, [.ref mS, .ref mD, .ref mR, .ref mT, .int mt, .int ma, .int mn, .ref mW, .ref mQ, .ref mC, .int my, .ref mU, .ref mV, .int mm, .int mf, .int mg])), (mS, .inl (G.2.1 2, 49, .inl fS)), (mR, .inl (G.2.1 2, 3, .inl u64_1))] H locs := w
        exact W.iret (v := r64_1) S.1 S.2.1 hr (fun t ht _ => ⟨⟨r64_1, u64_1, rfl, trivial, by rw [ht]; exact w.1, w.2.1⟩, w.2.2.F ht⟩) w.2.2.2.2 dX7_told_67
  · refine lv_iload_n S.1 S.2.1 dX7_told_0 rfl (lv_at hl 1 rfl) ?_
    refine lv_if_ne (tgt := 32) S.1 S.2.1 dX7_told_1 (by decide) (fun c1 => ?_) (fun c1 => ?_)
    · refine lv_iload_n S.1 S.2.1 dX7_told_32 rfl (lv_at hl 1 rfl) ?_
      refine lv_iconst (v := 1) S.1 S.2.1 dX7_told_33 (by decide) ?_
      refine lv_iconst (v := 3) S.1 S.2.1 dX7_told_34 (by decide) ?_
      refine cs_i (va_runS (As := [.int i0, .int 1, .int 3]) (rest := []) S (c_X7_in l G _ i0 1 3) (va_cwS 3 S.2.2.2.2 gX7_told_X7_in rfl rfl rfl (by decide +kernel) ⟨Nat.le_of_ble_eq_true rfl, Nat.le_of_ble_eq_true rfl⟩) ⟨wPre_blind, wPre_at C w [] rfl rfl⟩ rfl rfl hl.1 rfl (lv_room (Nat.le_of_ble_eq_true rfl)) dX7_told_35 ⟨Nat.le_of_ble_eq_true rfl, Nat.le_of_ble_eq_true rfl⟩) (fun r35 h35 => ?_)
      refine w_topi (y := (inF i0 1 3)) h35 ?_
      refine lv_if_eq (tgt := 49) S.1 S.2.1 dX7_told_38 (by decide) (fun c38 => ?_) (fun c38 => ?_)
      · refine lv_iconst (v := 0) S.1 S.2.1 dX7_told_49 (by decide) ?_
        exact J50 0 (by first | exact fun h => ⟨fun _ => by (first | (unfold outM; rw [if_neg c10]; exact h) | (unfold outM; rw [if_pos c10]; exact h)), fun q => absurd c1 q⟩ | exact fun _ => ⟨fun q => absurd q c1, fun _ => c38⟩ | exact fun h => absurd rfl h)
      · refine lv_iload_n S.1 S.2.1 dX7_told_41 rfl (lv_at hl 2 rfl) ?_
        refine lv_if_ne (tgt := 49) S.1 S.2.1 dX7_told_42 (by decide) (fun c42 => ?_) (fun c42 => ?_)
        · refine lv_iconst (v := 0) S.1 S.2.1 dX7_told_49 (by decide) ?_
          exact J50 0 (by first | exact fun h => ⟨fun _ => by (first | (unfold outM; rw [if_neg c10]; exact h) | (unfold outM; rw [if_pos c10]; exact h)), fun q => absurd c1 q⟩ | exact fun _ => ⟨fun q => absurd q c1, fun _ => c38⟩ | exact fun h => absurd rfl h)
        · refine lv_iconst (v := 1) S.1 S.2.1 dX7_told_45 (by decide) ?_
          refine lv_goto (tgt := 50) S.1 S.2.1 dX7_told_46 (by decide) ?_
          exact J50 1 (by first | exact fun h => ⟨fun _ => by (first | (unfold outM; rw [if_neg c10]; exact h) | (unfold outM; rw [if_pos c10]; exact h)), fun q => absurd c1 q⟩ | exact fun _ => ⟨fun q => absurd q c1, fun _ => c38⟩ | exact fun h => absurd rfl h)
    · refine lv_iload_n S.1 S.2.1 dX7_told_4 rfl (lv_at hl 2 rfl) ?_
      refine lv_iconst (v := 0) S.1 S.2.1 dX7_told_5 (by decide) ?_
      refine lv_aload_n S.1 S.2.1 dX7_told_6 rfl (lv_at hl 0 rfl) ?_
      refine cs_i (va_runV (As := []) (rest := [.int 0, .int j0]) S (c_X7_isThere l G mO mS _ mD mR mT mW mQ mC mU mV mt ma mn my mm mf mg fS) (cwV 0 S.2.2.2.2 gX7_told_X7_isThere rfl rfl rfl (by decide +kernel) ⟨Nat.le_of_ble_eq_true rfl, Nat.le_of_ble_eq_true rfl⟩) ⟨wPre_blind, va_recv C.1 w.1 (ci := 7) (q0 := 0) rfl rfl, wPre_at C w [0, 1] rfl rfl⟩ rfl rfl hl.1 rfl (lv_room (Nat.le_of_ble_eq_true rfl)) dX7_told_7 ⟨Nat.le_of_ble_eq_true rfl, Nat.le_of_ble_eq_true rfl⟩) (fun r7 h7 => ?_)
      refine w_topi (y := (thereM fS)) h7 ?_
      refine lv_if_eq (tgt := 24) S.1 S.2.1 dX7_told_10 (by decide) (fun c10 => ?_) (fun c10 => ?_)
      · refine lv_bipush (v := 6) S.1 S.2.1 dX7_told_24 (by decide) ?_
        refine cs_i (va_runS (As := [.int j0, .int 0, .int 6]) (rest := []) S (c_X7_in l G _ j0 0 6) (va_cwS 3 S.2.2.2.2 gX7_told_X7_in rfl rfl rfl (by decide +kernel) ⟨Nat.le_of_ble_eq_true rfl, Nat.le_of_ble_eq_true rfl⟩) ⟨wPre_blind, wPre_at C w [] rfl rfl⟩ rfl rfl hl.1 rfl (lv_room (Nat.le_of_ble_eq_true rfl)) dX7_told_26 ⟨Nat.le_of_ble_eq_true rfl, Nat.le_of_ble_eq_true rfl⟩) (fun r26 h26 => ?_)
        refine w_topi (y := (inF j0 0 6)) h26 ?_
        refine lv_goto (tgt := 50) S.1 S.2.1 dX7_told_29 (by decide) ?_
        exact J50 (inF j0 0 6) (by first | exact fun h => ⟨fun _ => by (first | (unfold outM; rw [if_neg c10]; exact h) | (unfold outM; rw [if_pos c10]; exact h)), fun q => absurd c1 q⟩ | exact fun _ => ⟨fun q => absurd q c1, fun _ => c38⟩ | exact fun h => absurd rfl h)
      · refine lv_aload_n S.1 S.2.1 dX7_told_13 rfl (lv_at hl 0 rfl) ?_
        refine w_get S C w (CC := RX7) (T := TX7) (N := 16) (ref := "GateSumsModel") im_X7_told_X7 0 rfl rfl 0 (by decide) (List.mem_of_getElem? (i := 1) rfl) (fun _ h => h) rfl dX7_told_14 ?_
        refine lv_iconst (v := 2) S.1 S.2.1 dX7_told_17 (by decide) ?_
        refine w_iald S C w 1 rfl (by unfold vp_in; decide) dX7_told_18 ?_
        refine lv_iconst (v := 1) S.1 S.2.1 dX7_told_19 (by decide) ?_
        refine lv_isub S.1 S.2.1 dX7_told_20 ?_
        refine lv_goto (tgt := 26) S.1 S.2.1 dX7_told_21 (by decide) ?_
        refine cs_i (va_runS (As := [.int j0, .int 0, .int ((fS (2 : Int32).toNatClampNeg) - 1)]) (rest := []) S (c_X7_in l G _ j0 0 ((fS (2 : Int32).toNatClampNeg) - 1)) (va_cwS 3 S.2.2.2.2 gX7_told_X7_in rfl rfl rfl (by decide +kernel) ⟨Nat.le_of_ble_eq_true rfl, Nat.le_of_ble_eq_true rfl⟩) ⟨wPre_blind, wPre_at C w [] rfl rfl⟩ rfl rfl hl.1 rfl (lv_room (Nat.le_of_ble_eq_true rfl)) dX7_told_26 ⟨Nat.le_of_ble_eq_true rfl, Nat.le_of_ble_eq_true rfl⟩) (fun r26_1 h26_1 => ?_)
        refine w_topi (y := (inF j0 0 ((fS (2 : Int32).toNatClampNeg) - 1))) h26_1 ?_
        refine lv_goto (tgt := 50) S.1 S.2.1 dX7_told_29 (by decide) ?_
        exact J50 (inF j0 0 ((fS (2 : Int32).toNatClampNeg) - 1)) (by first | exact fun h => ⟨fun _ => by (first | (unfold outM; rw [if_neg c10]; exact h) | (unfold outM; rw [if_pos c10]; exact h)), fun q => absurd c1 q⟩ | exact fun _ => ⟨fun q => absurd q c1, fun _ => c38⟩ | exact fun h => absurd rfl h)
set_option maxHeartbeats 4000000 in
set_option maxRecDepth 100000 in
theorem w_X7_runs (l : Launch) (G : GT) (mO mS mR : Nat) (sz : Nat) (mD mT mW mQ mC mU mV : Nat) (mt ma mn my mm mf mg : Int32) (fS fR : Nat → Int32) (i0 j0 : Int32) (hok : okM fS) : Met l yX7_runs wsX7_runs ({ frames := 3, cells := 0, slots := 0, locals := 73 }) (va_Pc [.ref mO, .int i0, .int j0] (wPre G [(mO, .inr (7, [.ref mS, .ref mD, .ref mR, .ref mT, .int mt, .int ma, .int mn, .ref mW, .ref mQ, .ref mC, .int my, .ref mU, .ref mV, .int mm, .int mf, .int mg])), (mS, .inl (G.2.1 2, 49, .inl fS)), (mR, .inl (G.2.1 2, 3, .inl fR))] sz)) (va_Qi (fun (r : Int32) (u : (Nat → Int32)) => True) (bW G (va_A [(mO, .inr (7, [.ref mS, .ref mD, .ref mR, .ref mT, .int mt, .int ma, .int mn, .ref mW, .ref mQ, .ref mC, .int my, .ref mU, .ref mV, .int mm, .int mf, .int mg])), (mS, .inl (G.2.1 2, 49, .inl fS)), (mR, .inl (G.2.1 2, 3, .inl fR))] sz) (fun u : (Nat → Int32) => [(mO, .inr (7, [.ref mS, .ref mD, .ref mR, .ref mT, .int mt, .int ma, .int mn, .ref mW, .ref mQ, .ref mC, .int my, .ref mU, .ref mV, .int mm, .int mf, .int mg])), (mS, .inl (G.2.1 2, 49, .inl fS)), (mR, .inl (G.2.1 2, 3, .inl u))])) (va_A [(mO, .inr (7, [.ref mS, .ref mD, .ref mR, .ref mT, .int mt, .int ma, .int mn, .ref mW, .ref mQ, .ref mC, .int my, .ref mU, .ref mV, .int mm, .int mf, .int mg])), (mS, .inl (G.2.1 2, 49, .inl fS)), (mR, .inl (G.2.1 2, 3, .inl fR))] sz)) 0 0 (va_A [(mO, .inr (7, [.ref mS, .ref mD, .ref mR, .ref mT, .int mt, .int ma, .int mn, .ref mW, .ref mQ, .ref mC, .int my, .ref mU, .ref mV, .int mm, .int mf, .int mg])), (mS, .inl (G.2.1 2, 49, .inl fS)), (mR, .inl (G.2.1 2, 3, .inl fR))] sz) := by
  refine met_go (cc := cX7_runs) (maxL := 4) (ret := (some .int)) (own := RX7) (by decide) rfl rfl (Nat.le_of_ble_eq_true rfl) ?_
  intro p e s m below meth c ls S hr hlocks hname hsz C w hl
  obtain ⟨nN, gN, oN, pN, qN, h0_, hnN, hg, hgN, ho, hoN, hp, hpN, hq, hqN⟩ := id hok
  have hl : lv_has ls 4 [(0, .ref mO), (1, .int i0), (2, .int j0)] := hl
  refine w_joini 22 [] (fun z22 => True) (fun z22 hz22 => ?_) (fun J22 => ?_)
  · refine lv_istore_n (lv' := [(3, .int z22), (0, .ref mO), (1, .int i0), (2, .int j0)]) S.1 S.2.1 dX7_runs_22 rfl hl (by decide) rfl (fun ls hl => ?_)
    refine lv_iload_n S.1 S.2.1 dX7_runs_23 rfl (lv_at hl 0 rfl) ?_
    refine lv_if_eq (tgt := 34) S.1 S.2.1 dX7_runs_24 (by decide) (fun c24 => ?_) (fun c24 => ?_)
    · refine lv_aload_n S.1 S.2.1 dX7_runs_34 rfl (lv_at hl 1 rfl) ?_
      refine lv_iload_n S.1 S.2.1 dX7_runs_35 rfl (lv_at hl 0 rfl) ?_
      refine cq_i C w [0, 2] [1] [1, 0, 2] (wr := [(mS, .inl (G.2.1 2, 49, .inl fS))]) (w' := fun u : (Nat → Int32) => [(mO, .inr (7, [.ref mS, .ref mD, .ref mR, .ref mT, .int mt, .int ma, .int mn, .ref mW, .ref mQ, .ref mC, .int my, .ref mU, .ref mV, .int mm, .int mf, .int mg])), (mR, .inl (G.2.1 2, 3, .inl u))]) (ws2 := fun u : (Nat → Int32) => [(mO, .inr (7, [.ref mS, .ref mD, .ref mR, .ref mT, .int mt, .int ma, .int mn, .ref mW, .ref mQ, .ref mC, .int my, .ref mU, .ref mV, .int mm, .int mf, .int mg])), (mS, .inl (G.2.1 2, 49, .inl fS)), (mR, .inl (G.2.1 2, 3, .inl u))]) rfl rfl rfl (by decide) rfl (fun _ => rfl) (va_runV (As := [.int z22]) (rest := []) S (c_X7_none l G mO mR _ mS mD mT mW mQ mC mU mV mt ma mn my mm mf mg fR z22) (cwV 1 S.2.2.2.2 gX7_runs_X7_none rfl rfl rfl (by decide +kernel) ⟨Nat.le_of_ble_eq_true rfl, Nat.le_of_ble_eq_true rfl⟩) ⟨wPre_blind, va_recv C.1 w.1 (ci := 7) (q0 := 0) rfl rfl, wPre_at C w [0, 2] rfl rfl⟩ rfl rfl hl.1 rfl (lv_room (Nat.le_of_ble_eq_true rfl)) dX7_runs_36 ⟨Nat.le_of_ble_eq_true rfl, Nat.le_of_ble_eq_true rfl⟩) (fun r36 u36 H locs h36 w => ?_)
      have w : Wd G _ s [(mO, .inr (7, [.ref mS, .ref mD, .ref mR, .ref mT, .int mt, .int ma, .int mn, .ref mW, .ref mQ, .ref mC, .int my, .ref mU, .ref mV, .int mm, .int mf, .int mg])), (mS, .inl (G.2.1 2, 49, .inl fS)), (mR, .inl (G.2.1 2, 3, .inl u36))] H locs := w
      exact W.iret (v := r36) S.1 S.2.1 hr (fun t ht _ => ⟨⟨r36, u36, rfl, trivial, by rw [ht]; exact w.1, w.2.1⟩, w.2.2.F ht⟩) w.2.2.2.2 dX7_runs_39
    · refine lv_aload_n S.1 S.2.1 dX7_runs_27 rfl (lv_at hl 1 rfl) ?_
      refine cs_i (va_runV (As := []) (rest := []) S (c_X7_isThere l G mO mS _ mD mR mT mW mQ mC mU mV mt ma mn my mm mf mg fS) (cwV 0 S.2.2.2.2 gX7_runs_X7_isThere rfl rfl rfl (by decide +kernel) ⟨Nat.le_of_ble_eq_true rfl, Nat.le_of_ble_eq_true rfl⟩) ⟨wPre_blind, va_recv C.1 w.1 (ci := 7) (q0 := 0) rfl rfl, wPre_at C w [0, 1] rfl rfl⟩ rfl rfl hl.1 rfl (lv_room (Nat.le_of_ble_eq_true rfl)) dX7_runs_28 ⟨Nat.le_of_ble_eq_true rfl, Nat.le_of_ble_eq_true rfl⟩) (fun r28 h28 => ?_)
      refine w_topi (y := (thereM fS)) h28 ?_
      refine lv_if_ne (tgt := 40) S.1 S.2.1 dX7_runs_31 (by decide) (fun c31 => ?_) (fun c31 => ?_)
      · refine lv_iload_n S.1 S.2.1 dX7_runs_40 rfl (lv_at hl 3 rfl) ?_
        refine lv_if_ne (tgt := 52) S.1 S.2.1 dX7_runs_41 (by decide) (fun c41 => ?_) (fun c41 => ?_)
        · refine lv_aload_n S.1 S.2.1 dX7_runs_52 rfl (lv_at hl 1 rfl) ?_
          refine lv_iload_n S.1 S.2.1 dX7_runs_53 rfl (lv_at hl 2 rfl) ?_
          refine cs_i (va_runV (As := [.int i0]) (rest := []) S (c_X7_task l G mO mS _ mD mR mT mW mQ mC mU mV mt ma mn my mm mf mg fS i0) (cwV 1 S.2.2.2.2 gX7_runs_X7_task rfl rfl rfl (by decide +kernel) ⟨Nat.le_of_ble_eq_true rfl, Nat.le_of_ble_eq_true rfl⟩) ⟨wPre_blind, va_recv C.1 w.1 (ci := 7) (q0 := 0) rfl rfl, wPre_at C w [0, 1] rfl rfl⟩ rfl rfl hl.1 rfl (lv_room (Nat.le_of_ble_eq_true rfl)) dX7_runs_54 ⟨Nat.le_of_ble_eq_true rfl, Nat.le_of_ble_eq_true rfl⟩) (fun r54 h54 => ?_)
          exact W.iret (v := r54) S.1 S.2.1 hr (fun t ht _ => ⟨⟨r54, fR, rfl, trivial, by rw [ht]; exact w.1, w.2.1⟩, w.2.2.F ht⟩) w.2.2.2.2 dX7_runs_57
        · refine lv_aload_n S.1 S.2.1 dX7_runs_44 rfl (lv_at hl 1 rfl) ?_
          refine lv_iload_n S.1 S.2.1 dX7_runs_45 rfl (lv_at hl 2 rfl) ?_
          refine cs_i (va_runV (As := [.int i0]) (rest := []) S (c_X7_stand l G mO mS _ mD mR mT mW mQ mC mU mV mt ma mn my mm mf mg fS gN oN i0 (hg) (hgN) (ho) (hoN)) (cwV 1 S.2.2.2.2 gX7_runs_X7_stand rfl rfl rfl (by decide +kernel) ⟨Nat.le_of_ble_eq_true rfl, Nat.le_of_ble_eq_true rfl⟩) ⟨wPre_blind, va_recv C.1 w.1 (ci := 7) (q0 := 0) rfl rfl, wPre_at C w [0, 1] rfl rfl⟩ rfl rfl hl.1 rfl (lv_room (Nat.le_of_ble_eq_true rfl)) dX7_runs_46 ⟨Nat.le_of_ble_eq_true rfl, Nat.le_of_ble_eq_true rfl⟩) (fun r46 h46 => ?_)
          refine lv_goto (tgt := 57) S.1 S.2.1 dX7_runs_49 (by decide) ?_
          exact W.iret (v := r46) S.1 S.2.1 hr (fun t ht _ => ⟨⟨r46, fR, rfl, trivial, by rw [ht]; exact w.1, w.2.1⟩, w.2.2.F ht⟩) w.2.2.2.2 dX7_runs_57
      · refine lv_aload_n S.1 S.2.1 dX7_runs_34 rfl (lv_at hl 1 rfl) ?_
        refine lv_iload_n S.1 S.2.1 dX7_runs_35 rfl (lv_at hl 0 rfl) ?_
        refine cq_i C w [0, 2] [1] [1, 0, 2] (wr := [(mS, .inl (G.2.1 2, 49, .inl fS))]) (w' := fun u : (Nat → Int32) => [(mO, .inr (7, [.ref mS, .ref mD, .ref mR, .ref mT, .int mt, .int ma, .int mn, .ref mW, .ref mQ, .ref mC, .int my, .ref mU, .ref mV, .int mm, .int mf, .int mg])), (mR, .inl (G.2.1 2, 3, .inl u))]) (ws2 := fun u : (Nat → Int32) => [(mO, .inr (7, [.ref mS, .ref mD, .ref mR, .ref mT, .int mt, .int ma, .int mn, .ref mW, .ref mQ, .ref mC, .int my, .ref mU, .ref mV, .int mm, .int mf, .int mg])), (mS, .inl (G.2.1 2, 49, .inl fS)), (mR, .inl (G.2.1 2, 3, .inl u))]) rfl rfl rfl (by decide) rfl (fun _ => rfl) (va_runV (As := [.int z22]) (rest := []) S (c_X7_none l G mO mR _ mS mD mT mW mQ mC mU mV mt ma mn my mm mf mg fR z22) (cwV 1 S.2.2.2.2 gX7_runs_X7_none rfl rfl rfl (by decide +kernel) ⟨Nat.le_of_ble_eq_true rfl, Nat.le_of_ble_eq_true rfl⟩) ⟨wPre_blind, va_recv C.1 w.1 (ci := 7) (q0 := 0) rfl rfl, wPre_at C w [0, 2] rfl rfl⟩ rfl rfl hl.1 rfl (lv_room (Nat.le_of_ble_eq_true rfl)) dX7_runs_36 ⟨Nat.le_of_ble_eq_true rfl, Nat.le_of_ble_eq_true rfl⟩) (fun r36_1 u36_1 H locs h36_1 w => ?_)
        have w : Wd G _ s [(mO, .inr (7, [.ref mS, .ref mD, .ref mR, .ref mT, .int mt, .int ma, .int mn, .ref mW, .ref mQ, .ref mC, .int my, .ref mU, .ref mV, .int mm, .int mf, .int mg])), (mS, .inl (G.2.1 2, 49, .inl fS)), (mR, .inl (G.2.1 2, 3, .inl u36_1))] H locs := w
        exact W.iret (v := r36_1) S.1 S.2.1 hr (fun t ht _ => ⟨⟨r36_1, u36_1, rfl, trivial, by rw [ht]; exact w.1, w.2.1⟩, w.2.2.F ht⟩) w.2.2.2.2 dX7_runs_39
  · refine lv_aload_n S.1 S.2.1 dX7_runs_0 rfl (lv_at hl 0 rfl) ?_
    refine lv_iload_n S.1 S.2.1 dX7_runs_1 rfl (lv_at hl 1 rfl) ?_
    refine cs_i (va_runV (As := [.int i0]) (rest := []) S (c_X7_isInput l G mO mS _ mD mR mT mW mQ mC mU mV mt ma mn my mm mf mg fS i0) (cwV 1 S.2.2.2.2 gX7_runs_X7_isInput rfl rfl rfl (by decide +kernel) ⟨Nat.le_of_ble_eq_true rfl, Nat.le_of_ble_eq_true rfl⟩) ⟨wPre_blind, va_recv C.1 w.1 (ci := 7) (q0 := 0) rfl rfl, wPre_at C w [0, 1] rfl rfl⟩ rfl rfl hl.1 rfl (lv_room (Nat.le_of_ble_eq_true rfl)) dX7_runs_2 ⟨Nat.le_of_ble_eq_true rfl, Nat.le_of_ble_eq_true rfl⟩) (fun r2 h2 => ?_)
    refine w_topi (y := (inpM fS i0)) h2 ?_
    refine lv_if_eq (tgt := 21) S.1 S.2.1 dX7_runs_5 (by decide) (fun c5 => ?_) (fun c5 => ?_)
    · refine lv_iconst (v := 0) S.1 S.2.1 dX7_runs_21 (by decide) ?_
      exact J22 0 (trivial)
    · refine lv_iload_n S.1 S.2.1 dX7_runs_8 rfl (lv_at hl 2 rfl) ?_
      refine lv_iconst (v := 0) S.1 S.2.1 dX7_runs_9 (by decide) ?_
      refine lv_iconst (v := 1) S.1 S.2.1 dX7_runs_10 (by decide) ?_
      refine cs_i (va_runS (As := [.int j0, .int 0, .int 1]) (rest := []) S (c_X7_in l G _ j0 0 1) (va_cwS 3 S.2.2.2.2 gX7_runs_X7_in rfl rfl rfl (by decide +kernel) ⟨Nat.le_of_ble_eq_true rfl, Nat.le_of_ble_eq_true rfl⟩) ⟨wPre_blind, wPre_at C w [] rfl rfl⟩ rfl rfl hl.1 rfl (lv_room (Nat.le_of_ble_eq_true rfl)) dX7_runs_11 ⟨Nat.le_of_ble_eq_true rfl, Nat.le_of_ble_eq_true rfl⟩) (fun r11 h11 => ?_)
      refine w_topi (y := (inF j0 0 1)) h11 ?_
      refine lv_if_eq (tgt := 21) S.1 S.2.1 dX7_runs_14 (by decide) (fun c14 => ?_) (fun c14 => ?_)
      · refine lv_iconst (v := 0) S.1 S.2.1 dX7_runs_21 (by decide) ?_
        exact J22 0 (trivial)
      · refine lv_iconst (v := 1) S.1 S.2.1 dX7_runs_17 (by decide) ?_
        refine lv_goto (tgt := 22) S.1 S.2.1 dX7_runs_18 (by decide) ?_
        exact J22 1 (trivial)
theorem im_X7_signal_X7 : ∀ w ∈ u_ws RX7 TX7 16, w ∈ wsX7_signal := by decide +kernel
set_option maxHeartbeats 4000000 in
set_option maxRecDepth 100000 in
theorem w_X7_signal (l : Launch) (G : GT) (mO mS mR : Nat) (sz : Nat) (mD mT mW mQ mC mU mV : Nat) (mt ma mn my mm mf mg : Int32) (fS fR : Nat → Int32) (i0 j0 : Int32) (hok : okM fS) : Met l yX7_signal wsX7_signal ({ frames := 2, cells := 0, slots := 0, locals := 49 }) (va_Pc [.ref mO, .int i0, .int j0] (wPre G [(mO, .inr (7, [.ref mS, .ref mD, .ref mR, .ref mT, .int mt, .int ma, .int mn, .ref mW, .ref mQ, .ref mC, .int my, .ref mU, .ref mV, .int mm, .int mf, .int mg])), (mS, .inl (G.2.1 2, 49, .inl fS)), (mR, .inl (G.2.1 2, 3, .inl fR))] sz)) (va_Qi (fun (r : Int32) (u : (Nat → Int32)) => True) (bW G (va_A [(mO, .inr (7, [.ref mS, .ref mD, .ref mR, .ref mT, .int mt, .int ma, .int mn, .ref mW, .ref mQ, .ref mC, .int my, .ref mU, .ref mV, .int mm, .int mf, .int mg])), (mS, .inl (G.2.1 2, 49, .inl fS)), (mR, .inl (G.2.1 2, 3, .inl fR))] sz) (fun u : (Nat → Int32) => [(mO, .inr (7, [.ref mS, .ref mD, .ref mR, .ref mT, .int mt, .int ma, .int mn, .ref mW, .ref mQ, .ref mC, .int my, .ref mU, .ref mV, .int mm, .int mf, .int mg])), (mS, .inl (G.2.1 2, 49, .inl fS)), (mR, .inl (G.2.1 2, 3, .inl u))])) (va_A [(mO, .inr (7, [.ref mS, .ref mD, .ref mR, .ref mT, .int mt, .int ma, .int mn, .ref mW, .ref mQ, .ref mC, .int my, .ref mU, .ref mV, .int mm, .int mf, .int mg])), (mS, .inl (G.2.1 2, 49, .inl fS)), (mR, .inl (G.2.1 2, 3, .inl fR))] sz)) 0 0 (va_A [(mO, .inr (7, [.ref mS, .ref mD, .ref mR, .ref mT, .int mt, .int ma, .int mn, .ref mW, .ref mQ, .ref mC, .int my, .ref mU, .ref mV, .int mm, .int mf, .int mg])), (mS, .inl (G.2.1 2, 49, .inl fS)), (mR, .inl (G.2.1 2, 3, .inl fR))] sz) := by
  refine met_go (cc := cX7_signal) (maxL := 4) (ret := (some .int)) (own := RX7) (by decide) rfl rfl (Nat.le_of_ble_eq_true rfl) ?_
  intro p e s m below meth c ls S hr hlocks hname hsz C w hl
  obtain ⟨nN, gN, oN, pN, qN, h0_, hnN, hg, hgN, ho, hoN, hp, hpN, hq, hqN⟩ := id hok
  have hl : lv_has ls 4 [(0, .ref mO), (1, .int i0), (2, .int j0)] := hl
  refine w_joini 48 [] (fun z48 => True) (fun z48 hz48 => ?_) (fun J48 => ?_)
  · refine lv_istore_n (lv' := [(3, .int z48), (0, .ref mO), (1, .int i0), (2, .int j0)]) S.1 S.2.1 dX7_signal_48 rfl hl (by decide) rfl (fun ls hl => ?_)
    refine lv_iload_n S.1 S.2.1 dX7_signal_49 rfl (lv_at hl 0 rfl) ?_
    refine lv_if_eq (tgt := 60) S.1 S.2.1 dX7_signal_50 (by decide) (fun c50 => ?_) (fun c50 => ?_)
    · refine lv_aload_n S.1 S.2.1 dX7_signal_60 rfl (lv_at hl 1 rfl) ?_
      refine lv_iload_n S.1 S.2.1 dX7_signal_61 rfl (lv_at hl 0 rfl) ?_
      refine cq_i C w [0, 2] [1] [1, 0, 2] (wr := [(mS, .inl (G.2.1 2, 49, .inl fS))]) (w' := fun u : (Nat → Int32) => [(mO, .inr (7, [.ref mS, .ref mD, .ref mR, .ref mT, .int mt, .int ma, .int mn, .ref mW, .ref mQ, .ref mC, .int my, .ref mU, .ref mV, .int mm, .int mf, .int mg])), (mR, .inl (G.2.1 2, 3, .inl u))]) (ws2 := fun u : (Nat → Int32) => [(mO, .inr (7, [.ref mS, .ref mD, .ref mR, .ref mT, .int mt, .int ma, .int mn, .ref mW, .ref mQ, .ref mC, .int my, .ref mU, .ref mV, .int mm, .int mf, .int mg])), (mS, .inl (G.2.1 2, 49, .inl fS)), (mR, .inl (G.2.1 2, 3, .inl u))]) rfl rfl rfl (by decide) rfl (fun _ => rfl) (va_runV (As := [.int z48]) (rest := []) S (c_X7_none l G mO mR _ mS mD mT mW mQ mC mU mV mt ma mn my mm mf mg fR z48) (cwV 1 S.2.2.2.2 gX7_signal_X7_none rfl rfl rfl (by decide +kernel) ⟨Nat.le_of_ble_eq_true rfl, Nat.le_of_ble_eq_true rfl⟩) ⟨wPre_blind, va_recv C.1 w.1 (ci := 7) (q0 := 0) rfl rfl, wPre_at C w [0, 2] rfl rfl⟩ rfl rfl hl.1 rfl (lv_room (Nat.le_of_ble_eq_true rfl)) dX7_signal_62 ⟨Nat.le_of_ble_eq_true rfl, Nat.le_of_ble_eq_true rfl⟩) (fun r62 u62 H locs h62 w => ?_)
      have w : Wd G _ s [(mO, .inr (7, [.ref mS, .ref mD, .ref mR, .ref mT, .int mt, .int ma, .int mn, .ref mW, .ref mQ, .ref mC, .int my, .ref mU, .ref mV, .int mm, .int mf, .int mg])), (mS, .inl (G.2.1 2, 49, .inl fS)), (mR, .inl (G.2.1 2, 3, .inl u62))] H locs := w
      exact W.iret (v := r62) S.1 S.2.1 hr (fun t ht _ => ⟨⟨r62, u62, rfl, trivial, by rw [ht]; exact w.1, w.2.1⟩, w.2.2.F ht⟩) w.2.2.2.2 dX7_signal_65
    · refine lv_aload_n S.1 S.2.1 dX7_signal_53 rfl (lv_at hl 1 rfl) ?_
      refine cs_i (va_runV (As := []) (rest := []) S (c_X7_isThere l G mO mS _ mD mR mT mW mQ mC mU mV mt ma mn my mm mf mg fS) (cwV 0 S.2.2.2.2 gX7_signal_X7_isThere rfl rfl rfl (by decide +kernel) ⟨Nat.le_of_ble_eq_true rfl, Nat.le_of_ble_eq_true rfl⟩) ⟨wPre_blind, va_recv C.1 w.1 (ci := 7) (q0 := 0) rfl rfl, wPre_at C w [0, 1] rfl rfl⟩ rfl rfl hl.1 rfl (lv_room (Nat.le_of_ble_eq_true rfl)) dX7_signal_54 ⟨Nat.le_of_ble_eq_true rfl, Nat.le_of_ble_eq_true rfl⟩) (fun r54 h54 => ?_)
      refine w_topi (y := (thereM fS)) h54 ?_
      refine lv_if_ne (tgt := 66) S.1 S.2.1 dX7_signal_57 (by decide) (fun c57 => ?_) (fun c57 => ?_)
      · refine lv_aload_n S.1 S.2.1 dX7_signal_66 rfl (lv_at hl 1 rfl) ?_
        refine lv_iload_n S.1 S.2.1 dX7_signal_67 rfl (lv_at hl 3 rfl) ?_
        refine cs_i (va_runV (As := [.int j0]) (rest := []) S (c_X7_signals l G mO mS _ mD mR mT mW mQ mC mU mV mt ma mn my mm mf mg fS gN j0 (hg) (hgN)) (cwV 1 S.2.2.2.2 gX7_signal_X7_signals rfl rfl rfl (by decide +kernel) ⟨Nat.le_of_ble_eq_true rfl, Nat.le_of_ble_eq_true rfl⟩) ⟨wPre_blind, va_recv C.1 w.1 (ci := 7) (q0 := 0) rfl rfl, wPre_at C w [0, 1] rfl rfl⟩ rfl rfl hl.1 rfl (lv_room (Nat.le_of_ble_eq_true rfl)) dX7_signal_68 ⟨Nat.le_of_ble_eq_true rfl, Nat.le_of_ble_eq_true rfl⟩) (fun r68 h68 => ?_)
        refine lv_iload_n S.1 S.2.1 dX7_signal_71 rfl (lv_at hl 2 rfl) ?_
        refine lv_ishr S.1 S.2.1 dX7_signal_72 ?_
        refine lv_iconst (v := 1) S.1 S.2.1 dX7_signal_73 (by decide) ?_
        refine lv_iand S.1 S.2.1 dX7_signal_74 ?_
        exact W.iret (v := ((r68 >>> (i0 &&& 31)) &&& 1)) S.1 S.2.1 hr (fun t ht _ => ⟨⟨((r68 >>> (i0 &&& 31)) &&& 1), fR, rfl, trivial, by rw [ht]; exact w.1, w.2.1⟩, w.2.2.F ht⟩) w.2.2.2.2 dX7_signal_75
      · refine lv_aload_n S.1 S.2.1 dX7_signal_60 rfl (lv_at hl 1 rfl) ?_
        refine lv_iload_n S.1 S.2.1 dX7_signal_61 rfl (lv_at hl 0 rfl) ?_
        refine cq_i C w [0, 2] [1] [1, 0, 2] (wr := [(mS, .inl (G.2.1 2, 49, .inl fS))]) (w' := fun u : (Nat → Int32) => [(mO, .inr (7, [.ref mS, .ref mD, .ref mR, .ref mT, .int mt, .int ma, .int mn, .ref mW, .ref mQ, .ref mC, .int my, .ref mU, .ref mV, .int mm, .int mf, .int mg])), (mR, .inl (G.2.1 2, 3, .inl u))]) (ws2 := fun u : (Nat → Int32) => [(mO, .inr (7, [.ref mS, .ref mD, .ref mR, .ref mT, .int mt, .int ma, .int mn, .ref mW, .ref mQ, .ref mC, .int my, .ref mU, .ref mV, .int mm, .int mf, .int mg])), (mS, .inl (G.2.1 2, 49, .inl fS)), (mR, .inl (G.2.1 2, 3, .inl u))]) rfl rfl rfl (by decide) rfl (fun _ => rfl) (va_runV (As := [.int z48]) (rest := []) S (c_X7_none l G mO mR _ mS mD mT mW mQ mC mU mV mt ma mn my mm mf mg fR z48) (cwV 1 S.2.2.2.2 gX7_signal_X7_none rfl rfl rfl (by decide +kernel) ⟨Nat.le_of_ble_eq_true rfl, Nat.le_of_ble_eq_true rfl⟩) ⟨wPre_blind, va_recv C.1 w.1 (ci := 7) (q0 := 0) rfl rfl, wPre_at C w [0, 2] rfl rfl⟩ rfl rfl hl.1 rfl (lv_room (Nat.le_of_ble_eq_true rfl)) dX7_signal_62 ⟨Nat.le_of_ble_eq_true rfl, Nat.le_of_ble_eq_true rfl⟩) (fun r62_1 u62_1 H locs h62_1 w => ?_)
        have w : Wd G _ s [(mO, .inr (7, [.ref mS, .ref mD, .ref mR, .ref mT, .int mt, .int ma, .int mn, .ref mW, .ref mQ, .ref mC, .int my, .ref mU, .ref mV, .int mm, .int mf, .int mg])), (mS, .inl (G.2.1 2, 49, .inl fS)), (mR, .inl (G.2.1 2, 3, .inl u62_1))] H locs := w
        exact W.iret (v := r62_1) S.1 S.2.1 hr (fun t ht _ => ⟨⟨r62_1, u62_1, rfl, trivial, by rw [ht]; exact w.1, w.2.1⟩, w.2.2.F ht⟩) w.2.2.2.2 dX7_signal_65
  · refine lv_iload_n S.1 S.2.1 dX7_signal_0 rfl (lv_at hl 1 rfl) ?_
    refine lv_iconst (v := 0) S.1 S.2.1 dX7_signal_1 (by decide) ?_
    refine lv_aload_n S.1 S.2.1 dX7_signal_2 rfl (lv_at hl 0 rfl) ?_
    refine cs_i (va_runV (As := []) (rest := [.int 0, .int i0]) S (c_X7_isThere l G mO mS _ mD mR mT mW mQ mC mU mV mt ma mn my mm mf mg fS) (cwV 0 S.2.2.2.2 gX7_signal_X7_isThere rfl rfl rfl (by decide +kernel) ⟨Nat.le_of_ble_eq_true rfl, Nat.le_of_ble_eq_true rfl⟩) ⟨wPre_blind, va_recv C.1 w.1 (ci := 7) (q0 := 0) rfl rfl, wPre_at C w [0, 1] rfl rfl⟩ rfl rfl hl.1 rfl (lv_room (Nat.le_of_ble_eq_true rfl)) dX7_signal_3 ⟨Nat.le_of_ble_eq_true rfl, Nat.le_of_ble_eq_true rfl⟩) (fun r3 h3 => ?_)
    refine w_topi (y := (thereM fS)) h3 ?_
    refine lv_if_eq (tgt := 27) S.1 S.2.1 dX7_signal_6 (by decide) (fun c6 => ?_) (fun c6 => ?_)
    · refine lv_bipush (v := 17) S.1 S.2.1 dX7_signal_27 (by decide) ?_
      refine cs_i (va_runS (As := [.int i0, .int 0, .int 17]) (rest := []) S (c_X7_in l G _ i0 0 17) (va_cwS 3 S.2.2.2.2 gX7_signal_X7_in rfl rfl rfl (by decide +kernel) ⟨Nat.le_of_ble_eq_true rfl, Nat.le_of_ble_eq_true rfl⟩) ⟨wPre_blind, wPre_at C w [] rfl rfl⟩ rfl rfl hl.1 rfl (lv_room (Nat.le_of_ble_eq_true rfl)) dX7_signal_29 ⟨Nat.le_of_ble_eq_true rfl, Nat.le_of_ble_eq_true rfl⟩) (fun r29 h29 => ?_)
      refine w_topi (y := (inF i0 0 17)) h29 ?_
      refine lv_if_eq (tgt := 47) S.1 S.2.1 dX7_signal_32 (by decide) (fun c32 => ?_) (fun c32 => ?_)
      · refine lv_iconst (v := 0) S.1 S.2.1 dX7_signal_47 (by decide) ?_
        exact J48 0 (trivial)
      · refine lv_aload_n S.1 S.2.1 dX7_signal_35 rfl (lv_at hl 0 rfl) ?_
        refine lv_iload_n S.1 S.2.1 dX7_signal_36 rfl (lv_at hl 2 rfl) ?_
        refine cs_i (va_runV (As := [.int j0]) (rest := []) S (c_X7_isInput l G mO mS _ mD mR mT mW mQ mC mU mV mt ma mn my mm mf mg fS j0) (cwV 1 S.2.2.2.2 gX7_signal_X7_isInput rfl rfl rfl (by decide +kernel) ⟨Nat.le_of_ble_eq_true rfl, Nat.le_of_ble_eq_true rfl⟩) ⟨wPre_blind, va_recv C.1 w.1 (ci := 7) (q0 := 0) rfl rfl, wPre_at C w [0, 1] rfl rfl⟩ rfl rfl hl.1 rfl (lv_room (Nat.le_of_ble_eq_true rfl)) dX7_signal_37 ⟨Nat.le_of_ble_eq_true rfl, Nat.le_of_ble_eq_true rfl⟩) (fun r37 h37 => ?_)
        refine w_topi (y := (inpM fS j0)) h37 ?_
        refine lv_if_eq (tgt := 47) S.1 S.2.1 dX7_signal_40 (by decide) (fun c40 => ?_) (fun c40 => ?_)
        · refine lv_iconst (v := 0) S.1 S.2.1 dX7_signal_47 (by decide) ?_
          exact J48 0 (trivial)
        · refine lv_iconst (v := 1) S.1 S.2.1 dX7_signal_43 (by decide) ?_
          refine lv_goto (tgt := 48) S.1 S.2.1 dX7_signal_44 (by decide) ?_
          exact J48 1 (trivial)
    · refine lv_aload_n S.1 S.2.1 dX7_signal_9 rfl (lv_at hl 0 rfl) ?_
      refine w_get S C w (CC := RX7) (T := TX7) (N := 16) (ref := "GateSumsModel") im_X7_signal_X7 0 rfl rfl 0 (by decide) (List.mem_of_getElem? (i := 1) rfl) (fun _ h => h) rfl dX7_signal_10 ?_
      refine lv_iconst (v := 0) S.1 S.2.1 dX7_signal_13 (by decide) ?_
      refine w_iald S C w 1 rfl (by unfold vp_in; decide) dX7_signal_14 ?_
      refine lv_aload_n S.1 S.2.1 dX7_signal_15 rfl (lv_at hl 0 rfl) ?_
      refine w_get S C w (CC := RX7) (T := TX7) (N := 16) (ref := "GateSumsModel") im_X7_signal_X7 0 rfl rfl 0 (by decide) (List.mem_of_getElem? (i := 1) rfl) (fun _ h => h) rfl dX7_signal_16 ?_
      refine lv_iconst (v := 1) S.1 S.2.1 dX7_signal_19 (by decide) ?_
      refine w_iald S C w 1 rfl (by unfold vp_in; decide) dX7_signal_20 ?_
      refine lv_iadd S.1 S.2.1 dX7_signal_21 ?_
      refine lv_iconst (v := 1) S.1 S.2.1 dX7_signal_22 (by decide) ?_
      refine lv_isub S.1 S.2.1 dX7_signal_23 ?_
      refine lv_goto (tgt := 29) S.1 S.2.1 dX7_signal_24 (by decide) ?_
      refine cs_i (va_runS (As := [.int i0, .int 0, .int (((fS (0 : Int32).toNatClampNeg) + (fS (1 : Int32).toNatClampNeg)) - 1)]) (rest := []) S (c_X7_in l G _ i0 0 (((fS (0 : Int32).toNatClampNeg) + (fS (1 : Int32).toNatClampNeg)) - 1)) (va_cwS 3 S.2.2.2.2 gX7_signal_X7_in rfl rfl rfl (by decide +kernel) ⟨Nat.le_of_ble_eq_true rfl, Nat.le_of_ble_eq_true rfl⟩) ⟨wPre_blind, wPre_at C w [] rfl rfl⟩ rfl rfl hl.1 rfl (lv_room (Nat.le_of_ble_eq_true rfl)) dX7_signal_29 ⟨Nat.le_of_ble_eq_true rfl, Nat.le_of_ble_eq_true rfl⟩) (fun r29_1 h29_1 => ?_)
      refine w_topi (y := (inF i0 0 (((fS (0 : Int32).toNatClampNeg) + (fS (1 : Int32).toNatClampNeg)) - 1))) h29_1 ?_
      refine lv_if_eq (tgt := 47) S.1 S.2.1 dX7_signal_32 (by decide) (fun c32_1 => ?_) (fun c32_1 => ?_)
      · refine lv_iconst (v := 0) S.1 S.2.1 dX7_signal_47 (by decide) ?_
        exact J48 0 (trivial)
      · refine lv_aload_n S.1 S.2.1 dX7_signal_35 rfl (lv_at hl 0 rfl) ?_
        refine lv_iload_n S.1 S.2.1 dX7_signal_36 rfl (lv_at hl 2 rfl) ?_
        refine cs_i (va_runV (As := [.int j0]) (rest := []) S (c_X7_isInput l G mO mS _ mD mR mT mW mQ mC mU mV mt ma mn my mm mf mg fS j0) (cwV 1 S.2.2.2.2 gX7_signal_X7_isInput rfl rfl rfl (by decide +kernel) ⟨Nat.le_of_ble_eq_true rfl, Nat.le_of_ble_eq_true rfl⟩) ⟨wPre_blind, va_recv C.1 w.1 (ci := 7) (q0 := 0) rfl rfl, wPre_at C w [0, 1] rfl rfl⟩ rfl rfl hl.1 rfl (lv_room (Nat.le_of_ble_eq_true rfl)) dX7_signal_37 ⟨Nat.le_of_ble_eq_true rfl, Nat.le_of_ble_eq_true rfl⟩) (fun r37_1 h37_1 => ?_)
        refine w_topi (y := (inpM fS j0)) h37_1 ?_
        refine lv_if_eq (tgt := 47) S.1 S.2.1 dX7_signal_40 (by decide) (fun c40_1 => ?_) (fun c40_1 => ?_)
        · refine lv_iconst (v := 0) S.1 S.2.1 dX7_signal_47 (by decide) ?_
          exact J48 0 (trivial)
        · refine lv_iconst (v := 1) S.1 S.2.1 dX7_signal_43 (by decide) ?_
          refine lv_goto (tgt := 48) S.1 S.2.1 dX7_signal_44 (by decide) ?_
          exact J48 1 (trivial)
set_option maxHeartbeats 4000000 in
set_option maxRecDepth 100000 in
theorem w_X7_wrong (l : Launch) (G : GT) (mO mS mR : Nat) (sz : Nat) (mD mT mW mQ mC mU mV : Nat) (mt ma mn my mm mf mg : Int32) (fS fR : Nat → Int32) (i0 : Int32) (hok : okM fS) : Met l yX7_wrong wsX7_wrong ({ frames := 4, cells := 0, slots := 0, locals := 96 }) (va_Pc [.ref mO, .int i0] (wPre G [(mO, .inr (7, [.ref mS, .ref mD, .ref mR, .ref mT, .int mt, .int ma, .int mn, .ref mW, .ref mQ, .ref mC, .int my, .ref mU, .ref mV, .int mm, .int mf, .int mg])), (mS, .inl (G.2.1 2, 49, .inl fS)), (mR, .inl (G.2.1 2, 3, .inl fR))] sz)) (va_Qi (fun (r : Int32) (u : (Nat → Int32)) => True) (bW G (va_A [(mO, .inr (7, [.ref mS, .ref mD, .ref mR, .ref mT, .int mt, .int ma, .int mn, .ref mW, .ref mQ, .ref mC, .int my, .ref mU, .ref mV, .int mm, .int mf, .int mg])), (mS, .inl (G.2.1 2, 49, .inl fS)), (mR, .inl (G.2.1 2, 3, .inl fR))] sz) (fun u : (Nat → Int32) => [(mO, .inr (7, [.ref mS, .ref mD, .ref mR, .ref mT, .int mt, .int ma, .int mn, .ref mW, .ref mQ, .ref mC, .int my, .ref mU, .ref mV, .int mm, .int mf, .int mg])), (mS, .inl (G.2.1 2, 49, .inl fS)), (mR, .inl (G.2.1 2, 3, .inl u))])) (va_A [(mO, .inr (7, [.ref mS, .ref mD, .ref mR, .ref mT, .int mt, .int ma, .int mn, .ref mW, .ref mQ, .ref mC, .int my, .ref mU, .ref mV, .int mm, .int mf, .int mg])), (mS, .inl (G.2.1 2, 49, .inl fS)), (mR, .inl (G.2.1 2, 3, .inl fR))] sz)) 0 0 (va_A [(mO, .inr (7, [.ref mS, .ref mD, .ref mR, .ref mT, .int mt, .int ma, .int mn, .ref mW, .ref mQ, .ref mC, .int my, .ref mU, .ref mV, .int mm, .int mf, .int mg])), (mS, .inl (G.2.1 2, 49, .inl fS)), (mR, .inl (G.2.1 2, 3, .inl fR))] sz) := by
  refine met_go (cc := cX7_wrong) (maxL := 3) (ret := (some .int)) (own := RX7) (by decide) rfl rfl (Nat.le_of_ble_eq_true rfl) ?_
  intro p e s m below meth c ls S hr hlocks hname hsz C w hl
  obtain ⟨nN, gN, oN, pN, qN, h0_, hnN, hg, hgN, ho, hoN, hp, hpN, hq, hqN⟩ := id hok
  have hl : lv_has ls 3 [(0, .ref mO), (1, .int i0)] := hl
  refine lv_iload_n S.1 S.2.1 dX7_wrong_0 rfl (lv_at hl 1 rfl) ?_
  refine lv_iconst (v := 0) S.1 S.2.1 dX7_wrong_1 (by decide) ?_
  refine lv_iconst (v := 1) S.1 S.2.1 dX7_wrong_2 (by decide) ?_
  refine cs_i (va_runS (As := [.int i0, .int 0, .int 1]) (rest := []) S (c_X7_in l G _ i0 0 1) (va_cwS 3 S.2.2.2.2 gX7_wrong_X7_in rfl rfl rfl (by decide +kernel) ⟨Nat.le_of_ble_eq_true rfl, Nat.le_of_ble_eq_true rfl⟩) ⟨wPre_blind, wPre_at C w [] rfl rfl⟩ rfl rfl hl.1 rfl (lv_room (Nat.le_of_ble_eq_true rfl)) dX7_wrong_3 ⟨Nat.le_of_ble_eq_true rfl, Nat.le_of_ble_eq_true rfl⟩) (fun r3 h3 => ?_)
  refine w_topi (y := (inF i0 0 1)) h3 ?_
  refine lv_istore_n (lv' := [(2, .int (inF i0 0 1)), (0, .ref mO), (1, .int i0)]) S.1 S.2.1 dX7_wrong_6 rfl hl (by decide) rfl (fun ls hl => ?_)
  refine lv_iload_n S.1 S.2.1 dX7_wrong_7 rfl (lv_at hl 0 rfl) ?_
  refine lv_if_eq (tgt := 18) S.1 S.2.1 dX7_wrong_8 (by decide) (fun c8 => ?_) (fun c8 => ?_)
  · refine lv_aload_n S.1 S.2.1 dX7_wrong_18 rfl (lv_at hl 1 rfl) ?_
    refine lv_iload_n S.1 S.2.1 dX7_wrong_19 rfl (lv_at hl 0 rfl) ?_
    refine cq_i C w [0, 2] [1] [1, 0, 2] (wr := [(mS, .inl (G.2.1 2, 49, .inl fS))]) (w' := fun u : (Nat → Int32) => [(mO, .inr (7, [.ref mS, .ref mD, .ref mR, .ref mT, .int mt, .int ma, .int mn, .ref mW, .ref mQ, .ref mC, .int my, .ref mU, .ref mV, .int mm, .int mf, .int mg])), (mR, .inl (G.2.1 2, 3, .inl u))]) (ws2 := fun u : (Nat → Int32) => [(mO, .inr (7, [.ref mS, .ref mD, .ref mR, .ref mT, .int mt, .int ma, .int mn, .ref mW, .ref mQ, .ref mC, .int my, .ref mU, .ref mV, .int mm, .int mf, .int mg])), (mS, .inl (G.2.1 2, 49, .inl fS)), (mR, .inl (G.2.1 2, 3, .inl u))]) rfl rfl rfl (by decide) rfl (fun _ => rfl) (va_runV (As := [.int (inF i0 0 1)]) (rest := []) S (c_X7_none l G mO mR _ mS mD mT mW mQ mC mU mV mt ma mn my mm mf mg fR (inF i0 0 1)) (cwV 1 S.2.2.2.2 gX7_wrong_X7_none rfl rfl rfl (by decide +kernel) ⟨Nat.le_of_ble_eq_true rfl, Nat.le_of_ble_eq_true rfl⟩) ⟨wPre_blind, va_recv C.1 w.1 (ci := 7) (q0 := 0) rfl rfl, wPre_at C w [0, 2] rfl rfl⟩ rfl rfl hl.1 rfl (lv_room (Nat.le_of_ble_eq_true rfl)) dX7_wrong_20 ⟨Nat.le_of_ble_eq_true rfl, Nat.le_of_ble_eq_true rfl⟩) (fun r20 u20 H locs h20 w => ?_)
    have w : Wd G _ s [(mO, .inr (7, [.ref mS, .ref mD, .ref mR, .ref mT, .int mt, .int ma, .int mn, .ref mW, .ref mQ, .ref mC, .int my, .ref mU, .ref mV, .int mm, .int mf, .int mg])), (mS, .inl (G.2.1 2, 49, .inl fS)), (mR, .inl (G.2.1 2, 3, .inl u20))] H locs := w
    exact W.iret (v := r20) S.1 S.2.1 hr (fun t ht _ => ⟨⟨r20, u20, rfl, trivial, by rw [ht]; exact w.1, w.2.1⟩, w.2.2.F ht⟩) w.2.2.2.2 dX7_wrong_23
  · refine lv_aload_n S.1 S.2.1 dX7_wrong_11 rfl (lv_at hl 1 rfl) ?_
    refine cs_i (va_runV (As := []) (rest := []) S (c_X7_isThere l G mO mS _ mD mR mT mW mQ mC mU mV mt ma mn my mm mf mg fS) (cwV 0 S.2.2.2.2 gX7_wrong_X7_isThere rfl rfl rfl (by decide +kernel) ⟨Nat.le_of_ble_eq_true rfl, Nat.le_of_ble_eq_true rfl⟩) ⟨wPre_blind, va_recv C.1 w.1 (ci := 7) (q0 := 0) rfl rfl, wPre_at C w [0, 1] rfl rfl⟩ rfl rfl hl.1 rfl (lv_room (Nat.le_of_ble_eq_true rfl)) dX7_wrong_12 ⟨Nat.le_of_ble_eq_true rfl, Nat.le_of_ble_eq_true rfl⟩) (fun r12 h12 => ?_)
    refine w_topi (y := (thereM fS)) h12 ?_
    refine lv_if_ne (tgt := 24) S.1 S.2.1 dX7_wrong_15 (by decide) (fun c15 => ?_) (fun c15 => ?_)
    · refine lv_aload_n S.1 S.2.1 dX7_wrong_24 rfl (lv_at hl 1 rfl) ?_
      refine lv_iload_n S.1 S.2.1 dX7_wrong_25 rfl (lv_at hl 2 rfl) ?_
      refine lv_if_ne (tgt := 33) S.1 S.2.1 dX7_wrong_26 (by decide) (fun c26 => ?_) (fun c26 => ?_)
      · refine lv_iconst (v := 0) S.1 S.2.1 dX7_wrong_33 (by decide) ?_
        refine cs_i (va_runV (As := [.int 0]) (rest := []) S (c_X7_wrongOnes l G mO mS _ mD mR mT mW mQ mC mU mV mt ma mn my mm mf mg fS gN oN 0 (hg) (hgN) (ho) (hoN)) (cwV 1 S.2.2.2.2 gX7_wrong_X7_wrongOnes rfl rfl rfl (by decide +kernel) ⟨Nat.le_of_ble_eq_true rfl, Nat.le_of_ble_eq_true rfl⟩) ⟨wPre_blind, va_recv C.1 w.1 (ci := 7) (q0 := 0) rfl rfl, wPre_at C w [0, 1] rfl rfl⟩ rfl rfl hl.1 rfl (lv_room (Nat.le_of_ble_eq_true rfl)) dX7_wrong_34 ⟨Nat.le_of_ble_eq_true rfl, Nat.le_of_ble_eq_true rfl⟩) (fun r34 h34 => ?_)
        exact W.iret (v := r34) S.1 S.2.1 hr (fun t ht _ => ⟨⟨r34, fR, rfl, trivial, by rw [ht]; exact w.1, w.2.1⟩, w.2.2.F ht⟩) w.2.2.2.2 dX7_wrong_37
      · refine lv_iconst (v := 1) S.1 S.2.1 dX7_wrong_29 (by decide) ?_
        refine lv_goto (tgt := 34) S.1 S.2.1 dX7_wrong_30 (by decide) ?_
        refine cs_i (va_runV (As := [.int 1]) (rest := []) S (c_X7_wrongOnes l G mO mS _ mD mR mT mW mQ mC mU mV mt ma mn my mm mf mg fS gN oN 1 (hg) (hgN) (ho) (hoN)) (cwV 1 S.2.2.2.2 gX7_wrong_X7_wrongOnes rfl rfl rfl (by decide +kernel) ⟨Nat.le_of_ble_eq_true rfl, Nat.le_of_ble_eq_true rfl⟩) ⟨wPre_blind, va_recv C.1 w.1 (ci := 7) (q0 := 0) rfl rfl, wPre_at C w [0, 1] rfl rfl⟩ rfl rfl hl.1 rfl (lv_room (Nat.le_of_ble_eq_true rfl)) dX7_wrong_34 ⟨Nat.le_of_ble_eq_true rfl, Nat.le_of_ble_eq_true rfl⟩) (fun r34_1 h34_1 => ?_)
        exact W.iret (v := r34_1) S.1 S.2.1 hr (fun t ht _ => ⟨⟨r34_1, fR, rfl, trivial, by rw [ht]; exact w.1, w.2.1⟩, w.2.2.F ht⟩) w.2.2.2.2 dX7_wrong_37
    · refine lv_aload_n S.1 S.2.1 dX7_wrong_18 rfl (lv_at hl 1 rfl) ?_
      refine lv_iload_n S.1 S.2.1 dX7_wrong_19 rfl (lv_at hl 0 rfl) ?_
      refine cq_i C w [0, 2] [1] [1, 0, 2] (wr := [(mS, .inl (G.2.1 2, 49, .inl fS))]) (w' := fun u : (Nat → Int32) => [(mO, .inr (7, [.ref mS, .ref mD, .ref mR, .ref mT, .int mt, .int ma, .int mn, .ref mW, .ref mQ, .ref mC, .int my, .ref mU, .ref mV, .int mm, .int mf, .int mg])), (mR, .inl (G.2.1 2, 3, .inl u))]) (ws2 := fun u : (Nat → Int32) => [(mO, .inr (7, [.ref mS, .ref mD, .ref mR, .ref mT, .int mt, .int ma, .int mn, .ref mW, .ref mQ, .ref mC, .int my, .ref mU, .ref mV, .int mm, .int mf, .int mg])), (mS, .inl (G.2.1 2, 49, .inl fS)), (mR, .inl (G.2.1 2, 3, .inl u))]) rfl rfl rfl (by decide) rfl (fun _ => rfl) (va_runV (As := [.int (inF i0 0 1)]) (rest := []) S (c_X7_none l G mO mR _ mS mD mT mW mQ mC mU mV mt ma mn my mm mf mg fR (inF i0 0 1)) (cwV 1 S.2.2.2.2 gX7_wrong_X7_none rfl rfl rfl (by decide +kernel) ⟨Nat.le_of_ble_eq_true rfl, Nat.le_of_ble_eq_true rfl⟩) ⟨wPre_blind, va_recv C.1 w.1 (ci := 7) (q0 := 0) rfl rfl, wPre_at C w [0, 2] rfl rfl⟩ rfl rfl hl.1 rfl (lv_room (Nat.le_of_ble_eq_true rfl)) dX7_wrong_20 ⟨Nat.le_of_ble_eq_true rfl, Nat.le_of_ble_eq_true rfl⟩) (fun r20_1 u20_1 H locs h20_1 w => ?_)
      have w : Wd G _ s [(mO, .inr (7, [.ref mS, .ref mD, .ref mR, .ref mT, .int mt, .int ma, .int mn, .ref mW, .ref mQ, .ref mC, .int my, .ref mU, .ref mV, .int mm, .int mf, .int mg])), (mS, .inl (G.2.1 2, 49, .inl fS)), (mR, .inl (G.2.1 2, 3, .inl u20_1))] H locs := w
      exact W.iret (v := r20_1) S.1 S.2.1 hr (fun t ht _ => ⟨⟨r20_1, u20_1, rfl, trivial, by rw [ht]; exact w.1, w.2.1⟩, w.2.2.F ht⟩) w.2.2.2.2 dX7_wrong_23
