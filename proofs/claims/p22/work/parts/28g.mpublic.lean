theorem im_X7_digest_X7 : ∀ w ∈ u_ws RX7 TX7 16, w ∈ wsX7_digest := by decide +kernel
set_option maxHeartbeats 4000000 in
set_option maxRecDepth 100000 in
theorem w_X7_digest (l : Launch) (G : GT) (mO mS mR : Nat) (sz : Nat) (mD mT mW mQ mC mU mV : Nat) (mt ma mn my mm mf mg : Int32) (fS fR : Nat → Int32) (hok : okM fS) : Met l yX7_digest wsX7_digest ({ frames := 4, cells := 0, slots := 0, locals := 96 }) (va_Pc [.ref mO] (wPre G [(mO, .inr (7, [.ref mS, .ref mD, .ref mR, .ref mT, .int mt, .int ma, .int mn, .ref mW, .ref mQ, .ref mC, .int my, .ref mU, .ref mV, .int mm, .int mf, .int mg])), (mS, .inl (G.2.1 2, 49, .inl fS)), (mR, .inl (G.2.1 2, 3, .inl fR))] sz)) (vp_Sl (fun r : Int64 => True)) 0 0 (fun _ => False) := by
  refine met_go (cc := cX7_digest) (maxL := 4) (ret := (some .long)) (own := RX7) (by decide) rfl rfl (Nat.le_of_ble_eq_true rfl) ?_
  intro p e s m below meth c ls S hr hlocks hname hsz C w hl
  obtain ⟨nN, gN, oN, pN, qN, h0_, hnN, hg, hgN, ho, hoN, hp, hpN, hq, hqN⟩ := id hok
  have hl : lv_has ls 4 [(0, .ref mO)] := hl
  refine lv_ldc2 (own := RX7) (v := 1993) S.1 S.2.1 S.2.2.2.1 (S.2.2.2.2 _ (List.mem_of_getElem? (i := 1) rfl)) dX7_digest_0 ?_
  refine lv_lstore_n (lv' := [(1, .long 1993), (0, .ref mO)]) S.1 S.2.1 dX7_digest_3 rfl hl (by decide) rfl (fun ls hl => ?_)
  refine lv_iconst (v := 0) S.1 S.2.1 dX7_digest_4 (by decide) ?_
  refine lv_istore_n (lv' := [(3, .int 0), (1, .long 1993), (0, .ref mO)]) S.1 S.2.1 dX7_digest_5 rfl hl (by decide) rfl (fun ls hl => ?_)
  refine w_loopS (σ := Nat × Int64) (nL := 4) 6 (fun x6 => 7 - x6.1) (fun x6 => x6.1 ≤ 7) (fun x6 => [(3, .int (nI x6.1)), (1, .long x6.2), (0, .ref mO)]) (fun _ => []) ?_ (0, 1993) ls (Nat.zero_le _) (lv_sub hl [0, 1, 2] rfl)
  intro x6 ls hI6 hl ih6
  have hl : lv_has ls 4 [(3, .int (nI x6.1)), (1, .long x6.2), (0, .ref mO)] := hl
  refine lv_iload_n S.1 S.2.1 dX7_digest_6 rfl (lv_at hl 0 rfl) ?_
  refine lv_bipush (v := 7) S.1 S.2.1 dX7_digest_7 (by decide) ?_
  refine lv_icmp_ge (tgt := 31) S.1 S.2.1 dX7_digest_9 (by decide) (fun c9 => ?_) (fun c9 => ?_)
  · refine lv_iconst (v := 0) S.1 S.2.1 dX7_digest_31 (by decide) ?_
    refine lv_istore_n (lv' := [(3, .int 0), (1, .long x6.2), (0, .ref mO)]) S.1 S.2.1 dX7_digest_32 rfl hl (by decide) rfl (fun ls hl => ?_)
    refine w_loopS (σ := Nat × Int64) (nL := 4) 33 (fun x33 => gN - x33.1) (fun x33 => x33.1 ≤ gN) (fun x33 => [(3, .int (nI x33.1)), (1, .long x33.2), (0, .ref mO)]) (fun _ => []) ?_ (0, x6.2) ls (Nat.zero_le _) (lv_sub hl [0, 1, 2] rfl)
    intro x33 ls hI33 hl ih33
    have hl : lv_has ls 4 [(3, .int (nI x33.1)), (1, .long x33.2), (0, .ref mO)] := hl
    refine lv_iload_n S.1 S.2.1 dX7_digest_33 rfl (lv_at hl 0 rfl) ?_
    refine lv_aload_n S.1 S.2.1 dX7_digest_34 rfl (lv_at hl 2 rfl) ?_
    refine w_get S C w (CC := RX7) (T := TX7) (N := 16) (ref := "GateSumsModel") im_X7_digest_X7 0 rfl rfl 0 (by decide) (List.mem_of_getElem? (i := 3) rfl) (fun _ h => h) rfl dX7_digest_35 ?_
    refine lv_iconst (v := 1) S.1 S.2.1 dX7_digest_38 (by decide) ?_
    refine w_iald S C w 1 rfl (by unfold vp_in; decide) dX7_digest_39 ?_
    refine w_topi (y := (nI gN)) (hg) ?_
    refine lv_icmp_ge (tgt := 100) S.1 S.2.1 dX7_digest_40 (by decide) (fun c40 => ?_) (fun c40 => ?_)
    · refine lv_iconst (v := 0) S.1 S.2.1 dX7_digest_100 (by decide) ?_
      refine lv_istore_n (lv' := [(3, .int 0), (1, .long x33.2), (0, .ref mO)]) S.1 S.2.1 dX7_digest_101 rfl hl (by decide) rfl (fun ls hl => ?_)
      refine w_loopS (σ := Nat × Int64) (nL := 4) 102 (fun x102 => oN - x102.1) (fun x102 => x102.1 ≤ oN) (fun x102 => [(3, .int (nI x102.1)), (1, .long x102.2), (0, .ref mO)]) (fun _ => []) ?_ (0, x33.2) ls (Nat.zero_le _) (lv_sub hl [0, 1, 2] rfl)
      intro x102 ls hI102 hl ih102
      have hl : lv_has ls 4 [(3, .int (nI x102.1)), (1, .long x102.2), (0, .ref mO)] := hl
      refine lv_iload_n S.1 S.2.1 dX7_digest_102 rfl (lv_at hl 0 rfl) ?_
      refine lv_aload_n S.1 S.2.1 dX7_digest_103 rfl (lv_at hl 2 rfl) ?_
      refine w_get S C w (CC := RX7) (T := TX7) (N := 16) (ref := "GateSumsModel") im_X7_digest_X7 0 rfl rfl 0 (by decide) (List.mem_of_getElem? (i := 3) rfl) (fun _ h => h) rfl dX7_digest_104 ?_
      refine lv_iconst (v := 2) S.1 S.2.1 dX7_digest_107 (by decide) ?_
      refine w_iald S C w 1 rfl (by unfold vp_in; decide) dX7_digest_108 ?_
      refine w_topi (y := (nI oN)) (ho) ?_
      refine lv_icmp_ge (tgt := 135) S.1 S.2.1 dX7_digest_109 (by decide) (fun c109 => ?_) (fun c109 => ?_)
      · refine lv_iconst (v := 3) S.1 S.2.1 dX7_digest_135 (by decide) ?_
        refine lv_istore_n (lv' := [(3, .int 3), (1, .long x102.2), (0, .ref mO)]) S.1 S.2.1 dX7_digest_136 rfl hl (by decide) rfl (fun ls hl => ?_)
        refine w_loopS (σ := Nat × Int64) (nL := 4) 137 (fun x137 => 6 - x137.1) (fun x137 => x137.1 ≤ 6) (fun x137 => [(3, .int (nI x137.1)), (1, .long x137.2), (0, .ref mO)]) (fun _ => []) ?_ (3, x102.2) ls (by dsimp only; omega) (lv_sub hl [0, 1, 2] rfl)
        intro x137 ls hI137 hl ih137
        have hl : lv_has ls 4 [(3, .int (nI x137.1)), (1, .long x137.2), (0, .ref mO)] := hl
        refine lv_iload_n S.1 S.2.1 dX7_digest_137 rfl (lv_at hl 0 rfl) ?_
        refine lv_iconst (v := 5) S.1 S.2.1 dX7_digest_138 (by decide) ?_
        refine lv_icmp_gt (tgt := 173) S.1 S.2.1 dX7_digest_139 (by decide) (fun c139 => ?_) (fun c139 => ?_)
        · refine lv_ldc2 (own := RX7) (v := 31) S.1 S.2.1 S.2.2.2.1 (S.2.2.2.2 _ (List.mem_of_getElem? (i := 2) rfl)) dX7_digest_173 ?_
          refine lv_lload_n S.1 S.2.1 dX7_digest_176 rfl (lv_at hl 1 rfl) ?_
          refine lv_lmul S.1 S.2.1 dX7_digest_177 ?_
          refine lv_aload_n S.1 S.2.1 dX7_digest_178 rfl (lv_at hl 2 rfl) ?_
          refine w_joini 194 [.long (31 * x137.2)] (fun z194 => True) (fun z194 hz194 => ?_) (fun J194 => ?_)
          · refine lv_i2l (v := z194.toInt64) S.1 S.2.1 dX7_digest_194 rfl ?_
            refine lv_ladd S.1 S.2.1 dX7_digest_195 ?_
            exact W.lret (v := ((31 * x137.2) + z194.toInt64)) S.1 S.2.1 hr (fun t ht _ => ⟨((31 * x137.2) + z194.toInt64), rfl, trivial, ht⟩) (fun q h => absurd h List.not_mem_nil) dX7_digest_196
          · refine cs_i (va_runV (As := []) (rest := [.long (31 * x137.2)]) S (c_X7_isThere l G mO mS _ mD mR mT mW mQ mC mU mV mt ma mn my mm mf mg fS) (cwV 0 S.2.2.2.2 gX7_digest_X7_isThere rfl rfl rfl (by decide +kernel) ⟨Nat.le_of_ble_eq_true rfl, Nat.le_of_ble_eq_true rfl⟩) ⟨wPre_blind, va_recv C.1 w.1 (ci := 7) (q0 := 0) rfl rfl, wPre_at C w [0, 1] rfl rfl⟩ rfl rfl hl.1 rfl (lv_room (Nat.le_of_ble_eq_true rfl)) dX7_digest_179 ⟨Nat.le_of_ble_eq_true rfl, Nat.le_of_ble_eq_true rfl⟩) (fun r179 h179 => ?_)
            refine w_topi (y := (thereM fS)) h179 ?_
            refine lv_if_eq (tgt := 193) S.1 S.2.1 dX7_digest_182 (by decide) (fun c182 => ?_) (fun c182 => ?_)
            · refine lv_iconst (v := (-1)) S.1 S.2.1 dX7_digest_193 (by decide) ?_
              exact J194 (-1) (trivial)
            · refine lv_aload_n S.1 S.2.1 dX7_digest_185 rfl (lv_at hl 2 rfl) ?_
              refine lv_iconst (v := 0) S.1 S.2.1 dX7_digest_186 (by decide) ?_
              refine cs_i (va_runV (As := [.int 0]) (rest := [.long (31 * x137.2)]) S (c_X7_wrongOnes l G mO mS _ mD mR mT mW mQ mC mU mV mt ma mn my mm mf mg fS gN oN 0 (hg) (hgN) (ho) (hoN)) (cwV 1 S.2.2.2.2 gX7_digest_X7_wrongOnes rfl rfl rfl (by decide +kernel) ⟨Nat.le_of_ble_eq_true rfl, Nat.le_of_ble_eq_true rfl⟩) ⟨wPre_blind, va_recv C.1 w.1 (ci := 7) (q0 := 0) rfl rfl, wPre_at C w [0, 1] rfl rfl⟩ rfl rfl hl.1 rfl (lv_room (Nat.le_of_ble_eq_true rfl)) dX7_digest_187 ⟨Nat.le_of_ble_eq_true rfl, Nat.le_of_ble_eq_true rfl⟩) (fun r187 h187 => ?_)
              refine lv_goto (tgt := 194) S.1 S.2.1 dX7_digest_190 (by decide) ?_
              exact J194 r187 (trivial)
        · refine lv_ldc2 (own := RX7) (v := 31) S.1 S.2.1 S.2.2.2.1 (S.2.2.2.2 _ (List.mem_of_getElem? (i := 2) rfl)) dX7_digest_142 ?_
          refine lv_lload_n S.1 S.2.1 dX7_digest_145 rfl (lv_at hl 1 rfl) ?_
          refine lv_lmul S.1 S.2.1 dX7_digest_146 ?_
          refine lv_aload_n S.1 S.2.1 dX7_digest_147 rfl (lv_at hl 2 rfl) ?_
          refine w_joini 164 [.long (31 * x137.2)] (fun z164 => True) (fun z164 hz164 => ?_) (fun J164 => ?_)
          · refine lv_i2l (v := z164.toInt64) S.1 S.2.1 dX7_digest_164 rfl ?_
            refine lv_ladd S.1 S.2.1 dX7_digest_165 ?_
            refine lv_lstore_n (lv' := [(1, .long ((31 * x137.2) + z164.toInt64)), (3, .int (nI x137.1)), (0, .ref mO)]) S.1 S.2.1 dX7_digest_166 rfl hl (by decide) rfl (fun ls hl => ?_)
            refine lv_iinc (v := (nI (x137.1 + 1))) (lv' := [(3, .int (nI (x137.1 + 1))), (1, .long ((31 * x137.2) + z164.toInt64)), (0, .ref mO)]) S.1 S.2.1 dX7_digest_167 hl (k := 1) rfl (nI_1 _) (by decide) rfl (fun ls hl => ?_)
            refine lv_goto (tgt := 137) S.1 S.2.1 dX7_digest_170 (by decide) ?_
            have hlt : x137.1 < 6 := by have h := c139; rw [show (5 : Int32) = nI 5 from rfl, nI_ltI (by decide) (by omega)] at h; omega
            exact ih137 (x137.1 + 1, ((31 * x137.2) + z164.toInt64)) ls (hlt) (by dsimp only; omega) (lv_sub hl [0, 1, 2] rfl)
          · refine cs_i (va_runV (As := []) (rest := [.long (31 * x137.2)]) S (c_X7_isThere l G mO mS _ mD mR mT mW mQ mC mU mV mt ma mn my mm mf mg fS) (cwV 0 S.2.2.2.2 gX7_digest_X7_isThere rfl rfl rfl (by decide +kernel) ⟨Nat.le_of_ble_eq_true rfl, Nat.le_of_ble_eq_true rfl⟩) ⟨wPre_blind, va_recv C.1 w.1 (ci := 7) (q0 := 0) rfl rfl, wPre_at C w [0, 1] rfl rfl⟩ rfl rfl hl.1 rfl (lv_room (Nat.le_of_ble_eq_true rfl)) dX7_digest_148 ⟨Nat.le_of_ble_eq_true rfl, Nat.le_of_ble_eq_true rfl⟩) (fun r148 h148 => ?_)
            refine w_topi (y := (thereM fS)) h148 ?_
            refine lv_if_eq (tgt := 163) S.1 S.2.1 dX7_digest_151 (by decide) (fun c151 => ?_) (fun c151 => ?_)
            · refine lv_iconst (v := (-1)) S.1 S.2.1 dX7_digest_163 (by decide) ?_
              exact J164 (-1) (trivial)
            · refine lv_aload_n S.1 S.2.1 dX7_digest_154 rfl (lv_at hl 2 rfl) ?_
              refine w_get S C w (CC := RX7) (T := TX7) (N := 16) (ref := "GateSumsModel") im_X7_digest_X7 0 rfl rfl 0 (by decide) (List.mem_of_getElem? (i := 3) rfl) (fun _ h => h) rfl dX7_digest_155 ?_
              refine lv_iload_n S.1 S.2.1 dX7_digest_158 rfl (lv_at hl 0 rfl) ?_
              refine w_iald S C w 1 rfl (nIin (by have h := c139; rw [show (5 : Int32) = nI 5 from rfl, nI_ltI (by decide) (by omega)] at h; omega) (by decide)) dX7_digest_159 ?_
              refine lv_goto (tgt := 164) S.1 S.2.1 dX7_digest_160 (by decide) ?_
              exact J164 (fS (nI x137.1).toNatClampNeg) (trivial)
      · refine lv_ldc2 (own := RX7) (v := 31) S.1 S.2.1 S.2.2.2.1 (S.2.2.2.2 _ (List.mem_of_getElem? (i := 2) rfl)) dX7_digest_112 ?_
        refine lv_lload_n S.1 S.2.1 dX7_digest_115 rfl (lv_at hl 1 rfl) ?_
        refine lv_lmul S.1 S.2.1 dX7_digest_116 ?_
        refine lv_aload_n S.1 S.2.1 dX7_digest_117 rfl (lv_at hl 2 rfl) ?_
        refine w_get S C w (CC := RX7) (T := TX7) (N := 16) (ref := "GateSumsModel") im_X7_digest_X7 0 rfl rfl 0 (by decide) (List.mem_of_getElem? (i := 3) rfl) (fun _ h => h) rfl dX7_digest_118 ?_
        refine lv_bipush (v := 42) S.1 S.2.1 dX7_digest_121 (by decide) ?_
        refine lv_iload_n S.1 S.2.1 dX7_digest_123 rfl (lv_at hl 0 rfl) ?_
        refine lv_iadd S.1 S.2.1 dX7_digest_124 ?_
        refine w_iald S C w 1 rfl (ixA 42 _ (by have h := c109; rw [nI_leI (by omega) (by omega)] at h; omega)) dX7_digest_125 ?_
        refine lv_i2l (v := ((fS (42 + (nI x102.1)).toNatClampNeg).toInt64)) S.1 S.2.1 dX7_digest_126 rfl ?_
        refine lv_ladd S.1 S.2.1 dX7_digest_127 ?_
        refine lv_lstore_n (lv' := [(1, .long ((31 * x102.2) + ((fS (42 + (nI x102.1)).toNatClampNeg).toInt64))), (3, .int (nI x102.1)), (0, .ref mO)]) S.1 S.2.1 dX7_digest_128 rfl hl (by decide) rfl (fun ls hl => ?_)
        refine lv_iinc (v := (nI (x102.1 + 1))) (lv' := [(3, .int (nI (x102.1 + 1))), (1, .long ((31 * x102.2) + ((fS (42 + (nI x102.1)).toNatClampNeg).toInt64))), (0, .ref mO)]) S.1 S.2.1 dX7_digest_129 hl (k := 1) rfl (nI_1 _) (by decide) rfl (fun ls hl => ?_)
        refine lv_goto (tgt := 102) S.1 S.2.1 dX7_digest_132 (by decide) ?_
        have hlt : x102.1 < oN := (by have h := c109; rw [nI_leI (by omega) (by omega)] at h; omega)
        exact ih102 (x102.1 + 1, ((31 * x102.2) + ((fS (42 + (nI x102.1)).toNatClampNeg).toInt64))) ls (hlt) (by dsimp only; omega) (lv_sub hl [0, 1, 2] rfl)
    · refine lv_ldc2 (own := RX7) (v := 31) S.1 S.2.1 S.2.2.2.1 (S.2.2.2.2 _ (List.mem_of_getElem? (i := 2) rfl)) dX7_digest_43 ?_
      refine lv_lload_n S.1 S.2.1 dX7_digest_46 rfl (lv_at hl 1 rfl) ?_
      refine lv_lmul S.1 S.2.1 dX7_digest_47 ?_
      refine lv_aload_n S.1 S.2.1 dX7_digest_48 rfl (lv_at hl 2 rfl) ?_
      refine w_get S C w (CC := RX7) (T := TX7) (N := 16) (ref := "GateSumsModel") im_X7_digest_X7 0 rfl rfl 0 (by decide) (List.mem_of_getElem? (i := 3) rfl) (fun _ h => h) rfl dX7_digest_49 ?_
      refine lv_bipush (v := 6) S.1 S.2.1 dX7_digest_52 (by decide) ?_
      refine lv_iload_n S.1 S.2.1 dX7_digest_54 rfl (lv_at hl 0 rfl) ?_
      refine lv_iadd S.1 S.2.1 dX7_digest_55 ?_
      refine w_iald S C w 1 rfl (ixA 6 _ (by have h := c40; rw [nI_leI (by omega) (by omega)] at h; omega)) dX7_digest_56 ?_
      refine lv_i2l (v := ((fS (6 + (nI x33.1)).toNatClampNeg).toInt64)) S.1 S.2.1 dX7_digest_57 rfl ?_
      refine lv_ladd S.1 S.2.1 dX7_digest_58 ?_
      refine lv_lstore_n (lv' := [(1, .long ((31 * x33.2) + ((fS (6 + (nI x33.1)).toNatClampNeg).toInt64))), (3, .int (nI x33.1)), (0, .ref mO)]) S.1 S.2.1 dX7_digest_59 rfl hl (by decide) rfl (fun ls hl => ?_)
      refine lv_ldc2 (own := RX7) (v := 31) S.1 S.2.1 S.2.2.2.1 (S.2.2.2.2 _ (List.mem_of_getElem? (i := 2) rfl)) dX7_digest_60 ?_
      refine lv_lload_n S.1 S.2.1 dX7_digest_63 rfl (lv_at hl 0 rfl) ?_
      refine lv_lmul S.1 S.2.1 dX7_digest_64 ?_
      refine lv_aload_n S.1 S.2.1 dX7_digest_65 rfl (lv_at hl 2 rfl) ?_
      refine w_get S C w (CC := RX7) (T := TX7) (N := 16) (ref := "GateSumsModel") im_X7_digest_X7 0 rfl rfl 0 (by decide) (List.mem_of_getElem? (i := 3) rfl) (fun _ h => h) rfl dX7_digest_66 ?_
      refine lv_bipush (v := 18) S.1 S.2.1 dX7_digest_69 (by decide) ?_
      refine lv_iload_n S.1 S.2.1 dX7_digest_71 rfl (lv_at hl 1 rfl) ?_
      refine lv_iadd S.1 S.2.1 dX7_digest_72 ?_
      refine w_iald S C w 1 rfl (ixA 18 _ (by have h := c40; rw [nI_leI (by omega) (by omega)] at h; omega)) dX7_digest_73 ?_
      refine lv_i2l (v := ((fS (18 + (nI x33.1)).toNatClampNeg).toInt64)) S.1 S.2.1 dX7_digest_74 rfl ?_
      refine lv_ladd S.1 S.2.1 dX7_digest_75 ?_
      refine lv_lstore_n (lv' := [(1, .long ((31 * ((31 * x33.2) + ((fS (6 + (nI x33.1)).toNatClampNeg).toInt64))) + ((fS (18 + (nI x33.1)).toNatClampNeg).toInt64))), (3, .int (nI x33.1)), (0, .ref mO)]) S.1 S.2.1 dX7_digest_76 rfl hl (by decide) rfl (fun ls hl => ?_)
      refine lv_ldc2 (own := RX7) (v := 31) S.1 S.2.1 S.2.2.2.1 (S.2.2.2.2 _ (List.mem_of_getElem? (i := 2) rfl)) dX7_digest_77 ?_
      refine lv_lload_n S.1 S.2.1 dX7_digest_80 rfl (lv_at hl 0 rfl) ?_
      refine lv_lmul S.1 S.2.1 dX7_digest_81 ?_
      refine lv_aload_n S.1 S.2.1 dX7_digest_82 rfl (lv_at hl 2 rfl) ?_
      refine w_get S C w (CC := RX7) (T := TX7) (N := 16) (ref := "GateSumsModel") im_X7_digest_X7 0 rfl rfl 0 (by decide) (List.mem_of_getElem? (i := 3) rfl) (fun _ h => h) rfl dX7_digest_83 ?_
      refine lv_bipush (v := 30) S.1 S.2.1 dX7_digest_86 (by decide) ?_
      refine lv_iload_n S.1 S.2.1 dX7_digest_88 rfl (lv_at hl 1 rfl) ?_
      refine lv_iadd S.1 S.2.1 dX7_digest_89 ?_
      refine w_iald S C w 1 rfl (ixA 30 _ (by have h := c40; rw [nI_leI (by omega) (by omega)] at h; omega)) dX7_digest_90 ?_
      refine lv_i2l (v := ((fS (30 + (nI x33.1)).toNatClampNeg).toInt64)) S.1 S.2.1 dX7_digest_91 rfl ?_
      refine lv_ladd S.1 S.2.1 dX7_digest_92 ?_
      refine lv_lstore_n (lv' := [(1, .long ((31 * ((31 * ((31 * x33.2) + ((fS (6 + (nI x33.1)).toNatClampNeg).toInt64))) + ((fS (18 + (nI x33.1)).toNatClampNeg).toInt64))) + ((fS (30 + (nI x33.1)).toNatClampNeg).toInt64))), (3, .int (nI x33.1)), (0, .ref mO)]) S.1 S.2.1 dX7_digest_93 rfl hl (by decide) rfl (fun ls hl => ?_)
      refine lv_iinc (v := (nI (x33.1 + 1))) (lv' := [(3, .int (nI (x33.1 + 1))), (1, .long ((31 * ((31 * ((31 * x33.2) + ((fS (6 + (nI x33.1)).toNatClampNeg).toInt64))) + ((fS (18 + (nI x33.1)).toNatClampNeg).toInt64))) + ((fS (30 + (nI x33.1)).toNatClampNeg).toInt64))), (0, .ref mO)]) S.1 S.2.1 dX7_digest_94 hl (k := 1) rfl (nI_1 _) (by decide) rfl (fun ls hl => ?_)
      refine lv_goto (tgt := 33) S.1 S.2.1 dX7_digest_97 (by decide) ?_
      have hlt : x33.1 < gN := (by have h := c40; rw [nI_leI (by omega) (by omega)] at h; omega)
      exact ih33 (x33.1 + 1, ((31 * ((31 * ((31 * x33.2) + ((fS (6 + (nI x33.1)).toNatClampNeg).toInt64))) + ((fS (18 + (nI x33.1)).toNatClampNeg).toInt64))) + ((fS (30 + (nI x33.1)).toNatClampNeg).toInt64))) ls (hlt) (by dsimp only; omega) (lv_sub hl [0, 1, 2] rfl)
  · refine lv_ldc2 (own := RX7) (v := 31) S.1 S.2.1 S.2.2.2.1 (S.2.2.2.2 _ (List.mem_of_getElem? (i := 2) rfl)) dX7_digest_12 ?_
    refine lv_lload_n S.1 S.2.1 dX7_digest_15 rfl (lv_at hl 1 rfl) ?_
    refine lv_lmul S.1 S.2.1 dX7_digest_16 ?_
    refine lv_aload_n S.1 S.2.1 dX7_digest_17 rfl (lv_at hl 2 rfl) ?_
    refine lv_iload_n S.1 S.2.1 dX7_digest_18 rfl (lv_at hl 0 rfl) ?_
    refine cs_i (va_runV (As := [.int (nI x6.1)]) (rest := [.long (31 * x6.2)]) S (c_X7_countOf l G mO mS mR _ mD mT mW mQ mC mU mV mt ma mn my mm mf mg fS fR (nI x6.1)) (cwV 1 S.2.2.2.2 gX7_digest_X7_countOf rfl rfl rfl (by decide +kernel) ⟨Nat.le_of_ble_eq_true rfl, Nat.le_of_ble_eq_true rfl⟩) ⟨wPre_blind, va_recv C.1 w.1 (ci := 7) (q0 := 0) rfl rfl, wPre_at C w [0, 1, 2] rfl rfl⟩ rfl rfl hl.1 rfl (lv_room (Nat.le_of_ble_eq_true rfl)) dX7_digest_19 ⟨Nat.le_of_ble_eq_true rfl, Nat.le_of_ble_eq_true rfl⟩) (fun r19 h19 => ?_)
    refine w_topi (y := (countM fR mt fS (nI x6.1))) h19 ?_
    refine lv_i2l (v := ((countM fR mt fS (nI x6.1)).toInt64)) S.1 S.2.1 dX7_digest_22 rfl ?_
    refine lv_ladd S.1 S.2.1 dX7_digest_23 ?_
    refine lv_lstore_n (lv' := [(1, .long ((31 * x6.2) + ((countM fR mt fS (nI x6.1)).toInt64))), (3, .int (nI x6.1)), (0, .ref mO)]) S.1 S.2.1 dX7_digest_24 rfl hl (by decide) rfl (fun ls hl => ?_)
    refine lv_iinc (v := (nI (x6.1 + 1))) (lv' := [(3, .int (nI (x6.1 + 1))), (1, .long ((31 * x6.2) + ((countM fR mt fS (nI x6.1)).toInt64))), (0, .ref mO)]) S.1 S.2.1 dX7_digest_25 hl (k := 1) rfl (nI_1 _) (by decide) rfl (fun ls hl => ?_)
    refine lv_goto (tgt := 6) S.1 S.2.1 dX7_digest_28 (by decide) ?_
    have hlt : x6.1 < 7 := by have h := c9; rw [show (7 : Int32) = nI 7 from rfl, nI_leI (by decide) (by omega)] at h; omega
    exact ih6 (x6.1 + 1, ((31 * x6.2) + ((countM fR mt fS (nI x6.1)).toInt64))) ls (hlt) (by dsimp only; omega) (lv_sub hl [0, 1, 2] rfl)
