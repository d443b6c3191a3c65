set_option maxHeartbeats 4000000 in
set_option maxRecDepth 100000 in
theorem q_X6_digest (l : Launch) (G : GT) (aG aRd aT aC aK aX aY aZ aL aW : Nat) (sz : Nat) (aD aM aS aB : Nat) (nB nN nF : Int32) (rF rT rS tL : Int32) (cT cI cG cO cK cP cQ : Int32) (fK fX fY fZ : Nat → Int32) (gW : Nat → Int64) : Met l yX6_digest wsX6_digest ({ frames := 5, cells := 0, slots := 0, locals := 113 }) (va_Pc [.ref aG] (wPre G [(aG, .inr (6, [.ref aRd, .ref aC, .ref aD, .ref aL, .ref aM, .ref aS, .int nB, .int nN, .int nF])), (aRd, .inr (3, [.ref aT, .int rF, .int rT, .int rS])), (aT, .inr (5, [.ref aB, .int tL])), (aC, .inr (0, [.int cT, .int cI, .int cG, .int cO, .int cK, .int cP, .int cQ, .ref aK, .ref aX, .ref aY, .ref aZ])), (aK, .inl (G.2.1 2, 12, .inl fK)), (aX, .inl (G.2.1 2, 12, .inl fX)), (aY, .inl (G.2.1 2, 12, .inl fY)), (aZ, .inl (G.2.1 2, 7, .inl fZ)), (aL, .inr (1, [.ref aW])), (aW, .inl (G.2.1 3, 18, .inr (.inl gW)))] sz)) (vp_Sl (fun r : Int64 => r = dgC nB nN nF tL cT cI cG cO cK cP cQ fK fX fY fZ (foldF (countW1 (fun j => isWrongF gW cO cK cP cQ fZ (nI j))) (allN cI) 0))) 0 0 (fun _ => False) := by
  refine met_go (cc := cX6_digest) (maxL := 4) (ret := (some .long)) (own := RX6) (by decide) rfl rfl (Nat.le_of_ble_eq_true rfl) ?_
  intro p e s m below meth c ls S hr hlocks hname hsz C w hl
  have hl : lv_has ls 4 [(0, .ref aG)] := hl
  refine lv_ldc2 (own := RX6) (v := 1993) S.1 S.2.1 S.2.2.2.1 (S.2.2.2.2 _ (List.mem_of_getElem? (i := 1) rfl)) dX6_digest_0 ?_
  refine lv_lstore_n (lv' := [(1, .long 1993), (0, .ref aG)]) S.1 S.2.1 dX6_digest_3 rfl hl (by decide) rfl (fun ls hl => ?_)
  refine lv_iconst (v := 0) S.1 S.2.1 dX6_digest_4 (by decide) ?_
  refine lv_istore_n (lv' := [(3, .int 0), (1, .long 1993), (0, .ref aG)]) S.1 S.2.1 dX6_digest_5 rfl hl (by decide) rfl (fun ls hl => ?_)
  refine w_loopS (σ := Nat × Int64) (nL := 4) 6 (fun x6 => 7 - x6.1) (fun x6 => x6.1 ≤ 7 ∧ x6.2 = fH (fun j => countF nB nN nF tL cI cG cO (nI j)) x6.1 1993) (fun x6 => [(3, .int (nI x6.1)), (1, .long x6.2), (0, .ref aG)]) (fun _ => []) ?_ (0, 1993) ls (⟨Nat.zero_le _, rfl⟩) (lv_sub hl [0, 1, 2] rfl)
  intro x6 ls hI6 hl ih6
  have hl : lv_has ls 4 [(3, .int (nI x6.1)), (1, .long x6.2), (0, .ref aG)] := hl
  have hJ6 := hI6.1
  refine lv_iload_n S.1 S.2.1 dX6_digest_6 rfl (lv_at hl 0 rfl) ?_
  refine lv_bipush (v := 6) S.1 S.2.1 dX6_digest_7 (by decide) ?_
  refine lv_icmp_gt (tgt := 31) S.1 S.2.1 dX6_digest_9 (by decide) (fun c9 => ?_) (fun c9 => ?_)
  · refine lv_iconst (v := 0) S.1 S.2.1 dX6_digest_31 (by decide) ?_
    refine lv_istore_n (lv' := [(3, .int 0), (1, .long x6.2), (0, .ref aG)]) S.1 S.2.1 dX6_digest_32 rfl hl (by decide) rfl (fun ls hl => ?_)
    have e7 : x6.1 = 7 := by have h := c9; rw [show (6 : Int32) = nI 6 from rfl, nI_ltI (by decide) (by omega)] at h; omega
    refine w_loopS (σ := Nat × Int64) (nL := 4) 33 (fun x33 => cG.toNatClampNeg - x33.1) (fun x33 => x33.1 ≤ cG.toNatClampNeg ∧ x33.2 = fG3 (fun j => atF fK 12 (nI j)) (fun j => atF fX 12 (nI j)) (fun j => atF fY 12 (nI j)) x33.1 (fH (fun j => countF nB nN nF tL cI cG cO (nI j)) 7 1993)) (fun x33 => [(3, .int (nI x33.1)), (1, .long x33.2), (0, .ref aG)]) (fun _ => []) ?_ (0, x6.2) ls (⟨Nat.zero_le _, (by dsimp only; rw [hI6.2, e7]; exact fG3_z)⟩) (lv_sub hl [0, 1, 2] rfl)
    intro x33 ls hI33 hl ih33
    have hl : lv_has ls 4 [(3, .int (nI x33.1)), (1, .long x33.2), (0, .ref aG)] := hl
    have hJ33 := hI33.1
    refine lv_iload_n S.1 S.2.1 dX6_digest_33 rfl (lv_at hl 0 rfl) ?_
    refine lv_aload_n S.1 S.2.1 dX6_digest_34 rfl (lv_at hl 2 rfl) ?_
    refine w_get S C w (CC := RX6) (T := TX6) (N := 9) (ref := "GateSums") im_X6_digest_X6 0 rfl rfl 1 (by decide) (List.mem_of_getElem? (i := 3) rfl) (fun _ h => h) rfl dX6_digest_35 ?_
    refine w_get S C w (CC := RX0) (T := TX0) (N := 11) (ref := "GateSums$Circuit") im_X6_digest_X0 3 rfl rfl 2 (by decide) (List.mem_of_getElem? (i := 4) rfl) (fun _ h => h) rfl dX6_digest_38 ?_
    refine lv_icmp_ge (tgt := 98) S.1 S.2.1 dX6_digest_41 (by decide) (fun c41 => ?_) (fun c41 => ?_)
    · refine lv_iconst (v := 0) S.1 S.2.1 dX6_digest_98 (by decide) ?_
      refine lv_istore_n (lv' := [(3, .int 0), (1, .long x33.2), (0, .ref aG)]) S.1 S.2.1 dX6_digest_99 rfl hl (by decide) rfl (fun ls hl => ?_)
      have eg : x33.1 = cG.toNatClampNeg := by have := cge (by have := cl_lt cG; omega) c41; omega
      refine w_loopS (σ := Nat × Int64) (nL := 4) 100 (fun x100 => cO.toNatClampNeg - x100.1) (fun x100 => x100.1 ≤ cO.toNatClampNeg ∧ x100.2 = fH (fun j => atF fZ 7 (nI j)) x100.1 (fG3 (fun j => atF fK 12 (nI j)) (fun j => atF fX 12 (nI j)) (fun j => atF fY 12 (nI j)) cG.toNatClampNeg (fH (fun j => countF nB nN nF tL cI cG cO (nI j)) 7 1993))) (fun x100 => [(3, .int (nI x100.1)), (1, .long x100.2), (0, .ref aG)]) (fun _ => []) ?_ (0, x33.2) ls (⟨Nat.zero_le _, (by dsimp only; rw [hI33.2, eg]; exact fH_z rfl)⟩) (lv_sub hl [0, 1, 2] rfl)
      intro x100 ls hI100 hl ih100
      have hl : lv_has ls 4 [(3, .int (nI x100.1)), (1, .long x100.2), (0, .ref aG)] := hl
      have hJ100 := hI100.1
      refine lv_iload_n S.1 S.2.1 dX6_digest_100 rfl (lv_at hl 0 rfl) ?_
      refine lv_aload_n S.1 S.2.1 dX6_digest_101 rfl (lv_at hl 2 rfl) ?_
      refine w_get S C w (CC := RX6) (T := TX6) (N := 9) (ref := "GateSums") im_X6_digest_X6 0 rfl rfl 1 (by decide) (List.mem_of_getElem? (i := 3) rfl) (fun _ h => h) rfl dX6_digest_102 ?_
      refine w_get S C w (CC := RX0) (T := TX0) (N := 11) (ref := "GateSums$Circuit") im_X6_digest_X0 3 rfl rfl 3 (by decide) (List.mem_of_getElem? (i := 5) rfl) (fun _ h => h) rfl dX6_digest_105 ?_
      refine lv_icmp_ge (tgt := 133) S.1 S.2.1 dX6_digest_108 (by decide) (fun c108 => ?_) (fun c108 => ?_)
      · refine lv_aload_n S.1 S.2.1 dX6_digest_133 rfl (lv_at hl 2 rfl) ?_
        refine w_get S C w (CC := RX6) (T := TX6) (N := 9) (ref := "GateSums") im_X6_digest_X6 0 rfl rfl 1 (by decide) (List.mem_of_getElem? (i := 3) rfl) (fun _ h => h) rfl dX6_digest_134 ?_
        refine w_get S C w (CC := RX0) (T := TX0) (N := 11) (ref := "GateSums$Circuit") im_X6_digest_X0 3 rfl rfl 0 (by decide) (List.mem_of_getElem? (i := 6) rfl) (fun _ h => h) rfl dX6_digest_137 ?_
        refine lv_istore_n (lv' := [(3, .int cT), (1, .long x100.2), (0, .ref aG)]) S.1 S.2.1 dX6_digest_140 rfl hl (by decide) rfl (fun ls hl => ?_)
        refine lv_ldc2 (own := RX6) (v := 31) S.1 S.2.1 S.2.2.2.1 (S.2.2.2.2 _ (List.mem_of_getElem? (i := 2) rfl)) dX6_digest_141 ?_
        refine lv_lload_n S.1 S.2.1 dX6_digest_144 rfl (lv_at hl 1 rfl) ?_
        refine lv_lmul S.1 S.2.1 dX6_digest_145 ?_
        refine lv_iload_n S.1 S.2.1 dX6_digest_146 rfl (lv_at hl 0 rfl) ?_
        refine w_joini 161 [.long (31 * x100.2)] (fun z161 => z161 = if cT = 0 then -1 else cK) (fun z161 hz161 => ?_) (fun J161 => ?_)
        · refine lv_i2l (v := z161.toInt64) S.1 S.2.1 dX6_digest_161 rfl ?_
          refine lv_ladd S.1 S.2.1 dX6_digest_162 ?_
          refine lv_lstore_n (lv' := [(1, .long ((31 * x100.2) + z161.toInt64)), (3, .int cT), (0, .ref aG)]) S.1 S.2.1 dX6_digest_163 rfl hl (by decide) rfl (fun ls hl => ?_)
          refine lv_ldc2 (own := RX6) (v := 31) S.1 S.2.1 S.2.2.2.1 (S.2.2.2.2 _ (List.mem_of_getElem? (i := 2) rfl)) dX6_digest_164 ?_
          refine lv_lload_n S.1 S.2.1 dX6_digest_167 rfl (lv_at hl 0 rfl) ?_
          refine lv_lmul S.1 S.2.1 dX6_digest_168 ?_
          refine lv_iload_n S.1 S.2.1 dX6_digest_169 rfl (lv_at hl 1 rfl) ?_
          refine w_joini 184 [.long (31 * ((31 * x100.2) + z161.toInt64))] (fun z184 => z184 = if cT = 0 then -1 else cP) (fun z184 hz184 => ?_) (fun J184 => ?_)
          · refine lv_i2l (v := z184.toInt64) S.1 S.2.1 dX6_digest_184 rfl ?_
            refine lv_ladd S.1 S.2.1 dX6_digest_185 ?_
            refine lv_lstore_n (lv' := [(1, .long ((31 * ((31 * x100.2) + z161.toInt64)) + z184.toInt64)), (3, .int cT), (0, .ref aG)]) S.1 S.2.1 dX6_digest_186 rfl hl (by decide) rfl (fun ls hl => ?_)
            refine lv_ldc2 (own := RX6) (v := 31) S.1 S.2.1 S.2.2.2.1 (S.2.2.2.2 _ (List.mem_of_getElem? (i := 2) rfl)) dX6_digest_187 ?_
            refine lv_lload_n S.1 S.2.1 dX6_digest_190 rfl (lv_at hl 0 rfl) ?_
            refine lv_lmul S.1 S.2.1 dX6_digest_191 ?_
            refine lv_iload_n S.1 S.2.1 dX6_digest_192 rfl (lv_at hl 1 rfl) ?_
            refine w_joini 207 [.long (31 * ((31 * ((31 * x100.2) + z161.toInt64)) + z184.toInt64))] (fun z207 => z207 = if cT = 0 then -1 else cQ) (fun z207 hz207 => ?_) (fun J207 => ?_)
            · refine lv_i2l (v := z207.toInt64) S.1 S.2.1 dX6_digest_207 rfl ?_
              refine lv_ladd S.1 S.2.1 dX6_digest_208 ?_
              refine lv_lstore_n (lv' := [(1, .long ((31 * ((31 * ((31 * x100.2) + z161.toInt64)) + z184.toInt64)) + z207.toInt64)), (3, .int cT), (0, .ref aG)]) S.1 S.2.1 dX6_digest_209 rfl hl (by decide) rfl (fun ls hl => ?_)
              refine lv_ldc2 (own := RX6) (v := 31) S.1 S.2.1 S.2.2.2.1 (S.2.2.2.2 _ (List.mem_of_getElem? (i := 2) rfl)) dX6_digest_210 ?_
              refine lv_lload_n S.1 S.2.1 dX6_digest_213 rfl (lv_at hl 0 rfl) ?_
              refine lv_lmul S.1 S.2.1 dX6_digest_214 ?_
              refine lv_iload_n S.1 S.2.1 dX6_digest_215 rfl (lv_at hl 1 rfl) ?_
              refine w_joini 234 [.long (31 * ((31 * ((31 * ((31 * x100.2) + z161.toInt64)) + z184.toInt64)) + z207.toInt64))] (fun z234 => z234 = if cT = 0 then -1 else (foldF (countW1 (fun j => isWrongF gW cO cK cP cQ fZ (nI j))) (allN cI) 0)) (fun z234 hz234 => ?_) (fun J234 => ?_)
              · refine lv_i2l (v := z234.toInt64) S.1 S.2.1 dX6_digest_234 rfl ?_
                refine lv_ladd S.1 S.2.1 dX6_digest_235 ?_
                exact W.lret (v := ((31 * ((31 * ((31 * ((31 * x100.2) + z161.toInt64)) + z184.toInt64)) + z207.toInt64)) + z234.toInt64)) S.1 S.2.1 hr (fun t ht _ => ⟨((31 * ((31 * ((31 * ((31 * x100.2) + z161.toInt64)) + z184.toInt64)) + z207.toInt64)) + z234.toInt64), rfl, (by have eo : x100.1 = cO.toNatClampNeg := (by have := cge (by have := cl_lt cO; omega) c108; omega); unfold dgC; rw [hz161, hz184, hz207, hz234, hI100.2, eo]), ht⟩) (fun q h => absurd h List.not_mem_nil) dX6_digest_236
              · refine lv_if_eq (tgt := 233) S.1 S.2.1 dX6_digest_216 (by decide) (fun c216 => ?_) (fun c216 => ?_)
                · refine lv_iconst (v := (-1)) S.1 S.2.1 dX6_digest_233 (by decide) ?_
                  exact J234 (-1) ((if_pos c216).symm)
                · refine lv_aload_n S.1 S.2.1 dX6_digest_219 rfl (lv_at hl 2 rfl) ?_
                  refine w_get S C w (CC := RX6) (T := TX6) (N := 9) (ref := "GateSums") im_X6_digest_X6 0 rfl rfl 3 (by decide) (List.mem_of_getElem? (i := 10) rfl) (fun _ h => h) rfl dX6_digest_220 ?_
                  refine lv_aload_n S.1 S.2.1 dX6_digest_223 rfl (lv_at hl 2 rfl) ?_
                  refine w_get S C w (CC := RX6) (T := TX6) (N := 9) (ref := "GateSums") im_X6_digest_X6 0 rfl rfl 1 (by decide) (List.mem_of_getElem? (i := 3) rfl) (fun _ h => h) rfl dX6_digest_224 ?_
                  refine cs_i (va_runV (As := [.ref aC]) (rest := [.long (31 * ((31 * ((31 * ((31 * x100.2) + z161.toInt64)) + z184.toInt64)) + z207.toInt64))]) S (c_X1_countWrong l G aL aW aC aZ _ gW cT cI cG cO cK cP cQ aK aX aY fZ) (cwV 1 S.2.2.2.2 gX6_digest_X1_countWrong rfl rfl rfl (by decide +kernel) ⟨Nat.le_of_ble_eq_true rfl, Nat.le_of_ble_eq_true rfl⟩) ⟨wPre_blind, va_recv C.1 w.1 (ci := 1) (q0 := 8) rfl rfl, wPre_at C w [8, 9, 3, 7] rfl rfl⟩ rfl rfl hl.1 rfl (lv_room (Nat.le_of_ble_eq_true rfl)) dX6_digest_227 ⟨Nat.le_of_ble_eq_true rfl, Nat.le_of_ble_eq_true rfl⟩) (fun r227 h227 => ?_)
                  refine w_topi (y := (foldF (countW1 (fun j => isWrongF gW cO cK cP cQ fZ (nI j))) (allN cI) 0)) h227 ?_
                  refine lv_goto (tgt := 234) S.1 S.2.1 dX6_digest_230 (by decide) ?_
                  exact J234 (foldF (countW1 (fun j => isWrongF gW cO cK cP cQ fZ (nI j))) (allN cI) 0) ((if_neg c216).symm)
            · refine lv_if_eq (tgt := 206) S.1 S.2.1 dX6_digest_193 (by decide) (fun c193 => ?_) (fun c193 => ?_)
              · refine lv_iconst (v := (-1)) S.1 S.2.1 dX6_digest_206 (by decide) ?_
                exact J207 (-1) ((if_pos c193).symm)
              · refine lv_aload_n S.1 S.2.1 dX6_digest_196 rfl (lv_at hl 2 rfl) ?_
                refine w_get S C w (CC := RX6) (T := TX6) (N := 9) (ref := "GateSums") im_X6_digest_X6 0 rfl rfl 1 (by decide) (List.mem_of_getElem? (i := 3) rfl) (fun _ h => h) rfl dX6_digest_197 ?_
                refine w_get S C w (CC := RX0) (T := TX0) (N := 11) (ref := "GateSums$Circuit") im_X6_digest_X0 3 rfl rfl 6 (by decide) (List.mem_of_getElem? (i := 9) rfl) (fun _ h => h) rfl dX6_digest_200 ?_
                refine lv_goto (tgt := 207) S.1 S.2.1 dX6_digest_203 (by decide) ?_
                exact J207 cQ ((if_neg c193).symm)
          · refine lv_if_eq (tgt := 183) S.1 S.2.1 dX6_digest_170 (by decide) (fun c170 => ?_) (fun c170 => ?_)
            · refine lv_iconst (v := (-1)) S.1 S.2.1 dX6_digest_183 (by decide) ?_
              exact J184 (-1) ((if_pos c170).symm)
            · refine lv_aload_n S.1 S.2.1 dX6_digest_173 rfl (lv_at hl 2 rfl) ?_
              refine w_get S C w (CC := RX6) (T := TX6) (N := 9) (ref := "GateSums") im_X6_digest_X6 0 rfl rfl 1 (by decide) (List.mem_of_getElem? (i := 3) rfl) (fun _ h => h) rfl dX6_digest_174 ?_
              refine w_get S C w (CC := RX0) (T := TX0) (N := 11) (ref := "GateSums$Circuit") im_X6_digest_X0 3 rfl rfl 5 (by decide) (List.mem_of_getElem? (i := 8) rfl) (fun _ h => h) rfl dX6_digest_177 ?_
              refine lv_goto (tgt := 184) S.1 S.2.1 dX6_digest_180 (by decide) ?_
              exact J184 cP ((if_neg c170).symm)
        · refine lv_if_eq (tgt := 160) S.1 S.2.1 dX6_digest_147 (by decide) (fun c147 => ?_) (fun c147 => ?_)
          · refine lv_iconst (v := (-1)) S.1 S.2.1 dX6_digest_160 (by decide) ?_
            exact J161 (-1) ((if_pos c147).symm)
          · refine lv_aload_n S.1 S.2.1 dX6_digest_150 rfl (lv_at hl 2 rfl) ?_
            refine w_get S C w (CC := RX6) (T := TX6) (N := 9) (ref := "GateSums") im_X6_digest_X6 0 rfl rfl 1 (by decide) (List.mem_of_getElem? (i := 3) rfl) (fun _ h => h) rfl dX6_digest_151 ?_
            refine w_get S C w (CC := RX0) (T := TX0) (N := 11) (ref := "GateSums$Circuit") im_X6_digest_X0 3 rfl rfl 4 (by decide) (List.mem_of_getElem? (i := 7) rfl) (fun _ h => h) rfl dX6_digest_154 ?_
            refine lv_goto (tgt := 161) S.1 S.2.1 dX6_digest_157 (by decide) ?_
            exact J161 cK ((if_neg c147).symm)
      · refine lv_ldc2 (own := RX6) (v := 31) S.1 S.2.1 S.2.2.2.1 (S.2.2.2.2 _ (List.mem_of_getElem? (i := 2) rfl)) dX6_digest_111 ?_
        refine lv_lload_n S.1 S.2.1 dX6_digest_114 rfl (lv_at hl 1 rfl) ?_
        refine lv_lmul S.1 S.2.1 dX6_digest_115 ?_
        refine lv_aload_n S.1 S.2.1 dX6_digest_116 rfl (lv_at hl 2 rfl) ?_
        refine w_get S C w (CC := RX6) (T := TX6) (N := 9) (ref := "GateSums") im_X6_digest_X6 0 rfl rfl 1 (by decide) (List.mem_of_getElem? (i := 3) rfl) (fun _ h => h) rfl dX6_digest_117 ?_
        refine lv_iload_n S.1 S.2.1 dX6_digest_120 rfl (lv_at hl 0 rfl) ?_
        refine cs_i (va_runV (As := [.int (nI x100.1)]) (rest := [.long (31 * x100.2)]) S (c_X0_outputAt l G aC aZ _ cT cI cG cO cK cP cQ aK aX aY fZ (nI x100.1)) (cwV 1 S.2.2.2.2 gX6_digest_X0_outputAt rfl rfl rfl (by decide +kernel) ⟨Nat.le_of_ble_eq_true rfl, Nat.le_of_ble_eq_true rfl⟩) ⟨wPre_blind, va_recv C.1 w.1 (ci := 0) (q0 := 3) rfl rfl, wPre_at C w [3, 7] rfl rfl⟩ rfl rfl hl.1 rfl (lv_room (Nat.le_of_ble_eq_true rfl)) dX6_digest_121 ⟨Nat.le_of_ble_eq_true rfl, Nat.le_of_ble_eq_true rfl⟩) (fun r121 h121 => ?_)
        refine w_topi (y := (atF fZ 7 (nI x100.1))) h121 ?_
        refine lv_i2l (v := ((atF fZ 7 (nI x100.1)).toInt64)) S.1 S.2.1 dX6_digest_124 rfl ?_
        refine lv_ladd S.1 S.2.1 dX6_digest_125 ?_
        refine lv_lstore_n (lv' := [(1, .long ((31 * x100.2) + ((atF fZ 7 (nI x100.1)).toInt64))), (3, .int (nI x100.1)), (0, .ref aG)]) S.1 S.2.1 dX6_digest_126 rfl hl (by decide) rfl (fun ls hl => ?_)
        refine lv_iinc (v := (nI (x100.1 + 1))) (lv' := [(3, .int (nI (x100.1 + 1))), (1, .long ((31 * x100.2) + ((atF fZ 7 (nI x100.1)).toInt64))), (0, .ref aG)]) S.1 S.2.1 dX6_digest_127 hl (k := 1) rfl (nI_1 _) (by decide) rfl (fun ls hl => ?_)
        refine lv_goto (tgt := 100) S.1 S.2.1 dX6_digest_130 (by decide) ?_
        exact ih100 (x100.1 + 1, ((31 * x100.2) + ((atF fZ 7 (nI x100.1)).toInt64))) ls (⟨(by have := clt (by have := cl_lt cO; omega) c108; show _ + 1 ≤ _; omega), (by dsimp only; rw [hI100.2]; rfl)⟩) (by have := clt (by have := cl_lt cO; omega) c108; show _ - (_ + 1) < _; omega) (lv_sub hl [0, 1, 2] rfl)
    · refine lv_ldc2 (own := RX6) (v := 31) S.1 S.2.1 S.2.2.2.1 (S.2.2.2.2 _ (List.mem_of_getElem? (i := 2) rfl)) dX6_digest_44 ?_
      refine lv_lload_n S.1 S.2.1 dX6_digest_47 rfl (lv_at hl 1 rfl) ?_
      refine lv_lmul S.1 S.2.1 dX6_digest_48 ?_
      refine lv_aload_n S.1 S.2.1 dX6_digest_49 rfl (lv_at hl 2 rfl) ?_
      refine w_get S C w (CC := RX6) (T := TX6) (N := 9) (ref := "GateSums") im_X6_digest_X6 0 rfl rfl 1 (by decide) (List.mem_of_getElem? (i := 3) rfl) (fun _ h => h) rfl dX6_digest_50 ?_
      refine lv_iload_n S.1 S.2.1 dX6_digest_53 rfl (lv_at hl 0 rfl) ?_
      refine cs_i (va_runV (As := [.int (nI x33.1)]) (rest := [.long (31 * x33.2)]) S (c_X0_kindOf l G aC aK _ cT cI cG cO cK cP cQ aX aY aZ fK (nI x33.1)) (cwV 1 S.2.2.2.2 gX6_digest_X0_kindOf rfl rfl rfl (by decide +kernel) ⟨Nat.le_of_ble_eq_true rfl, Nat.le_of_ble_eq_true rfl⟩) ⟨wPre_blind, va_recv C.1 w.1 (ci := 0) (q0 := 3) rfl rfl, wPre_at C w [3, 4] rfl rfl⟩ rfl rfl hl.1 rfl (lv_room (Nat.le_of_ble_eq_true rfl)) dX6_digest_54 ⟨Nat.le_of_ble_eq_true rfl, Nat.le_of_ble_eq_true rfl⟩) (fun r54 h54 => ?_)
      refine w_topi (y := (atF fK 12 (nI x33.1))) h54 ?_
      refine lv_i2l (v := ((atF fK 12 (nI x33.1)).toInt64)) S.1 S.2.1 dX6_digest_57 rfl ?_
      refine lv_ladd S.1 S.2.1 dX6_digest_58 ?_
      refine lv_lstore_n (lv' := [(1, .long ((31 * x33.2) + ((atF fK 12 (nI x33.1)).toInt64))), (3, .int (nI x33.1)), (0, .ref aG)]) S.1 S.2.1 dX6_digest_59 rfl hl (by decide) rfl (fun ls hl => ?_)
      refine lv_ldc2 (own := RX6) (v := 31) S.1 S.2.1 S.2.2.2.1 (S.2.2.2.2 _ (List.mem_of_getElem? (i := 2) rfl)) dX6_digest_60 ?_
      refine lv_lload_n S.1 S.2.1 dX6_digest_63 rfl (lv_at hl 0 rfl) ?_
      refine lv_lmul S.1 S.2.1 dX6_digest_64 ?_
      refine lv_aload_n S.1 S.2.1 dX6_digest_65 rfl (lv_at hl 2 rfl) ?_
      refine w_get S C w (CC := RX6) (T := TX6) (N := 9) (ref := "GateSums") im_X6_digest_X6 0 rfl rfl 1 (by decide) (List.mem_of_getElem? (i := 3) rfl) (fun _ h => h) rfl dX6_digest_66 ?_
      refine lv_iload_n S.1 S.2.1 dX6_digest_69 rfl (lv_at hl 1 rfl) ?_
      refine cs_i (va_runV (As := [.int (nI x33.1)]) (rest := [.long (31 * ((31 * x33.2) + ((atF fK 12 (nI x33.1)).toInt64)))]) S (c_X0_xOf l G aC aX _ cT cI cG cO cK cP cQ aK aY aZ fX (nI x33.1)) (cwV 1 S.2.2.2.2 gX6_digest_X0_xOf rfl rfl rfl (by decide +kernel) ⟨Nat.le_of_ble_eq_true rfl, Nat.le_of_ble_eq_true rfl⟩) ⟨wPre_blind, va_recv C.1 w.1 (ci := 0) (q0 := 3) rfl rfl, wPre_at C w [3, 5] rfl rfl⟩ rfl rfl hl.1 rfl (lv_room (Nat.le_of_ble_eq_true rfl)) dX6_digest_70 ⟨Nat.le_of_ble_eq_true rfl, Nat.le_of_ble_eq_true rfl⟩) (fun r70 h70 => ?_)
      refine w_topi (y := (atF fX 12 (nI x33.1))) h70 ?_
      refine lv_i2l (v := ((atF fX 12 (nI x33.1)).toInt64)) S.1 S.2.1 dX6_digest_73 rfl ?_
      refine lv_ladd S.1 S.2.1 dX6_digest_74 ?_
      refine lv_lstore_n (lv' := [(1, .long ((31 * ((31 * x33.2) + ((atF fK 12 (nI x33.1)).toInt64))) + ((atF fX 12 (nI x33.1)).toInt64))), (3, .int (nI x33.1)), (0, .ref aG)]) S.1 S.2.1 dX6_digest_75 rfl hl (by decide) rfl (fun ls hl => ?_)
      refine lv_ldc2 (own := RX6) (v := 31) S.1 S.2.1 S.2.2.2.1 (S.2.2.2.2 _ (List.mem_of_getElem? (i := 2) rfl)) dX6_digest_76 ?_
      refine lv_lload_n S.1 S.2.1 dX6_digest_79 rfl (lv_at hl 0 rfl) ?_
      refine lv_lmul S.1 S.2.1 dX6_digest_80 ?_
      refine lv_aload_n S.1 S.2.1 dX6_digest_81 rfl (lv_at hl 2 rfl) ?_
      refine w_get S C w (CC := RX6) (T := TX6) (N := 9) (ref := "GateSums") im_X6_digest_X6 0 rfl rfl 1 (by decide) (List.mem_of_getElem? (i := 3) rfl) (fun _ h => h) rfl dX6_digest_82 ?_
      refine lv_iload_n S.1 S.2.1 dX6_digest_85 rfl (lv_at hl 1 rfl) ?_
      refine cs_i (va_runV (As := [.int (nI x33.1)]) (rest := [.long (31 * ((31 * ((31 * x33.2) + ((atF fK 12 (nI x33.1)).toInt64))) + ((atF fX 12 (nI x33.1)).toInt64)))]) S (c_X0_yOf l G aC aY _ cT cI cG cO cK cP cQ aK aX aZ fY (nI x33.1)) (cwV 1 S.2.2.2.2 gX6_digest_X0_yOf rfl rfl rfl (by decide +kernel) ⟨Nat.le_of_ble_eq_true rfl, Nat.le_of_ble_eq_true rfl⟩) ⟨wPre_blind, va_recv C.1 w.1 (ci := 0) (q0 := 3) rfl rfl, wPre_at C w [3, 6] rfl rfl⟩ rfl rfl hl.1 rfl (lv_room (Nat.le_of_ble_eq_true rfl)) dX6_digest_86 ⟨Nat.le_of_ble_eq_true rfl, Nat.le_of_ble_eq_true rfl⟩) (fun r86 h86 => ?_)
      refine w_topi (y := (atF fY 12 (nI x33.1))) h86 ?_
      refine lv_i2l (v := ((atF fY 12 (nI x33.1)).toInt64)) S.1 S.2.1 dX6_digest_89 rfl ?_
      refine lv_ladd S.1 S.2.1 dX6_digest_90 ?_
      refine lv_lstore_n (lv' := [(1, .long ((31 * ((31 * ((31 * x33.2) + ((atF fK 12 (nI x33.1)).toInt64))) + ((atF fX 12 (nI x33.1)).toInt64))) + ((atF fY 12 (nI x33.1)).toInt64))), (3, .int (nI x33.1)), (0, .ref aG)]) S.1 S.2.1 dX6_digest_91 rfl hl (by decide) rfl (fun ls hl => ?_)
      refine lv_iinc (v := (nI (x33.1 + 1))) (lv' := [(3, .int (nI (x33.1 + 1))), (1, .long ((31 * ((31 * ((31 * x33.2) + ((atF fK 12 (nI x33.1)).toInt64))) + ((atF fX 12 (nI x33.1)).toInt64))) + ((atF fY 12 (nI x33.1)).toInt64))), (0, .ref aG)]) S.1 S.2.1 dX6_digest_92 hl (k := 1) rfl (nI_1 _) (by decide) rfl (fun ls hl => ?_)
      refine lv_goto (tgt := 33) S.1 S.2.1 dX6_digest_95 (by decide) ?_
      exact ih33 (x33.1 + 1, ((31 * ((31 * ((31 * x33.2) + ((atF fK 12 (nI x33.1)).toInt64))) + ((atF fX 12 (nI x33.1)).toInt64))) + ((atF fY 12 (nI x33.1)).toInt64))) ls (⟨(by have := clt (by have := cl_lt cG; omega) c41; show _ + 1 ≤ _; omega), (by dsimp only; rw [hI33.2]; rfl)⟩) (by have := clt (by have := cl_lt cG; omega) c41; show _ - (_ + 1) < _; omega) (lv_sub hl [0, 1, 2] rfl)
  · refine lv_ldc2 (own := RX6) (v := 31) S.1 S.2.1 S.2.2.2.1 (S.2.2.2.2 _ (List.mem_of_getElem? (i := 2) rfl)) dX6_digest_12 ?_
    refine lv_lload_n S.1 S.2.1 dX6_digest_15 rfl (lv_at hl 1 rfl) ?_
    refine lv_lmul S.1 S.2.1 dX6_digest_16 ?_
    refine lv_aload_n S.1 S.2.1 dX6_digest_17 rfl (lv_at hl 2 rfl) ?_
    refine lv_iload_n S.1 S.2.1 dX6_digest_18 rfl (lv_at hl 0 rfl) ?_
    refine cs_i (va_runV (As := [.int (nI x6.1)]) (rest := [.long (31 * x6.2)]) S (s_X6_count l G aG aRd aT aC _ aD aL aM aS nB nN nF aB rF rT rS tL cT cI cG cO cK cP cQ aK aX aY aZ (nI x6.1) ((nI_b6 (by have h := c9; rw [show (6 : Int32) = nI 6 from rfl, nI_ltI (by decide) (by omega)] at h; omega)).1) ((nI_b6 (by have h := c9; rw [show (6 : Int32) = nI 6 from rfl, nI_ltI (by decide) (by omega)] at h; omega)).2)) (cwV 1 S.2.2.2.2 gX6_digest_X6_count rfl rfl rfl (by decide +kernel) ⟨Nat.le_of_ble_eq_true rfl, Nat.le_of_ble_eq_true rfl⟩) ⟨wPre_blind, va_recv C.1 w.1 (ci := 6) (q0 := 0) rfl rfl, wPre_at C w [0, 1, 2, 3] rfl rfl⟩ rfl rfl hl.1 rfl (lv_room (Nat.le_of_ble_eq_true rfl)) dX6_digest_19 ⟨Nat.le_of_ble_eq_true rfl, Nat.le_of_ble_eq_true rfl⟩) (fun r19 h19 => ?_)
    refine lv_i2l (v := r19.toInt64) S.1 S.2.1 dX6_digest_22 rfl ?_
    refine lv_ladd S.1 S.2.1 dX6_digest_23 ?_
    refine lv_lstore_n (lv' := [(1, .long ((31 * x6.2) + r19.toInt64)), (3, .int (nI x6.1)), (0, .ref aG)]) S.1 S.2.1 dX6_digest_24 rfl hl (by decide) rfl (fun ls hl => ?_)
    refine lv_iinc (v := (nI (x6.1 + 1))) (lv' := [(3, .int (nI (x6.1 + 1))), (1, .long ((31 * x6.2) + r19.toInt64)), (0, .ref aG)]) S.1 S.2.1 dX6_digest_25 hl (k := 1) rfl (nI_1 _) (by decide) rfl (fun ls hl => ?_)
    refine lv_goto (tgt := 6) S.1 S.2.1 dX6_digest_28 (by decide) ?_
    exact ih6 (x6.1 + 1, ((31 * x6.2) + r19.toInt64)) ls (⟨(by have h := c9; rw [show (6 : Int32) = nI 6 from rfl, nI_ltI (by decide) (by omega)] at h; show _ + 1 ≤ 7; omega), (by dsimp only; rw [h19, hI6.2]; rfl)⟩) (by have h := c9; rw [show (6 : Int32) = nI 6 from rfl, nI_ltI (by decide) (by omega)] at h; show 7 - (_ + 1) < 7 - _; omega) (lv_sub hl [0, 1, 2] rfl)
set_option maxHeartbeats 4000000 in
set_option maxRecDepth 100000 in
theorem q_X7_digest (l : Launch) (G : GT) (mO mS mR : Nat) (sz : Nat) (mD mT mW mQ mC mU mV : Nat) (mt ma mn my mm mf mg : Int32) (fS fR : Nat → Int32) (hok : okM fS) : Met l yX7_digest wsX7_digest ({ frames := 4, cells := 0, slots := 0, locals := 96 }) (va_Pc [.ref mO] (wPre G [(mO, .inr (7, [.ref mS, .ref mD, .ref mR, .ref mT, .int mt, .int ma, .int mn, .ref mW, .ref mQ, .ref mC, .int my, .ref mU, .ref mV, .int mm, .int mf, .int mg])), (mS, .inl (G.2.1 2, 49, .inl fS)), (mR, .inl (G.2.1 2, 3, .inl fR))] sz)) (vp_Sl (fun r : Int64 => r = dgM fR mt fS (fS 1).toNatClampNeg (fS 2).toNatClampNeg (foldF (countW1 (wqM fS (fS 1).toNatClampNeg (fS 2).toNatClampNeg)) (allN (fS 0)) 0))) 0 0 (fun _ => False) := by
  refine met_go (cc := cX7_digest) (maxL := 4) (ret := (some .long)) (own := RX7) (by decide) rfl rfl (Nat.le_of_ble_eq_true rfl) ?_
  intro p e s m below meth c ls S hr hlocks hname hsz C w hl
  obtain ⟨nN, gN, oN, pN, qN, h0_, hnN, hg, hgN, ho, hoN, hp, hpN, hq, hqN⟩ := id hok
  have hl : lv_has ls 4 [(0, .ref mO)] := hl
  refine lv_ldc2 (own := RX7) (v := 1993) S.1 S.2.1 S.2.2.2.1 (S.2.2.2.2 _ (List.mem_of_getElem? (i := 1) rfl)) dX7_digest_0 ?_
  refine lv_lstore_n (lv' := [(1, .long 1993), (0, .ref mO)]) S.1 S.2.1 dX7_digest_3 rfl hl (by decide) rfl (fun ls hl => ?_)
  refine lv_iconst (v := 0) S.1 S.2.1 dX7_digest_4 (by decide) ?_
  refine lv_istore_n (lv' := [(3, .int 0), (1, .long 1993), (0, .ref mO)]) S.1 S.2.1 dX7_digest_5 rfl hl (by decide) rfl (fun ls hl => ?_)
  refine w_loopS (σ := Nat × Int64) (nL := 4) 6 (fun x6 => 7 - x6.1) (fun x6 => x6.1 ≤ 7 ∧ x6.2 = fH (fun j => countM fR mt fS (nI j)) x6.1 1993) (fun x6 => [(3, .int (nI x6.1)), (1, .long x6.2), (0, .ref mO)]) (fun _ => []) ?_ (0, 1993) ls (⟨Nat.zero_le _, rfl⟩) (lv_sub hl [0, 1, 2] rfl)
  intro x6 ls hI6 hl ih6
  have hl : lv_has ls 4 [(3, .int (nI x6.1)), (1, .long x6.2), (0, .ref mO)] := hl
  have hJ6 := hI6.1
  refine lv_iload_n S.1 S.2.1 dX7_digest_6 rfl (lv_at hl 0 rfl) ?_
  refine lv_bipush (v := 7) S.1 S.2.1 dX7_digest_7 (by decide) ?_
  refine lv_icmp_ge (tgt := 31) S.1 S.2.1 dX7_digest_9 (by decide) (fun c9 => ?_) (fun c9 => ?_)
  · refine lv_iconst (v := 0) S.1 S.2.1 dX7_digest_31 (by decide) ?_
    refine lv_istore_n (lv' := [(3, .int 0), (1, .long x6.2), (0, .ref mO)]) S.1 S.2.1 dX7_digest_32 rfl hl (by decide) rfl (fun ls hl => ?_)
    have e7 : x6.1 = 7 := by have h := c9; rw [show (7 : Int32) = nI 7 from rfl, nI_leI (by decide) (by omega)] at h; omega
    refine w_loopS (σ := Nat × Int64) (nL := 4) 33 (fun x33 => gN - x33.1) (fun x33 => x33.1 ≤ gN ∧ x33.2 = fG3 (fun j => fS (6 + j)) (fun j => fS (18 + j)) (fun j => fS (30 + j)) x33.1 (fH (fun j => countM fR mt fS (nI j)) 7 1993)) (fun x33 => [(3, .int (nI x33.1)), (1, .long x33.2), (0, .ref mO)]) (fun _ => []) ?_ (0, x6.2) ls (⟨Nat.zero_le _, (by dsimp only; rw [hI6.2, e7]; exact fG3_z)⟩) (lv_sub hl [0, 1, 2] rfl)
    intro x33 ls hI33 hl ih33
    have hl : lv_has ls 4 [(3, .int (nI x33.1)), (1, .long x33.2), (0, .ref mO)] := hl
    have hJ33 := hI33.1
    refine lv_iload_n S.1 S.2.1 dX7_digest_33 rfl (lv_at hl 0 rfl) ?_
    refine lv_aload_n S.1 S.2.1 dX7_digest_34 rfl (lv_at hl 2 rfl) ?_
    refine w_get S C w (CC := RX7) (T := TX7) (N := 16) (ref := "GateSumsModel") im_X7_digest_X7 0 rfl rfl 0 (by decide) (List.mem_of_getElem? (i := 3) rfl) (fun _ h => h) rfl dX7_digest_35 ?_
    refine lv_iconst (v := 1) S.1 S.2.1 dX7_digest_38 (by decide) ?_
    refine w_iald S C w 1 rfl (by unfold vp_in; decide) dX7_digest_39 ?_
    refine w_topi (y := (nI gN)) (hg) ?_
    refine lv_icmp_ge (tgt := 100) S.1 S.2.1 dX7_digest_40 (by decide) (fun c40 => ?_) (fun c40 => ?_)
    · refine lv_iconst (v := 0) S.1 S.2.1 dX7_digest_100 (by decide) ?_
      refine lv_istore_n (lv' := [(3, .int 0), (1, .long x33.2), (0, .ref mO)]) S.1 S.2.1 dX7_digest_101 rfl hl (by decide) rfl (fun ls hl => ?_)
      have eg : x33.1 = gN := by have h := c40; rw [nI_leI (by omega) (by omega)] at h; omega
      refine w_loopS (σ := Nat × Int64) (nL := 4) 102 (fun x102 => oN - x102.1) (fun x102 => x102.1 ≤ oN ∧ x102.2 = fH (fun j => fS (42 + j)) x102.1 (fG3 (fun j => fS (6 + j)) (fun j => fS (18 + j)) (fun j => fS (30 + j)) gN (fH (fun j => countM fR mt fS (nI j)) 7 1993))) (fun x102 => [(3, .int (nI x102.1)), (1, .long x102.2), (0, .ref mO)]) (fun _ => []) ?_ (0, x33.2) ls (⟨Nat.zero_le _, (by dsimp only; rw [hI33.2, eg]; exact fH_z rfl)⟩) (lv_sub hl [0, 1, 2] rfl)
      intro x102 ls hI102 hl ih102
      have hl : lv_has ls 4 [(3, .int (nI x102.1)), (1, .long x102.2), (0, .ref mO)] := hl
      have hJ102 := hI102.1
      refine lv_iload_n S.1 S.2.1 dX7_digest_102 rfl (lv_at hl 0 rfl) ?_
      refine lv_aload_n S.1 S.2.1 dX7_digest_103 rfl (lv_at hl 2 rfl) ?_
      refine w_get S C w (CC := RX7) (T := TX7) (N := 16) (ref := "GateSumsModel") im_X7_digest_X7 0 rfl rfl 0 (by decide) (List.mem_of_getElem? (i := 3) rfl) (fun _ h => h) rfl dX7_digest_104 ?_
      refine lv_iconst (v := 2) S.1 S.2.1 dX7_digest_107 (by decide) ?_
      refine w_iald S C w 1 rfl (by unfold vp_in; decide) dX7_digest_108 ?_
      refine w_topi (y := (nI oN)) (ho) ?_
      refine lv_icmp_ge (tgt := 135) S.1 S.2.1 dX7_digest_109 (by decide) (fun c109 => ?_) (fun c109 => ?_)
      · refine lv_iconst (v := 3) S.1 S.2.1 dX7_digest_135 (by decide) ?_
        refine lv_istore_n (lv' := [(3, .int 3), (1, .long x102.2), (0, .ref mO)]) S.1 S.2.1 dX7_digest_136 rfl hl (by decide) rfl (fun ls hl => ?_)
        have eo : x102.1 = oN := by have h := c109; rw [nI_leI (by omega) (by omega)] at h; omega
        refine w_loopS (σ := Nat × Int64) (nL := 4) 137 (fun x137 => 6 - x137.1) (fun x137 => 3 ≤ x137.1 ∧ x137.1 ≤ 6 ∧ x137.2 = fH (fun j => if thereM fS = 0 then -1 else fS (3 + j)) (x137.1 - 3) (fH (fun j => fS (42 + j)) oN (fG3 (fun j => fS (6 + j)) (fun j => fS (18 + j)) (fun j => fS (30 + j)) gN (fH (fun j => countM fR mt fS (nI j)) 7 1993)))) (fun x137 => [(3, .int (nI x137.1)), (1, .long x137.2), (0, .ref mO)]) (fun _ => []) ?_ (3, x102.2) ls (⟨Nat.le_refl _, (by dsimp only; omega), (by dsimp only; rw [hI102.2, eo]; exact fH_z rfl)⟩) (lv_sub hl [0, 1, 2] rfl)
        intro x137 ls hI137 hl ih137
        have hl : lv_has ls 4 [(3, .int (nI x137.1)), (1, .long x137.2), (0, .ref mO)] := hl
        have hJ137 := hI137.1
        have hJ137b := hI137.2.1
        refine lv_iload_n S.1 S.2.1 dX7_digest_137 rfl (lv_at hl 0 rfl) ?_
        refine lv_iconst (v := 5) S.1 S.2.1 dX7_digest_138 (by decide) ?_
        refine lv_icmp_gt (tgt := 173) S.1 S.2.1 dX7_digest_139 (by decide) (fun c139 => ?_) (fun c139 => ?_)
        · refine lv_ldc2 (own := RX7) (v := 31) S.1 S.2.1 S.2.2.2.1 (S.2.2.2.2 _ (List.mem_of_getElem? (i := 2) rfl)) dX7_digest_173 ?_
          refine lv_lload_n S.1 S.2.1 dX7_digest_176 rfl (lv_at hl 1 rfl) ?_
          refine lv_lmul S.1 S.2.1 dX7_digest_177 ?_
          refine lv_aload_n S.1 S.2.1 dX7_digest_178 rfl (lv_at hl 2 rfl) ?_
          refine cs_i (va_runV (As := []) (rest := [.long (31 * x137.2)]) S (c_X7_isThere l G mO mS _ mD mR mT mW mQ mC mU mV mt ma mn my mm mf mg fS) (cwV 0 S.2.2.2.2 gX7_digest_X7_isThere rfl rfl rfl (by decide +kernel) ⟨Nat.le_of_ble_eq_true rfl, Nat.le_of_ble_eq_true rfl⟩) ⟨wPre_blind, va_recv C.1 w.1 (ci := 7) (q0 := 0) rfl rfl, wPre_at C w [0, 1] rfl rfl⟩ rfl rfl hl.1 rfl (lv_room (Nat.le_of_ble_eq_true rfl)) dX7_digest_179 ⟨Nat.le_of_ble_eq_true rfl, Nat.le_of_ble_eq_true rfl⟩) (fun r179 h179 => ?_)
          refine w_topi (y := (thereM fS)) h179 ?_
          refine w_joini 194 [.long (31 * x137.2)] (fun z194 => z194 = if thereM fS = 0 then -1 else (foldF (countW1 (wqM fS gN oN)) (allN (fS 0)) 0)) (fun z194 hz194 => ?_) (fun J194 => ?_)
          · refine lv_i2l (v := z194.toInt64) S.1 S.2.1 dX7_digest_194 rfl ?_
            refine lv_ladd S.1 S.2.1 dX7_digest_195 ?_
            exact W.lret (v := ((31 * x137.2) + z194.toInt64)) S.1 S.2.1 hr (fun t ht _ => ⟨((31 * x137.2) + z194.toInt64), rfl, (by have en : x137.1 = 6 := (by have h := c139; rw [show (5 : Int32) = nI 5 from rfl, nI_ltI (by decide) (by omega)] at h; omega); unfold dgM; rw [hz194, hI137.2.2, en, show 6 - 3 = 3 from rfl, hg, ho, nI_clamp (by omega), nI_clamp (by omega)]), ht⟩) (fun q h => absurd h List.not_mem_nil) dX7_digest_196
          · refine lv_if_eq (tgt := 193) S.1 S.2.1 dX7_digest_182 (by decide) (fun c182 => ?_) (fun c182 => ?_)
            · refine lv_iconst (v := (-1)) S.1 S.2.1 dX7_digest_193 (by decide) ?_
              exact J194 (-1) ((if_pos c182).symm)
            · refine lv_aload_n S.1 S.2.1 dX7_digest_185 rfl (lv_at hl 2 rfl) ?_
              refine lv_iconst (v := 0) S.1 S.2.1 dX7_digest_186 (by decide) ?_
              refine cs_i (va_runV (As := [.int 0]) (rest := [.long (31 * x137.2)]) S (s_X7_wrongOnes l G mO mS _ mD mR mT mW mQ mC mU mV mt ma mn my mm mf mg fS gN oN 0 (hg) (hgN) (ho) (hoN)) (cwV 1 S.2.2.2.2 gX7_digest_X7_wrongOnes rfl rfl rfl (by decide +kernel) ⟨Nat.le_of_ble_eq_true rfl, Nat.le_of_ble_eq_true rfl⟩) ⟨wPre_blind, va_recv C.1 w.1 (ci := 7) (q0 := 0) rfl rfl, wPre_at C w [0, 1] rfl rfl⟩ rfl rfl hl.1 rfl (lv_room (Nat.le_of_ble_eq_true rfl)) dX7_digest_187 ⟨Nat.le_of_ble_eq_true rfl, Nat.le_of_ble_eq_true rfl⟩) (fun r187 h187 => ?_)
              refine w_topi (y := (if 0 = 0 then foldF (countW1 (wqM fS gN oN)) (allN (fS 0)) 0 else firstW (wqM fS gN oN) (allN (fS 0)) 0)) h187 ?_
              refine w_topi (y := (foldF (countW1 (wqM fS gN oN)) (allN (fS 0)) 0)) (if_pos rfl) ?_
              refine lv_goto (tgt := 194) S.1 S.2.1 dX7_digest_190 (by decide) ?_
              exact J194 (foldF (countW1 (wqM fS gN oN)) (allN (fS 0)) 0) ((if_neg c182).symm)
        · refine lv_ldc2 (own := RX7) (v := 31) S.1 S.2.1 S.2.2.2.1 (S.2.2.2.2 _ (List.mem_of_getElem? (i := 2) rfl)) dX7_digest_142 ?_
          refine lv_lload_n S.1 S.2.1 dX7_digest_145 rfl (lv_at hl 1 rfl) ?_
          refine lv_lmul S.1 S.2.1 dX7_digest_146 ?_
          refine lv_aload_n S.1 S.2.1 dX7_digest_147 rfl (lv_at hl 2 rfl) ?_
          refine cs_i (va_runV (As := []) (rest := [.long (31 * x137.2)]) S (c_X7_isThere l G mO mS _ mD mR mT mW mQ mC mU mV mt ma mn my mm mf mg fS) (cwV 0 S.2.2.2.2 gX7_digest_X7_isThere rfl rfl rfl (by decide +kernel) ⟨Nat.le_of_ble_eq_true rfl, Nat.le_of_ble_eq_true rfl⟩) ⟨wPre_blind, va_recv C.1 w.1 (ci := 7) (q0 := 0) rfl rfl, wPre_at C w [0, 1] rfl rfl⟩ rfl rfl hl.1 rfl (lv_room (Nat.le_of_ble_eq_true rfl)) dX7_digest_148 ⟨Nat.le_of_ble_eq_true rfl, Nat.le_of_ble_eq_true rfl⟩) (fun r148 h148 => ?_)
          refine w_topi (y := (thereM fS)) h148 ?_
          refine w_joini 164 [.long (31 * x137.2)] (fun z164 => z164 = if thereM fS = 0 then -1 else fS x137.1) (fun z164 hz164 => ?_) (fun J164 => ?_)
          · refine lv_i2l (v := z164.toInt64) S.1 S.2.1 dX7_digest_164 rfl ?_
            refine lv_ladd S.1 S.2.1 dX7_digest_165 ?_
            refine lv_lstore_n (lv' := [(1, .long ((31 * x137.2) + z164.toInt64)), (3, .int (nI x137.1)), (0, .ref mO)]) S.1 S.2.1 dX7_digest_166 rfl hl (by decide) rfl (fun ls hl => ?_)
            refine lv_iinc (v := (nI (x137.1 + 1))) (lv' := [(3, .int (nI (x137.1 + 1))), (1, .long ((31 * x137.2) + z164.toInt64)), (0, .ref mO)]) S.1 S.2.1 dX7_digest_167 hl (k := 1) rfl (nI_1 _) (by decide) rfl (fun ls hl => ?_)
            refine lv_goto (tgt := 137) S.1 S.2.1 dX7_digest_170 (by decide) ?_
            have hlt : x137.1 < 6 := by have h := c139; rw [show (5 : Int32) = nI 5 from rfl, nI_ltI (by decide) (by omega)] at h; omega
            exact ih137 (x137.1 + 1, ((31 * x137.2) + z164.toInt64)) ls (⟨(by dsimp only; omega), hlt, (by dsimp only; rw [hz164, hI137.2.2, show x137.1 + 1 - 3 = (x137.1 - 3) + 1 by omega, fH_s (n := x137.1 - 3)]; (try dsimp only); rw [show 3 + (x137.1 - 3) = x137.1 by omega])⟩) (by dsimp only; omega) (lv_sub hl [0, 1, 2] rfl)
          · refine lv_if_eq (tgt := 163) S.1 S.2.1 dX7_digest_151 (by decide) (fun c151 => ?_) (fun c151 => ?_)
            · refine lv_iconst (v := (-1)) S.1 S.2.1 dX7_digest_163 (by decide) ?_
              exact J164 (-1) ((if_pos c151).symm)
            · refine lv_aload_n S.1 S.2.1 dX7_digest_154 rfl (lv_at hl 2 rfl) ?_
              refine w_get S C w (CC := RX7) (T := TX7) (N := 16) (ref := "GateSumsModel") im_X7_digest_X7 0 rfl rfl 0 (by decide) (List.mem_of_getElem? (i := 3) rfl) (fun _ h => h) rfl dX7_digest_155 ?_
              refine lv_iload_n S.1 S.2.1 dX7_digest_158 rfl (lv_at hl 0 rfl) ?_
              refine w_iald S C w 1 rfl (nIin (by have h := c139; rw [show (5 : Int32) = nI 5 from rfl, nI_ltI (by decide) (by omega)] at h; omega) (by decide)) dX7_digest_159 ?_
              refine w_topi (y := (fS x137.1)) (congrArg fS (nIc (by omega))) ?_
              refine lv_goto (tgt := 164) S.1 S.2.1 dX7_digest_160 (by decide) ?_
              exact J164 (fS x137.1) ((if_neg c151).symm)
      · refine lv_ldc2 (own := RX7) (v := 31) S.1 S.2.1 S.2.2.2.1 (S.2.2.2.2 _ (List.mem_of_getElem? (i := 2) rfl)) dX7_digest_112 ?_
        refine lv_lload_n S.1 S.2.1 dX7_digest_115 rfl (lv_at hl 1 rfl) ?_
        refine lv_lmul S.1 S.2.1 dX7_digest_116 ?_
        refine lv_aload_n S.1 S.2.1 dX7_digest_117 rfl (lv_at hl 2 rfl) ?_
        refine w_get S C w (CC := RX7) (T := TX7) (N := 16) (ref := "GateSumsModel") im_X7_digest_X7 0 rfl rfl 0 (by decide) (List.mem_of_getElem? (i := 3) rfl) (fun _ h => h) rfl dX7_digest_118 ?_
        refine lv_bipush (v := 42) S.1 S.2.1 dX7_digest_121 (by decide) ?_
        refine lv_iload_n S.1 S.2.1 dX7_digest_123 rfl (lv_at hl 0 rfl) ?_
        refine lv_iadd S.1 S.2.1 dX7_digest_124 ?_
        refine w_iald S C w 1 rfl (ixA 42 _ (by have h := c109; rw [nI_leI (by omega) (by omega)] at h; omega)) dX7_digest_125 ?_
        refine w_topi (y := (fS (42 + x102.1))) (congrArg fS (ixc 42 _ (by have h := c109; rw [nI_leI (by omega) (by omega)] at h; omega))) ?_
        refine lv_i2l (v := ((fS (42 + x102.1)).toInt64)) S.1 S.2.1 dX7_digest_126 rfl ?_
        refine lv_ladd S.1 S.2.1 dX7_digest_127 ?_
        refine lv_lstore_n (lv' := [(1, .long ((31 * x102.2) + ((fS (42 + x102.1)).toInt64))), (3, .int (nI x102.1)), (0, .ref mO)]) S.1 S.2.1 dX7_digest_128 rfl hl (by decide) rfl (fun ls hl => ?_)
        refine lv_iinc (v := (nI (x102.1 + 1))) (lv' := [(3, .int (nI (x102.1 + 1))), (1, .long ((31 * x102.2) + ((fS (42 + x102.1)).toInt64))), (0, .ref mO)]) S.1 S.2.1 dX7_digest_129 hl (k := 1) rfl (nI_1 _) (by decide) rfl (fun ls hl => ?_)
        refine lv_goto (tgt := 102) S.1 S.2.1 dX7_digest_132 (by decide) ?_
        have hlt : x102.1 < oN := (by have h := c109; rw [nI_leI (by omega) (by omega)] at h; omega)
        exact ih102 (x102.1 + 1, ((31 * x102.2) + ((fS (42 + x102.1)).toInt64))) ls (⟨hlt, (by dsimp only; rw [hI102.2]; rfl)⟩) (by dsimp only; omega) (lv_sub hl [0, 1, 2] rfl)
    · refine lv_ldc2 (own := RX7) (v := 31) S.1 S.2.1 S.2.2.2.1 (S.2.2.2.2 _ (List.mem_of_getElem? (i := 2) rfl)) dX7_digest_43 ?_
      refine lv_lload_n S.1 S.2.1 dX7_digest_46 rfl (lv_at hl 1 rfl) ?_
      refine lv_lmul S.1 S.2.1 dX7_digest_47 ?_
      refine lv_aload_n S.1 S.2.1 dX7_digest_48 rfl (lv_at hl 2 rfl) ?_
      refine w_get S C w (CC := RX7) (T := TX7) (N := 16) (ref := "GateSumsModel") im_X7_digest_X7 0 rfl rfl 0 (by decide) (List.mem_of_getElem? (i := 3) rfl) (fun _ h => h) rfl dX7_digest_49 ?_
      refine lv_bipush (v := 6) S.1 S.2.1 dX7_digest_52 (by decide) ?_
      refine lv_iload_n S.1 S.2.1 dX7_digest_54 rfl (lv_at hl 0 rfl) ?_
      refine lv_iadd S.1 S.2.1 dX7_digest_55 ?_
      refine w_iald S C w 1 rfl (ixA 6 _ (by have h := c40; rw [nI_leI (by omega) (by omega)] at h; omega)) dX7_digest_56 ?_
      refine w_topi (y := (fS (6 + x33.1))) (congrArg fS (ixc 6 _ (by have h := c40; rw [nI_leI (by omega) (by omega)] at h; omega))) ?_
      refine lv_i2l (v := ((fS (6 + x33.1)).toInt64)) S.1 S.2.1 dX7_digest_57 rfl ?_
      refine lv_ladd S.1 S.2.1 dX7_digest_58 ?_
      refine lv_lstore_n (lv' := [(1, .long ((31 * x33.2) + ((fS (6 + x33.1)).toInt64))), (3, .int (nI x33.1)), (0, .ref mO)]) S.1 S.2.1 dX7_digest_59 rfl hl (by decide) rfl (fun ls hl => ?_)
      refine lv_ldc2 (own := RX7) (v := 31) S.1 S.2.1 S.2.2.2.1 (S.2.2.2.2 _ (List.mem_of_getElem? (i := 2) rfl)) dX7_digest_60 ?_
      refine lv_lload_n S.1 S.2.1 dX7_digest_63 rfl (lv_at hl 0 rfl) ?_
      refine lv_lmul S.1 S.2.1 dX7_digest_64 ?_
      refine lv_aload_n S.1 S.2.1 dX7_digest_65 rfl (lv_at hl 2 rfl) ?_
      refine w_get S C w (CC := RX7) (T := TX7) (N := 16) (ref := "GateSumsModel") im_X7_digest_X7 0 rfl rfl 0 (by decide) (List.mem_of_getElem? (i := 3) rfl) (fun _ h => h) rfl dX7_digest_66 ?_
      refine lv_bipush (v := 18) S.1 S.2.1 dX7_digest_69 (by decide) ?_
      refine lv_iload_n S.1 S.2.1 dX7_digest_71 rfl (lv_at hl 1 rfl) ?_
      refine lv_iadd S.1 S.2.1 dX7_digest_72 ?_
      refine w_iald S C w 1 rfl (ixA 18 _ (by have h := c40; rw [nI_leI (by omega) (by omega)] at h; omega)) dX7_digest_73 ?_
      refine w_topi (y := (fS (18 + x33.1))) (congrArg fS (ixc 18 _ (by have h := c40; rw [nI_leI (by omega) (by omega)] at h; omega))) ?_
      refine lv_i2l (v := ((fS (18 + x33.1)).toInt64)) S.1 S.2.1 dX7_digest_74 rfl ?_
      refine lv_ladd S.1 S.2.1 dX7_digest_75 ?_
      refine lv_lstore_n (lv' := [(1, .long ((31 * ((31 * x33.2) + ((fS (6 + x33.1)).toInt64))) + ((fS (18 + x33.1)).toInt64))), (3, .int (nI x33.1)), (0, .ref mO)]) S.1 S.2.1 dX7_digest_76 rfl hl (by decide) rfl (fun ls hl => ?_)
      refine lv_ldc2 (own := RX7) (v := 31) S.1 S.2.1 S.2.2.2.1 (S.2.2.2.2 _ (List.mem_of_getElem? (i := 2) rfl)) dX7_digest_77 ?_
      refine lv_lload_n S.1 S.2.1 dX7_digest_80 rfl (lv_at hl 0 rfl) ?_
      refine lv_lmul S.1 S.2.1 dX7_digest_81 ?_
      refine lv_aload_n S.1 S.2.1 dX7_digest_82 rfl (lv_at hl 2 rfl) ?_
      refine w_get S C w (CC := RX7) (T := TX7) (N := 16) (ref := "GateSumsModel") im_X7_digest_X7 0 rfl rfl 0 (by decide) (List.mem_of_getElem? (i := 3) rfl) (fun _ h => h) rfl dX7_digest_83 ?_
      refine lv_bipush (v := 30) S.1 S.2.1 dX7_digest_86 (by decide) ?_
      refine lv_iload_n S.1 S.2.1 dX7_digest_88 rfl (lv_at hl 1 rfl) ?_
      refine lv_iadd S.1 S.2.1 dX7_digest_89 ?_
      refine w_iald S C w 1 rfl (ixA 30 _ (by have h := c40; rw [nI_leI (by omega) (by omega)] at h; omega)) dX7_digest_90 ?_
      refine w_topi (y := (fS (30 + x33.1))) (congrArg fS (ixc 30 _ (by have h := c40; rw [nI_leI (by omega) (by omega)] at h; omega))) ?_
      refine lv_i2l (v := ((fS (30 + x33.1)).toInt64)) S.1 S.2.1 dX7_digest_91 rfl ?_
      refine lv_ladd S.1 S.2.1 dX7_digest_92 ?_
      refine lv_lstore_n (lv' := [(1, .long ((31 * ((31 * ((31 * x33.2) + ((fS (6 + x33.1)).toInt64))) + ((fS (18 + x33.1)).toInt64))) + ((fS (30 + x33.1)).toInt64))), (3, .int (nI x33.1)), (0, .ref mO)]) S.1 S.2.1 dX7_digest_93 rfl hl (by decide) rfl (fun ls hl => ?_)
      refine lv_iinc (v := (nI (x33.1 + 1))) (lv' := [(3, .int (nI (x33.1 + 1))), (1, .long ((31 * ((31 * ((31 * x33.2) + ((fS (6 + x33.1)).toInt64))) + ((fS (18 + x33.1)).toInt64))) + ((fS (30 + x33.1)).toInt64))), (0, .ref mO)]) S.1 S.2.1 dX7_digest_94 hl (k := 1) rfl (nI_1 _) (by decide) rfl (fun ls hl => ?_)
      refine lv_goto (tgt := 33) S.1 S.2.1 dX7_digest_97 (by decide) ?_
      have hlt : x33.1 < gN := (by have h := c40; rw [nI_leI (by omega) (by omega)] at h; omega)
      exact ih33 (x33.1 + 1, ((31 * ((31 * ((31 * x33.2) + ((fS (6 + x33.1)).toInt64))) + ((fS (18 + x33.1)).toInt64))) + ((fS (30 + x33.1)).toInt64))) ls (⟨hlt, (by dsimp only; rw [hI33.2]; rfl)⟩) (by dsimp only; omega) (lv_sub hl [0, 1, 2] rfl)
  · refine lv_ldc2 (own := RX7) (v := 31) S.1 S.2.1 S.2.2.2.1 (S.2.2.2.2 _ (List.mem_of_getElem? (i := 2) rfl)) dX7_digest_12 ?_
    refine lv_lload_n S.1 S.2.1 dX7_digest_15 rfl (lv_at hl 1 rfl) ?_
    refine lv_lmul S.1 S.2.1 dX7_digest_16 ?_
    refine lv_aload_n S.1 S.2.1 dX7_digest_17 rfl (lv_at hl 2 rfl) ?_
    refine lv_iload_n S.1 S.2.1 dX7_digest_18 rfl (lv_at hl 0 rfl) ?_
    refine cs_i (va_runV (As := [.int (nI x6.1)]) (rest := [.long (31 * x6.2)]) S (c_X7_countOf l G mO mS mR _ mD mT mW mQ mC mU mV mt ma mn my mm mf mg fS fR (nI x6.1)) (cwV 1 S.2.2.2.2 gX7_digest_X7_countOf rfl rfl rfl (by decide +kernel) ⟨Nat.le_of_ble_eq_true rfl, Nat.le_of_ble_eq_true rfl⟩) ⟨wPre_blind, va_recv C.1 w.1 (ci := 7) (q0 := 0) rfl rfl, wPre_at C w [0, 1, 2] rfl rfl⟩ rfl rfl hl.1 rfl (lv_room (Nat.le_of_ble_eq_true rfl)) dX7_digest_19 ⟨Nat.le_of_ble_eq_true rfl, Nat.le_of_ble_eq_true rfl⟩) (fun r19 h19 => ?_)
    refine w_topi (y := (countM fR mt fS (nI x6.1))) h19 ?_
    refine lv_i2l (v := ((countM fR mt fS (nI x6.1)).toInt64)) S.1 S.2.1 dX7_digest_22 rfl ?_
    refine lv_ladd S.1 S.2.1 dX7_digest_23 ?_
    refine lv_lstore_n (lv' := [(1, .long ((31 * x6.2) + ((countM fR mt fS (nI x6.1)).toInt64))), (3, .int (nI x6.1)), (0, .ref mO)]) S.1 S.2.1 dX7_digest_24 rfl hl (by decide) rfl (fun ls hl => ?_)
    refine lv_iinc (v := (nI (x6.1 + 1))) (lv' := [(3, .int (nI (x6.1 + 1))), (1, .long ((31 * x6.2) + ((countM fR mt fS (nI x6.1)).toInt64))), (0, .ref mO)]) S.1 S.2.1 dX7_digest_25 hl (k := 1) rfl (nI_1 _) (by decide) rfl (fun ls hl => ?_)
    refine lv_goto (tgt := 6) S.1 S.2.1 dX7_digest_28 (by decide) ?_
    have hlt : x6.1 < 7 := by have h := c9; rw [show (7 : Int32) = nI 7 from rfl, nI_leI (by decide) (by omega)] at h; omega
    exact ih6 (x6.1 + 1, ((31 * x6.2) + ((countM fR mt fS (nI x6.1)).toInt64))) ls (⟨hlt, (by dsimp only; rw [hI6.2]; rfl)⟩) (by dsimp only; omega) (lv_sub hl [0, 1, 2] rfl)
