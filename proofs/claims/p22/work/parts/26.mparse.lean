theorem im_X7_skips_X7 : ∀ w ∈ u_ws RX7 TX7 16, w ∈ wsX7_skips := by decide +kernel
set_option maxHeartbeats 4000000 in
set_option maxRecDepth 100000 in
theorem c_X7_isDigit (l : Launch) (G : GT) (sz : Nat) (c0 : Int32) : Met l yX7_isDigit wsX7_isDigit ({ frames := 1, cells := 0, slots := 0, locals := 22 }) (va_Pc [.int c0] (wPre G [] sz)) (vp_Si (fun r : Int32 => r = (inF c0 48 57))) 0 0 (fun _ => False) := by
  refine met_go (cc := cX7_isDigit) (maxL := 1) (ret := (some .boolean)) (own := RX7) (by decide) rfl rfl (Nat.le_of_ble_eq_true rfl) ?_
  intro p e s m below meth c ls S hr hlocks hname hsz C w hl
  have hl : lv_has ls 1 [(0, .int c0)] := hl
  refine lv_iload_n S.1 S.2.1 dX7_isDigit_0 rfl (lv_at hl 0 rfl) ?_
  refine lv_bipush (v := 48) S.1 S.2.1 dX7_isDigit_1 (by decide) ?_
  refine lv_bipush (v := 57) S.1 S.2.1 dX7_isDigit_3 (by decide) ?_
  refine cs_i (va_runS (As := [.int c0, .int 48, .int 57]) (rest := []) S (c_X7_in l G _ c0 48 57) (va_cwS 3 S.2.2.2.2 gX7_isDigit_X7_in rfl rfl rfl (by decide +kernel) ⟨Nat.le_of_ble_eq_true rfl, Nat.le_of_ble_eq_true rfl⟩) ⟨wPre_blind, wPre_at C w [] rfl rfl⟩ rfl rfl hl.1 rfl (lv_room (Nat.le_of_ble_eq_true rfl)) dX7_isDigit_5 ⟨Nat.le_of_ble_eq_true rfl, Nat.le_of_ble_eq_true rfl⟩) (fun r5 h5 => ?_)
  refine w_topi (y := (inF c0 48 57)) h5 ?_
  exact W.zret (v := (inF c0 48 57)) S.1 S.2.1 hr (inF_nar _ _ _) (fun t ht _ => ⟨(inF c0 48 57), rfl, rfl, ht⟩) (fun q h => absurd h List.not_mem_nil) dX7_isDigit_8
theorem im_X7_isNumber_X7 : ∀ w ∈ u_ws RX7 TX7 16, w ∈ wsX7_isNumber := by decide +kernel
theorem im_X7_isWord_X7 : ∀ w ∈ u_ws RX7 TX7 16, w ∈ wsX7_isWord := by decide +kernel
theorem im_X7_word_X7 : ∀ w ∈ u_ws RX7 TX7 16, w ∈ wsX7_word := by decide +kernel
theorem im_X7_ends_X7 : ∀ w ∈ u_ws RX7 TX7 16, w ∈ wsX7_ends := by decide +kernel
theorem im_X7_readsGate_X7 : ∀ w ∈ u_ws RX7 TX7 16, w ∈ wsX7_readsGate := by decide +kernel
theorem im_X7_readsOuts_X7 : ∀ w ∈ u_ws RX7 TX7 16, w ∈ wsX7_readsOuts := by decide +kernel
theorem im_X7_readsTask_X7 : ∀ w ∈ u_ws RX7 TX7 16, w ∈ wsX7_readsTask := by decide +kernel
theorem im_X7_readsAll_X7 : ∀ w ∈ u_ws RX7 TX7 16, w ∈ wsX7_readsAll := by decide +kernel
theorem im_X7_reads_X7 : ∀ w ∈ u_ws RX7 TX7 16, w ∈ wsX7_reads := by decide +kernel
