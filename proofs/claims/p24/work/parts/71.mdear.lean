set_option maxHeartbeats 4000000 in
set_option maxRecDepth 100000 in
theorem k_X7_size (l : Launch) (G : GT) (sz : Nat) (x0 : Int64) : Met l yX7_size wsX7_size ({ frames := 0, cells := 0, slots := 0, locals := 0 }) (va_Pc [.long x0] (wPre G [] sz)) (vp_Sl (fun r : Int64 => r = (szL x0))) 0 0 (fun _ => False) := by
  refine met_go (cc := cX7_size) (maxL := 2) (ret := (some .long)) (own := RX7) (by decide) rfl rfl (Nat.le_of_ble_eq_true rfl) ?_
  intro p e s m below meth c ls S hr hlocks hname hsz C w hl
  have hl : lv_has ls 2 [(0, .long x0)] := hl
  refine lv_lload_n S.1 S.2.1 dX7_size_0 rfl (lv_at hl 0 rfl) ?_
  refine lv_lconst (v := 0) S.1 S.2.1 dX7_size_1 (by decide) ?_
  refine W.lcmp S.1 S.2.1 dX7_size_2 ?_
  refine lv_if_ge (tgt := 11) S.1 S.2.1 dX7_size_3 (by decide) (fun c3 => ?_) (fun c3 => ?_)
  · refine lv_lload_n S.1 S.2.1 dX7_size_11 rfl (lv_at hl 0 rfl) ?_
    exact W.lret (v := x0) S.1 S.2.1 hr (fun t ht _ => ⟨x0, rfl, by unfold szL; first | exact (if_pos c3).symm | exact (if_neg c3).symm, ht⟩) (fun q h => absurd h List.not_mem_nil) dX7_size_12
  · refine lv_lload_n S.1 S.2.1 dX7_size_6 rfl (lv_at hl 0 rfl) ?_
    refine lv_lneg S.1 S.2.1 dX7_size_7 ?_
    refine lv_goto (tgt := 12) S.1 S.2.1 dX7_size_8 (by decide) ?_
    exact W.lret (v := (-x0)) S.1 S.2.1 hr (fun t ht _ => ⟨(-x0), rfl, by unfold szL; first | exact (if_pos c3).symm | exact (if_neg c3).symm, ht⟩) (fun q h => absurd h List.not_mem_nil) dX7_size_12
