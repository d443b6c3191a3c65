/-! ===== what the start of the law gives ===== -/
abbrev nrw : List Cond := flatC (Jvm.Cond.and given_1 narrow_1)
abbrev tmS (i : Nat) : Term := .string RX3 (strL.getD i (0, "", [])).1
abbrev vlS (i : Nat) : Term := .field (tmS i) "java/lang/String" "value" "[B"
def valT : Value → Term | .int v => .int v | .long v => .long v | _ => .int 0
abbrev tmT (q : String × String × String × FieldType × List Value) : Term := .static q.1 q.2.1 q.2.2.1
def stC : List Cond := stL.flatMap fun q => [Cond.arrayOf (tmT q) q.2.2.2.1, Cond.eq (.length (tmT q)) (.int (Int32.ofNat q.2.2.2.2.length))] ++ (List.range q.2.2.2.2.length).map fun j => Cond.eq (.elem (tmT q) (.int (Int32.ofNat j))) (valT (q.2.2.2.2.getD j .null))
set_option maxRecDepth 20000 in
theorem st_in : ∀ w ∈ (stC : List Cond), w ∈ nrw := mem_places [10, 11, 12, 13, 14, 15, 16, 17, 19, 20, 21, 22, 23, 24, 26, 27, 28, 29, 30, 31, 33, 34, 35, 36, 37, 38, 39, 40, 41, 42, 44, 45, 46, 47, 48, 49, 50, 51, 52, 53, 55, 56, 57, 58, 59, 60, 61, 62, 63, 64, 66, 67, 68, 69, 70, 71, 72, 73, 74, 75] (by decide +kernel)
set_option maxRecDepth 20000 in
theorem sx_in : ∀ w ∈ ((List.range 16).map fun i => Cond.exactly (tmS i) "java/lang/String" : List Cond), w ∈ nrw := mem_places [76, 82, 88, 97, 107, 117, 129, 143, 157, 173, 189, 206, 225, 244, 268, 292] (by decide +kernel)
set_option maxRecDepth 20000 in
theorem sc_in : ∀ w ∈ ((List.range 16).map fun i => Cond.eq (.field (tmS i) "java/lang/String" "coder" "B") (.int 0) : List Cond), w ∈ nrw := mem_places [77, 83, 89, 98, 108, 118, 130, 144, 158, 174, 190, 207, 226, 245, 269, 293] (by decide +kernel)
set_option maxRecDepth 20000 in
theorem sa_in : ∀ w ∈ ((List.range 16).map fun i => Cond.arrayOf (vlS i) .byte : List Cond), w ∈ nrw := mem_places [78, 84, 90, 99, 109, 119, 131, 145, 159, 175, 191, 208, 227, 246, 270, 294] (by decide +kernel)
set_option maxRecDepth 20000 in
theorem sl_in : ∀ w ∈ ((List.range 16).map fun i => Cond.eq (.length (vlS i)) (.int (Int32.ofNat ((strL.map fun q => q.2.2.length).getD i 0))) : List Cond), w ∈ nrw := mem_places [79, 85, 91, 100, 110, 120, 132, 146, 160, 176, 192, 209, 228, 247, 271, 295] (by decide +kernel)
set_option maxRecDepth 20000 in
theorem se_in : ∀ w ∈ ((List.range 16).flatMap fun i => (List.range ((strL.map fun q => q.2.2.length).getD i 0)).map fun j => Cond.eq (.elem (vlS i) (.int (Int32.ofNat j))) (.int (((strL.map fun q => q.2.2).getD i []).getD j 0)) : List Cond), w ∈ nrw := mem_places [80, 81, 86, 92, 93, 94, 101, 102, 103, 111, 112, 121, 122, 123, 133, 134, 135, 136, 147, 148, 149, 161, 162, 163, 164, 177, 178, 179, 193, 194, 195, 210, 211, 212, 213, 229, 230, 231, 248, 249, 250, 251, 252, 253, 254, 272, 273, 274, 275, 276, 277, 296, 297, 298, 299, 300, 301] (by decide +kernel)
set_option maxRecDepth 20000 in
theorem sn_in : ∀ w ∈ ((List.range 16).flatMap fun j => (List.range j).map fun i => Cond.not (Cond.eq (tmS i) (tmS j)) : List Cond), w ∈ nrw := mem_places [87, 95, 96, 104, 105, 106, 113, 114, 115, 116, 124, 125, 126, 127, 128, 137, 138, 139, 140, 141, 142, 150, 151, 152, 153, 154, 155, 156, 165, 166, 167, 168, 169, 170, 171, 172, 180, 181, 182, 183, 184, 185, 186, 187, 188, 196, 197, 198, 199, 200, 201, 202, 203, 204, 205, 214, 215, 216, 217, 218, 219, 220, 221, 222, 223, 224, 232, 233, 234, 235, 236, 237, 238, 239, 240, 241, 242, 243, 255, 256, 257, 258, 259, 260, 261, 262, 263, 264, 265, 266, 267, 278, 279, 280, 281, 282, 283, 284, 285, 286, 287, 288, 289, 290, 291, 302, 303, 304, 305, 306, 307, 308, 309, 310, 311, 312, 313, 314, 315, 316] (by decide +kernel)
set_option maxRecDepth 20000 in
theorem cs_in : ∀ w ∈ ([Cond.eq (.static "java/lang/String" "COMPACT_STRINGS" "Z") (.int 1)] : List Cond), w ∈ nrw := mem_places [4] (by decide +kernel)
set_option maxRecDepth 20000 in
theorem nb_in : ∀ w ∈ (nestL.map fun q => Cond.methodLinkNest q.1 q.2.1 q.2.2.1 q.2.2.2 : List Cond), w ∈ lw_tbl := mem_places [89, 95, 125, 186, 197, 203, 407, 449, 635, 646, 654, 665, 699] (by decide +kernel)
set_option maxRecDepth 20000 in
theorem sr_in : ∀ w ∈ (strL.map fun q => Cond.stringRef RX3 q.1 q.2.1 : List Cond), w ∈ lw_tbl := mem_places [306, 379, 391, 392, 393, 394, 395, 396, 397, 398, 415, 424, 432, 433, 434, 435] (by decide +kernel)
set_option maxRecDepth 20000 in
theorem si_in : ∀ w ∈ (stL.map fun q => Cond.initialized q.1 : List Cond), w ∈ lw_tbl := mem_places [68, 69, 69, 69, 69, 69, 69] (by decide +kernel)
set_option maxRecDepth 20000 in
theorem sy_in : ∀ w ∈ (stL.map fun q => Cond.laysStatic q.1 q.2.1 q.2.2.1 : List Cond), w ∈ lw_tbl := mem_places [476, 664, 667, 688, 690, 692, 694] (by decide +kernel)
set_option maxRecDepth 20000 in
theorem ac_in : ∀ w ∈ ([Cond.arrayClass .byte, .arrayClass .char, .arrayClass .int, .arrayClass .long] : List Cond), w ∈ lw_tbl := mem_places [108, 846, 183, 194] (by decide +kernel)
set_option maxRecDepth 20000 in
theorem in_in : ∀ w ∈ ([Cond.instantiable RX0 11, .instantiable RX1 1, .instantiable RX2 3, .instantiable RX3 4, .instantiable RX4 6, .instantiable RX5 2, .instantiable RX6 9, .instantiable RX7 16] : List Cond), w ∈ lw_tbl := mem_places [124, 185, 202, 88, 196, 94, 80, 792] (by decide +kernel)
set_option maxRecDepth 20000 in
theorem cp_in : ∀ w ∈ ([Cond.laysStatic "java/lang/String" "COMPACT_STRINGS" "Z", .initialized "java/lang/String", .laysStatic "jdk/internal/util/Preconditions" "SIOOBE_FORMATTER" "Ljava/util/function/BiFunction;", .initialized "jdk/internal/util/Preconditions"] : List Cond), w ∈ lw_tbl := mem_places [324, 72, 340, 74] (by decide +kernel)
set_option maxRecDepth 20000 in
theorem fm_in : ∀ w ∈ ([Cond.isRef (.static "jdk/internal/util/Preconditions" "SIOOBE_FORMATTER" "Ljava/util/function/BiFunction;")] : List Cond), w ∈ nrw := mem_places [5] (by decide +kernel)
theorem eq_valT {args : Array Value} {s : State} {tm : Term} {v : Value} (hv : (∃ z, v = .int z) ∨ ∃ z, v = .long z) (h : (Cond.eq tm (valT v)).before args s = true) : tm.eval args s none [] s = some v := by
  rcases hv with ⟨z, rfl⟩ | ⟨z, rfl⟩
  · exact va_eqt h
  · exact va_eqtl h
theorem stL_num : ∀ q ∈ stL, ∀ j, j < q.2.2.2.2.length → (∃ z, q.2.2.2.2.getD j .null = .int z) ∨ ∃ z, q.2.2.2.2.getD j .null = .long z := by
  intro q hq
  have h2 : ∀ v ∈ q.2.2.2.2, (∃ z, v = .int z) ∨ ∃ z, v = .long z := by
    simp only [stL, List.mem_cons, List.not_mem_nil, or_false] at hq
    rcases hq with rfl | rfl | rfl | rfl | rfl | rfl | rfl <;> intro v hv <;> simp only [List.mem_cons, List.not_mem_nil, or_false] at hv
    · rcases hv with rfl | rfl | rfl | rfl | rfl | rfl <;> exact Or.inr ⟨_, rfl⟩
    · rcases hv with rfl | rfl | rfl | rfl <;> exact Or.inl ⟨_, rfl⟩
    · rcases hv with rfl | rfl | rfl | rfl <;> exact Or.inl ⟨_, rfl⟩
    · rcases hv with rfl | rfl | rfl | rfl | rfl | rfl | rfl | rfl <;> exact Or.inl ⟨_, rfl⟩
    · rcases hv with rfl | rfl | rfl | rfl | rfl | rfl | rfl | rfl <;> exact Or.inl ⟨_, rfl⟩
    · rcases hv with rfl | rfl | rfl | rfl | rfl | rfl | rfl | rfl <;> exact Or.inl ⟨_, rfl⟩
    · rcases hv with rfl | rfl | rfl | rfl | rfl | rfl | rfl | rfl <;> exact Or.inl ⟨_, rfl⟩
  intro j hj
  apply h2
  rw [List.getD_eq_getElem?_getD, List.getElem?_eq_getElem hj]
  exact List.getElem_mem hj
theorem arr_at {s : State} {args : Array Value} {ty : FieldType} (hp : ∀ C, ty ≠ .object C) (h : (Cond.arrayClass ty).before args s = true) : ∃ cA : ClassId, ArrOfT s cA ty ∧ va_RA s cA ty := by
  obtain ⟨cA, kA, comp, h1, h2, h3⟩ := Cond.arrayClass_spec h
  refine ⟨cA, fun n z => ⟨fun k h => (by cases h), kA, h2, comp, h3⟩, ?_⟩
  cases ty with
  | object C => exact absurd rfl (hp C)
  | _ => exact h1
theorem start_tab {b : Nat} {s : State} (hts : ∀ w ∈ lw_tbl, w.before #[Value.ref b] s = true) (hgv : (Jvm.Cond.and given_1 narrow_1).before #[Value.ref b] s = true) : ∃ tS : Nat → Nat, ∀ (k : Nat) (q : String × String × String × FieldType × List Value), stL[k]? = some q → va_Z q.1 q.2.1 q.2.2.1 (.ref (tS k)) (fun a => s.heap.size ≤ a) s s.heap ∧ va_T q.2.2.2.1 (tS k) q.2.2.2.2.length (fun j => q.2.2.2.2.getD j .null) (fun a => s.heap.size ≤ a) s s.heap := by
  have hs := flat_of_before _ hgv
  have hA : ∀ a : Nat, a < s.heap.size → ¬ s.heap.size ≤ a := fun a h => Nat.not_le.mpr h
  have key : ∀ (k : Nat), ∃ t : Nat, ∀ q, stL[k]? = some q → va_Z q.1 q.2.1 q.2.2.1 (.ref t) (fun a => s.heap.size ≤ a) s s.heap ∧ va_T q.2.2.2.1 t q.2.2.2.2.length (fun j => q.2.2.2.2.getD j .null) (fun a => s.heap.size ≤ a) s s.heap := by
    intro k
    cases hk : stL[k]? with
    | none => exact ⟨0, fun q h => by cases h⟩
    | some q =>
      have hq : q ∈ stL := List.mem_of_getElem? hk
      have hm : ∀ w ∈ [Cond.arrayOf (tmT q) q.2.2.2.1, Cond.eq (.length (tmT q)) (.int (Int32.ofNat q.2.2.2.2.length))] ++ (List.range q.2.2.2.2.length).map (fun j => Cond.eq (.elem (tmT q) (.int (Int32.ofNat j))) (valT (q.2.2.2.2.getD j .null))), w.before #[Value.ref b] s = true := fun w hw => hs w (st_in w (List.mem_flatMap.mpr ⟨q, hq, hw⟩))
      have hlen : q.2.2.2.2.length < 2 ^ 31 := by
        have : ∀ q ∈ stL, q.2.2.2.2.length < 2 ^ 31 := by decide
        exact this q hq
      obtain ⟨t, h1, h2⟩ := va_Tof (A := fun a => s.heap.size ≤ a) (tm := tmT q) (ty := q.2.2.2.1) (N := q.2.2.2.2.length) (f := fun j => q.2.2.2.2.getD j .null) hlen (hm _ (by simp)) (va_eqt (hm _ (by simp))) (fun j hj => eq_valT (stL_num q hq j hj) (hm _ (List.mem_append_right _ (List.mem_map.mpr ⟨j, List.mem_range.mpr hj, rfl⟩)))) hA
      refine ⟨t, fun q2 h => ?_⟩
      cases h
      exact ⟨va_Zof (hts _ (sy_in _ (List.mem_map.mpr ⟨q, hq, rfl⟩))) (hts _ (si_in _ (List.mem_map.mpr ⟨q, hq, rfl⟩))) h1 hA, h2⟩
  exact ⟨fun k => (key k).choose, fun k q hq => (key k).choose_spec q hq⟩
theorem str_at : ∀ k, k < 16 → strL[k]? = some (strL.getD k (0, "", [])) := by
  intro k hk
  have h : k < strL.length := hk
  rw [List.getD_eq_getElem?_getD, List.getElem?_eq_getElem h]
  rfl
theorem start_str {b : Nat} {s : State} (hts : ∀ w ∈ lw_tbl, w.before #[Value.ref b] s = true) (hgv : (Jvm.Cond.and given_1 narrow_1).before #[Value.ref b] s = true) : ∃ aK aV : Nat → Nat, vk_S 16 (strL.map fun q => q.2.2.length) (strL.map fun q => q.2.2) aK aV (fun a => s.heap.size ≤ a) s s.heap ∧ ∀ (k : Nat) (q : Nat × String × List Int32), strL[k]? = some q → vk_R RX3 q.1 q.2.1 (aK k) s := by
  have hs := flat_of_before _ hgv
  have hA : ∀ a : Nat, a < s.heap.size → ¬ s.heap.size ≤ a := fun a h => Nat.not_le.mpr h
  obtain ⟨aK, aV, h1, h2⟩ := vk_Sof (args := #[Value.ref b]) (s := s) (N := 16) (tm := tmS) (len := strL.map fun q => q.2.2.length) (byt := strL.map fun q => q.2.2) (A := fun a => s.heap.size ≤ a)
    (by decide)
    (fun i hi => hs _ (sx_in _ (List.mem_map.mpr ⟨i, List.mem_range.mpr hi, rfl⟩)))
    (fun i hi => hs _ (sc_in _ (List.mem_map.mpr ⟨i, List.mem_range.mpr hi, rfl⟩)))
    (fun i hi => hs _ (sa_in _ (List.mem_map.mpr ⟨i, List.mem_range.mpr hi, rfl⟩)))
    (fun i hi => hs _ (sl_in _ (List.mem_map.mpr ⟨i, List.mem_range.mpr hi, rfl⟩)))
    (fun i hi j hj => hs _ (se_in _ (List.mem_flatMap.mpr ⟨i, List.mem_range.mpr hi, List.mem_map.mpr ⟨j, List.mem_range.mpr hj, rfl⟩⟩)))
    (fun i j hi hj hne => by
      rcases Nat.lt_or_ge i j with q | q
      · exact Or.inl (hs _ (sn_in _ (List.mem_flatMap.mpr ⟨j, List.mem_range.mpr hj, List.mem_map.mpr ⟨i, List.mem_range.mpr q, rfl⟩⟩)))
      · exact Or.inr (hs _ (sn_in _ (List.mem_flatMap.mpr ⟨i, List.mem_range.mpr hi, List.mem_map.mpr ⟨j, List.mem_range.mpr (by omega), rfl⟩⟩))))
    hA
  refine ⟨aK, aV, h1, fun k q hq => ?_⟩
  have hk : k < 16 := (List.getElem?_eq_some_iff.mp hq).1
  have e : q = strL.getD k (0, "", []) := Option.some.inj (hq.symm.trans (str_at k hk))
  subst e
  exact vk_R.of (A := #[Value.ref b]) (hts _ (sr_in _ (List.mem_map.mpr ⟨_, List.mem_of_getElem? hq, rfl⟩))) (h2 k hk)
theorem start_G {b : Nat} {s : State} (hts : ∀ w ∈ lw_tbl, w.before #[Value.ref b] s = true) (hgv : (Jvm.Cond.and given_1 narrow_1).before #[Value.ref b] s = true) : ∃ G : GT, Cx G (fun q => s.heap.size ≤ q) s := by
  have hs := flat_of_before _ hgv
  have hA : ∀ a : Nat, a < s.heap.size → ¬ s.heap.size ≤ a := fun a h => Nat.not_le.mpr h
  obtain ⟨c0, i0, k0⟩ := u_known (C := RX0) (T := TX0) (N := 11) (n := 11) hts inX0 (hts _ (in_in _ (List.mem_of_getElem? (i := 0) rfl)))
  obtain ⟨c1, i1, k1⟩ := u_known (C := RX1) (T := TX1) (N := 1) (n := 1) hts inX1 (hts _ (in_in _ (List.mem_of_getElem? (i := 1) rfl)))
  obtain ⟨c2, i2, k2⟩ := u_known (C := RX2) (T := TX2) (N := 3) (n := 3) hts inX2 (hts _ (in_in _ (List.mem_of_getElem? (i := 2) rfl)))
  obtain ⟨c3, i3, k3⟩ := u_known (C := RX3) (T := TX3) (N := 4) (n := 4) hts inX3 (hts _ (in_in _ (List.mem_of_getElem? (i := 3) rfl)))
  obtain ⟨c4, i4, k4⟩ := u_known (C := RX4) (T := TX4) (N := 6) (n := 6) hts inX4 (hts _ (in_in _ (List.mem_of_getElem? (i := 4) rfl)))
  obtain ⟨c5, i5, k5⟩ := u_known (C := RX5) (T := TX5) (N := 2) (n := 2) hts inX5 (hts _ (in_in _ (List.mem_of_getElem? (i := 5) rfl)))
  obtain ⟨c6, i6, k6⟩ := u_known (C := RX6) (T := TX6) (N := 9) (n := 9) hts inX6 (hts _ (in_in _ (List.mem_of_getElem? (i := 6) rfl)))
  obtain ⟨c7, i7, k7⟩ := u_known (C := RX7) (T := TX7) (N := 16) (n := 16) hts inX7 (hts _ (in_in _ (List.mem_of_getElem? (i := 7) rfl)))
  obtain ⟨a0, e0, g0⟩ := arr_at (ty := .byte) (fun _ h => by cases h) (hts _ (ac_in _ (List.mem_of_getElem? (i := 0) rfl)))
  obtain ⟨a1, e1, g1⟩ := arr_at (ty := .char) (fun _ h => by cases h) (hts _ (ac_in _ (List.mem_of_getElem? (i := 1) rfl)))
  obtain ⟨a2, e2, g2⟩ := arr_at (ty := .int) (fun _ h => by cases h) (hts _ (ac_in _ (List.mem_of_getElem? (i := 2) rfl)))
  obtain ⟨a3, e3, g3⟩ := arr_at (ty := .long) (fun _ h => by cases h) (hts _ (ac_in _ (List.mem_of_getElem? (i := 3) rfl)))
  obtain ⟨tS, hS⟩ := start_tab hts hgv
  obtain ⟨aK, aV, hK1, hK2⟩ := start_str hts hgv
  refine ⟨((fun k => match k with | 0 => c0 | 1 => c1 | 2 => c2 | 3 => c3 | 4 => c4 | 5 => c5 | 6 => c6 | _ => c7, fun k => match k with | 0 => i0 | 1 => i1 | 2 => i2 | 3 => i3 | 4 => i4 | 5 => i5 | 6 => i6 | _ => i7), (fun k => match k with | 0 => a0 | 1 => a1 | 2 => a2 | _ => a3), tS, aK, aV), ⟨?_, ?_⟩, ?_, ⟨hS, hK1, hK2, ?_, ?_⟩, fun _ h => h⟩
  · intro k q hq
    match k, hq with
    | 0, hq => cases hq; exact k0
    | 1, hq => cases hq; exact k1
    | 2, hq => cases hq; exact k2
    | 3, hq => cases hq; exact k3
    | 4, hq => cases hq; exact k4
    | 5, hq => cases hq; exact k5
    | 6, hq => cases hq; exact k6
    | 7, hq => cases hq; exact k7
    | k + 8, hq => simp [vwCl] at hq
  · intro k q hq
    match k, hq with
    | 0, hq => cases hq; exact ⟨e0, g0⟩
    | 1, hq => cases hq; exact ⟨e1, g1⟩
    | 2, hq => cases hq; exact ⟨e2, g2⟩
    | 3, hq => cases hq; exact ⟨e3, g3⟩
    | k + 4, hq => simp [tyG] at hq
  · intro k q hq
    exact va_Nw.of rfl (hts _ (nb_in _ (List.mem_map.mpr ⟨q, List.mem_of_getElem? hq, rfl⟩)))
  · exact va_Zof (hts _ (cp_in _ (List.mem_of_getElem? (i := 0) rfl))) (hts _ (cp_in _ (List.mem_of_getElem? (i := 1) rfl))) (va_eqi (hs _ (cs_in _ (List.mem_of_getElem? (i := 0) rfl)))) hA
  · exact va_Zqof (hts _ (cp_in _ (List.mem_of_getElem? (i := 2) rfl))) (hts _ (cp_in _ (List.mem_of_getElem? (i := 3) rfl))) (hs _ (fm_in _ (List.mem_of_getElem? (i := 0) rfl))) hA
