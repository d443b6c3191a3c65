/-! ===== the reference's ways through a text ===== -/
theorem semi_sk {t : Nat} {f : Nat → Int32} {a : Nat} (h : bA t f (sk t f a) = 59) : tkS t f (sk t f a) = some (sk t f a + 1) := by
  have e : tkS t f (sk t f a) = some (sk t f (sk t f a) + 1) := tkS_yes (by rw [sk_idem]; exact h)
  rw [sk_idem] at e
  exact e
theorem tkN_sk {t : Nat} {f : Nat → Int32} {lo hi : Int32} {a : Nat} : tkN t f lo hi (sk t f a) = tkN t f lo hi a := by
  unfold tkN
  rw [sk_idem]
theorem outs_end {t : Nat} {f : Nat → Int32} {last : Int32} {n : Nat} {d : Nat → Int32} {a u : Nat} {z : Int32} {X : Option ((Nat → Int32) × Nat)} (hz : (z = 1 ∧ tkS t f (sk t f a) = some u) ∨ (z = 0 ∧ tkS t f (sk t f a) = none)) (h : bA t f (sk t f a) = 59) (hn : n < 7) (hX : X = outsQ t f last n d a) : (z = 1 ∧ X = some (d, u)) ∨ (z = 0 ∧ X = none) := by
  rcases hz with ⟨a1, b1⟩ | ⟨_, b1⟩
  · rw [semi_sk h] at b1
    refine Or.inl ⟨a1, ?_⟩
    rw [hX, outs_semi hn h, Option.some.inj b1]
  · rw [semi_sk h] at b1
    exact absurd b1 (by simp)
theorem oo_pos {o : Nat} (ho : o ≤ 7) {P : Prop} (hz : nI o ≤ 0 ∨ P) (h : ¬ o = 0) : P := by
  rcases hz with q | q
  · rw [show (0 : Int32) = nI 0 from rfl, nI_leI (by omega) (by decide)] at q
    omega
  · exact q
theorem outs_f1 {t : Nat} {f : Nat → Int32} {last : Int32} {d : Nat → Int32} {a o : Nat} (ho : o = 7) (hz : nI o ≤ 0 ∨ ¬ bA t f (sk t f a) = 59) : outsQ t f last (7 - o) d a = none := by
  have h := oo_pos (by omega) hz (by omega)
  rw [show 7 - o = 0 by omega]
  exact outs_full h
theorem outs_f2 {t : Nat} {f : Nat → Int32} {last : Int32} {d : Nat → Int32} {a o : Nat} (ho : o < 7) (hz : nI o ≤ 0 ∨ ¬ bA t f (sk t f a) = 59) (hN : tkN t f 0 last (sk t f a) = none) : outsQ t f last (7 - o) d a = none := by
  rw [tkN_sk] at hN
  rw [show 7 - o = (6 - o) + 1 by omega]
  refine outs_none hN ?_
  by_cases q : o = 0
  · exact Or.inl (by omega)
  · exact Or.inr (oo_pos (by omega) hz q)
theorem outs_go {t : Nat} {f : Nat → Int32} {last : Int32} {d : Nat → Int32} {a o : Nat} {v : Int32} {a2 : Nat} (ho : o < 7) (hN : tkN t f 0 last (sk t f a) = some (v, a2)) : outsQ t f last (7 - o) d a = outsQ t f last (7 - (o + 1)) (addO d v) a2 := by
  rw [tkN_sk] at hN
  rw [show 7 - o = (7 - (o + 1)) + 1 by omega]
  exact outs_num hN
abbrev bR (t : Nat) (f : Nat → Int32) (X : Option ((Nat → Int32) × Nat)) : Option (Nat → Int32) := X.bind fun q => restP t f q.1 q.2
theorem all_w {t : Nat} {f z : Nat → Int32} (h : ∀ j, 12 ≤ j → j ≤ 12 → ¬ MW t f j (sk t f 0)) : allP t f z = none := by
  unfold allP
  rw [tkW_no (h 12 (by omega) (by omega))]
  rfl
theorem all_n {t : Nat} {f z : Nat → Int32} {j : Nat} (h12 : j = 12) (hm : MW t f j (sk t f 0)) (h : tkN t f 1 6 (sk t f 0 + wln j) = none) : allP t f z = none := by
  subst h12
  unfold allP
  rcases tkW_of hm with ⟨_, q⟩ | ⟨_, q⟩
  · rw [q]
    show (tkN t f 1 6 (sk t f 0 + wln 12)).bind _ = none
    rw [h]; rfl
  · rw [q]; rfl
theorem all_s {t : Nat} {f z : Nat → Int32} {j : Nat} (h12 : j = 12) (hm : MW t f j (sk t f 0)) {n : Int32} {a2 : Nat} (h : tkN t f 1 6 (sk t f 0 + wln j) = some (n, a2)) : allP t f z = (tkS t f a2).bind fun a3 => bR t f (gatesP t f 12 (upd z 0 n) a3) := by
  subst h12
  unfold allP
  rcases tkW_of hm with ⟨_, q⟩ | ⟨q, _⟩
  · rw [q]
    show (tkN t f 1 6 (sk t f 0 + wln 12)).bind _ = _
    rw [h]; rfl
  · rw [q.tkN0] at h; exact absurd h (by simp)
theorem rest_w {t : Nat} {f d : Nat → Int32} {a : Nat} (h : ¬ MW t f 14 (sk t f a)) : restP t f d a = none := by
  unfold restP
  rw [tkW_no h]
  rfl
/-- no 'g', no 'out' -/
theorem loop_w {t : Nat} {f d : Nat → Int32} {a g : Nat} (hg : g ≤ 12) (h13 : g < 12 → ¬ MW t f 13 (sk t f a)) (h : ¬ MW t f 14 (sk t f a)) : bR t f (gatesP t f (12 - g) d a) = none := by
  have e : gatesP t f (12 - g) d a = some (d, a) := by
    rcases Nat.lt_or_ge g 12 with q | q
    · rw [show 12 - g = (11 - g) + 1 by omega]
      show (match tkW t f 13 a with | none => some (d, a) | some a1 => _) = _
      rw [tkW_no (h13 q)]
    · rw [show 12 - g = 0 by omega]; rfl
  rw [e]
  exact rest_w h
theorem loop_g {t : Nat} {f d : Nat → Int32} {a g j : Nat} (hg : g < 12) (hj : j = 13) (hm : MW t f j (sk t f a)) {z : Int32} {p : (Nat → Int32) × Nat} (hz : (z = 1 ∧ gateP t f d (sk t f a + wln j) = some p) ∨ (z = 0 ∧ gateP t f d (sk t f a + wln j) = none)) : (z = 1 ∧ gatesP t f (12 - g) d a = gatesP t f (12 - (g + 1)) p.1 p.2) ∨ (z = 0 ∧ bR t f (gatesP t f (12 - g) d a) = none) := by
  subst hj
  have e : gatesP t f (12 - g) d a = (match tkW t f 13 a with | none => some (d, a) | some a1 => (gateP t f d a1).bind fun q => gatesP t f (12 - (g + 1)) q.1 q.2) := by
    rw [show 12 - g = (12 - (g + 1)) + 1 by omega]
    rfl
  rcases hz with ⟨z1, h⟩ | ⟨z0, h⟩
  · refine Or.inl ⟨z1, ?_⟩
    rcases tkW_of hm with ⟨_, q⟩ | ⟨q, _⟩
    · rw [e, q]
      show (gateP t f d (sk t f a + wln 13)).bind _ = _
      rw [h]; rfl
    · have : gateP t f d (sk t f a + wln 13) = none := by
        unfold gateP
        rw [q.gk0 (by omega)]
        rfl
      rw [this] at h
      exact absurd h (by simp)
  · refine Or.inr ⟨z0, ?_⟩
    rcases tkW_of hm with ⟨_, q⟩ | ⟨_, q⟩
    · rw [e, q]
      show ((gateP t f d (sk t f a + wln 13)).bind _).bind _ = none
      rw [h]; rfl
    · rw [e, q]
      show restP t f d a = none
      exact rest_w (fun q => absurd (mw_uniq (by omega) (by omega) hm q) (by omega))
theorem loop_o {t : Nat} {f d : Nat → Int32} {a g j : Nat} (hg : g ≤ 12) (hj : j = 14) (hm : MW t f j (sk t f a)) : bR t f (gatesP t f (12 - g) d a) = restP t f d a := by
  subst hj
  have e : gatesP t f (12 - g) d a = some (d, a) := by
    rcases Nat.lt_or_ge g 12 with q | q
    · rw [show 12 - g = (11 - g) + 1 by omega]
      show (match tkW t f 13 a with | none => some (d, a) | some a1 => _) = _
      rw [tkW_no (fun q => absurd (mw_uniq (by omega) (by omega) hm q) (by omega))]
    · rw [show 12 - g = 0 by omega]; rfl
  rw [e]
  rfl
theorem rest_o {t : Nat} {f d : Nat → Int32} {a j : Nat} (hj : j = 14) (hm : MW t f j (sk t f a)) (h : outsQ t f (d 0 + d 1 - 1) 7 d (sk t f a + wln j) = none) : restP t f d a = none := by
  subst hj
  unfold restP
  rcases tkW_of hm with ⟨_, q⟩ | ⟨_, q⟩
  · rw [q]
    show (outsQ t f (d 0 + d 1 - 1) 7 d (sk t f a + wln 14)).bind _ = none
    rw [h]; rfl
  · rw [q]; rfl
theorem restA {t : Nat} {f d : Nat → Int32} {a j : Nat} (hj : j = 14) (hm : MW t f j (sk t f a)) {d2 : Nat → Int32} {a6 : Nat} (h : outsQ t f (d 0 + d 1 - 1) 7 d (sk t f a + wln j) = some (d2, a6)) : restP t f d a = (tkW t f 15 a6).bind fun a7 => (taskP t f d2 a7).bind fun w => if sk t f w.2 = t then some w.1 else none := by
  subst hj
  unfold restP
  rcases tkW_of hm with ⟨_, q⟩ | ⟨q, _⟩
  · rw [q]
    show (outsQ t f (d 0 + d 1 - 1) 7 d (sk t f a + wln 14)).bind _ = _
    rw [h]; rfl
  · rw [outs_none (n := 6) (q.tkN0 _ _) (Or.inl rfl)] at h
    exact absurd h (by simp)
theorem rest_t {t : Nat} {f d2 : Nat → Int32} {a6 j : Nat} (hj : j = 15) (hm : MW t f j (sk t f a6)) (h : taskP t f d2 (sk t f a6 + wln j) = none) : ((tkW t f 15 a6).bind fun a7 => (taskP t f d2 a7).bind fun w => if sk t f w.2 = t then some w.1 else none) = none := by
  subst hj
  rcases tkW_of hm with ⟨_, q⟩ | ⟨_, q⟩
  · rw [q]
    show (taskP t f d2 (sk t f a6 + wln 15)).bind _ = none
    rw [h]; rfl
  · rw [q]; rfl
theorem restB {t : Nat} {f d2 : Nat → Int32} {a6 j : Nat} (hj : j = 15) (hm : MW t f j (sk t f a6)) {d3 : Nat → Int32} {a8 : Nat} (h : taskP t f d2 (sk t f a6 + wln j) = some (d3, a8)) : ((tkW t f 15 a6).bind fun a7 => (taskP t f d2 a7).bind fun w => if sk t f w.2 = t then some w.1 else none) = if sk t f a8 = t then some d3 else none := by
  subst hj
  rcases tkW_of hm with ⟨_, q⟩ | ⟨q, _⟩
  · rw [q]
    show (taskP t f d2 (sk t f a6 + wln 15)).bind _ = _
    rw [h]; rfl
  · have : taskP t f d2 (sk t f a6 + wln 15) = none := by
      unfold taskP
      rw [q.gk0 (by omega)]
      rfl
    rw [this] at h
    exact absurd h (by simp)
theorem ge12 {j : Nat} (hj : j ≤ 12) (h : (12 : Int32) ≤ nI j) : j = 12 := by
  rw [show (12 : Int32) = nI 12 from rfl, nI_leI (by decide) (by omega)] at h
  omega
theorem word_no {t : Nat} {f d : Nat → Int32} {a g a1 : Nat} {z r : Int32} (hz : (z = 13 ∧ g < 12) ∨ (z = 14 ∧ g = 12)) (w : WR t f z 14 a r a1) (c : r < 0) (hg : g ≤ 12) : bR t f (gatesP t f (12 - g) d a) = none := by
  rcases hz with ⟨e, q⟩ | ⟨e, q⟩
  · subst e
    have h := wr_no (l := 13) (h := 14) (by decide) (by decide) w c
    exact loop_w hg (fun _ => h 13 (by decide) (by decide)) (h 14 (by decide) (by decide))
  · subst e
    have h := wr_no (l := 14) (h := 14) (by decide) (by decide) w c
    exact loop_w hg (fun _ => absurd q (by omega)) (h 14 (by decide) (by decide))
theorem word_g {t : Nat} {f : Nat → Int32} {a g a1 : Nat} {z r : Int32} (hz : (z = 13 ∧ g < 12) ∨ (z = 14 ∧ g = 12)) (w : WR t f z 14 a r a1) (c : ¬ r < 0) (c0 : r = 0) (hg : g < 12) : ∃ j, j = 13 ∧ MW t f j (sk t f a) ∧ a1 = sk t f a + wln j := by
  rcases hz with ⟨e, _⟩ | ⟨_, q⟩
  · subst e
    obtain ⟨j, h1, h2, h3, h4, h5⟩ := wr_yes (l := 13) (h := 14) (by decide) (by decide) w c
    have e := nI_inj (a := j - 13) (b := 0) (by omega) (by decide) (h4.symm.trans c0)
    exact ⟨j, by omega, h3, h5⟩
  · exact absurd q (by omega)
theorem word_o {t : Nat} {f : Nat → Int32} {a g a1 : Nat} {z r : Int32} (hz : (z = 13 ∧ g < 12) ∨ (z = 14 ∧ g = 12)) (w : WR t f z 14 a r a1) (c : ¬ r < 0) (c0 : (12 : Int32) ≤ nI g ∨ ¬ r = 0) (hg : g ≤ 12) : ∃ j, j = 14 ∧ MW t f j (sk t f a) ∧ a1 = sk t f a + wln j := by
  rcases hz with ⟨e, q⟩ | ⟨e, q⟩
  · subst e
    obtain ⟨j, h1, h2, h3, h4, h5⟩ := wr_yes (l := 13) (h := 14) (by decide) (by decide) w c
    have hr : ¬ r = 0 := by
      rcases c0 with k | k
      · exact absurd (ge12 hg k) (by omega)
      · exact k
    have : ¬ j = 13 := fun e => hr (by rw [h4, e]; rfl)
    exact ⟨j, by omega, h3, h5⟩
  · subst e
    obtain ⟨j, h1, h2, h3, h4, h5⟩ := wr_yes (l := 14) (h := 14) (by decide) (by decide) w c
    exact ⟨j, by omega, h3, h5⟩
theorem gateP_inv {t : Nat} {f d : Nat → Int32} {a : Nat} {q : (Nat → Int32) × Nat} (h : gateP t f d a = some q) : ∃ k x y, q.1 = addG d k x y := by
  unfold gateP at h
  obtain ⟨k, _, h⟩ := Option.bind_eq_some_iff.mp h
  obtain ⟨x, _, h⟩ := Option.bind_eq_some_iff.mp h
  by_cases k0 : k = 0
  · rw [if_pos k0] at h
    obtain ⟨s, _, h⟩ := Option.bind_eq_some_iff.mp h
    exact ⟨_, _, _, by rw [← Option.some.inj h]⟩
  · rw [if_neg k0] at h
    obtain ⟨y, _, h⟩ := Option.bind_eq_some_iff.mp h
    obtain ⟨s, _, h⟩ := Option.bind_eq_some_iff.mp h
    exact ⟨_, _, _, by rw [← Option.some.inj h]⟩
theorem addG_1 {d : Nat → Int32} {k x y : Int32} : addG d k x y 1 = nI ((d 1).toNatClampNeg + 1) := pk_us
theorem addG_lo {d : Nat → Int32} {k x y : Int32} {i : Nat} (hi : i < 6) (h1 : ¬ i = 1) : addG d k x y i = d i := by
  unfold addG
  rw [pk_un (by omega), pk_un (by omega), pk_un (by omega), pk_un (by omega)]
theorem gate_sh {t : Nat} {f d : Nat → Int32} {a g : Nat} {q : (Nat → Int32) × Nat} (h1 : d 1 = nI g) (hg : g < 12) (h : gateP t f d a = some q) : q.1 1 = nI (g + 1) ∧ q.1 0 = d 0 ∧ q.1 2 = d 2 := by
  obtain ⟨k, x, y, e⟩ := gateP_inv h
  rw [e]
  refine ⟨?_, addG_lo (by omega) (by omega), addG_lo (by omega) (by omega)⟩
  rw [addG_1, h1, nI_clamp (by omega)]
