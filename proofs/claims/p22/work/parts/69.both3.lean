theorem rd_weak2 {cT cI cG cO cK cP cQ e1 e2 e3 e4 e5 e6 e7 sN sB v1 v2 : Int32} {fK fX fY fZ h1 h2 h3 h4 z T : Nat → Int32} {gW h5 : Nat → Int64} {t : Nat} (hc : (∃ d1, allP t T z = some d1 ∧ (e1 = 1 ∧ RC e2 e3 e4 e5 e6 e7 h1 h2 h3 h4 d1) ∧ h5 = colsF e2 e3 h1 h2 h3 (-1) (-1) gW ∧ v1 = 0 ∧ v2 = 0) ∨ (allP t T z = none ∧ (e1 = cT ∧ e2 = cI ∧ e3 = cG ∧ e4 = cO ∧ e5 = cK ∧ e6 = cP ∧ e7 = cQ ∧ h1 = fK ∧ h2 = fX ∧ h3 = fY ∧ h4 = fZ) ∧ h5 = gW ∧ v1 = sN ∧ v2 = sB)) : (∃ d1, allP t T z = some d1 ∧ e1 = 1 ∧ RC e2 e3 e4 e5 e6 e7 h1 h2 h3 h4 d1) ∨ (allP t T z = none ∧ e1 = cT ∧ e2 = cI ∧ e3 = cG ∧ e4 = cO ∧ e5 = cK ∧ e6 = cP ∧ e7 = cQ ∧ h1 = fK ∧ h2 = fX ∧ h3 = fY ∧ h4 = fZ) := by
  rcases hc with ⟨d1, a, b, _⟩ | ⟨a, b, _⟩
  · exact Or.inl ⟨d1, a, b⟩
  · exact Or.inr ⟨a, b⟩
/-- all signals for inputs, on both sides -/
theorem true_sig {f fK fX fY : Nat → Int32} {n g v : Nat} {h : Nat → Int64} (wf : WF f n g) (ga : GA fK fX fY f g) (hv : v < 2 ^ n) : trueF (fillG (nI n) fK fX fY (-1) (-1) g (fillI n h)) (nI (n + g)) (nI v) = sgM f (nI v) g := by
  have h6 := wf.2.1
  have h12 := wf.2.2.1
  have cb := cols_bits (h := h) wf ga hv g (Nat.le_refl g)
  have hv64 : v < 64 := Nat.lt_of_lt_of_le hv (pow_le64 h6)
  have key : ∀ m, m ≤ n + g → ∀ i, i < 32 → bI (foldF (trueF1 (fillG (nI n) fK fX fY (-1) (-1) g (fillI n h)) (nI v)) m 0) i = (decide (i < m) && bI (sgM f (nI v) g) i) := by
    intro m
    induction m with
    | zero =>
      intro _ i _
      show bI 0 i = _
      rw [bI_zero]; simp
    | succ m ih =>
      intro hm i hi
      show bI (foldF (trueF1 (fillG (nI n) fK fX fY (-1) (-1) g (fillI n h)) (nI v)) m 0 ||| (bitF (fillG (nI n) fK fX fY (-1) (-1) g (fillI n h)) (nI m) (nI v) <<< (nI m &&& 31))) i = _
      have hb : bitF (fillG (nI n) fK fX fY (-1) (-1) g (fillI n h)) (nI m) (nI v) = b01 (bI (sgM f (nI v) g) m) := by
        rw [bitF_b (by omega) hv64, cb.1 m (by omega)]
      rw [bI_or, ih (by omega) i hi, hb, bI_shl _ (by omega) hi]
      by_cases e : i = m
      · subst e; simp
      · by_cases l : i < m
        · have : i < m + 1 := by omega
          simp [e, l, this]
        · have : ¬ i < m + 1 := by omega
          simp [e, l, this]
  apply bI_inj
  intro i hi
  unfold trueF
  rw [nI_clamp (by omega), key (n + g) (Nat.le_refl _) i hi]
  by_cases l : i < n + g
  · simp [l]
  · rw [cb.2 i (by omega) hi]; simp [l]
theorem exs_value {cT cI cG cO cK cP cQ i v sN sB : Int32} {fK fX fY fZ a b c f : Nat → Int32} {gW : Nat → Int64} (h : EXS cT cI cG cO cK cP cQ fK fX fY fZ gW sN sB a b c f) : (if refusalF cT (zAnd (isStageF cT cG i) (isInputsF cT cI v)) = 0 then valueV f i (trueF gW (cI + cG) v) else refusalF cT (zAnd (isStageF cT cG i) (isInputsF cT cI v))) = (if zAnd (stgM f i) (inpM f v) = 0 then -2 else if thereM f = 0 then -3 else valueV f i (sgM f v (gf f))) := by
  rw [ref_eq h.1, stg_eq h.1, inp_eq h.1]
  by_cases z : zAnd (stgM f i) (inpM f v) = 0
  · rw [if_pos z, if_pos z]
  · rw [if_neg z, if_neg z]
    by_cases t : thereM f = 0
    · rw [if_pos t, if_pos t]
    · rw [if_neg t, if_neg t]
      rcases h.1 with ⟨_, q⟩ | ⟨_, _, rc, n, g, o, w0, e1, _, _, wf, _, hw⟩
      · exact absurd q t
      · obtain ⟨q0, q1, _, _, _, _, g', o', hg', ho', e1', _, ga, _⟩ := rc
        have eg : g = g' := nI_inj (by have := wf.2.2.1; omega) (by omega) (e1.symm.trans e1')
        subst eg
        have hi : ¬ inpM f v = 0 := fun q => z (by
          unfold zAnd
          by_cases x : stgM f i = 0
          · rw [if_pos x]
          · rw [if_neg x, if_pos q])
        obtain ⟨m, hm, ev⟩ := inp_ok wf.1 wf.2.1 t hi
        rw [hw, q0, q1, wf.1, e1, cols_n wf.2.1 wf.2.2.1, nI_add, ev, true_sig wf ga hm, gf_eq e1 wf.2.2.1]
