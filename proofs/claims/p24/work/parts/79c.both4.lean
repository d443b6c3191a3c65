/-! ===== what is as told: both sides the same ===== -/
theorem gate_eq {cT cI cG cO cK cP cQ i : Int32} {fK fX fY fZ f : Nat → Int32} {gW : Nat → Int64} (h : EXW cT cI cG cO cK cP cQ fK fX fY fZ gW f) : isGateF cT cG i = gateM f i := by
  rcases h with ⟨h0, ht⟩ | ⟨h0, ht, rc, n, g, o, w0, e1, _, _, wf, _⟩
  · rw [h0]; exact gate_no ht
  · rw [h0]; exact gate_th (rc.2.1.trans e1) e1 wf.2.2.1 ht
theorem kz_eq {cT cI cG cO cK cP cQ i j : Int32} {fK fX fY fZ f : Nat → Int32} {gW : Nat → Int64} (h : EXW cT cI cG cO cK cP cQ fK fX fY fZ gW f) : zAnd (isGateF cT cG i) (mayPutF cT (atF fK 12 i) j) = kzM f i j := by
  rcases h with ⟨h0, ht⟩ | ⟨h0, ht, rc, n, g, o, w0, e1, _, _, wf, _⟩
  · rw [h0]
    unfold zAnd mayPutF kzM
    rw [gate_no ht, if_pos rfl, in07, if_pos ht]
    by_cases a : gateM f i = 0
    · rw [if_pos a, if_pos a]
    · rw [if_neg a, if_neg a]
      by_cases b : inF j 0 7 = 0
      · rw [if_pos b, if_pos rfl]
      · rw [if_neg b, if_neg (by decide)]
  · rw [h0]; exact kz_th ht rc e1 wf.2.2.1
theorem wz_eq {cT cI cG cO cK cP cQ i w s : Int32} {fK fX fY fZ f : Nat → Int32} {gW : Nat → Int64} (h : EXW cT cI cG cO cK cP cQ fK fX fY fZ gW f) : zAnd3 (isGateF cT cG i) (isWayF cT (atF fK 12 i) w) (isAheadF cT cI i s) = wzM f i w s := by
  rcases h with ⟨h0, ht⟩ | ⟨h0, ht, rc, n, g, o, w0, e1, _, _, wf, _⟩
  · rw [h0]
    unfold zAnd3 wzM isWayF
    rw [gate_no ht, ahead_no, in01, if_pos ht, if_pos rfl]
  · rw [h0]; exact wz_th ht rc e1 wf.1 wf.2.1 wf.2.2.1
theorem oz_eq {cT cI cG cO cK cP cQ i j : Int32} {fK fX fY fZ f : Nat → Int32} {gW : Nat → Int64} (h : EXW cT cI cG cO cK cP cQ fK fX fY fZ gW f) : zOf (isGateF cT cG i) j = ozM f i j := by
  rw [zOf_in, gate_eq h]; rfl
theorem place_eq {cT cI cG cO cK cP cQ i : Int32} {fK fX fY fZ f : Nat → Int32} {gW : Nat → Int64} (h : EXW cT cI cG cO cK cP cQ fK fX fY fZ gW f) : isPlaceF cT cO i = outM f i := by
  rcases h with ⟨h0, ht⟩ | ⟨h0, ht, rc, n, g, o, w0, _, e2, ho, _⟩
  · rw [h0]; exact place_no ht
  · rw [h0]; exact place_th (rc.2.2.1.trans e2) e2 ho ht
theorem tz_eq {cT cI cG cO cK cP cQ w i : Int32} {fK fX fY fZ f : Nat → Int32} {gW : Nat → Int64} (h : EXW cT cI cG cO cK cP cQ fK fX fY fZ gW f) : zTold (isPlaceF cT cO i) w i = tzM f w i := by
  have et : ∀ a, zTold a w i = if w = 0 then a else if inF w 1 3 = 0 then 0 else if i = 0 then 1 else 0 := by
    intro a
    unfold zTold inF
    by_cases h1 : w = 0 <;> by_cases h2 : w < 1 <;> by_cases h3 : 3 < w <;> by_cases h4 : i = 0 <;> simp [h1, h2, h3, h4]
  rw [et, place_eq h]; rfl
theorem rz_eq {cT cI cG cO cK cP cQ v w : Int32} {fK fX fY fZ f : Nat → Int32} {gW : Nat → Int64} (h : EXW cT cI cG cO cK cP cQ fK fX fY fZ gW f) : zRuns (isInputsF cT cI v) w = rzM f v w := by
  rw [zRuns_in, inp_eq h]; rfl
theorem sz_eq {cT cI cG cO cK cP cQ s v : Int32} {fK fX fY fZ f : Nat → Int32} {gW : Nat → Int64} (h : EXW cT cI cG cO cK cP cQ fK fX fY fZ gW f) : zAnd (isSignalF cT cI cG s) (isInputsF cT cI v) = szM f s v := by
  rw [inp_eq h]
  have es : isSignalF cT cI cG s = inF s 0 (if thereM f = 0 then 17 else f 0 + f 1 - 1) := by
    rcases h with ⟨h0, ht⟩ | ⟨h0, ht, rc, n, g, o, w0, e1, _, _, wf, _⟩
    · rw [h0]; exact sig_no ht
    · have h6 := wf.2.1
      have h12 := wf.2.2.1
      unfold isSignalF inF
      rw [h0, if_neg ht, if_neg (show ¬ (1 : Int32) = 0 by decide), rc.1, rc.2.1, wf.1, e1, nI_add]
      by_cases a : s < 0
      · rw [if_pos a, if_pos a]
      · rw [if_neg a, if_neg a]
        exact if_le (le_m1 (by omega) s) 0 1
  rw [es]; rfl
/-- the refusal, on both sides -/
theorem rr_eq {cT cI cG cO cK cP cQ z z2 : Int32} {fK fX fY fZ f : Nat → Int32} {gW : Nat → Int64} (h : EXW cT cI cG cO cK cP cQ fK fX fY fZ gW f) (e : z = z2) : refusalF cT z = if z2 = 0 then -2 else if thereM f = 0 then -3 else 0 := by
  rw [← e, ← ref_eq (V := 0) (z := z) h]
  by_cases c : refusalF cT z = 0
  · rw [if_pos c]; exact c
  · rw [if_neg c]
theorem ctr_eq {nB nN nF b1 b2 R R2 : Int32} {fR h1 : Nat → Int32} (h : CTR nB nN nF fR) (e : R = R2) (x1 : b1 = ctB R nB) (x2 : b2 = ctN R nN) (x3 : ctF R nF = nF) (hm : h1 = bmp R2 fR) : CTR b1 b2 nF h1 := by
  rw [x1, x2, hm, ← e]
  have := ctr_bmp (R := R) h
  rw [x3] at this
  exact this
theorem ctr_eq3 {nB nN nF b1 b2 b3 R R2 : Int32} {fR h1 : Nat → Int32} (h : CTR nB nN nF fR) (e : R = R2) (x1 : b1 = ctB R nB) (x2 : b2 = ctN R nN) (x3 : b3 = ctF R nF) (hm : h1 = bmp R2 fR) : CTR b1 b2 b3 h1 := by
  rw [x1, x2, x3, hm, ← e]
  exact ctr_bmp h
theorem ctr_eq1 {nB nN nF b1 R R2 : Int32} {fR h1 : Nat → Int32} (h : CTR nB nN nF fR) (e : R = R2) (x1 : b1 = ctB R nB) (x2 : ctN R nN = nN) (x3 : ctF R nF = nF) (hm : h1 = bmp R2 fR) : CTR b1 nN nF h1 := by
  rw [x1, hm, ← e]
  have := ctr_bmp (R := R) h
  rw [x2, x3] at this
  exact this
theorem ctr_eqt {nB nN nF b1 b3 R R2 : Int32} {fR h1 : Nat → Int32} (h : CTR nB nN nF fR) (e : R = R2) (x1 : b1 = ctB R nB) (x2 : ctN R nN = nN) (x3 : b3 = ctF R nF) (hm : h1 = bmp R2 fR) : CTR b1 nN b3 h1 := by
  rw [x1, x3, hm, ← e]
  have := ctr_bmp (R := R) h
  rw [x2] at this
  exact this
theorem ct_ad {b n : Int32} : ctN (adderR b) n = n ∧ ctF (adderR b) n = n := by
  have v : adderR b = -2 ∨ adderR b = 2 ∨ adderR b = 7 ∨ adderR b = 12 := by
    unfold adderR
    by_cases a : b < 1
    · rw [if_pos a]; exact Or.inl rfl
    · rw [if_neg a]
      by_cases c : b ≤ 3
      · rw [if_pos c]
        by_cases d : b = 1
        · rw [if_pos d]; exact Or.inr (Or.inl rfl)
        · rw [if_neg d]
          by_cases e : b = 2
          · rw [if_pos e]; exact Or.inr (Or.inr (Or.inl rfl))
          · rw [if_neg e]; exact Or.inr (Or.inr (Or.inr rfl))
      · rw [if_neg c]; exact Or.inl rfl
  unfold ctN ctF
  rcases v with v | v | v | v <;> rw [v] <;> exact ⟨if_neg (by decide), if_neg (by decide)⟩
theorem ct_dr {x m g n : Int32} : ctN (drawR x m g) n = n ∧ ctF (drawR x m g) n = n := by
  have v : drawR x m g = -2 ∨ ∃ k : Nat, k ≤ 12 ∧ drawR x m g = nI k := by
    unfold drawR
    by_cases a : x < 0
    · rw [if_pos a]; exact Or.inl rfl
    · rw [if_neg a]
      by_cases b : 999999 < x
      · rw [if_pos b]; exact Or.inl rfl
      · rw [if_neg b]
        by_cases c : sizeZ m g = 0
        · rw [if_pos c]; exact Or.inl rfl
        · rw [if_neg c]
          obtain ⟨k, h1, h2, _⟩ := sizeZ_ok c
          exact Or.inr ⟨k, h1, h2⟩
  unfold ctN ctF
  rcases v with v | ⟨k, hk, v⟩
  · rw [v]; exact ⟨if_neg (by decide), if_neg (by decide)⟩
  · rw [v]; exact ⟨if_neg (nI_neg (by omega) (by decide)), if_neg (nI_neg (by omega) (by decide))⟩
theorem ct_cn {x n : Int32} : ctN (cntR x) n = n ∧ ctF (cntR x) n = n := by
  unfold cntR ctN ctF
  by_cases c : x.toInt < 0 ∨ 6 < x.toInt
  · rw [if_pos c]; exact ⟨if_neg (by decide), if_neg (by decide)⟩
  · rw [if_neg c]; exact ⟨if_neg (by decide), if_neg (by decide)⟩
theorem ct_ty {t x n : Int32} : ctN (typR t x) n = n := by
  have v : typR t x = -2 ∨ typR t x = -4 ∨ typR t x = 0 := by
    unfold typR
    by_cases a : x < 0
    · rw [if_pos a]; exact Or.inl rfl
    · rw [if_neg a]
      by_cases b : x ≤ 127
      · rw [if_pos b]
        by_cases c : t < 0
        · rw [if_pos c]; exact Or.inr (Or.inl rfl)
        · rw [if_neg c]
          by_cases d : t < 120
          · rw [if_pos d]; exact Or.inr (Or.inr rfl)
          · rw [if_neg d]; exact Or.inr (Or.inl rfl)
      · rw [if_neg b]; exact Or.inl rfl
  unfold ctN
  rcases v with v | v | v <;> rw [v] <;> exact if_neg (by decide)
/-- the three numbers of the circuit, also where there is none -/
def N3 (cI cG cO : Int32) (f : Nat → Int32) : Prop := cI = f 0 ∧ cG = f 1 ∧ cO = f 2 ∧ (thereM f = 0 → f 1 = 0 ∧ f 2 = 0)
theorem n3_kind {cI cG cO i j : Int32} {f : Nat → Int32} (h : N3 cI cG cO f) : N3 cI cG cO (kindT f i j) := by
  unfold kindT
  by_cases hz : kzM f i j = 0
  · rw [if_pos hz]; exact h
  · rw [if_neg hz]
    by_cases ht : thereM f = 0
    · rw [if_pos ht]; exact h
    · rw [if_neg ht]
      exact ⟨by rw [pk_un (by omega)]; exact h.1, by rw [pk_un (by omega)]; exact h.2.1, by rw [pk_un (by omega)]; exact h.2.2.1, fun q => absurd (by rw [th_upd (by omega)] at q; exact q) ht⟩
theorem n3_wire {cI cG cO i w s : Int32} {f : Nat → Int32} (h : N3 cI cG cO f) : N3 cI cG cO (wireT f i w s) := by
  unfold wireT
  by_cases hz : wzM f i w s = 0
  · rw [if_pos hz]; exact h
  · rw [if_neg hz]
    by_cases ht : thereM f = 0
    · rw [if_pos ht]; exact h
    · rw [if_neg ht]
      have hp : 18 ≤ wireP w := by
        unfold wireP
        by_cases c : w = 0
        · rw [if_pos c]; omega
        · rw [if_neg c]; omega
      exact ⟨by rw [pk_un (by omega)]; exact h.1, by rw [pk_un (by omega)]; exact h.2.1, by rw [pk_un (by omega)]; exact h.2.2.1, fun q => absurd (by rw [th_upd (by omega)] at q; exact q) ht⟩
theorem n3_exw {cT cI cG cO cK cP cQ : Int32} {fK fX fY fZ f : Nat → Int32} {gW : Nat → Int64} (h : EXW cT cI cG cO cK cP cQ fK fX fY fZ gW f) (ht : ¬ cT = 0) : N3 cI cG cO f := by
  rcases h with ⟨q, _⟩ | ⟨_, hth, rc, _⟩
  · exact absurd q ht
  · exact ⟨rc.1, rc.2.1, rc.2.2.1, fun q => absurd q hth⟩
theorem n3_reads {cT cI cG cO cK cP cQ e1 e2 e3 e4 e5 e6 e7 sN sB v1 v2 : Int32} {fK fX fY fZ h1 h2 h3 h4 f s z T a b c : Nat → Int32} {gW h5 : Nat → Int64} {t : Nat} (h : N3 cI cG cO f) (hx : EXS e1 e2 e3 e4 e5 e6 e7 h1 h2 h3 h4 h5 v1 v2 a b c s) (hc : (∃ d1, allP t T z = some d1 ∧ (e1 = 1 ∧ RC e2 e3 e4 e5 e6 e7 h1 h2 h3 h4 d1) ∧ h5 = colsF e2 e3 h1 h2 h3 (-1) (-1) gW ∧ v1 = 0 ∧ v2 = 0) ∨ (allP t T z = none ∧ (e1 = cT ∧ e2 = cI ∧ e3 = cG ∧ e4 = cO ∧ e5 = cK ∧ e6 = cP ∧ e7 = cQ ∧ h1 = fK ∧ h2 = fX ∧ h3 = fY ∧ h4 = fZ) ∧ h5 = gW ∧ v1 = sN ∧ v2 = sB)) (hm : (∃ d, allP t T z = some d ∧ ∀ i, i < 49 → s i = d i) ∨ (allP t T z = none ∧ s = f)) : N3 e2 e3 e4 s := by
  rcases hc with ⟨d1, ha, ⟨he, _⟩, _⟩ | ⟨ha, ⟨a1, a2, a3, a4, _⟩, _⟩
  · exact n3_exw hx.1 (by rw [he]; decide)
  · rcases hm with ⟨d, hb, _⟩ | ⟨_, hs⟩
    · rw [ha] at hb; exact absurd hb (by simp)
    · rw [a2, a3, a4, hs]; exact h
theorem n3_adder {cT cI cG cO cK cP cQ e1 e2 e3 e4 e5 e6 e7 b v1 v2 : Int32} {fK fX fY fZ h1 h2 h3 h4 f s a1 a2 a3 : Nat → Int32} {h5 : Nat → Int64} (h : N3 cI cG cO f) (hx : EXS e1 e2 e3 e4 e5 e6 e7 h1 h2 h3 h4 h5 v1 v2 a1 a2 a3 s) (hc : (adderR b = -2 ∧ e1 = cT ∧ e2 = cI ∧ e3 = cG ∧ e4 = cO ∧ e5 = cK ∧ e6 = cP ∧ e7 = cQ ∧ h1 = fK ∧ h2 = fX ∧ h3 = fY ∧ h4 = fZ) ∨ (¬ adderR b = -2 ∧ e1 = 1 ∧ (b = 1 → ∀ z, RC e2 e3 e4 e5 e6 e7 h1 h2 h3 h4 (adD1 z)) ∧ (b = 2 → ∀ z, RC e2 e3 e4 e5 e6 e7 h1 h2 h3 h4 (adD2 z)) ∧ (b = 3 → ∀ z, RC e2 e3 e4 e5 e6 e7 h1 h2 h3 h4 (adD3 z)))) (hm : (adderRm b = -2 ∧ s = f) ∨ (¬ adderRm b = -2 ∧ (b = 1 → s = adD1 f) ∧ (b = 2 → s = adD2 f) ∧ (b = 3 → s = adD3 f))) : N3 e2 e3 e4 s := by
  have ea := adder_in b
  rcases hc with ⟨ha, _, x2, x3, x4, _⟩ | ⟨_, he, _⟩
  · rcases hm with ⟨_, hs⟩ | ⟨hb, _⟩
    · rw [x2, x3, x4, hs]; exact h
    · exact absurd (ea.symm.trans ha) hb
  · exact n3_exw hx.1 (by rw [he]; decide)
theorem n3_draw {cT cI cG cO cK cP cQ e1 e2 e3 e4 e5 e6 e7 x n g v1 v2 : Int32} {fK fX fY fZ h1 h2 h3 h4 f s a1 a2 a3 : Nat → Int32} {h5 : Nat → Int64} (h : N3 cI cG cO f) (hx : EXS e1 e2 e3 e4 e5 e6 e7 h1 h2 h3 h4 h5 v1 v2 a1 a2 a3 s) (hc : (drawR x n g = -2 ∧ e1 = cT ∧ e2 = cI ∧ e3 = cG ∧ e4 = cO ∧ e5 = cK ∧ e6 = cP ∧ e7 = cQ ∧ h1 = fK ∧ h2 = fX ∧ h3 = fY ∧ h4 = fZ) ∨ (¬ drawR x n g = -2 ∧ e1 = 1 ∧ ∀ z, RC e2 e3 e4 e5 e6 e7 h1 h2 h3 h4 (drD x.toInt64 n g z))) (hm : (drawRm x n g = -2 ∧ s = f) ∨ (¬ drawRm x n g = -2 ∧ s = drD x.toInt64 n g f)) : N3 e2 e3 e4 s := by
  have ea := draw_in x n g
  rcases hc with ⟨ha, _, x2, x3, x4, _⟩ | ⟨_, he, _⟩
  · rcases hm with ⟨_, hs⟩ | ⟨hb, _⟩
    · rw [x2, x3, x4, hs]; exact h
    · exact absurd (ea.symm.trans ha) hb
  · exact n3_exw hx.1 (by rw [he]; decide)
theorem ty_0 {t x r : Int32} (h : r = apR t) (hr : ¬ r = 0) (h1 : ¬ x < 0) (h2 : x ≤ 127) : typR t x = 0 := by
  rw [h] at hr
  unfold apR at hr
  unfold typR
  rw [if_neg h1, if_pos h2]
  by_cases a : t < 0
  · rw [if_pos a] at hr; exact absurd rfl hr
  · rw [if_neg a] at hr ⊢
    by_cases b : t < 120
    · rw [if_pos b]
    · rw [if_neg b] at hr; exact absurd rfl hr
theorem ty_4 {t x r : Int32} (h : r = apR t) (hr : r = 0) (h1 : ¬ x < 0) (h2 : x ≤ 127) : typR t x = -4 := by
  rw [h] at hr
  unfold apR at hr
  unfold typR
  rw [if_neg h1, if_pos h2]
  by_cases a : t < 0
  · rw [if_pos a]
  · rw [if_neg a] at hr ⊢
    by_cases b : t < 120
    · rw [if_pos b] at hr; exact absurd hr (by decide)
    · rw [if_neg b]
