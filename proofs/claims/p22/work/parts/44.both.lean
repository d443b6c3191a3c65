/-! ===== both circuits, call by call ===== -/
def EX (cT cI cG cO cK cP cQ : Int32) (fK fX fY fZ f : Nat → Int32) : Prop := (cT = 0 ∧ thereM f = 0) ∨ (cT = 1 ∧ ¬ thereM f = 0 ∧ RC cI cG cO cK cP cQ fK fX fY fZ f)
theorem i_lt2 {n : Nat} {m : Nat} (x : Int32) (hm : m < 2 ^ 31) (h : n + 1 = m) : (Int32.ofNat m ≤ x) = (Int32.ofNat n < x) := by
  have e1 : (Int32.ofNat m).toInt = (m : Int) := nI_toInt hm
  have e2 : (Int32.ofNat n).toInt = (n : Int) := nI_toInt (by omega)
  rw [Int32.le_iff_toInt_le, Int32.lt_iff_toInt_lt, e1, e2]
  apply propext
  omega
theorem le_m1 {g : Nat} (hg : g < 2 ^ 31) (i : Int32) : (nI g ≤ i) = (nI g - 1 < i) := by
  rw [Int32.le_iff_toInt_le, Int32.lt_iff_toInt_lt, nI_toInt hg]
  have e : (nI g - 1).toInt = (g : Int) - 1 := by
    rcases Nat.eq_zero_or_pos g with q | q
    · subst q; decide
    · have e : nI g - 1 = nI (g - 1) := pk_sub (b := 1) q
      rw [e, nI_toInt (by omega)]
      omega
  rw [e]
  apply propext
  omega
theorem if_le {P Q : Prop} [Decidable P] [Decidable Q] (h : P = Q) (a b : Int32) : (if P then a else b) = if Q then a else b := by
  by_cases p : P
  · rw [if_pos p, if_pos (h ▸ p)]
  · rw [if_neg p, if_neg (h ▸ p)]
theorem gate_th {f : Nat → Int32} {g : Nat} {cG i : Int32} (hG : cG = nI g) (h1 : f 1 = nI g) (hg : g ≤ 12) (ht : ¬ thereM f = 0) : isGateF 1 cG i = gateM f i := by
  unfold isGateF gateM inF
  rw [if_neg ht, h1, if_neg (show ¬ (1 : Int32) = 0 by decide), hG]
  by_cases h : i < 0
  · rw [if_pos h, if_pos h]
  · rw [if_neg h, if_neg h]
    exact if_le (le_m1 (by omega) i) 0 1
theorem gate_no {f : Nat → Int32} {cG i : Int32} (ht : thereM f = 0) : isGateF 0 cG i = gateM f i := by
  unfold isGateF gateM inF
  rw [if_pos ht, if_pos rfl]
  by_cases h : i < 0
  · rw [if_pos h, if_pos h]
  · rw [if_neg h, if_neg h]
    exact if_le (i_lt2 (n := 11) (m := 12) i (by decide) rfl) 0 1
theorem place_th {f : Nat → Int32} {g : Nat} {cO i : Int32} (hG : cO = nI g) (h1 : f 2 = nI g) (hg : g ≤ 7) (ht : ¬ thereM f = 0) : isPlaceF 1 cO i = outM f i := by
  unfold isPlaceF outM inF
  rw [if_neg ht, h1, if_neg (show ¬ (1 : Int32) = 0 by decide), hG]
  by_cases h : i < 0
  · rw [if_pos h, if_pos h]
  · rw [if_neg h, if_neg h]
    exact if_le (le_m1 (by omega) i) 0 1
theorem place_no {f : Nat → Int32} {cO i : Int32} (ht : thereM f = 0) : isPlaceF 0 cO i = outM f i := by
  unfold isPlaceF outM inF
  rw [if_pos ht, if_pos rfl]
  by_cases h : i < 0
  · rw [if_pos h, if_pos h]
  · rw [if_neg h, if_neg h]
    exact if_le (i_lt2 (n := 6) (m := 7) i (by decide) rfl) 0 1
theorem in07 (j : Int32) (a b : Int32) : (if j < 0 then a else if j < 8 then b else a) = if inF j 0 7 = 0 then a else b := by
  unfold inF
  by_cases h : j < 0
  · rw [if_pos h, if_pos h, if_pos rfl]
  · rw [if_neg h, if_neg h]
    have e : ((8 : Int32) ≤ j) = ((7 : Int32) < j) := i_lt2 (n := 7) (m := 8) j (by decide) rfl
    by_cases h2 : j < 8
    · rw [if_pos h2, if_neg (fun q => absurd (e.mpr q) (Int32.not_le.mpr h2)), if_neg (by decide)]
    · rw [if_neg h2, if_pos (e.mp (Int32.not_lt.mp h2)), if_pos rfl]
theorem none_ne (z : Int32) : ¬ noneF z = 0 := by
  unfold noneF
  by_cases h : z = 0
  · rw [if_pos h]; decide
  · rw [if_neg h]; decide
theorem ref_no (z : Int32) : refusalF 0 z = noneF z := by
  unfold refusalF noneF
  by_cases h : z = 0
  · rw [if_pos h, if_pos h]
  · rw [if_neg h, if_neg h, if_pos rfl]
theorem ref_th (z : Int32) : refusalF 1 z = if z = 0 then -2 else 0 := by
  unfold refusalF
  rw [if_neg (show ¬ (1 : Int32) = 0 by decide)]
/-- a gate that is there, on both sides -/
theorem rc_gate {cI cG cO cK cP cQ i : Int32} {fK fX fY fZ f : Nat → Int32} (h : RC cI cG cO cK cP cQ fK fX fY fZ f) (ht : ¬ thereM f = 0) (hz : ¬ gateM f i = 0) : ∃ k, k < 12 ∧ i = nI k ∧ i.toNatClampNeg = k ∧ atF fK 12 i = f (6 + k) ∧ atF fX 12 i = f (18 + k) ∧ atF fY 12 i = f (30 + k) ∧ ∃ g, k < g ∧ g ≤ 12 ∧ f 1 = nI g := by
  obtain ⟨h0, h1, h2, h3, h4, h5, g, o, hg, ho, e1, e2, ga, go⟩ := h
  obtain ⟨k, hk, hi⟩ := gate_ok e1 hg hz ht
  obtain ⟨a, b, c⟩ := ga k hk
  refine ⟨k, by omega, hi, by rw [hi]; exact nI_clamp (by omega), ?_, ?_, ?_, g, hk, hg, e1⟩
  · rw [hi, atF_nI (by omega) (by decide)]; exact a
  · rw [hi, atF_nI (by omega) (by decide)]; exact b
  · rw [hi, atF_nI (by omega) (by decide)]; exact c
theorem rc_k {cI cG cO cK cP cQ v : Int32} {fK fX fY fZ f : Nat → Int32} {k g : Nat} (h : RC cI cG cO cK cP cQ fK fX fY fZ f) (hk : k < g) (hg : g ≤ 12) (h1 : f 1 = nI g) : RC cI cG cO cK cP cQ (putF fK 12 (nI k) v) fX fY fZ (upd f (6 + k) v) ∧ RC cI cG cO cK cP cQ fK (putF fX 12 (nI k) v) fY fZ (upd f (18 + k) v) ∧ RC cI cG cO cK cP cQ fK fX (putF fY 12 (nI k) v) fZ (upd f (30 + k) v) := by
  obtain ⟨q0, q1, q2, q3, q4, q5, g', o, hg', ho, e1, e2, ga, go⟩ := h
  have eg : g = g' := nI_inj (by omega) (by omega) (h1.symm.trans e1)
  subst eg
  rw [putF_nI (by omega) (by decide), putF_nI (by omega) (by decide), putF_nI (by omega) (by decide)]
  have lo : ∀ b, b = 6 ∨ b = 18 ∨ b = 30 → ∀ i, i < 6 → upd f (b + k) v i = f i := fun b hb i hi => pk_un (by omega)
  have hi : ∀ b, b = 6 ∨ b = 18 ∨ b = 30 → ∀ j, j < o → fZ j = upd f (b + k) v (42 + j) := fun b hb j hj => by
    rw [pk_un (by omega)]; exact go j hj
  have mk : ∀ b, (b = 6 ∨ b = 18 ∨ b = 30) → ∀ a1 a2 a3 : Nat → Int32, GA a1 a2 a3 (upd f (b + k) v) g → RC cI cG cO cK cP cQ a1 a2 a3 fZ (upd f (b + k) v) := fun b hb a1 a2 a3 hga =>
    ⟨by rw [lo b hb 0 (by omega)]; exact q0, by rw [lo b hb 1 (by omega)]; exact q1, by rw [lo b hb 2 (by omega)]; exact q2, by rw [lo b hb 3 (by omega)]; exact q3, by rw [lo b hb 4 (by omega)]; exact q4, by rw [lo b hb 5 (by omega)]; exact q5, g, o, hg, ho, by rw [lo b hb 1 (by omega)]; exact e1, by rw [lo b hb 2 (by omega)]; exact e2, hga, hi b hb⟩
  refine ⟨mk 6 (by omega) _ _ _ ?_, mk 18 (by omega) _ _ _ ?_, mk 30 (by omega) _ _ _ ?_⟩
  · intro j hj
    obtain ⟨a, b, c⟩ := ga j hj
    refine ⟨?_, by rw [pk_un (by omega)]; exact b, by rw [pk_un (by omega)]; exact c⟩
    by_cases e : j = k
    · subst e; rw [pk_us, pk_us]
    · rw [pk_un e, pk_un (by omega)]; exact a
  · intro j hj
    obtain ⟨a, b, c⟩ := ga j hj
    refine ⟨by rw [pk_un (by omega)]; exact a, ?_, by rw [pk_un (by omega)]; exact c⟩
    by_cases e : j = k
    · subst e; rw [pk_us, pk_us]
    · rw [pk_un e, pk_un (by omega)]; exact b
  · intro j hj
    obtain ⟨a, b, c⟩ := ga j hj
    refine ⟨by rw [pk_un (by omega)]; exact a, by rw [pk_un (by omega)]; exact b, ?_⟩
    by_cases e : j = k
    · subst e; rw [pk_us, pk_us]
    · rw [pk_un e, pk_un (by omega)]; exact c
theorem th_upd {f : Nat → Int32} {k : Nat} {v : Int32} (hk : ¬ k = 0) : thereM (upd f k v) = thereM f := by
  unfold thereM
  rw [pk_un (by omega)]
theorem ex_kind {cT cI cG cO cK cP cQ i j : Int32} {fK fX fY fZ f : Nat → Int32} (h : EX cT cI cG cO cK cP cQ fK fX fY fZ f) : (if refusalF cT (zAnd (isGateF cT cG i) (mayPutF cT (atF fK 12 i) j)) = 0 then atF fK 12 i else refusalF cT (zAnd (isGateF cT cG i) (mayPutF cT (atF fK 12 i) j))) = kindS f i j ∧ EX cT cI cG cO cK cP cQ (if refusalF cT (zAnd (isGateF cT cG i) (mayPutF cT (atF fK 12 i) j)) = 0 then putF fK 12 i j else fK) fX fY fZ (kindT f i j) := by
  rcases h with ⟨h0, ht⟩ | ⟨h0, ht, rc⟩
  · subst h0
    have ez : zAnd (isGateF 0 cG i) (mayPutF 0 (atF fK 12 i) j) = kzM f i j := by
      unfold zAnd kzM mayPutF
      rw [gate_no ht]
      by_cases hg : gateM f i = 0
      · rw [if_pos hg, if_pos hg]
      · rw [if_neg hg, if_neg hg, if_pos rfl, in07 j 0 1, if_pos ht]
        by_cases hj : inF j 0 7 = 0
        · rw [if_pos hj, if_pos rfl]
        · rw [if_neg hj, if_neg (show ¬ (1 : Int32) = 0 by decide)]
    rw [ez, ref_no, if_neg (none_ne _), if_neg (none_ne _)]
    have ek : kindS f i j = noneF (kzM f i j) := by
      unfold kindS noneF
      rw [if_pos ht]
    have et : kindT f i j = f := by
      unfold kindT
      by_cases hz : kzM f i j = 0
      · rw [if_pos hz]
      · rw [if_neg hz, if_pos ht]
    rw [ek, et]
    exact ⟨rfl, Or.inl ⟨rfl, ht⟩⟩
  · subst h0
    have rc2 := rc
    obtain ⟨_, q1, _, _, _, _, g, o, hg, _, e1, _, _, _⟩ := rc2
    have eg : isGateF 1 cG i = gateM f i := gate_th (q1.trans e1) e1 hg ht
    by_cases hz : gateM f i = 0
    · have ez : zAnd (isGateF 1 cG i) (mayPutF 1 (atF fK 12 i) j) = 0 := by
        unfold zAnd
        rw [eg, if_pos hz]
      have em : kzM f i j = 0 := if_pos hz
      rw [ez, ref_th, if_pos rfl, if_neg (by decide), if_neg (by decide)]
      unfold kindS kindT
      rw [if_pos em, if_pos em]
      exact ⟨rfl, Or.inr ⟨rfl, ht, rc⟩⟩
    · obtain ⟨k, hk, hi, hic, ak, _, _, g2, hkg, hg2, e2⟩ := rc_gate rc ht hz
      have ez : zAnd (isGateF 1 cG i) (mayPutF 1 (atF fK 12 i) j) = kzM f i j := by
        unfold zAnd kzM mayPutF
        rw [eg, if_neg hz, if_neg hz, if_neg (show ¬ (1 : Int32) = 0 by decide), if_neg ht, hic, ak, in07]
        by_cases hj : inF j 0 7 = 0
        · rw [if_pos hj, if_pos hj, if_pos rfl]
        · rw [if_neg hj, if_neg hj]
          by_cases hs : (if j = 0 then 1 else 0 : Int32) = (if f (6 + k) = 0 then 1 else 0 : Int32)
          · rw [if_pos hs, if_pos hs.symm, if_neg (by decide)]
          · rw [if_neg hs, if_pos rfl, if_neg (fun q => hs q.symm)]
      rw [ez, ref_th]
      unfold kindS kindT
      by_cases hm : kzM f i j = 0
      · rw [if_pos hm, if_pos hm, if_pos hm, if_neg (by decide), if_neg (by decide)]
        exact ⟨rfl, Or.inr ⟨rfl, ht, rc⟩⟩
      · rw [if_neg hm, if_neg hm, if_neg hm, if_neg ht, if_neg ht, if_pos rfl, if_pos rfl, hic, ak]
        refine ⟨rfl, Or.inr ⟨rfl, ?_, ?_⟩⟩
        · rw [th_upd (by omega)]; exact ht
        · rw [hi]; exact (rc_k rc hkg hg2 e2).1
theorem ahead_th {n k : Nat} {x : Int32} (hn : n ≤ 6) (hk : k < 12) : isAheadF 1 (nI n) (nI k) x = inF x 0 (nI n + nI k - 1) := by
  unfold isAheadF inF
  rw [if_neg (show ¬ (1 : Int32) = 0 by decide), nI_add]
  by_cases h : x < 0
  · rw [if_pos h, if_pos h]
  · rw [if_neg h, if_neg h]
    exact if_le (le_m1 (by omega) x) 0 1
theorem ahead_no {a g x : Int32} : isAheadF 0 a g x = inF x 0 17 := by
  unfold isAheadF inF
  rw [if_pos rfl]
  by_cases h : x < 0
  · rw [if_pos h, if_pos h]
  · rw [if_neg h, if_neg h]
    exact if_le (i_lt2 (n := 17) (m := 18) x (by decide) rfl) 0 1
theorem in01 (w : Int32) : inF w 0 1 = if w = 0 then 1 else if w = 1 then 1 else 0 := by
  have e0 : (0 : Int32).toInt = 0 := by decide
  have e1 : (1 : Int32).toInt = 1 := by decide
  unfold inF
  simp only [Int32.lt_iff_toInt_lt, ← Int32.toInt_inj, e0, e1]
  by_cases h0 : w.toInt = 0
  · rw [if_pos h0, if_neg (by omega), if_neg (by omega)]
  · by_cases h1 : w.toInt = 1
    · rw [if_neg h0, if_pos h1, if_neg (by omega), if_neg (by omega)]
    · rw [if_neg h0, if_neg h1]
      by_cases h2 : w.toInt < 0
      · rw [if_pos h2]
      · rw [if_neg h2, if_pos (by omega)]
theorem in01z (i : Int32) {lo hi : Int32} : inF i lo hi = 0 ∨ inF i lo hi = 1 := by
  unfold inF
  by_cases h1 : i < lo
  · rw [if_pos h1]; exact Or.inl rfl
  · rw [if_neg h1]
    by_cases h2 : hi < i
    · rw [if_pos h2]; exact Or.inl rfl
    · rw [if_neg h2]; exact Or.inr rfl
theorem ex_wire {cT cI cG cO cK cP cQ i w s : Int32} {fK fX fY fZ f : Nat → Int32} (h : EX cT cI cG cO cK cP cQ fK fX fY fZ f) (hok : okM f) : (if refusalF cT (zAnd3 (isGateF cT cG i) (isWayF cT (atF fK 12 i) w) (isAheadF cT cI i s)) = 0 then (if w = 0 then atF fX 12 i else atF fY 12 i) else refusalF cT (zAnd3 (isGateF cT cG i) (isWayF cT (atF fK 12 i) w) (isAheadF cT cI i s))) = wireS f i w s ∧ EX cT cI cG cO cK cP cQ fK (if refusalF cT (zAnd3 (isGateF cT cG i) (isWayF cT (atF fK 12 i) w) (isAheadF cT cI i s)) = 0 then (if w = 0 then putF fX 12 i s else fX) else fX) (if refusalF cT (zAnd3 (isGateF cT cG i) (isWayF cT (atF fK 12 i) w) (isAheadF cT cI i s)) = 0 then (if w = 0 then fY else putF fY 12 i s) else fY) fZ (wireT f i w s) := by
  rcases h with ⟨h0, ht⟩ | ⟨h0, ht, rc⟩
  · subst h0
    have ez : zAnd3 (isGateF 0 cG i) (isWayF 0 (atF fK 12 i) w) (isAheadF 0 cI i s) = wzM f i w s := by
      unfold zAnd3 wzM isWayF
      rw [gate_no ht, ahead_no, in01, if_pos ht, if_pos rfl]
    rw [ez, ref_no, if_neg (none_ne _), if_neg (none_ne _), if_neg (none_ne _)]
    have ek : wireS f i w s = noneF (wzM f i w s) := by
      unfold wireS noneF
      rw [if_pos ht]
    have et : wireT f i w s = f := by
      unfold wireT
      by_cases hz : wzM f i w s = 0
      · rw [if_pos hz]
      · rw [if_neg hz, if_pos ht]
    rw [ek, et]
    exact ⟨rfl, Or.inl ⟨rfl, ht⟩⟩
  · subst h0
    have rc2 := rc
    obtain ⟨q0, q1, _, _, _, _, g, o, hg, _, e1, _, _, _⟩ := rc2
    have eg : isGateF 1 cG i = gateM f i := gate_th (q1.trans e1) e1 hg ht
    by_cases hz : gateM f i = 0
    · have ez : zAnd3 (isGateF 1 cG i) (isWayF 1 (atF fK 12 i) w) (isAheadF 1 cI i s) = 0 := by
        unfold zAnd3
        rw [eg, if_pos hz]
      have em : wzM f i w s = 0 := if_pos hz
      rw [ez, ref_th, if_pos rfl, if_neg (by decide), if_neg (by decide), if_neg (by decide)]
      unfold wireS wireT
      rw [if_pos em, if_pos em]
      exact ⟨rfl, Or.inr ⟨rfl, ht, rc⟩⟩
    · obtain ⟨k, hk, hi, hic, ak, ax, ay, g2, hkg, hg2, e2⟩ := rc_gate rc ht hz
      obtain ⟨n, _, _, _, _, hn, hn6, _⟩ := hok
      have ez : zAnd3 (isGateF 1 cG i) (isWayF 1 (atF fK 12 i) w) (isAheadF 1 cI i s) = wzM f i w s := by
        unfold zAnd3 wzM isWayF
        rw [eg, if_neg hz, if_neg hz, in01, if_neg ht, ak, hic]
        have ea : isAheadF 1 cI i s = inF s 0 (f 0 + i - 1) := by
          rw [q0, hn, hi]; exact ahead_th hn6 hk
        rw [ea, if_neg (show ¬ (1 : Int32) = 0 by decide)]
        by_cases w0 : w = 0
        · rw [if_pos w0, if_pos w0, if_neg (show ¬ (1 : Int32) = 0 by decide), if_neg (show ¬ (1 : Int32) = 0 by decide), if_pos w0]
        · rw [if_neg w0, if_neg w0, if_neg w0]
          by_cases w1 : w = 1
          · rw [if_pos w1, if_pos w1, if_neg (show ¬ (1 : Int32) = 0 by decide)]
            by_cases k0 : f (6 + k) = 0
            · rw [if_pos k0, if_pos rfl]
              by_cases sa : inF s 0 (f 0 + i - 1) = 0
              · rw [if_pos sa]
              · rw [if_neg sa]
            · rw [if_neg k0, if_neg (show ¬ (1 : Int32) = 0 by decide)]
          · rw [if_neg w1, if_neg w1, if_pos rfl, if_pos rfl]
      rw [ez, ref_th]
      unfold wireS wireT wireP
      by_cases hm : wzM f i w s = 0
      · rw [if_pos hm, if_pos hm, if_pos hm, if_neg (by decide), if_neg (by decide), if_neg (by decide)]
        exact ⟨rfl, Or.inr ⟨rfl, ht, rc⟩⟩
      · rw [if_neg hm, if_neg hm, if_neg hm, if_neg ht, if_neg ht, if_pos rfl, if_pos rfl, if_pos rfl, hic, ax, ay]
        by_cases w0 : w = 0
        · rw [if_pos w0, if_pos w0, if_pos w0, if_pos w0]
          refine ⟨rfl, Or.inr ⟨rfl, by rw [th_upd (by omega)]; exact ht, ?_⟩⟩
          rw [hi]; exact (rc_k rc hkg hg2 e2).2.1
        · rw [if_neg w0, if_neg w0, if_neg w0, if_neg w0]
          refine ⟨rfl, Or.inr ⟨rfl, by rw [th_upd (by omega)]; exact ht, ?_⟩⟩
          rw [hi]; exact (rc_k rc hkg hg2 e2).2.2
theorem uses_eq {fX fY fZ f : Nat → Int32} {x : Int32} {g o : Nat} (hg : g ≤ 12) (ho : o ≤ 7) (hx : ∀ j, j < g → fX j = f (18 + j) ∧ fY j = f (30 + j)) (hz : ∀ j, j < o → fZ j = f (42 + j)) : foldF (usesF2 fZ x) o (foldF (usesF1 fX fY x) g 0) = um2 f x (um1 f x g) o := by
  have e1 : ∀ n, n ≤ g → foldF (usesF1 fX fY x) n 0 = um1 f x n := by
    intro n
    induction n with
    | zero => intro _; rfl
    | succ n ih =>
      intro hn
      show usesF1 fX fY x n (foldF (usesF1 fX fY x) n 0) = _
      rw [ih (by omega)]
      unfold usesF1
      rw [atF_nI (by omega) (by decide), atF_nI (by omega) (by decide), (hx n (by omega)).1, (hx n (by omega)).2]
      rfl
  rw [e1 g (Nat.le_refl _)]
  have e2 : ∀ n, n ≤ o → ∀ a, foldF (usesF2 fZ x) n a = um2 f x a n := by
    intro n
    induction n with
    | zero => intro _ _; rfl
    | succ n ih =>
      intro hn a
      show usesF2 fZ x n (foldF (usesF2 fZ x) n a) = _
      rw [ih (by omega)]
      unfold usesF2
      rw [atF_nI (by omega) (by decide), hz n (by omega)]
      rfl
  exact e2 o (Nat.le_refl _) _
theorem zOf_in {a j : Int32} : zOf a j = if a = 0 then 0 else if inF j 0 3 = 0 then 0 else 1 := by
  unfold zOf inF
  by_cases h1 : a = 0 <;> by_cases h2 : j < 0 <;> by_cases h3 : 3 < j <;> simp [h1, h2, h3]
theorem ex_of {cT cI cG cO cK cP cQ i j : Int32} {fK fX fY fZ f : Nat → Int32} (h : EX cT cI cG cO cK cP cQ fK fX fY fZ f) : (if refusalF cT (zOf (isGateF cT cG i) j) = 0 then (if j.toInt = 0 then atF fK 12 i else if j.toInt = 1 then atF fX 12 i else if j.toInt = 2 then atF fY 12 i else usesF cG cO fX fY fZ (cI + i)) else refusalF cT (zOf (isGateF cT cG i) j)) = ofS f i j := by
  rcases h with ⟨h0, ht⟩ | ⟨h0, ht, rc⟩
  · subst h0
    have ez : zOf (isGateF 0 cG i) j = ozM f i j := by
      rw [zOf_in, gate_no ht]; rfl
    rw [ez, ref_no, if_neg (none_ne _)]
    unfold ofS noneF
    rw [if_pos ht]
  · subst h0
    have rc2 := rc
    obtain ⟨q0, q1, q2, _, _, _, g, o, hg, ho, e1, e2, ga, go⟩ := rc2
    have ez : zOf (isGateF 1 cG i) j = ozM f i j := by
      rw [zOf_in, gate_th (q1.trans e1) e1 hg ht]; rfl
    rw [ez, ref_th]
    unfold ofS
    by_cases hm : ozM f i j = 0
    · rw [if_pos hm, if_pos hm, if_neg (by decide)]
    · rw [if_neg hm, if_neg hm, if_neg ht, if_pos rfl]
      obtain ⟨k, hk, hi, hic, ak, ax, ay, _⟩ := rc_gate rc ht (ozM_g hm)
      have hj : ¬ inF j 0 3 = 0 := fun q => hm (by
        unfold ozM
        rw [if_pos q]
        by_cases z : gateM f i = 0
        · rw [if_pos z]
        · rw [if_neg z])
      obtain ⟨m, _, hm3, hj⟩ := inF_ok (lo := 0) (hi := 3) (L := 0) (M := 3) rfl rfl (by decide) (by decide) hj
      have hu : usesF cG cO fX fY fZ (cI + i) = um2 f (f 0 + i) (um1 f (f 0 + i) (f 1).toNatClampNeg) (f 2).toNatClampNeg := by
        unfold usesF
        rw [q0, q1, q2, e1, e2, nI_clamp (by omega), nI_clamp (by omega)]
        exact uses_eq hg ho (fun j hj => ⟨(ga j hj).2.1, (ga j hj).2.2⟩) go
      unfold ofV
      rw [hu, ak, ax, ay, hic]
      subst hj
      rcases (show m = 0 ∨ m = 1 ∨ m = 2 ∨ m = 3 by omega) with rfl | rfl | rfl | rfl <;> rfl
theorem ex_told {cT cI cG cO cK cP cQ w i : Int32} {fK fX fY fZ f : Nat → Int32} (h : EX cT cI cG cO cK cP cQ fK fX fY fZ f) : (if refusalF cT (zTold (isPlaceF cT cO i) w i) = 0 then (if w.toInt = 0 then atF fZ 7 i else if w.toInt = 1 then cK else if w.toInt = 2 then cP else cQ) else refusalF cT (zTold (isPlaceF cT cO i) w i)) = toldS f w i := by
  have et : ∀ a, zTold a w i = if w = 0 then a else if inF w 1 3 = 0 then 0 else if i = 0 then 1 else 0 := by
    intro a
    unfold zTold inF
    by_cases h1 : w = 0 <;> by_cases h2 : w < 1 <;> by_cases h3 : 3 < w <;> by_cases h4 : i = 0 <;> simp [h1, h2, h3, h4]
  rcases h with ⟨h0, ht⟩ | ⟨h0, ht, rc⟩
  · subst h0
    have ez : zTold (isPlaceF 0 cO i) w i = tzM f w i := by
      rw [et, place_no ht]; rfl
    rw [ez, ref_no, if_neg (none_ne _)]
    unfold toldS noneF
    rw [if_pos ht]
  · subst h0
    have rc2 := rc
    obtain ⟨q0, q1, q2, q3, q4, q5, g, o, hg, ho, e1, e2, ga, go⟩ := rc2
    have ez : zTold (isPlaceF 1 cO i) w i = tzM f w i := by
      rw [et, place_th (q2.trans e2) e2 ho ht]; rfl
    rw [ez, ref_th]
    unfold toldS
    by_cases hm : tzM f w i = 0
    · rw [if_pos hm, if_pos hm, if_neg (by decide)]
    · rw [if_neg hm, if_neg hm, if_neg ht, if_pos rfl]
      unfold tzM at hm
      by_cases w0 : w = 0
      · rw [if_pos w0] at hm
        obtain ⟨k, hk, hi⟩ := place_ok e2 ho hm ht
        subst w0
        rw [if_pos rfl, if_pos (by decide), hi, atF_nI (by omega) (by decide), nI_clamp (by omega)]
        exact go k hk
      · rw [if_neg w0] at hm
        have hw : ¬ inF w 1 3 = 0 := fun q => hm (if_pos q)
        obtain ⟨m, h1, h3, hw⟩ := inF_ok (lo := 1) (hi := 3) (L := 1) (M := 3) rfl rfl (by decide) (by decide) hw
        rw [if_neg w0, q3, q4, q5]
        subst hw
        rcases (show m = 1 ∨ m = 2 ∨ m = 3 by omega) with rfl | rfl | rfl <;> rfl
/-! ===== what a text that is taken gives ===== -/
theorem gatesP_inv {t : Nat} {f : Nat → Int32} : ∀ (n : Nat) {d : Nat → Int32} {a g : Nat} {q : (Nat → Int32) × Nat}, gatesP t f n d a = some q → d 1 = nI g → g + n ≤ 12 → (∃ g2, q.1 1 = nI g2 ∧ g2 ≤ 12) ∧ q.1 0 = d 0 ∧ q.1 2 = d 2
  | 0, d, a, g, q, h, h1, hg => by
    have e : q = (d, a) := (Option.some.inj h).symm
    subst e
    exact ⟨⟨g, h1, by omega⟩, rfl, rfl⟩
  | n + 1, d, a, g, q, h, h1, hg => by
    have h : (match tkW t f 13 a with | none => some (d, a) | some a1 => (gateP t f d a1).bind fun q => gatesP t f n q.1 q.2) = some q := h
    cases hw : tkW t f 13 a with
    | none =>
      rw [hw] at h
      have e : q = (d, a) := (Option.some.inj h).symm
      subst e
      exact ⟨⟨g, h1, by omega⟩, rfl, rfl⟩
    | some a1 =>
      rw [hw] at h
      obtain ⟨p, hp, h⟩ := Option.bind_eq_some_iff.mp h
      obtain ⟨s1, s2, s3⟩ := gate_sh h1 (by omega) hp
      obtain ⟨r1, r2, r3⟩ := gatesP_inv n h s1 (by omega)
      exact ⟨r1, r2.trans s2, r3.trans s3⟩
theorem outsP_inv {t : Nat} {f : Nat → Int32} {last : Int32} : ∀ (n : Nat) {d : Nat → Int32} {a o : Nat} {q : (Nat → Int32) × Nat}, outsP t f last n d a = some q → d 2 = nI o → o + n ≤ 7 → (∃ o2, q.1 2 = nI o2 ∧ o2 ≤ 7) ∧ ∀ i, i < 42 → ¬ i = 2 → q.1 i = d i
  | 0, d, a, o, q, h, h1, hg => by
    have e : q = (d, a) := (Option.some.inj h).symm
    subst e
    exact ⟨⟨o, h1, by omega⟩, fun _ _ _ => rfl⟩
  | n + 1, d, a, o, q, h, h1, hg => by
    have h : (if n = 6 ∨ sortF (bA t f (sk t f a)) = 2 then (tkN t f 0 last a).bind fun v => outsP t f last n (addO d v.1) v.2 else some (d, a)) = some q := h
    by_cases c : n = 6 ∨ sortF (bA t f (sk t f a)) = 2
    · rw [if_pos c] at h
      obtain ⟨v, _, h⟩ := Option.bind_eq_some_iff.mp h
      obtain ⟨r1, r2⟩ := outsP_inv n h (addO_2 h1 (by omega)) (by omega)
      exact ⟨r1, fun i h1 h2 => (r2 i h1 h2).trans (addO_lo h1 h2)⟩
    · rw [if_neg c] at h
      have e : q = (d, a) := (Option.some.inj h).symm
      subst e
      exact ⟨⟨o, h1, by omega⟩, fun _ _ _ => rfl⟩
theorem tkN_in {t : Nat} {f : Nat → Int32} {lo hi : Int32} {a : Nat} {v : Int32 × Nat} (h : tkN t f lo hi a = some v) : ¬ inF v.1 lo hi = 0 := by
  unfold tkN at h
  by_cases c : sortF (bA t f (sk t f a)) = 2 ∧ toB t f (sk t f a) ≤ sk t f a + 2 ∧ ¬ inF (nv f (sk t f a) (toB t f (sk t f a) - sk t f a)) lo hi = 0
  · rw [if_pos c] at h
    rw [← Option.some.inj h]
    exact c.2.2
  · rw [if_neg c] at h; exact absurd h (by simp)
theorem all_ok {t : Nat} {f z d : Nat → Int32} (h : allP t f z = some d) (hz1 : z 1 = 0) (hz2 : z 2 = 0) : okM d ∧ ¬ thereM d = 0 := by
  rw [all_eq] at h
  obtain ⟨n, hn, h⟩ := Option.bind_eq_some_iff.mp h
  obtain ⟨q, hq, h⟩ := Option.bind_eq_some_iff.mp h
  obtain ⟨o, ho, h⟩ := Option.bind_eq_some_iff.mp h
  obtain ⟨w, hw, h⟩ := Option.bind_eq_some_iff.mp h
  by_cases c : sk t f w.2 = t
  · rw [if_pos c] at h
    have ed : w.1 = d := Option.some.inj h
    -- inputs
    unfold inP at hn
    obtain ⟨_, _, hn⟩ := Option.bind_eq_some_iff.mp hn
    obtain ⟨v, hv, hn⟩ := Option.bind_eq_some_iff.mp hn
    obtain ⟨_, _, hn⟩ := Option.bind_eq_some_iff.mp hn
    have en : n.1 = v.1 := by rw [← Option.some.inj hn]
    have hin : ¬ inF n.1 1 6 = 0 := by rw [en]; exact tkN_in hv
    -- gates
    obtain ⟨⟨g, g1, g12⟩, g0, g2⟩ := gatesP_inv 12 (g := 0) hq (by rw [pk_un (by omega)]; exact hz1) (by omega)
    rw [pk_us] at g0
    rw [pk_un (by omega), hz2] at g2
    -- outputs
    unfold outP at ho
    obtain ⟨_, _, ho⟩ := Option.bind_eq_some_iff.mp ho
    unfold outsQ at ho
    obtain ⟨p, hp, ho⟩ := Option.bind_eq_some_iff.mp ho
    obtain ⟨_, _, ho⟩ := Option.bind_eq_some_iff.mp ho
    obtain ⟨⟨o2, o21, o27⟩, of⟩ := outsP_inv 7 (o := 0) hp g2 (by omega)
    have eo : o.1 = p.1 := by rw [← Option.some.inj ho]
    -- task
    unfold tskP at hw
    obtain ⟨_, _, hw⟩ := Option.bind_eq_some_iff.mp hw
    unfold taskP at hw
    obtain ⟨k, _, hw⟩ := Option.bind_eq_some_iff.mp hw
    obtain ⟨a, ha, hw⟩ := Option.bind_eq_some_iff.mp hw
    obtain ⟨b, hb, hw⟩ := Option.bind_eq_some_iff.mp hw
    obtain ⟨_, _, hw⟩ := Option.bind_eq_some_iff.mp hw
    have ew : w.1 = endD o.1 (nI (k - 8)) a.1 b.1 := by rw [← Option.some.inj hw]
    have e0 : o.1 0 = n.1 := by rw [eo, of 0 (by omega) (by omega)]; exact g0
    have d0 : d 0 = n.1 := by rw [← ed, ew, endD_hi (by omega)]; exact e0
    have d1 : d 1 = nI g := by rw [← ed, ew, endD_hi (by omega), eo, of 1 (by omega) (by omega)]; exact g1
    have d2 : d 2 = nI o2 := by rw [← ed, ew, endD_hi (by omega), eo]; exact o21
    have ha := tkN_in ha
    have hb := tkN_in hb
    rw [e0] at ha hb
    obtain ⟨N, hN1, hN6, hN⟩ := inF_ok (lo := 1) (hi := 6) (L := 1) (M := 6) rfl rfl (by decide) (by decide) hin
    obtain ⟨P, hP, hP6⟩ := in_p hin ha
    obtain ⟨Q, hQ, hQ6⟩ := in_q hin ha hb
    refine ⟨⟨N, g, o2, P, Q, d0.trans hN, hN6, d1, g12, d2, o27, ?_, hP6, ?_, hQ6⟩, ?_⟩
    · rw [← ed, ew, endD_4]; exact hP
    · rw [← ed, ew, endD_5]; exact hQ
    · unfold thereM
      rw [d0, hN, if_neg (by rw [show (0 : Int32) = nI 0 from rfl, nI_leI (by omega) (by decide)]; omega)]
      decide
  · rw [if_neg c] at h; exact absurd h (by simp)
theorem rc_agree {yI yG yO yK yP yQ : Int32} {k1 k2 k3 k4 d s : Nat → Int32} (h : RC yI yG yO yK yP yQ k1 k2 k3 k4 d) (e : ∀ i, i < 49 → s i = d i) : RC yI yG yO yK yP yQ k1 k2 k3 k4 s := by
  obtain ⟨h0, h1, h2, h3, h4, h5, g, o, hg, ho, e1, e2, ga, go⟩ := h
  refine ⟨by rw [e 0 (by omega)]; exact h0, by rw [e 1 (by omega)]; exact h1, by rw [e 2 (by omega)]; exact h2, by rw [e 3 (by omega)]; exact h3, by rw [e 4 (by omega)]; exact h4, by rw [e 5 (by omega)]; exact h5, g, o, hg, ho, by rw [e 1 (by omega)]; exact e1, by rw [e 2 (by omega)]; exact e2, ?_, ?_⟩
  · intro j hj
    rw [e _ (by omega), e _ (by omega), e _ (by omega)]
    exact ga j hj
  · intro j hj
    rw [e _ (by omega)]
    exact go j hj
theorem th_agree {d s : Nat → Int32} (e : ∀ i, i < 49 → s i = d i) : thereM s = thereM d := by
  unfold thereM
  rw [e 0 (by omega)]
theorem ex_reads {cT cI cG cO cK cP cQ e1 e2 e3 e4 e5 e6 e7 : Int32} {fK fX fY fZ h1 h2 h3 h4 f s z T : Nat → Int32} {t : Nat} (h : EX cT cI cG cO cK cP cQ fK fX fY fZ f) (hok : okM f) (hz1 : z 1 = 0) (hz2 : z 2 = 0) (hc : (∃ d1, allP t T z = some d1 ∧ e1 = 1 ∧ RC e2 e3 e4 e5 e6 e7 h1 h2 h3 h4 d1) ∨ (allP t T z = none ∧ e1 = cT ∧ e2 = cI ∧ e3 = cG ∧ e4 = cO ∧ e5 = cK ∧ e6 = cP ∧ e7 = cQ ∧ h1 = fK ∧ h2 = fX ∧ h3 = fY ∧ h4 = fZ)) (hm : (∃ d, allP t T z = some d ∧ ∀ i, i < 49 → s i = d i) ∨ (allP t T z = none ∧ s = f)) : EX e1 e2 e3 e4 e5 e6 e7 h1 h2 h3 h4 s ∧ okM s := by
  rcases hc with ⟨d1, ha, he, rc⟩ | ⟨ha, a1, a2, a3, a4, a5, a6, a7, b1, b2, b3, b4⟩
  · rcases hm with ⟨d, hb, hs⟩ | ⟨hb, _⟩
    · have ed : d1 = d := Option.some.inj (ha.symm.trans hb)
      subst ed
      obtain ⟨k1, k2⟩ := all_ok ha hz1 hz2
      exact ⟨Or.inr ⟨he, by rw [th_agree hs]; exact k2, rc_agree rc hs⟩, k1.of (fun i hi => hs i (by omega))⟩
    · rw [ha] at hb; exact absurd hb (by simp)
  · rcases hm with ⟨d, hb, _⟩ | ⟨_, hs⟩
    · rw [ha] at hb; exact absurd hb (by simp)
    · subst a1 a2 a3 a4 a5 a6 a7 b1 b2 b3 b4 hs
      exact ⟨h, hok⟩
theorem ty_eq {t : Nat} (ht : t ≤ 120) (x : Int32) : nI (tyM t x) = tyL (nI t) x := by
  have e : (127 : Int32) < x ↔ ¬ x ≤ 127 := Int32.not_le.symm
  have n0 : ¬ nI t < 0 := by
    rw [show (0 : Int32) = nI 0 from rfl, nI_ltI (by omega) (by omega)]
    omega
  unfold tyM tyL inF
  by_cases h1 : x < 0
  · simp [h1]
  · by_cases h2 : x ≤ 127
    · have h3 : ¬ (127 : Int32) < x := fun q => (e.mp q) h2
      rw [if_neg h1, if_neg h1, if_neg h3, if_pos h2, if_neg n0, if_neg (show ¬ (1 : Int32) = 0 by decide)]
      by_cases h4 : t = 120
      · subst h4; rfl
      · have h5 : nI t < 120 := by
          rw [show (120 : Int32) = nI 120 from rfl, nI_ltI (by omega) (by omega)]
          omega
        rw [if_neg h4, if_pos h5]
        exact (nI_1 _).symm
    · have h3 : (127 : Int32) < x := e.mpr h2
      simp [h1, h2, h3]
theorem type_inN {t : Nat} (ht : t ≤ 120) (x : Int32) : typeF (nI t) x = typeM (nI t) x := by
  have e : (127 : Int32) < x ↔ ¬ x ≤ 127 := Int32.not_le.symm
  have n0 : ¬ nI t < 0 := by
    rw [show (0 : Int32) = nI 0 from rfl, nI_ltI (by omega) (by omega)]
    omega
  unfold typeF typeM inF
  by_cases h1 : x < 0
  · simp [h1]
  · by_cases h2 : x ≤ 127
    · have h3 : ¬ (127 : Int32) < x := fun q => (e.mp q) h2
      rw [if_neg h1, if_neg h1, if_neg h3, if_pos h2, if_neg n0, if_neg (show ¬ (1 : Int32) = 0 by decide)]
      by_cases h4 : nI t = 120
      · rw [if_pos h4, h4]; rfl
      · have h5 : nI t < 120 := by
          have := t120 ht h4
          rw [show (120 : Int32) = nI 120 from rfl, nI_ltI (by omega) (by omega)]
          omega
        rw [if_neg h4, if_pos h5]
    · have h3 : (127 : Int32) < x := e.mpr h2
      simp [h1, h2, h3]
theorem adder_in (b : Int32) : adderR b = adderRm b := by
  have e : (3 : Int32) < b ↔ ¬ b ≤ 3 := Int32.not_le.symm
  unfold adderR adderRm inF
  by_cases h1 : b < 1
  · simp [h1]
  · by_cases h2 : b ≤ 3
    · have h3 : ¬ (3 : Int32) < b := fun q => (e.mp q) h2
      simp [h1, h2, h3]
    · have h3 : (3 : Int32) < b := e.mpr h2
      simp [h1, h2, h3]
theorem draw_in (x n g : Int32) : drawR x n g = drawRm x n g := by
  unfold drawR drawRm sizeZ inF
  by_cases h1 : x < 0 <;> by_cases h2 : 999999 < x <;> by_cases h3 : n < 1 <;> by_cases h4 : 6 < n <;> by_cases h5 : g < 1 <;> by_cases h6 : 12 < g <;> simp [h1, h2, h3, h4, h5, h6]
theorem nI_4 (j : Nat) : nI j + Int32.ofInt 4 = nI (j + 4) := by
  rw [show Int32.ofInt 4 = nI 4 by decide]
  exact nI_add j 4
theorem ixL {L : Nat} (k j : Nat) (h : j + k < L) (hL : L < 2 ^ 31) : vp_in (nI j + Int32.ofNat k) L := by
  have e : nI j + Int32.ofNat k = nI (j + k) := nI_add j k
  rw [e]
  exact vp_in_nI h hL
theorem lw_goes {L i : Nat} (hL : L ≤ 2048) (hi : i ≤ 2052) (h : ¬ Int32.ofNat L - 4 < nI i) : i + 4 ≤ L := by
  rcases Nat.lt_or_ge L 4 with q | q
  · exfalso
    apply h
    have e : (Int32.ofNat L - 4).toInt < 0 := by
      rcases (show L = 0 ∨ L = 1 ∨ L = 2 ∨ L = 3 by omega) with rfl | rfl | rfl | rfl <;> decide
    rw [Int32.lt_iff_toInt_lt, nI_toInt (by omega)]
    omega
  · have e : Int32.ofNat L - 4 = nI (L - 4) := pk_sub (a := L) (b := 4) q
    rw [e, nI_ltI (by omega) (by omega)] at h
    omega
theorem ad_there1 {z : Nat → Int32} : ¬ thereM (adD1 z) = 0 := by
  unfold thereM adD1
  simp only [laysF_0, outsF_0, begF_0]
  decide
theorem ad_there2 {z : Nat → Int32} : ¬ thereM (adD2 z) = 0 := by
  unfold thereM adD2
  simp only [laysF_0, outsF_0, begF_0]
  decide
theorem ad_there3 {z : Nat → Int32} : ¬ thereM (adD3 z) = 0 := by
  unfold thereM adD3
  simp only [laysF_0, outsF_0, begF_0]
  decide
theorem ex_adder {cT cI cG cO cK cP cQ e1 e2 e3 e4 e5 e6 e7 b : Int32} {fK fX fY fZ h1 h2 h3 h4 f s : Nat → Int32} (h : EX cT cI cG cO cK cP cQ fK fX fY fZ f) (hc : (adderR b = -2 ∧ e1 = cT ∧ e2 = cI ∧ e3 = cG ∧ e4 = cO ∧ e5 = cK ∧ e6 = cP ∧ e7 = cQ ∧ h1 = fK ∧ h2 = fX ∧ h3 = fY ∧ h4 = fZ) ∨ (¬ adderR b = -2 ∧ e1 = 1 ∧ (b = 1 → ∀ z, RC e2 e3 e4 e5 e6 e7 h1 h2 h3 h4 (adD1 z)) ∧ (b = 2 → ∀ z, RC e2 e3 e4 e5 e6 e7 h1 h2 h3 h4 (adD2 z)) ∧ (b = 3 → ∀ z, RC e2 e3 e4 e5 e6 e7 h1 h2 h3 h4 (adD3 z)))) (hm : (adderRm b = -2 ∧ s = f) ∨ (¬ adderRm b = -2 ∧ (b = 1 → s = adD1 f) ∧ (b = 2 → s = adD2 f) ∧ (b = 3 → s = adD3 f))) : EX e1 e2 e3 e4 e5 e6 e7 h1 h2 h3 h4 s := by
  have ea := adder_in b
  rcases hc with ⟨ha, a1, a2, a3, a4, a5, a6, a7, b1, b2, b3, b4⟩ | ⟨ha, he, r1, r2, r3⟩
  · rcases hm with ⟨_, hs⟩ | ⟨hb, _⟩
    · subst a1 a2 a3 a4 a5 a6 a7 b1 b2 b3 b4 hs
      exact h
    · rw [← ea] at hb; exact absurd ha hb
  · rcases hm with ⟨hb, _⟩ | ⟨hb, s1, s2, s3⟩
    · rw [← ea] at hb; exact absurd hb ha
    · have hb3 : b = 1 ∨ b = 2 ∨ b = 3 := threeM (fun q => hb (by unfold adderRm; rw [if_pos q]))
      rcases hb3 with q | q | q
      · rw [s1 q]; exact Or.inr ⟨he, ad_there1, r1 q f⟩
      · rw [s2 q]; exact Or.inr ⟨he, ad_there2, r2 q f⟩
      · rw [s3 q]; exact Or.inr ⟨he, ad_there3, r3 q f⟩
theorem ex_draw {cT cI cG cO cK cP cQ e1 e2 e3 e4 e5 e6 e7 x n g : Int32} {fK fX fY fZ h1 h2 h3 h4 f s : Nat → Int32} (h : EX cT cI cG cO cK cP cQ fK fX fY fZ f) (hc : (drawR x n g = -2 ∧ e1 = cT ∧ e2 = cI ∧ e3 = cG ∧ e4 = cO ∧ e5 = cK ∧ e6 = cP ∧ e7 = cQ ∧ h1 = fK ∧ h2 = fX ∧ h3 = fY ∧ h4 = fZ) ∨ (¬ drawR x n g = -2 ∧ e1 = 1 ∧ ∀ z, RC e2 e3 e4 e5 e6 e7 h1 h2 h3 h4 (drD x.toInt64 n g z))) (hm : (drawRm x n g = -2 ∧ s = f) ∨ (¬ drawRm x n g = -2 ∧ s = drD x.toInt64 n g f)) : EX e1 e2 e3 e4 e5 e6 e7 h1 h2 h3 h4 s := by
  have ea := draw_in x n g
  rcases hc with ⟨ha, a1, a2, a3, a4, a5, a6, a7, b1, b2, b3, b4⟩ | ⟨ha, he, r1⟩
  · rcases hm with ⟨_, hs⟩ | ⟨hb, _⟩
    · subst a1 a2 a3 a4 a5 a6 a7 b1 b2 b3 b4 hs
      exact h
    · rw [← ea] at hb; exact absurd ha hb
  · rcases hm with ⟨hb, _⟩ | ⟨hb, s1⟩
    · rw [← ea] at hb; exact absurd hb ha
    · rw [s1]
      refine Or.inr ⟨he, ?_, r1 f⟩
      have hn : ¬ inF n 1 6 = 0 := fun q => hb (by
        unfold drawRm
        by_cases z : inF x 0 999999 = 0
        · rw [if_pos z]
        · rw [if_neg z, if_pos q])
      obtain ⟨N, hN1, hN6, hN⟩ := inF_ok (lo := 1) (hi := 6) (L := 1) (M := 6) rfl rfl (by decide) (by decide) hn
      have e0 : drD x.toInt64 n g f 0 = n := by
        unfold drD
        by_cases c : g ≤ 1
        · rw [if_pos c, outsF_0, drB_lo (by omega) (by omega), begF_0]
        · rw [if_neg c, outsF_0, outsF_0, drB_lo (by omega) (by omega), begF_0]
      unfold thereM
      rw [e0, hN, if_neg (by rw [show (0 : Int32) = nI 0 from rfl, nI_leI (by omega) (by decide)]; omega)]
      decide
/-- the text, where a byte is typed -/
def tyT (t : Nat) (f : Nat → Int32) (x : Int32) : Nat → Int32 := if inF x 0 127 = 0 then f else if t = 120 then f else upd f t x
theorem txt_ok {t : Nat} {f : Nat → Int32} {x : Int32} (h : ∀ k, k < t → ¬ f k = -1) : ∀ k, k < tyM t x → ¬ tyT t f x k = -1 := by
  intro k hk
  unfold tyM at hk
  unfold tyT
  by_cases a : inF x 0 127 = 0
  · rw [if_pos a] at hk ⊢; exact h k hk
  · rw [if_neg a] at hk ⊢
    by_cases b : t = 120
    · rw [if_pos b] at hk ⊢; exact h k hk
    · rw [if_neg b] at hk ⊢
      by_cases e : k = t
      · subst e
        rw [pk_us]
        obtain ⟨m, _, h7, hx⟩ := inF_ok (lo := 0) (hi := 127) (L := 0) (M := 127) rfl rfl (by decide) (by decide) a
        rw [hx]; exact nI_nm1 (by omega)
      · rw [pk_un e]; exact h k (by omega)
def tyC (t x : Int32) (f : Nat → Int32) : Nat → Int32 := if x < 0 then f else if x ≤ 127 then apB t x f else f
theorem nar_b8 {x : Int32} (h : ¬ inF x 0 127 = 0) : vp_nar .byte x.toInt8.toInt32 = x := by
  obtain ⟨k, _, h7, hx⟩ := inF_ok (lo := 0) (hi := 127) (L := 0) (M := 127) rfl rfl (by decide) (by decide) h
  subst hx
  have e : ∀ k, k < 128 → vp_nar .byte (nI k).toInt8.toInt32 = nI k := by decide +kernel
  exact e k (by omega)
theorem tyC_eq {t : Nat} {x : Int32} {f : Nat → Int32} (ht : t ≤ 120) : tyC (nI t) x f = tyT t f x := by
  have e : (127 : Int32) < x ↔ ¬ x ≤ 127 := Int32.not_le.symm
  unfold tyC tyT
  by_cases h1 : x < 0
  · rw [if_pos h1, if_pos (show inF x 0 127 = 0 from if_pos h1)]
  · rw [if_neg h1]
    by_cases h2 : x ≤ 127
    · have hi : ¬ inF x 0 127 = 0 := by
        unfold inF
        rw [if_neg h1, if_neg (fun q => (e.mp q) h2)]
        decide
      rw [if_pos h2, if_neg hi]
      unfold apB
      rw [if_neg (by rw [show (0 : Int32) = nI 0 from rfl, nI_ltI (by omega) (by decide)]; omega), nar_b8 hi, nI_clamp (by omega)]
      by_cases h4 : t = 120
      · rw [if_pos h4, if_neg (by rw [show (120 : Int32) = nI 120 from rfl, nI_ltI (by omega) (by decide)]; omega)]
      · rw [if_neg h4, if_pos (by rw [show (120 : Int32) = nI 120 from rfl, nI_ltI (by omega) (by decide)]; omega)]
    · rw [if_neg h2, if_pos (show inF x 0 127 = 0 by unfold inF; rw [if_neg h1, if_pos (e.mpr h2)])]
