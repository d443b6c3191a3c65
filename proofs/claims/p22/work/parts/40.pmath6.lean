/-! ===== the circuits on both sides ===== -/
theorem atF_nI {f : Nat → Int32} {n g : Nat} (h : g < n) (hn : n < 2 ^ 31) : atF f n (nI g) = f g := by
  unfold atF
  have e : nI g < Int32.ofNat n := by
    show nI g < nI n
    rw [nI_ltI (by omega) hn]; exact h
  rw [if_pos ⟨by rw [show (0 : Int32) = nI 0 from rfl, nI_ltI (by omega) (by decide)]; omega, e⟩, nI_clamp (by omega)]
theorem putsF_at {v f : Nat → Int32} {j : Nat} : ∀ {n : Nat}, n ≤ 12 → j < n → putsF v n f j = v j
  | 0, _, h => absurd h (Nat.not_lt_zero j)
  | n + 1, hn, h => by
    show putF (putsF v n f) 12 (nI n) (v n) j = v j
    rw [putF_nI (by omega) (by decide)]
    by_cases e : j = n
    · subst e; exact pk_us
    · rw [pk_un e]; exact putsF_at (by omega) (by omega)
theorem puts7_at {v f : Nat → Int32} {j : Nat} : ∀ {n : Nat}, n ≤ 7 → j < n → puts7 v n f j = v j
  | 0, _, h => absurd h (Nat.not_lt_zero j)
  | n + 1, hn, h => by
    show putF (puts7 v n f) 7 (nI n) (v n) j = v j
    rw [putF_nI (by omega) (by decide)]
    by_cases e : j = n
    · subst e; exact pk_us
    · rw [pk_un e]; exact puts7_at (by omega) (by omega)
theorem rc_become {yI yG yO yK yP yQ : Int32} {k1 k2 k3 k4 d fK fX fY fZ : Nat → Int32} (h : RC yI yG yO yK yP yQ k1 k2 k3 k4 d) : RC yI (nI yG.toNatClampNeg) (nI yO.toNatClampNeg) yK yP yQ (putsF (fun j => atF k1 12 (nI j)) yG.toNatClampNeg fK) (putsF (fun j => atF k2 12 (nI j)) yG.toNatClampNeg fX) (putsF (fun j => atF k3 12 (nI j)) yG.toNatClampNeg fY) (puts7 (fun j => atF k4 7 (nI j)) yO.toNatClampNeg fZ) d := by
  obtain ⟨h0, h1, h2, h3, h4, h5, g, o, hg, ho, e1, e2, ga, go⟩ := h
  have cg : yG.toNatClampNeg = g := by rw [h1, e1]; exact nI_clamp (by omega)
  have co : yO.toNatClampNeg = o := by rw [h2, e2]; exact nI_clamp (by omega)
  rw [cg, co]
  refine ⟨h0, e1.symm, e2.symm, h3, h4, h5, g, o, hg, ho, e1, e2, ?_, ?_⟩
  · intro j hj
    obtain ⟨a, b, c⟩ := ga j hj
    rw [putsF_at hg hj, putsF_at hg hj, putsF_at hg hj]
    refine ⟨?_, ?_, ?_⟩
    · show atF k1 12 (nI j) = _
      rw [atF_nI (by omega) (by decide)]; exact a
    · show atF k2 12 (nI j) = _
      rw [atF_nI (by omega) (by decide)]; exact b
    · show atF k3 12 (nI j) = _
      rw [atF_nI (by omega) (by decide)]; exact c
  · intro j hj
    rw [puts7_at ho hj]
    show atF k4 7 (nI j) = _
    rw [atF_nI (by omega) (by decide)]; exact go j hj
theorem rc_bd {yI yG yO yK yP yQ : Int32} {k1 k2 k3 k4 d : Nat → Int32} (h : RC yI yG yO yK yP yQ k1 k2 k3 k4 d) : yG.toNatClampNeg ≤ 12 ∧ yO.toNatClampNeg ≤ 7 := by
  obtain ⟨h0, h1, h2, h3, h4, h5, g, o, hg, ho, e1, e2, ga, go⟩ := h
  rw [h1, e1, h2, e2, nI_clamp (by omega), nI_clamp (by omega)]
  exact ⟨hg, ho⟩
/-- a circuit being laid, gate by gate -/
def PA (cI cG cO : Int32) (k1 k2 k3 k4 d : Nat → Int32) (g o : Nat) : Prop := cI = d 0 ∧ cG = nI g ∧ d 1 = nI g ∧ cO = nI o ∧ d 2 = nI o ∧ GA k1 k2 k3 d g ∧ GO k4 d o
theorem PA_0 {n t p q : Int32} {k1 k2 k3 k4 z : Nat → Int32} : PA n 0 0 k1 k2 k3 k4 (begF n t p q z) 0 0 := ⟨begF_0.symm, rfl, begF_1, rfl, begF_2, fun j h => absurd h (Nat.not_lt_zero j), fun j h => absurd h (Nat.not_lt_zero j)⟩
theorem laysF_at {d : Nat → Int32} {g : Nat} {k x y : Int32} (hg : g < 12) : laysF d g k x y = upd (upd (upd (upd d (6 + g) k) (18 + g) x) (30 + g) (if k = 0 then -1 else y)) 1 (nI (g + 1)) := rfl
theorem PA_g {cI cG cO k x y y2 : Int32} {k1 k2 k3 k4 d : Nat → Int32} {g o : Nat} (h : PA cI cG cO k1 k2 k3 k4 d g o) (hg : g < 12) (ho : o ≤ 7) (hy : y2 = if k = 0 then -1 else y) : PA cI (cG + 1) cO (putF k1 12 cG k) (putF k2 12 cG x) (putF k3 12 cG y2) k4 (laysF d g k x y) (g + 1) o := by
  obtain ⟨h0, hG, h1, hO, h2, ga, go⟩ := h
  have el : laysF d g k x y = addG d k x y2 := by rw [addG_eq h1 hg, hy]; rfl
  rw [hG]
  refine ⟨by rw [laysF_0]; exact h0, nI_1 _, laysF_1, hO, by rw [laysF_2]; exact h2, ?_, ?_⟩
  · rw [el]; exact GA_add h1 hg ga
  · intro j hj
    rw [go j hj]
    unfold laysF
    rw [pk_un (by omega), pk_un (by omega), pk_un (by omega), pk_un (by omega)]
theorem PA_o {cI cG cO s : Int32} {k1 k2 k3 k4 d : Nat → Int32} {g o : Nat} (h : PA cI cG cO k1 k2 k3 k4 d g o) (hg : g ≤ 12) (ho : o < 7) : PA cI cG (cO + 1) k1 k2 k3 (putF k4 7 cO s) (outsF d o s) g (o + 1) := by
  obtain ⟨h0, hG, h1, hO, h2, ga, go⟩ := h
  have el : outsF d o s = addO d s := by rw [addO_eq h2 (by omega)]; rfl
  rw [hO]
  refine ⟨by rw [outsF_0]; exact h0, hG, by rw [outsF_1]; exact h1, nI_1 _, outsF_2, ?_, ?_⟩
  · rw [el]
    exact GA_of hg ga (fun i h1 h2 => addO_lo h1 h2)
  · rw [el]; exact GO_add h2 ho go
theorem PA_rc {cI cG cO cK cP cQ : Int32} {k1 k2 k3 k4 d : Nat → Int32} {g o : Nat} (h : PA cI cG cO k1 k2 k3 k4 d g o) (hg : g ≤ 12) (ho : o ≤ 7) (h3 : cK = d 3) (h4 : cP = d 4) (h5 : cQ = d 5) : RC cI cG cO cK cP cQ k1 k2 k3 k4 d := by
  obtain ⟨h0, hG, h1, hO, h2, ga, go⟩ := h
  exact ⟨h0, hG.trans h1.symm, hO.trans h2.symm, h3, h4, h5, g, o, hg, ho, h1, h2, ga, go⟩
theorem PA_n {cI cO : Int32} {kv xv yv yw k1 k2 k3 k4 d : Nat → Int32} {o : Nat} (h : PA cI 0 cO k1 k2 k3 k4 d 0 o) (ho : o ≤ 7) (hy : ∀ j, yw j = if kv j = 0 then -1 else yv j) : ∀ n, n ≤ 12 → PA cI (nI n) cO (putsF kv n k1) (putsF xv n k2) (putsF yw n k3) k4 (laysN kv xv yv n d) n o
  | 0, _ => h
  | n + 1, hn => by
    have e := PA_g (k := kv n) (x := xv n) (y := yv n) (y2 := yw n) (PA_n (xv := xv) h ho hy n (by omega)) (by omega) ho (hy n)
    rw [show nI n + 1 = nI (n + 1) from nI_1 _] at e
    exact e
theorem left_rem {x : Int64} {n : Int32} (h : ¬ n ≤ 0) : leftF x n = remM x n.toInt64 := if_neg h
theorem drawK_eq (x : Int64) (j : Nat) : drawKv x j = drawKm x j := by
  unfold drawKv drawKm
  rw [left_rem (by decide)]
  rfl
theorem PA_congr {cI cG cO : Int32} {k1 k2 k3 k4 d e : Nat → Int32} {g o : Nat} (h : PA cI cG cO k1 k2 k3 k4 d g o) (he : d = e) : PA cI cG cO k1 k2 k3 k4 e g o := by
  rw [← he]; exact h
theorem laysN_congr {kv xv yv kw xw yw f : Nat → Int32} : ∀ n, (∀ j, j < n → kv j = kw j ∧ xv j = xw j ∧ (¬ kv j = 0 → yv j = yw j)) → laysN kv xv yv n f = laysN kw xw yw n f
  | 0, _ => rfl
  | n + 1, h => by
    have e := laysN_congr (f := f) n (fun j hj => h j (by omega))
    obtain ⟨a, b, c⟩ := h n (by omega)
    show laysF (laysN kv xv yv n f) n (kv n) (xv n) (yv n) = laysF (laysN kw xw yw n f) n (kw n) (xw n) (yw n)
    rw [e, ← a, ← b]
    unfold laysF
    by_cases q : kv n = 0
    · rw [if_pos q, if_pos q]
    · rw [if_neg q, if_neg q, c q]
theorem PB_g {cI cg k x y y2 : Int32} {k1 k2 k3 k4 d : Nat → Int32} (g o : Nat) (hc : cg = nI g) (hg : g < 12) (ho : o ≤ 7) (hy : y2 = if k = 0 then -1 else y) (h : PA cI (nI g) (nI o) k1 k2 k3 k4 d g o) : PA cI (nI (g + 1)) (nI o) (putF k1 12 cg k) (putF k2 12 cg x) (putF k3 12 cg y2) k4 (laysF d g k x y) (g + 1) o := by
  have e := PA_g (k := k) (x := x) (y := y) (y2 := y2) h hg ho hy
  rw [show nI g + 1 = nI (g + 1) from nI_1 _] at e
  rw [hc]
  exact e
theorem PB_o {cI co s : Int32} {k1 k2 k3 k4 d : Nat → Int32} (g o : Nat) (hc : co = nI o) (hg : g ≤ 12) (ho : o < 7) (h : PA cI (nI g) (nI o) k1 k2 k3 k4 d g o) : PA cI (nI g) (nI (o + 1)) k1 k2 k3 (putF k4 7 co s) (outsF d o s) g (o + 1) := by
  have e := PA_o (s := s) h hg ho
  rw [show nI o + 1 = nI (o + 1) from nI_1 _] at e
  rw [hc]
  exact e
theorem begF_3 {n t p q : Int32} {f : Nat → Int32} : begF n t p q f 3 = t := by
  unfold begF
  rw [pk_un (by omega), pk_un (by omega), pk_us]
theorem laysF_3 {f : Nat → Int32} {j : Nat} {k x y : Int32} : laysF f j k x y 3 = f 3 := laysF_ge (by omega) (by omega)
theorem outsF_3 {f : Nat → Int32} {o : Nat} {x : Int32} : outsF f o x 3 = f 3 := outsF_ge (by omega) (by omega)
theorem fo_yes {r : Int32} {A B : Prop} (h : (r = -1 ∧ A) ∨ (¬ r = -1 ∧ B)) (c : r = -1) : A := by
  rcases h with ⟨_, h⟩ | ⟨h, _⟩
  · exact h
  · exact absurd c h
theorem fo_no {r : Int32} {A B : Prop} (h : (r = -1 ∧ A) ∨ (¬ r = -1 ∧ B)) (c : ¬ r = -1) : B := by
  rcases h with ⟨h, _⟩ | ⟨_, h⟩
  · exact absurd h c
  · exact h
def adD1 (fS : Nat → Int32) : Nat → Int32 := (outsF (laysF (outsF (laysF (begF 2 0 1 1 fS) 0 3 0 1) 0 2) 1 1 0 1) 1 3)
def adD2 (fS : Nat → Int32) : Nat → Int32 := (outsF (laysF (laysF (laysF (outsF (laysF (laysF (laysF (outsF (laysF (begF 4 0 2 2 fS) 0 3 0 2) 0 4) 1 1 0 2) 2 3 1 3) 3 3 6 5) 1 7) 4 1 1 3) 5 1 6 5) 6 2 8 9) 2 10)
def adD3 (fS : Nat → Int32) : Nat → Int32 := (outsF (laysF (laysF (laysF (outsF (laysF (laysF (laysF (laysF (laysF (outsF (laysF (laysF (laysF (outsF (laysF (begF 6 0 3 3 fS) 0 3 0 3) 0 6) 1 1 0 3) 2 3 1 4) 3 3 8 7) 1 9) 4 1 1 4) 5 1 8 7) 6 2 10 11) 7 3 2 5) 8 3 13 12) 2 14) 9 1 2 5) 10 1 13 12) 11 2 15 16) 3 17)
theorem adR1 {k1 k2 k3 k4 z : Nat → Int32} : RC 2 2 2 0 1 1 (putF (putF k1 12 0 3) 12 1 1) (putF (putF k2 12 0 0) 12 1 0) (putF (putF k3 12 0 1) 12 1 1) (putF (putF k4 7 0 2) 7 1 3) (adD1 z) := PA_rc (g := 2) (o := 2) (by unfold adD1; exact (PB_o 2 1 rfl (by decide) (by decide) (PB_g 1 1 rfl (by decide) (by decide) (by decide) (PB_o 1 0 rfl (by decide) (by decide) (PB_g 0 0 rfl (by decide) (by decide) (by decide) PA_0))))) (by decide) (by decide) (by unfold adD1; simp only [laysF_3, laysF_4, laysF_5, outsF_3, outsF_4, outsF_5, begF_3, begF_4, begF_5]) (by unfold adD1; simp only [laysF_3, laysF_4, laysF_5, outsF_3, outsF_4, outsF_5, begF_3, begF_4, begF_5]) (by unfold adD1; simp only [laysF_3, laysF_4, laysF_5, outsF_3, outsF_4, outsF_5, begF_3, begF_4, begF_5])
theorem adR2 {k1 k2 k3 k4 z : Nat → Int32} : RC 4 7 3 0 2 2 (putF (putF (putF (putF (putF (putF (putF k1 12 0 3) 12 1 1) 12 2 3) 12 3 3) 12 4 1) 12 5 1) 12 6 2) (putF (putF (putF (putF (putF (putF (putF k2 12 0 0) 12 1 0) 12 2 1) 12 3 6) 12 4 1) 12 5 6) 12 6 8) (putF (putF (putF (putF (putF (putF (putF k3 12 0 2) 12 1 2) 12 2 3) 12 3 5) 12 4 3) 12 5 5) 12 6 9) (putF (putF (putF k4 7 0 4) 7 1 7) 7 2 10) (adD2 z) := PA_rc (g := 7) (o := 3) (by unfold adD2; exact (PB_o 7 2 rfl (by decide) (by decide) (PB_g 6 2 rfl (by decide) (by decide) (by decide) (PB_g 5 2 rfl (by decide) (by decide) (by decide) (PB_g 4 2 rfl (by decide) (by decide) (by decide) (PB_o 4 1 rfl (by decide) (by decide) (PB_g 3 1 rfl (by decide) (by decide) (by decide) (PB_g 2 1 rfl (by decide) (by decide) (by decide) (PB_g 1 1 rfl (by decide) (by decide) (by decide) (PB_o 1 0 rfl (by decide) (by decide) (PB_g 0 0 rfl (by decide) (by decide) (by decide) PA_0))))))))))) (by decide) (by decide) (by unfold adD2; simp only [laysF_3, laysF_4, laysF_5, outsF_3, outsF_4, outsF_5, begF_3, begF_4, begF_5]) (by unfold adD2; simp only [laysF_3, laysF_4, laysF_5, outsF_3, outsF_4, outsF_5, begF_3, begF_4, begF_5]) (by unfold adD2; simp only [laysF_3, laysF_4, laysF_5, outsF_3, outsF_4, outsF_5, begF_3, begF_4, begF_5])
theorem adR3 {k1 k2 k3 k4 z : Nat → Int32} : RC 6 12 4 0 3 3 (putF (putF (putF (putF (putF (putF (putF (putF (putF (putF (putF (putF k1 12 0 3) 12 1 1) 12 2 3) 12 3 3) 12 4 1) 12 5 1) 12 6 2) 12 7 3) 12 8 3) 12 9 1) 12 10 1) 12 11 2) (putF (putF (putF (putF (putF (putF (putF (putF (putF (putF (putF (putF k2 12 0 0) 12 1 0) 12 2 1) 12 3 8) 12 4 1) 12 5 8) 12 6 10) 12 7 2) 12 8 13) 12 9 2) 12 10 13) 12 11 15) (putF (putF (putF (putF (putF (putF (putF (putF (putF (putF (putF (putF k3 12 0 3) 12 1 3) 12 2 4) 12 3 7) 12 4 4) 12 5 7) 12 6 11) 12 7 5) 12 8 12) 12 9 5) 12 10 12) 12 11 16) (putF (putF (putF (putF k4 7 0 6) 7 1 9) 7 2 14) 7 3 17) (adD3 z) := PA_rc (g := 12) (o := 4) (by unfold adD3; exact (PB_o 12 3 rfl (by decide) (by decide) (PB_g 11 3 rfl (by decide) (by decide) (by decide) (PB_g 10 3 rfl (by decide) (by decide) (by decide) (PB_g 9 3 rfl (by decide) (by decide) (by decide) (PB_o 9 2 rfl (by decide) (by decide) (PB_g 8 2 rfl (by decide) (by decide) (by decide) (PB_g 7 2 rfl (by decide) (by decide) (by decide) (PB_g 6 2 rfl (by decide) (by decide) (by decide) (PB_g 5 2 rfl (by decide) (by decide) (by decide) (PB_g 4 2 rfl (by decide) (by decide) (by decide) (PB_o 4 1 rfl (by decide) (by decide) (PB_g 3 1 rfl (by decide) (by decide) (by decide) (PB_g 2 1 rfl (by decide) (by decide) (by decide) (PB_g 1 1 rfl (by decide) (by decide) (by decide) (PB_o 1 0 rfl (by decide) (by decide) (PB_g 0 0 rfl (by decide) (by decide) (by decide) PA_0))))))))))))))))) (by decide) (by decide) (by unfold adD3; simp only [laysF_3, laysF_4, laysF_5, outsF_3, outsF_4, outsF_5, begF_3, begF_4, begF_5]) (by unfold adD3; simp only [laysF_3, laysF_4, laysF_5, outsF_3, outsF_4, outsF_5, begF_3, begF_4, begF_5]) (by unfold adD3; simp only [laysF_3, laysF_4, laysF_5, outsF_3, outsF_4, outsF_5, begF_3, begF_4, begF_5])
def drB (x : Int64) (n : Int32) (N : Nat) (z : Nat → Int32) : Nat → Int32 := laysN (drawKm x) (drawXm x n) (drawYm x n) N (begF n 0 1 0 z)
def drD (x : Int64) (n g : Int32) (z : Nat → Int32) : Nat → Int32 := if g ≤ 1 then outsF (drB x n g.toNatClampNeg z) 0 (n + g - 1) else outsF (outsF (drB x n g.toNatClampNeg z) 0 (n + g - 1)) 1 (n + g - 2)
theorem drPA {x : Int64} {n : Int32} {nn N : Nat} (hn : n = nI nn) (h1 : 1 ≤ nn) (h6 : nn ≤ 6) (hN : N ≤ 12) {k1 k2 k3 k4 z : Nat → Int32} : PA n (nI N) (nI 0) (putsF (drawKv x) N k1) (putsF (drawXv x n) N k2) (putsF (drawYv x n) N k3) k4 (drB x n N z) N 0 := by
  have hp : ∀ j, j < N → ¬ n + nI j ≤ 0 := fun j hj => by
    rw [hn, nI_add, show (0 : Int32) = nI 0 from rfl, nI_leI (by omega) (by decide)]
    omega
  have e := PA_n (kv := drawKv x) (xv := drawXv x n) (yv := fun j => leftF (drawX x (j + 1) / 32768) (n + nI j)) (yw := drawYv x n) (PA_0 (n := n) (t := 0) (p := 1) (q := 0) (k1 := k1) (k2 := k2) (k3 := k3) (k4 := k4) (z := z)) (by decide) (fun j => rfl) N hN
  refine PA_congr e (laysN_congr N (fun j hj => ⟨drawK_eq x j, ?_, fun _ => ?_⟩))
  · exact left_rem (hp j hj)
  · exact left_rem (hp j hj)
theorem drB_lo {x : Int64} {n : Int32} {N : Nat} {z : Nat → Int32} {i : Nat} (h : i < 6) (h1 : ¬ i = 1) : drB x n N z i = begF n 0 1 0 z i := laysN_ge h h1 N
theorem drR1 {x : Int64} {n g s : Int32} {nn N : Nat} (hn : n = nI nn) (h1 : 1 ≤ nn) (h6 : nn ≤ 6) (hN : N ≤ 12) (hg : g.toNatClampNeg = N) (hc : g ≤ 1) (hs : s = n + g - 1) {k1 k2 k3 k4 z : Nat → Int32} : RC n (nI N) 1 0 1 0 (putsF (drawKv x) N k1) (putsF (drawXv x n) N k2) (putsF (drawYv x n) N k3) (putF k4 7 0 s) (drD x n g z) := by
  unfold drD
  rw [if_pos hc, hg, hs]
  refine PA_rc (g := N) (o := 1) (PB_o N 0 rfl hN (by decide) (drPA hn h1 h6 hN)) hN (by decide) ?_ ?_ ?_
  · rw [outsF_3, drB_lo (by omega) (by omega), begF_3]
  · rw [outsF_4, drB_lo (by omega) (by omega), begF_4]
  · rw [outsF_5, drB_lo (by omega) (by omega), begF_5]
theorem drR2 {x : Int64} {n g s s2 : Int32} {nn N : Nat} (hn : n = nI nn) (h1 : 1 ≤ nn) (h6 : nn ≤ 6) (hN : N ≤ 12) (hg : g.toNatClampNeg = N) (hc : ¬ g ≤ 1) (hs : s = n + g - 1) (hs2 : s2 = n + g - 2) {k1 k2 k3 k4 z : Nat → Int32} : RC n (nI N) 2 0 1 0 (putsF (drawKv x) N k1) (putsF (drawXv x n) N k2) (putsF (drawYv x n) N k3) (putF (putF k4 7 0 s) 7 1 s2) (drD x n g z) := by
  unfold drD
  rw [if_neg hc, hg, hs, hs2]
  refine PA_rc (g := N) (o := 2) (PB_o N 1 rfl hN (by decide) (PB_o N 0 rfl hN (by decide) (drPA hn h1 h6 hN))) hN (by decide) ?_ ?_ ?_
  · rw [outsF_3, outsF_3, drB_lo (by omega) (by omega), begF_3]
  · rw [outsF_4, outsF_4, drB_lo (by omega) (by omega), begF_4]
  · rw [outsF_5, outsF_5, drB_lo (by omega) (by omega), begF_5]
theorem sizeZ_n {n g : Int32} (h : ¬ sizeZ n g = 0) : ∃ k : Nat, 1 ≤ k ∧ k ≤ 6 ∧ n = nI k := by
  unfold sizeZ at h
  by_cases h1 : n < 1
  · rw [if_pos h1] at h; exact absurd rfl h
  · rw [if_neg h1] at h
    by_cases h2 : 6 < n
    · rw [if_pos h2] at h; exact absurd rfl h
    · exact inF_ok (lo := 1) (hi := 6) (L := 1) (M := 6) rfl rfl (by decide) (by decide) (by
        unfold inF
        rw [if_neg h1, if_neg h2]
        decide)
theorem nI_nm2 {k : Nat} (hk : k < 2 ^ 31) : ¬ nI k = -2 := fun e => by
  have : (nI k).toInt = (-2 : Int32).toInt := by rw [e]
  rw [nI_toInt hk, show (-2 : Int32).toInt = -2 by decide] at this
  omega
theorem drD1 {x : Int64} {n g : Int32} {N : Nat} {z : Nat → Int32} (hg : g.toNatClampNeg = N) (hc : g ≤ 1) : drD x n g z = outsF (laysN (drawKm x) (drawXm x n) (drawYm x n) N (begF n 0 1 0 z)) 0 (n + g - 1) := by
  unfold drD
  rw [if_pos hc, hg]
  rfl
theorem drD2 {x : Int64} {n g : Int32} {N : Nat} {z : Nat → Int32} (hg : g.toNatClampNeg = N) (hc : ¬ g ≤ 1) : drD x n g z = outsF (outsF (laysN (drawKm x) (drawXm x n) (drawYm x n) N (begF n 0 1 0 z)) 0 (n + g - 1)) 1 (n + g - 2) := by
  unfold drD
  rw [if_neg hc, hg]
  rfl
