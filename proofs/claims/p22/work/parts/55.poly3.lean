theorem inner_ev {kk x y g z s : Int32} {c : Int} (hs : inS s) (hx : inS x) (hy : inS y) : sumL allS (fun t => if t &&& ~~~z = 0 then rpc kk x y g s c t else 0) = if s &&& g = 0 then (if s &&& ~~~z = 0 then c else 0) else (if (s &&& ~~~g) &&& ~~~z = 0 then c * tc3 kk else 0) + (if ((s &&& ~~~g) ||| x) &&& ~~~z = 0 then c * tc4 kk else 0) + (if ((s &&& ~~~g) ||| y) &&& ~~~z = 0 then c * tc5 kk else 0) + (if ((s &&& ~~~g) ||| x ||| y) &&& ~~~z = 0 then c * tc6 kk else 0) := by
  by_cases h : s &&& g = 0
  · rw [if_pos h, ← sumL_dl (v := c) hs]
    refine sumL_congr (fun t _ => ?_)
    unfold rpc
    rw [if_pos h]
  · have hA : inS (s &&& ~~~g) := inS_and hs
    rw [if_neg h, ← sumL_dl (v := c * tc3 kk) hA, ← sumL_dl (v := c * tc4 kk) (inS_or hA hx), ← sumL_dl (v := c * tc5 kk) (inS_or hA hy), ← sumL_dl (v := c * tc6 kk) (inS_or (inS_or hA hx) hy), ← sumL_add, ← sumL_add, ← sumL_add]
    refine sumL_congr (fun t _ => ?_)
    unfold rpc
    rw [if_neg h]
    by_cases w : t &&& ~~~z = 0
    · simp only [if_pos w]
    · simp only [if_neg w]; rfl
theorem mul4 (c p q r s : Int) (a b : Bool) : c * p + (if a = true then c * q else 0) + (if b = true then c * r else 0) + (if (a && b) = true then c * s else 0) = c * (p + (if a = true then q else 0) + (if b = true then r else 0) + (if (a && b) = true then s else 0)) := by
  cases a <;> cases b <;> simp [Int.mul_add]
theorem Ev_swap {kk x y g z : Int32} {P : Int32 → Int} : EvP (nxP kk x y g P) z = sumL allS (fun s => sumL allS (fun t => if t &&& ~~~z = 0 then rpc kk x y g s (P s) t else 0)) := by
  refine Eq.trans ?_ (sumL_swap (fun s t => if t &&& ~~~z = 0 then rpc kk x y g s (P s) t else 0) allS allS).symm
  unfold EvP nxP
  refine sumL_congr (fun t _ => ?_)
  by_cases w : t &&& ~~~z = 0
  · rw [if_pos w]; exact sumL_congr (fun s _ => (if_pos w).symm)
  · rw [if_neg w, sumL_congr (k := fun _ => 0) (fun s _ => if_neg w), sumL_zero]
theorem set_lo {s z : Int32} {G : Nat} (hG : G < 18) (h : bI s G = false) : (s &&& ~~~(z ||| bitI G) = 0 ↔ s &&& ~~~z = 0) ∧ (s &&& ~~~(z &&& ~~~(bitI G)) = 0 ↔ s &&& ~~~z = 0) := by
  rw [sub_iff, sub_iff, sub_iff]
  refine ⟨⟨fun q i hi => ?_, fun q i hi => ?_⟩, ⟨fun q i hi => ?_, fun q i hi => ?_⟩⟩
  · have e := q i hi
    rw [bI_or, bI_bit hG] at e
    have ne : ¬ i = G := fun w => by rw [w, h] at hi; exact absurd hi (by decide)
    simpa [ne] using e
  · rw [bI_or, q i hi]; rfl
  · have e := q i hi
    rw [bI_and] at e
    exact (Bool.and_eq_true_iff.mp e).1
  · have ne : ¬ i = G := fun w => by rw [w, h] at hi; exact absurd hi (by decide)
    have l : i < 32 := by
      rcases Nat.lt_or_ge i 32 with w | w
      · exact w
      · rw [bI_ge w] at hi; exact absurd hi (by decide)
    rw [bI_and, q i hi, bI_not _ l, bI_bit hG]
    simp [ne]
theorem set_hi {s z : Int32} {G : Nat} (hG : G < 18) (h : bI s G = true) : (s &&& ~~~(z ||| bitI G) = 0 ↔ (s &&& ~~~(bitI G)) &&& ~~~z = 0) ∧ ¬ s &&& ~~~(z &&& ~~~(bitI G)) = 0 := by
  rw [sub_iff, sub_iff, sub_iff]
  refine ⟨⟨fun q i hi => ?_, fun q i hi => ?_⟩, fun q => ?_⟩
  · have l : i < 32 := by
      rcases Nat.lt_or_ge i 32 with w | w
      · exact w
      · rw [bI_ge w] at hi; exact absurd hi (by decide)
    rw [bI_and, bI_not _ l, bI_bit hG] at hi
    have h2 := Bool.and_eq_true_iff.mp hi
    have e := q i h2.1
    rw [bI_or, bI_bit hG] at e
    have ne : ¬ i = G := fun w => by
      have := h2.2
      simp [w] at this
    simpa [ne] using e
  · rw [bI_or, bI_bit hG]
    by_cases w : i = G
    · simp [w]
    · have l : i < 32 := by
        rcases Nat.lt_or_ge i 32 with v | v
        · exact v
        · rw [bI_ge v] at hi; exact absurd hi (by decide)
      rw [q i (by rw [bI_and, hi, bI_not _ l, bI_bit hG]; simp [w])]; rfl
  · have e := q G h
    rw [bI_and, bI_not _ (by omega), bI_bit hG] at e
    simp at e
theorem Ev_nxt {k G : Nat} {x y z : Int32} {P : Int32 → Int} (hk : k < 8) (hG : G < 18) (hx : inS x) (hy : inS y) : ∃ z2, EvP (nxP (nI k) x y (bitI G) P) z = EvP P z2 := by
  have hv := tv_ok k hk (decide (x &&& ~~~z = 0)) (decide (y &&& ~~~z = 0))
  rw [Ev_swap]
  have key : ∀ s, inS s → ¬ s &&& bitI G = 0 → (s &&& ~~~(bitI G)) &&& ~~~z = 0 → sumL allS (fun t => if t &&& ~~~z = 0 then rpc (nI k) x y (bitI G) s (P s) t else 0) = P s * (tc3 (nI k) + (if decide (x &&& ~~~z = 0) = true then tc4 (nI k) else 0) + (if decide (y &&& ~~~z = 0) = true then tc5 (nI k) else 0) + (if (decide (x &&& ~~~z = 0) && decide (y &&& ~~~z = 0)) = true then tc6 (nI k) else 0)) := by
    intro s hs h0 hA
    have c1 : (((s &&& ~~~(bitI G)) ||| x) &&& ~~~z = 0) = (decide (x &&& ~~~z = 0) = true) := propext (by rw [sub_or]; simp [hA])
    have c2 : (((s &&& ~~~(bitI G)) ||| y) &&& ~~~z = 0) = (decide (y &&& ~~~z = 0) = true) := propext (by rw [sub_or]; simp [hA])
    have c3 : (((s &&& ~~~(bitI G)) ||| x ||| y) &&& ~~~z = 0) = ((decide (x &&& ~~~z = 0) && decide (y &&& ~~~z = 0)) = true) := propext (by rw [sub_or, sub_or]; simp [hA])
    rw [inner_ev hs hx hy, if_neg h0, if_pos hA, ← mul4]
    simp only [c1, c2, c3]
  have zero : ∀ s, inS s → ¬ s &&& bitI G = 0 → ¬ (s &&& ~~~(bitI G)) &&& ~~~z = 0 → sumL allS (fun t => if t &&& ~~~z = 0 then rpc (nI k) x y (bitI G) s (P s) t else 0) = 0 := by
    intro s hs h0 hA
    rw [inner_ev hs hx hy, if_neg h0, if_neg hA, if_neg (fun q => hA (sub_or.mp q).1), if_neg (fun q => hA (sub_or.mp q).1), if_neg (fun q => hA (sub_or.mp (sub_or.mp q).1).1)]
    rfl
  rcases hv with hv | hv
  · refine ⟨z &&& ~~~(bitI G), sumL_congr (fun s hs => ?_)⟩
    have hs := mem_allS.mp hs
    by_cases h0 : s &&& bitI G = 0
    · have b := (set_lo (z := z) hG ((and_bit hG).mp h0)).2
      rw [inner_ev hs hx hy, if_pos h0]
      by_cases w : s &&& ~~~z = 0
      · rw [if_pos w, if_pos (b.mpr w)]
      · rw [if_neg w, if_neg (fun q => w (b.mp q))]
    · have bt : bI s G = true := by
        cases c : bI s G
        · exact absurd ((and_bit hG).mpr c) h0
        · rfl
      rw [if_neg (set_hi (z := z) hG bt).2]
      by_cases hA : (s &&& ~~~(bitI G)) &&& ~~~z = 0
      · rw [key s hs h0 hA, hv, Int.mul_zero]
      · exact zero s hs h0 hA
  · refine ⟨z ||| bitI G, sumL_congr (fun s hs => ?_)⟩
    have hs := mem_allS.mp hs
    by_cases h0 : s &&& bitI G = 0
    · have b := (set_lo (z := z) hG ((and_bit hG).mp h0)).1
      rw [inner_ev hs hx hy, if_pos h0]
      by_cases w : s &&& ~~~z = 0
      · rw [if_pos w, if_pos (b.mpr w)]
      · rw [if_neg w, if_neg (fun q => w (b.mp q))]
    · have bt : bI s G = true := by
        cases c : bI s G
        · exact absurd ((and_bit hG).mpr c) h0
        · rfl
      have b := (set_hi (z := z) hG bt).1
      by_cases hA : (s &&& ~~~(bitI G)) &&& ~~~z = 0
      · rw [key s hs h0 hA, hv, Int.mul_one, if_pos (b.mpr hA)]
      · rw [zero s hs h0 hA, if_neg (fun q => hA (b.mp q))]
theorem sup_nxt {kk x y g : Int32} {P : Int32 → Int} (hx : inS x) (hy : inS y) : supP (nxP kk x y g P) := by
  intro t ht
  by_cases q : inS t
  · exact q
  · exfalso
    apply ht
    show sumL allS (fun s => rpc kk x y g s (P s) t) = 0
    rw [sumL_congr (k := fun _ => 0), sumL_zero]
    intro s hs
    have hs := mem_allS.mp hs
    have hA : inS (s &&& ~~~g) := inS_and hs
    have n0 : ¬ t = s := fun e => q (e ▸ hs)
    have n1 : ¬ t = s &&& ~~~g := fun e => q (e ▸ hA)
    have n2 : ¬ t = (s &&& ~~~g) ||| x := fun e => q (e ▸ inS_or hA hx)
    have n3 : ¬ t = (s &&& ~~~g) ||| y := fun e => q (e ▸ inS_or hA hy)
    have n4 : ¬ t = (s &&& ~~~g) ||| x ||| y := fun e => q (e ▸ inS_or (inS_or hA hx) hy)
    unfold rpc
    simp only [if_neg n0, if_neg n1, if_neg n2, if_neg n3, if_neg n4]
    by_cases h : s &&& g = 0
    · rw [if_pos h]
    · rw [if_neg h]; rfl
/-- terms that agree on the first bits, and are among z on the others -/
def cnd (s0 z t : Int32) (j : Nat) : Prop := (∀ i, i < j → bI t i = bI s0 i) ∧ (∀ i, j ≤ i → bI t i = true → bI z i = true)
noncomputable def icl (p : Prop) (v : Int) : Int := @ite Int p (Classical.propDecidable p) v 0
theorem icl_pos {p : Prop} {v : Int} (h : p) : icl p v = v := @if_pos p (Classical.propDecidable p) h Int v 0
theorem icl_neg {p : Prop} {v : Int} (h : ¬ p) : icl p v = 0 := @if_neg p (Classical.propDecidable p) h Int v 0
noncomputable def Gm (P : Int32 → Int) (s0 : Int32) (j : Nat) (z : Int32) : Int := sumL allS (fun t => icl (cnd s0 z t j) (P t))
theorem Gm_0 {P : Int32 → Int} {s0 z : Int32} : Gm P s0 0 z = EvP P z := by
  unfold Gm EvP
  refine sumL_congr (fun t _ => ?_)
  by_cases h : t &&& ~~~z = 0
  · rw [if_pos h, icl_pos ⟨fun i hi => absurd hi (Nat.not_lt_zero i), fun i _ hb => sub_iff.mp h i hb⟩]
  · rw [if_neg h, icl_neg (fun q => h (sub_iff.mpr (fun i hb => q.2 i (Nat.zero_le i) hb)))]
theorem bI_up {z : Int32} {j i : Nat} (hj : j < 18) : bI (z ||| bitI j) i = (bI z i || decide (i = j)) := by
  rw [bI_or, bI_bit hj]
theorem bI_dn {z : Int32} {j i : Nat} (hj : j < 18) : bI (z &&& ~~~(bitI j)) i = (bI z i && !decide (i = j)) := by
  rw [bI_and]
  by_cases l : i < 32
  · rw [bI_not _ l, bI_bit hj]
  · rw [bI_ge (show 32 ≤ i by omega)]; rfl
theorem Gm_t {P : Int32 → Int} {s0 z : Int32} {j : Nat} (hj : j < 18) (hb : bI s0 j = true) : Gm P s0 (j + 1) z + Gm P s0 j (z &&& ~~~(bitI j)) = Gm P s0 j (z ||| bitI j) := by
  unfold Gm
  rw [← sumL_add]
  refine sumL_congr (fun t _ => ?_)
  by_cases h : cnd s0 (z ||| bitI j) t j
  · rw [icl_pos h]
    by_cases w : bI t j = true
    · have c1 : cnd s0 z t (j + 1) := ⟨fun i hi => by
        by_cases e : i = j
        · rw [e, w, hb]
        · exact h.1 i (by omega), fun i hi hbt => by
        have q := h.2 i (by omega) hbt
        rw [bI_up hj] at q
        have ne : ¬ i = j := by omega
        simpa [ne] using q⟩
      have c2 : ¬ cnd s0 (z &&& ~~~(bitI j)) t j := fun q => by
        have e := q.2 j (Nat.le_refl j) w
        rw [bI_dn hj] at e
        simp at e
      rw [icl_pos c1, icl_neg c2, Int.add_zero]
    · have c1 : ¬ cnd s0 z t (j + 1) := fun q => w (by rw [q.1 j (by omega)]; exact hb)
      have c2 : cnd s0 (z &&& ~~~(bitI j)) t j := ⟨h.1, fun i hi hbt => by
        have q := h.2 i hi hbt
        have ne : ¬ i = j := fun e => w (by rw [← e]; exact hbt)
        rw [bI_up hj] at q
        rw [bI_dn hj]
        simpa [ne] using q⟩
      rw [icl_neg c1, icl_pos c2, Int.zero_add]
  · have c1 : ¬ cnd s0 z t (j + 1) := fun q => h ⟨fun i hi => q.1 i (by omega), fun i hi hbt => by
      rw [bI_up hj]
      by_cases e : i = j
      · simp [e]
      · rw [q.2 i (by omega) hbt]; rfl⟩
    have c2 : ¬ cnd s0 (z &&& ~~~(bitI j)) t j := fun q => h ⟨q.1, fun i hi hbt => by
      have e := q.2 i hi hbt
      rw [bI_dn hj] at e
      rw [bI_up hj, (Bool.and_eq_true_iff.mp e).1]; rfl⟩
    rw [icl_neg h, icl_neg c1, icl_neg c2]; rfl
theorem Gm_f {P : Int32 → Int} {s0 z : Int32} {j : Nat} (hj : j < 18) (hb : bI s0 j = false) : Gm P s0 (j + 1) z = Gm P s0 j (z &&& ~~~(bitI j)) := by
  unfold Gm
  refine sumL_congr (fun t _ => ?_)
  by_cases h : cnd s0 z t (j + 1)
  · have c : cnd s0 (z &&& ~~~(bitI j)) t j := ⟨fun i hi => h.1 i (by omega), fun i hi hbt => by
      have ne : ¬ i = j := fun e => by
        have q := h.1 j (by omega)
        rw [← e, hbt, e, hb] at q
        exact absurd q (by decide)
      rw [bI_dn hj, h.2 i (by omega) hbt]
      simp [ne]⟩
    rw [icl_pos h, icl_pos c]
  · have c : ¬ cnd s0 (z &&& ~~~(bitI j)) t j := fun q => h ⟨fun i hi => by
      by_cases e : i = j
      · rw [e, hb]
        cases w : bI t j
        · rfl
        · have := q.2 j (Nat.le_refl j) w
          rw [bI_dn hj] at this
          simp at this
      · exact q.1 i (by omega), fun i hi hbt => by
      have e := q.2 i (by omega) hbt
      rw [bI_dn hj] at e
      exact (Bool.and_eq_true_iff.mp e).1⟩
    rw [icl_neg h, icl_neg c]
def Bm (V : Int) : Nat → Int
  | 0 => V
  | j + 1 => 2 * Bm V j
theorem Gm_bd {P : Int32 → Int} {s0 : Int32} {V : Int} (h0 : 0 ≤ V) (h : ∀ z, -V ≤ EvP P z ∧ EvP P z ≤ V) : ∀ j, j ≤ 18 → 0 ≤ Bm V j ∧ ∀ z, -(Bm V j) ≤ Gm P s0 j z ∧ Gm P s0 j z ≤ Bm V j
  | 0, _ => ⟨h0, fun z => by rw [Gm_0]; exact h z⟩
  | j + 1, hj => by
    obtain ⟨b0, ih⟩ := Gm_bd h0 h (P := P) (s0 := s0) j (by omega)
    have eb : Bm V (j + 1) = 2 * Bm V j := rfl
    refine ⟨by omega, fun z => ?_⟩
    cases c : bI s0 j
    · rw [Gm_f (by omega) c]
      have := ih (z &&& ~~~(bitI j))
      omega
    · have e := Gm_t (P := P) (z := z) (show j < 18 by omega) c
      have a := ih (z &&& ~~~(bitI j))
      have b := ih (z ||| bitI j)
      omega
theorem Gm_18 {P : Int32 → Int} {s0 : Int32} (hs : inS s0) : Gm P s0 18 0 = P s0 := by
  unfold Gm
  rw [sumL_congr (k := fun t => if t = s0 then P s0 else 0)]
  · exact sumL_delta allS_nodup (mem_allS.mpr hs)
  · intro t ht
    have ht := mem_allS.mp ht
    by_cases e : t = s0
    · rw [if_pos e, e]
      exact icl_pos ⟨fun _ _ => rfl, fun i hi hb => by rw [hs i hi] at hb; exact absurd hb (by decide)⟩
    · rw [if_neg e]
      refine icl_neg (fun q => e (bI_inj (fun i _ => ?_)))
      by_cases w : i < 18
      · exact q.1 i w
      · rw [ht i (by omega), hs i (by omega)]
theorem Ev_Bd {P : Int32 → Int} (sp : supP P) (h : ∀ z, -8191 ≤ EvP P z ∧ EvP P z ≤ 8191) : BdP P := by
  intro t
  by_cases q : inS t
  · have b := (Gm_bd (s0 := t) (V := 8191) (by decide) h 18 (Nat.le_refl 18)).2 0
    rw [Gm_18 q] at b
    have e : Bm 8191 18 = 2147221504 := by decide
    rw [e] at b
    omega
  · have : P t = 0 := by
      by_cases w : P t = 0
      · exact w
      · exact absurd (sp t w) q
    omega
