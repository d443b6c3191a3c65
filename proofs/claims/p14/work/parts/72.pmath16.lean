/-! ===== gates put right ===== -/
def cuB (f : Nat → Int32) (g o k kind : Nat) : Int32 := if firstW (wqM (upd f (6 + k) (nI kind)) g o) (allN (f 0)) 0 = -1 then (1 : Int32) <<< (nI kind &&& 31) else 0
def cuC (f : Nat → Int32) (k kind : Nat) : Prop := (if nI kind = 0 then 1 else 0 : Int32) = (if f (6 + k) = 0 then 1 else 0 : Int32)
def cu1 (f : Nat → Int32) (g o k kind : Nat) (a : Int32) : Int32 := if (if nI kind = 0 then 1 else 0 : Int32) = (if f (6 + k) = 0 then 1 else 0 : Int32) then a ||| cuB f g o k kind else a
def cuV (f : Nat → Int32) (i : Int32) : Int32 := foldF (cu1 f (f 1).toNatClampNeg (f 2).toNatClampNeg i.toNatClampNeg) 8 0
def cuS (f : Nat → Int32) (i : Int32) : Int32 := if gateM f i = 0 then -2 else if thereM f = 0 then -3 else cuV f i
theorem cu_yes {f : Nat → Int32} {g o k kind : Nat} {a : Int32} (h : cuC f k kind) : cu1 f g o k kind a = a ||| cuB f g o k kind := if_pos h
theorem cu_no {f : Nat → Int32} {g o k kind : Nat} {a : Int32} (h : ¬ cuC f k kind) : cu1 f g o k kind a = a := if_neg h
theorem fillG_as {n k kind : Nat} {fK fX fY : Nat → Int32} {w : Nat → Int64} (hn : n ≤ 6) (hk : k < 12) : ∀ j, j ≤ 12 → fillG (nI n) fK fX fY (nI k) (nI kind) j w = fillG (nI n) (upd fK k (nI kind)) fX fY (-1) (-1) j w
  | 0, _ => rfl
  | j + 1, hj => by
    have ih := fillG_as (kind := kind) (fK := fK) (fX := fX) (fY := fY) (w := w) hn hk j (by omega)
    rw [fillG_step hn (by omega), ← ih]
    show (if nI n + nI j < 0 then _ else if 18 ≤ nI n + nI j then _ else _) = _
    rw [nI_add, if_neg (by rw [show (0 : Int32) = nI 0 from rfl, nI_ltI (by omega) (by decide)]; omega), if_neg (by rw [show (18 : Int32) = nI 18 from rfl, nI_leI (by decide) (by omega)]; omega), nI_clamp (by omega), atF_nI (by omega) (by decide), atF_nI (by omega) (by decide), atF_nI (by omega) (by decide)]
    by_cases e : j = k
    · subst e; rw [if_pos rfl, pk_us]
    · rw [if_neg (fun q => e (nI_inj (by omega) (by omega) q)), pk_un e]
theorem cure_eq {cI cG cO cK cP cQ : Int32} {fK fX fY fZ f : Nat → Int32} {n g o k kind : Nat} {w : Nat → Int64} (wf : WF f n g) (ga : GA fK fX fY f g) (go : GO fZ f o) (ho : o ≤ 7) (wo : WO f n g o) (q0 : cI = f 0) (q1 : cG = nI g) (q2 : cO = nI o) (q3 : cK = f 3) (q4 : cP = f 4) (q5 : cQ = f 5) (hk : k < g) (hc : cuC f k kind) : firstW (fun j => isWrongF (colsF cI cG fK fX fY (nI k) (nI kind) w) cO cK cP cQ fZ (nI j)) (allN cI) 0 = firstW (wqM (upd f (6 + k) (nI kind)) g o) (allN (f 0)) 0 := by
  have hn := wf.2.1
  have hg := wf.2.2.1
  have ea : allN cI = 2 ^ n := by rw [q0, wf.1]; exact allN_n n hn
  have ef : allN (f 0) = 2 ^ n := by rw [wf.1]; exact allN_n n hn
  have wf2 : WF (upd f (6 + k) (nI kind)) n g := WF_kind wf hk hc.symm
  have ga2 : GA (upd fK k (nI kind)) fX fY (upd f (6 + k) (nI kind)) g := fun j hj => by
    obtain ⟨a, b, c⟩ := ga j hj
    refine ⟨?_, by rw [pk_un (by omega)]; exact b, by rw [pk_un (by omega)]; exact c⟩
    by_cases e : j = k
    · subst e; rw [pk_us, pk_us]
    · rw [pk_un e, pk_un (by omega)]; exact a
  have go2 : GO fZ (upd f (6 + k) (nI kind)) o := fun j hj => by rw [pk_un (by omega)]; exact go j hj
  have wo2 : ∀ j, j < o → ∃ s, upd f (6 + k) (nI kind) (42 + j) = nI s ∧ s < n + g := fun j hj => by rw [pk_un (by omega)]; exact wo j hj
  have ec : colsF cI cG fK fX fY (nI k) (nI kind) w = fillG (nI n) (upd fK k (nI kind)) fX fY (-1) (-1) g (fillI n w) := by
    rw [q0, q1, wf.1]
    unfold colsF
    rw [nI_clamp (by omega), nI_clamp (by omega), Nat.min_eq_left hn, fillG_as hn (by omega) g hg]
  rw [ea, ef, ec, q2]
  refine firstW_congr _ 0 (fun j _ hj => ?_)
  exact wq_eq wf2 ga2 go2 ho wo2 (q3.trans (pk_un (by omega)).symm) (q4.trans (pk_un (by omega)).symm) (q5.trans (pk_un (by omega)).symm) (by omega)
theorem EXW.parts {cT cI cG cO cK cP cQ : Int32} {fK fX fY fZ f : Nat → Int32} {gW : Nat → Int64} (h : EXW cT cI cG cO cK cP cQ fK fX fY fZ gW f) (ht : ¬ cT = 0) : cT = 1 ∧ ¬ thereM f = 0 ∧ RC cI cG cO cK cP cQ fK fX fY fZ f ∧ ∃ n g o, f 1 = nI g ∧ f 2 = nI o ∧ o ≤ 7 ∧ WF f n g ∧ WO f n g o ∧ GA fK fX fY f g ∧ GO fZ f o := by
  rcases h with ⟨q, _⟩ | ⟨a, b, rc, n, g, o, w0, e1, e2, ho, wf, wo, hw⟩
  · exact absurd q ht
  · obtain ⟨q0, q1, q2, q3, q4, q5, g', o', hg', ho', e1', e2', ga, go⟩ := id rc
    have eg : g = g' := nI_inj (by have := wf.2.2.1; omega) (by omega) (e1.symm.trans e1')
    have eo : o = o' := nI_inj (by omega) (by omega) (e2.symm.trans e2')
    subst eg eo
    exact ⟨a, b, rc, n, g, o, e1, e2, ho, wf, wo, ga, go⟩
theorem may_c {a : Int32} {f : Nat → Int32} {k kind : Nat} (hk : kind < 8) (ha : a = f (6 + k)) : (mayPutF 1 a (nI kind) = 0 ∧ ¬ cuC f k kind) ∨ (¬ mayPutF 1 a (nI kind) = 0 ∧ cuC f k kind) := by
  unfold mayPutF cuC
  rw [if_neg (show ¬ (1 : Int32) = 0 by decide), in07, if_neg (show ¬ inF (nI kind) 0 7 = 0 by
    unfold inF
    rw [if_neg (nI_pos (by omega)), if_neg (by rw [show (7 : Int32) = nI 7 from rfl, nI_ltI (by decide) (by omega)]; omega)]
    decide), ha]
  by_cases c : (if nI kind = 0 then 1 else 0 : Int32) = (if f (6 + k) = 0 then 1 else 0 : Int32)
  · rw [if_pos c]; exact Or.inr ⟨by decide, c⟩
  · rw [if_neg c]; exact Or.inl ⟨rfl, c⟩
theorem upd_same {a b : Nat → Int32} {k : Nat} {v : Int32} (h : ∀ i, ¬ i = k → a i = b i) : upd a k v = upd b k v := by
  funext i
  by_cases e : i = k
  · subst e; rw [pk_us, pk_us]
  · rw [pk_un e, pk_un e]; exact h i e
theorem cu_start {f : Nat → Int32} {g o k b : Nat} (h : (f (6 + k) = 0 ∧ b = 0) ∨ (¬ f (6 + k) = 0 ∧ b = 1)) : foldF (cu1 f g o k) b 0 = 0 := by
  rcases h with ⟨_, e⟩ | ⟨h, e⟩
  · rw [e]; rfl
  · rw [e]
    show cu1 f g o k 0 0 = 0
    refine cu_no (fun q => ?_)
    unfold cuC at q
    rw [if_pos (show nI 0 = 0 from rfl), if_neg h] at q
    exact absurd q (by decide)
theorem cu_end {f : Nat → Int32} {g o k e : Nat} (h : (f (6 + k) = 0 ∧ e = 1) ∨ (¬ f (6 + k) = 0 ∧ e = 8)) : foldF (cu1 f g o k) e 0 = foldF (cu1 f g o k) 8 0 := by
  rcases h with ⟨h, e1⟩ | ⟨_, e1⟩
  · have st : ∀ m, 1 ≤ m → m < 8 → foldF (cu1 f g o k) (m + 1) 0 = foldF (cu1 f g o k) m 0 := fun m h1 h8 => by
      show cu1 f g o k m (foldF (cu1 f g o k) m 0) = _
      refine cu_no (fun q => ?_)
      unfold cuC at q
      rw [if_neg (nI_ne0 (by omega) (by omega)), if_pos h] at q
      exact absurd q (by decide)
    rw [e1, st 7 (by decide) (by decide), st 6 (by decide) (by decide), st 5 (by decide) (by decide), st 4 (by decide) (by decide), st 3 (by decide) (by decide), st 2 (by decide) (by decide), st 1 (by decide) (by decide)]
  · rw [e1]
theorem cu_in {f : Nat → Int32} {k kind b e : Nat} (h : (f (6 + k) = 0 ∧ b = 0 ∧ e = 1) ∨ (¬ f (6 + k) = 0 ∧ b = 1 ∧ e = 8)) (h1 : b ≤ kind) (h2 : kind < e) : cuC f k kind := by
  unfold cuC
  rcases h with ⟨h, hb, he⟩ | ⟨h, hb, he⟩
  · have : kind = 0 := by omega
    subst this
    rw [if_pos (show nI 0 = 0 from rfl), if_pos h]
  · rw [if_neg (nI_ne0 (by omega) (by omega)), if_neg h]
theorem ex_cures {cT cI cG cO cK cP cQ i : Int32} {fK fX fY fZ f : Nat → Int32} {gW : Nat → Int64} (h : EXW cT cI cG cO cK cP cQ fK fX fY fZ gW f) : (if refusalF cT (isGateF cT cG i) = 0 then cuV f i else refusalF cT (isGateF cT cG i)) = cuS f i := by
  unfold cuS
  rcases h with ⟨h0, ht⟩ | ⟨h0, ht, rc, n, g, o, w0, e1, e2, ho, wf, wo, hw⟩
  · rw [h0, ref_no, if_neg (none_ne _), gate_no ht, if_pos ht]
    unfold noneF
    by_cases a : gateM f i = 0
    · rw [if_pos a]
    · rw [if_neg a]
  · rw [h0, ref_th, gate_th (rc.2.1.trans e1) e1 wf.2.2.1 ht, if_neg ht]
    by_cases a : gateM f i = 0
    · rw [if_pos a, if_pos a, if_neg (by decide)]
    · rw [if_neg a, if_neg a, if_pos rfl]
theorem ref_00 {cT z : Int32} (h : refusalF cT z = 0) : ¬ z = 0 ∧ ¬ cT = 0 := by
  unfold refusalF at h
  by_cases a : z = 0
  · rw [if_pos a] at h; exact absurd h (by decide)
  · rw [if_neg a] at h
    by_cases b : cT = 0
    · rw [if_pos b] at h; exact absurd h (by decide)
    · exact ⟨a, b⟩
theorem may_y {A C : Prop} (h : (A ∧ ¬ C) ∨ (¬ A ∧ C)) (a : ¬ A) : C := by
  rcases h with h | h
  · exact absurd h.1 a
  · exact h.2
theorem may_n {A C : Prop} (h : (A ∧ ¬ C) ∨ (¬ A ∧ C)) (a : A) : ¬ C := by
  rcases h with h | h
  · exact h.2
  · exact absurd a h.1
theorem cu_start2 {f : Nat → Int32} {g o k : Nat} : foldF (cu1 f g o k) (if f (6 + k) = 0 then 0 else 1) 0 = 0 := by
  by_cases c : f (6 + k) = 0
  · exact cu_start (Or.inl ⟨c, if_pos c⟩)
  · exact cu_start (Or.inr ⟨c, if_neg c⟩)
theorem cu_end2 {f : Nat → Int32} {g o k : Nat} : foldF (cu1 f g o k) (if f (6 + k) = 0 then 1 else 8) 0 = foldF (cu1 f g o k) 8 0 := by
  by_cases c : f (6 + k) = 0
  · exact cu_end (Or.inl ⟨c, if_pos c⟩)
  · exact cu_end (Or.inr ⟨c, if_neg c⟩)
theorem cu_in2 {f : Nat → Int32} {k kind : Nat} (h1 : (if f (6 + k) = 0 then 0 else 1) ≤ kind) (h2 : kind < (if f (6 + k) = 0 then 1 else 8)) : cuC f k kind := by
  by_cases c : f (6 + k) = 0
  · exact cu_in (Or.inl ⟨c, if_pos c, if_pos c⟩) h1 h2
  · exact cu_in (Or.inr ⟨c, if_neg c, if_neg c⟩) h1 h2
theorem cu_be {x : Int32} : (if x = 0 then 0 else 1) ≤ (if x = 0 then 1 else 8) ∧ (if x = 0 then 1 else 8) ≤ 8 := by
  by_cases c : x = 0
  · rw [if_pos c, if_pos c]; decide
  · rw [if_neg c, if_neg c]; decide
