/-! ===== the terms of a stage, in order, as words ===== -/
theorem R64.to32 {n : Nat} {S : Nat → Int32} {D : Nat → Int64} {P : Int32 → Int} (hb : BdP P) (r : R64 n S D P) : R32 n S (fun j => Int32.ofInt (P (S j))) P := by
  have z1 : ∀ t, Int32.ofInt (P t) = 0 ↔ P t = 0 := fun t => of32_0 (by have := (hb t).1; omega) (hb t).2
  have z2 : ∀ t, Int64.ofInt (P t) = 0 ↔ P t = 0 := fun t => of64_0 (by have := (hb t).1; omega) (hb t).2
  refine ⟨r.1, fun j hj => ⟨rfl, fun q => ?_⟩, fun t ht => r.2.2 t (fun q => ht ((z1 t).mpr ((z2 t).mp q)))⟩
  exact (r.2.1 j hj).2 (by rw [(r.2.1 j hj).1]; exact (z2 _).mpr ((z1 _).mp q))
noncomputable def cnt (P : Int32 → Int) : Nat := @dite Nat (∃ n S C, R32 n S C P) (Classical.propDecidable _) (fun h => Classical.choose h) (fun _ => 0)
noncomputable def cset (P : Int32 → Int) : Nat → Int32 := @dite (Nat → Int32) (∃ S n C, R32 n S C P) (Classical.propDecidable _) (fun h => Classical.choose h) (fun _ => fun _ => 0)
theorem cnt_eq {n : Nat} {S C : Nat → Int32} {P : Int32 → Int} (r : R32 n S C P) : cnt P = n := by
  have h : ∃ n S C, R32 n S C P := ⟨n, S, C, r⟩
  unfold cnt
  rw [@dif_pos _ (Classical.propDecidable _) h]
  obtain ⟨S2, C2, r2⟩ := Classical.choose_spec h
  exact R32_same r2 r
theorem R32_sets {n m : Nat} {S C T D : Nat → Int32} {P : Int32 → Int} (a : R32 n S C P) (b : R32 m T D P) : ∀ j, j < n → S j = T j := by
  have s1 : ∀ j, j < n → ∃ i, i < m ∧ T i = S j := fun j hj => b.2.2 (S j) (fun q => (a.2.1 j hj).2 ((a.2.1 j hj).1.trans q))
  have s2 : ∀ j, j < m → ∃ i, i < n ∧ S i = T j := fun j hj => a.2.2 (T j) (fun q => (b.2.1 j hj).2 ((b.2.1 j hj).1.trans q))
  exact fun j hj => (desc_uniq a.1 b.1 s1 s2 j hj).2
theorem cset_eq {n : Nat} {S C : Nat → Int32} {P : Int32 → Int} (r : R32 n S C P) : ∀ j, j < n → S j = cset P j := by
  have h : ∃ S n C, R32 n S C P := ⟨S, n, C, r⟩
  unfold cset
  rw [@dif_pos _ (Classical.propDecidable _) h]
  obtain ⟨n2, C2, r2⟩ := Classical.choose_spec h
  exact R32_sets r r2
def gf (f : Nat → Int32) : Nat := (f 1).toNatClampNeg
def of_ (f : Nat → Int32) : Nat := (f 2).toNatClampNeg
def pf_ (f : Nat → Int32) : Nat := (f 4).toNatClampNeg
def qf_ (f : Nat → Int32) : Nat := (f 5).toNatClampNeg
def PQ (f : Nat → Int32) (k : Nat) : Int32 → Int := PK f (gf f) (of_ f) (pf_ f) (qf_ f) k
def fullB (f : Nat → Int32) (k : Nat) : Prop := ∃ j, j ≤ k ∧ 40 < cnt (PQ f j)
noncomputable def stV (f : Nat → Int32) (k : Nat) (v : Int32) : Int32 := @ite Int32 (fullB f k) (Classical.propDecidable _) (-4) v
theorem stV_full {f : Nat → Int32} {k : Nat} {v : Int32} (h : fullB f k) : stV f k v = -4 := @if_pos _ (Classical.propDecidable _) h Int32 _ _
theorem stV_fits {f : Nat → Int32} {k : Nat} {v : Int32} (h : ¬ fullB f k) : stV f k v = v := @if_neg _ (Classical.propDecidable _) h Int32 _ _
/-- a circuit as told -/
def WK (f : Nat → Int32) : Prop := ∃ n, f 0 = nI n ∧ f 1 = nI (gf f) ∧ f 2 = nI (of_ f) ∧ f 4 = nI (pf_ f) ∧ f 5 = nI (qf_ f) ∧ of_ f ≤ 7 ∧ pf_ f ≤ 6 ∧ qf_ f ≤ 6 ∧ WF f n (gf f) ∧ WO f n (gf f) (of_ f) ∧ KD f (gf f)
theorem WK.bd {f : Nat → Int32} (h : WK f) {k : Nat} (hk : k ≤ gf f) : BdP (PQ f k) ∧ supP (PQ f k) := by
  obtain ⟨n, _, _, _, _, _, ho, hp, hq, wf, wo, kd⟩ := h
  exact PK_Bd wf ho hp hq wo kd hk
theorem WK.g12 {f : Nat → Int32} (h : WK f) : gf f ≤ 12 := by
  obtain ⟨n, _, _, _, _, _, ho, hp, hq, wf, wo, kd⟩ := h
  exact wf.2.2.1
/-- the class's circuit, columns and stages beside the reference's circuit -/
def EXS (cT cI cG cO cK cP cQ : Int32) (fK fX fY fZ : Nat → Int32) (gW : Nat → Int64) (sN sB : Int32) (a b c f : Nat → Int32) : Prop := EXW cT cI cG cO cK cP cQ fK fX fY fZ gW f ∧ (¬ cT = 0 → WK f ∧ ∃ sk, sN = nI sk ∧ SK f (gf f) (of_ f) (pf_ f) (qf_ f) sk sB a b c)
theorem EXS.there {cT cI cG cO cK cP cQ sN sB : Int32} {fK fX fY fZ a b c f : Nat → Int32} {gW : Nat → Int64} (h : EXS cT cI cG cO cK cP cQ fK fX fY fZ gW sN sB a b c f) (ht : ¬ cT = 0) : cT = 1 ∧ ¬ thereM f = 0 ∧ cI = f 0 ∧ cG = nI (gf f) ∧ cO = nI (of_ f) ∧ cK = f 3 ∧ cP = nI (pf_ f) ∧ cQ = nI (qf_ f) ∧ GA fK fX fY f (gf f) ∧ GO fZ f (of_ f) ∧ WK f ∧ ∃ sk, sN = nI sk ∧ SK f (gf f) (of_ f) (pf_ f) (qf_ f) sk sB a b c := by
  have e := h.2 ht
  rcases h.1 with ⟨q, _⟩ | ⟨h1, h2, rc, _⟩
  · exact absurd q ht
  · obtain ⟨q0, q1, q2, q3, q4, q5, g', o', hg', ho', e1', e2', ga, go⟩ := rc
    have wk := e.1
    obtain ⟨n, w0, w1, w2, w4, w5, _⟩ := wk
    have eg : g' = gf f := by unfold gf; rw [e1', nI_clamp (by omega)]
    have eo : o' = of_ f := by unfold of_; rw [e2', nI_clamp (by omega)]
    rw [eg] at ga
    rw [eo] at go
    exact ⟨h1, h2, q0, q1.trans w1, q2.trans w2, q3, q4.trans w4, q5.trans w5, ga, go, e.1, e.2⟩
theorem SK.full_iff {f a b c : Nat → Int32} {sk k : Nat} {sB : Int32} (h : SK f (gf f) (of_ f) (pf_ f) (qf_ f) sk sB a b c) : (k < sk → ¬ fullB f k) ∧ (sk ≤ k → sB = 1 → fullB f k) := by
  constructor
  · intro hk ⟨j, hj, h40⟩
    obtain ⟨m, m40, _, r⟩ := h.2.1 j (by omega)
    have : cnt (PQ f j) = m := cnt_eq r
    omega
  · intro hk hB
    rcases h.2.2 with w | ⟨_, _, m, S, C, h40, r⟩
    · rw [hB] at w; exact absurd w (by decide)
    · have : cnt (PQ f sk) = m := cnt_eq r
      exact ⟨sk, hk, by omega⟩
/-- what a kept stage holds -/
theorem SK.has {f a b c : Nat → Int32} {sk k : Nat} {sB : Int32} (h : SK f (gf f) (of_ f) (pf_ f) (qf_ f) sk sB a b c) (hk : k < sk) (hg : gf f ≤ 12) : k ≤ 12 ∧ cnt (PQ f k) ≤ 40 ∧ sizeOfF (nI sk) a (nI k) = nI (cnt (PQ f k)) ∧ (∀ j, j < cnt (PQ f k) → b (40 * k + j) = cset (PQ f k) j) ∧ (∀ j, j < cnt (PQ f k) → c (40 * k + j) = Int32.ofInt (PQ f k (cset (PQ f k) j))) := by
  have h1 := h.1
  obtain ⟨m, m40, am, r⟩ := h.2.1 k hk
  have r : R32 m (fun j => b (40 * k + j)) (fun j => c (40 * k + j)) (PQ f k) := r
  have em : cnt (PQ f k) = m := cnt_eq r
  rw [em]
  refine ⟨by omega, m40, (size_ok hk (by omega)).trans am, fun j hj => cset_eq r j hj, fun j hj => ?_⟩
  have := (r.2.1 j hj).1
  rw [← cset_eq r j hj]
  exact this
theorem CI.full_iff {f S : Nat → Int32} {D : Nat → Int64} {k nn gr : Nat} {zz : Int32} (wk : WK f) (hk : k ≤ gf f) (h : CI f (gf f) (of_ f) (pf_ f) (qf_ f) k zz nn gr S D) : (zz = 0 → fullB f k) ∧ (¬ zz = 0 → ¬ fullB f k) := by
  constructor
  · intro hz
    rcases h with ⟨a, _⟩ | ⟨_, i, hi, n, S1, D1, h40, r⟩
    · rw [hz] at a; exact absurd a (by decide)
    · have : cnt (PQ f i) = n := cnt_eq (R64.to32 (wk.bd (by omega)).1 r)
      exact ⟨i, hi, by omega⟩
  · intro hz ⟨j, hj, h40⟩
    rcases h with ⟨_, _, _, d, _⟩ | ⟨a, _⟩
    · obtain ⟨n, S1, D1, n40, r, _⟩ := d j hj
      have : cnt (PQ f j) = n := cnt_eq (R64.to32 (wk.bd (by omega)).1 r)
      omega
    · exact hz a
/-- what the reference has come to -/
theorem CI.val {f S : Nat → Int32} {D : Nat → Int64} {k nn gr : Nat} {zz : Int32} (wk : WK f) (hk : k ≤ gf f) (h : CI f (gf f) (of_ f) (pf_ f) (qf_ f) k zz nn gr S D) (hz : ¬ zz = 0) : nn = cnt (PQ f k) ∧ nn ≤ 40 ∧ (∀ j, j < nn → S j = cset (PQ f k) j) ∧ (∀ j, j < nn → D j = Int64.ofInt (PQ f k (cset (PQ f k) j))) := by
  have q := h.has hz
  have r := R64.to32 (wk.bd hk).1 q.2
  have e : cnt (PQ f k) = nn := cnt_eq r
  refine ⟨e.symm, q.1, fun j hj => cset_eq r j hj, fun j hj => ?_⟩
  rw [← cset_eq r j hj]
  exact (q.2.2.1 j hj).1
def gmx (M : Nat → Nat) : Nat → Nat
  | 0 => 0
  | j + 1 => if gmx M j < M j then M j else gmx M j
theorem gmx_le {M : Nat → Nat} {v : Nat} : ∀ n, (∀ i, i < n → M i ≤ v) → gmx M n ≤ v
  | 0, _ => Nat.zero_le v
  | n + 1, h => by
    show (if gmx M n < M n then M n else gmx M n) ≤ v
    by_cases c : gmx M n < M n
    · rw [if_pos c]; exact h n (Nat.lt_succ_self n)
    · rw [if_neg c]; exact gmx_le n (fun i hi => h i (by omega))
theorem gmx_ge {M : Nat → Nat} : ∀ n i, i < n → M i ≤ gmx M n
  | 0, i, h => absurd h (Nat.not_lt_zero i)
  | n + 1, i, h => by
    show M i ≤ (if gmx M n < M n then M n else gmx M n)
    by_cases e : i = n
    · subst e
      by_cases c : gmx M i < M i
      · rw [if_pos c]; exact Nat.le_refl _
      · rw [if_neg c]; omega
    · have := gmx_ge (M := M) n i (by omega)
      by_cases c : gmx M n < M n
      · rw [if_pos c]; omega
      · rw [if_neg c]; exact this
theorem CI.great {f S : Nat → Int32} {D : Nat → Int64} {k nn gr : Nat} {zz : Int32} (wk : WK f) (hk : k ≤ gf f) (h : CI f (gf f) (of_ f) (pf_ f) (qf_ f) k zz nn gr S D) (hz : ¬ zz = 0) : gr = gmx (fun j => cnt (PQ f j)) (k + 1) := by
  rcases h with ⟨_, _, _, d, i0, hi0, S0, D0, r0⟩ | ⟨a, _⟩
  · have e0 : cnt (PQ f i0) = gr := cnt_eq (R64.to32 (wk.bd (by omega)).1 r0)
    have l1 : gmx (fun j => cnt (PQ f j)) (k + 1) ≤ gr := gmx_le _ (fun i hi => by
      obtain ⟨n, S1, D1, _, r, hn⟩ := d i (by omega)
      have : cnt (PQ f i) = n := cnt_eq (R64.to32 (wk.bd (by omega)).1 r)
      show cnt (PQ f i) ≤ gr
      omega)
    have l2 : cnt (PQ f i0) ≤ gmx (fun j => cnt (PQ f j)) (k + 1) := gmx_ge (M := fun j => cnt (PQ f j)) (k + 1) i0 (by omega)
    omega
  · exact absurd a hz
/-! ===== the calls that ask for stages ===== -/
theorem ref_0 {cT z : Int32} (h : refusalF cT z = 0) : ¬ z = 0 ∧ ¬ cT = 0 := by
  unfold refusalF at h
  by_cases a : z = 0
  · rw [if_pos a] at h; exact absurd h (by decide)
  · rw [if_neg a] at h
    by_cases b : cT = 0
    · rw [if_pos b] at h; exact absurd h (by decide)
    · exact ⟨a, b⟩
theorem sr_fit {r n2 : Int32} {k n0 : Nat} {A : Prop} (h : A ∧ ((r = 1 ∧ k < n0) ∨ (r = 0 ∧ n0 ≤ k ∧ n2 = 1))) (hr : ¬ r = 0) : k < n0 := by
  rcases h.2 with q | q
  · exact q.2
  · exact absurd q.1 hr
theorem sr_not {r n2 : Int32} {k n0 : Nat} {A : Prop} (h : A ∧ ((r = 1 ∧ k < n0) ∨ (r = 0 ∧ n0 ≤ k ∧ n2 = 1))) (hr : r = 0) : n0 ≤ k ∧ n2 = 1 := by
  rcases h.2 with q | q
  · rw [hr] at q; exact absurd q.1 (by decide)
  · exact q.2
theorem sr_ret {f : Nat → Int32} {R r X : Int32} {k1 k2 : Nat} (h : r = if R = 0 then stV f k1 0 else R) (hk : R = 0 → k1 = k2) (hr : ¬ r = 0) : r = if R = 0 then stV f k2 X else R := by
  by_cases c : R = 0
  · rw [if_pos c] at h ⊢
    rw [hk c] at h
    by_cases q : fullB f k2
    · rw [stV_full q] at h ⊢; exact h
    · rw [stV_fits q] at h; exact absurd h hr
  · rw [if_neg c] at h ⊢; exact h
theorem sr_go {f : Nat → Int32} {R r : Int32} {k1 k2 : Nat} (h : r = if R = 0 then stV f k1 0 else R) (hk : R = 0 → k1 = k2) (hr : r = 0) : R = 0 ∧ ¬ fullB f k2 := by
  by_cases c : R = 0
  · refine ⟨c, fun q => ?_⟩
    rw [if_pos c, hk c, stV_full q, hr] at h
    exact absurd h (by decide)
  · rw [if_neg c, hr] at h
    exact absurd h.symm c
theorem stg_k {cT cG i : Int32} {g : Nat} (hT : ¬ cT = 0) (hG : cG = nI g) (hg : g ≤ 12) (h : ¬ isStageF cT cG i = 0) : ∃ k, k ≤ g ∧ i = nI k := by
  unfold isStageF at h
  rw [if_neg hT, hG] at h
  by_cases a : i < 0
  · rw [if_pos a] at h; exact absurd rfl h
  · rw [if_neg a] at h
    obtain ⟨k, hk, e⟩ := nI_of a
    by_cases b : nI g < i
    · rw [if_pos b] at h; exact absurd rfl h
    · rw [e, nI_ltI (by omega) hk] at b
      exact ⟨k, by omega, e⟩
theorem stg_eq {cT cI cG cO cK cP cQ i : Int32} {fK fX fY fZ f : Nat → Int32} {gW : Nat → Int64} (h : EXW cT cI cG cO cK cP cQ fK fX fY fZ gW f) : isStageF cT cG i = stgM f i := by
  unfold isStageF stgM inF
  rcases h with ⟨h0, ht⟩ | ⟨h0, ht, rc, _⟩
  · rw [if_pos h0, if_pos ht]
  · rw [if_neg (show ¬ cT = 0 by rw [h0]; decide), if_neg ht, rc.2.1]
theorem inp_eq {cT cI cG cO cK cP cQ v : Int32} {fK fX fY fZ f : Nat → Int32} {gW : Nat → Int64} (h : EXW cT cI cG cO cK cP cQ fK fX fY fZ gW f) : isInputsF cT cI v = inpM f v := by
  rcases h with ⟨h0, ht⟩ | ⟨h0, ht, rc, n, g, o, w0, _, _, _, wf, _⟩
  · rw [h0]; exact inp_no ht
  · rw [h0]; exact inp_th (rc.1.trans wf.1) wf.1 wf.2.1 ht
theorem ref_eq {cT cI cG cO cK cP cQ z V : Int32} {fK fX fY fZ f : Nat → Int32} {gW : Nat → Int64} (h : EXW cT cI cG cO cK cP cQ fK fX fY fZ gW f) : (if refusalF cT z = 0 then V else refusalF cT z) = if z = 0 then -2 else if thereM f = 0 then -3 else V := by
  rcases h with ⟨h0, ht⟩ | ⟨h0, ht, _⟩
  · rw [h0, ref_no, if_neg (none_ne _), if_pos ht]
    unfold noneF
    by_cases a : z = 0
    · rw [if_pos a]
    · rw [if_neg a]
  · rw [h0, ref_th, if_neg ht]
    by_cases a : z = 0
    · rw [if_pos a, if_pos a, if_neg (by decide)]
    · rw [if_neg a, if_neg a, if_pos rfl]
noncomputable def rightV (f : Nat → Int32) : Int32 := stV f (gf f) (if cnt (PQ f (gf f)) = 0 then 1 else 0)
noncomputable def termsV (f : Nat → Int32) (i : Int32) : Int32 := stV f i.toNatClampNeg (nI (cnt (PQ f i.toNatClampNeg)))
noncomputable def termW (f : Nat → Int32) (k : Nat) (j w : Int32) : Int32 := if nI (cnt (PQ f k)) ≤ j then -1 else if w = 0 then Int32.ofInt (PQ f k (cset (PQ f k) j.toNatClampNeg)) else cset (PQ f k) j.toNatClampNeg
noncomputable def termV (f : Nat → Int32) (i j w : Int32) : Int32 := stV f i.toNatClampNeg (termW f i.toNatClampNeg j w)
def un1 (T : Nat → Int32) (j : Nat) (a : Int32) : Int32 := a ||| T j
noncomputable def standsV (f : Nat → Int32) (i : Int32) : Int32 := stV f i.toNatClampNeg (foldF (un1 (cset (PQ f i.toNatClampNeg))) (cnt (PQ f i.toNatClampNeg)) 0)
def sw1 (T U : Nat → Int32) (t : Int32) (j : Nat) (a : Int32) : Int32 := a + (if T j &&& ~~~t = 0 then U j else 0)
noncomputable def cco (P : Int32 → Int) (j : Nat) : Int32 := Int32.ofInt (P (cset P j))
noncomputable def swV (P : Int32 → Int) (t : Int32) : Int32 := foldF (sw1 (cset P) (cco P) t) (cnt P) 0
noncomputable def valueV (f : Nat → Int32) (i t : Int32) : Int32 := stV f i.toNatClampNeg (swV (PQ f i.toNatClampNeg) t)
theorem foldF_congr {p q : Nat → Int32 → Int32} {a : Int32} : ∀ {n : Nat}, (∀ j, j < n → ∀ x, p j x = q j x) → foldF p n a = foldF q n a
  | 0, _ => rfl
  | n + 1, h => by
    show p n (foldF p n a) = q n (foldF q n a)
    rw [foldF_congr (fun j hj x => h j (by omega) x), h n (Nat.lt_succ_self n)]
theorem zT_s {a j x : Int32} (h : ¬ zTerm a j x = 0) : ¬ a = 0 := fun q => h (by unfold zTerm; rw [if_pos q])
theorem zT_j {a j x : Int32} (h : ¬ zTerm a j x = 0) : ¬ j < 0 := fun q => h (by
  unfold zTerm
  by_cases c : a = 0
  · rw [if_pos c]
  · rw [if_neg c, if_pos q])
theorem zA_s {a b : Int32} (h : ¬ zAnd a b = 0) : ¬ a = 0 := fun q => h (by unfold zAnd; rw [if_pos q])
theorem sw_0 {x u : Int32} (h : (if x = 0 then 1 else 0 : Int32) = 0) : 0 = if x = 0 then u else 0 := by
  by_cases c : x = 0
  · rw [if_pos c] at h; exact absurd h (by decide)
  · rw [if_neg c]
theorem sw_1 {x u : Int32} (h : ¬ (if x = 0 then 1 else 0 : Int32) = 0) : u = if x = 0 then u else 0 := by
  by_cases c : x = 0
  · rw [if_pos c]
  · rw [if_neg c] at h; exact absurd rfl h
