def WO (f : Nat → Int32) (n g o : Nat) : Prop := ∀ j, j < o → ∃ s, f (42 + j) = nI s ∧ s < n + g
theorem gateP_inv2 {t : Nat} {f d : Nat → Int32} {a : Nat} {q : (Nat → Int32) × Nat} (h : gateP t f d a = some q) : ∃ (k : Nat) (x y : Int32), q.1 = addG d (nI k) x y ∧ ¬ inF x 0 (d 0 + d 1 - 1) = 0 ∧ (k = 0 ∨ ¬ inF y 0 (d 0 + d 1 - 1) = 0) := by
  unfold gateP at h
  obtain ⟨k, _, h⟩ := Option.bind_eq_some_iff.mp h
  obtain ⟨x, hx, h⟩ := Option.bind_eq_some_iff.mp h
  by_cases k0 : k = 0
  · rw [if_pos k0] at h
    obtain ⟨s, _, h⟩ := Option.bind_eq_some_iff.mp h
    exact ⟨k, x.1, -1, by rw [← Option.some.inj h], tkN_in hx, Or.inl k0⟩
  · rw [if_neg k0] at h
    obtain ⟨y, hy, h⟩ := Option.bind_eq_some_iff.mp h
    obtain ⟨s, _, h⟩ := Option.bind_eq_some_iff.mp h
    exact ⟨k, x.1, y.1, by rw [← Option.some.inj h], tkN_in hx, Or.inr (tkN_in hy)⟩
theorem WF_add {d : Nat → Int32} {n g : Nat} {k x y : Int32} (h1 : d 1 = nI g) (hg : g < 12) (wf : WF d n g) (hx : ∃ s, x = nI s ∧ s < n + g) (hy : k = 0 ∨ ∃ s, y = nI s ∧ s < n + g) : WF (addG d k x y) n (g + 1) := by
  obtain ⟨f0, hn, _, wj⟩ := wf
  refine ⟨(addG_lo (by omega) (by omega)).trans f0, hn, by omega, fun j hj => ?_⟩
  rw [addG_eq h1 hg]
  by_cases e : j = g
  · subst e
    refine ⟨?_, ?_⟩
    · rw [pk_un (by omega), pk_un (by omega), pk_us]; exact hx
    · rw [pk_un (by omega), pk_un (by omega), pk_un (by omega), pk_us, pk_un (by omega), pk_us]; exact hy
  · obtain ⟨a, b⟩ := wj j (by omega)
    rw [pk_un (by omega), pk_un (by omega), pk_un (by omega), pk_un (by omega), pk_un (by omega), pk_un (by omega), pk_un (by omega), pk_un (by omega), pk_un (by omega), pk_un (by omega), pk_un (by omega), pk_un (by omega)]
    exact ⟨a, b⟩
theorem in_lt {x : Int32} {n g : Nat} (hn : n ≤ 6) (hg : g ≤ 12) (h : ¬ inF x 0 (nI n + nI g - 1) = 0) : ∃ s, x = nI s ∧ s < n + g := by
  rw [nI_add] at h
  obtain ⟨k, hk, e⟩ := inF_m (by omega) h
  exact ⟨k, e, hk⟩
theorem gatesP_wf {t : Nat} {f : Nat → Int32} : ∀ (m : Nat) {d : Nat → Int32} {a n g : Nat} {q : (Nat → Int32) × Nat}, gatesP t f m d a = some q → d 1 = nI g → g + m ≤ 12 → WF d n g → ∃ g2, q.1 1 = nI g2 ∧ g2 ≤ 12 ∧ WF q.1 n g2
  | 0, d, a, n, g, q, h, h1, hg, wf => by
    have e : q = (d, a) := (Option.some.inj h).symm
    subst e
    exact ⟨g, h1, by omega, wf⟩
  | m + 1, d, a, n, g, q, h, h1, hg, wf => by
    have h : (match tkW t f 13 a with | none => some (d, a) | some a1 => (gateP t f d a1).bind fun q => gatesP t f m q.1 q.2) = some q := h
    cases hw : tkW t f 13 a with
    | none =>
      rw [hw] at h
      have e : q = (d, a) := (Option.some.inj h).symm
      subst e
      exact ⟨g, h1, by omega, wf⟩
    | some a1 =>
      rw [hw] at h
      obtain ⟨p, hp, h⟩ := Option.bind_eq_some_iff.mp h
      have hp1 := (gate_sh h1 (by omega) hp).1
      obtain ⟨k, x, y, e, hx, hy⟩ := gateP_inv2 hp
      have wf2 := wf
      obtain ⟨f0, hn, _, _⟩ := wf2
      rw [f0, h1] at hx hy
      have w2 : WF p.1 n (g + 1) := by
        rw [e]
        refine WF_add h1 (by omega) wf (in_lt hn (by omega) hx) ?_
        rcases hy with hy | hy
        · exact Or.inl (by rw [hy]; rfl)
        · exact Or.inr (in_lt hn (by omega) hy)
      exact gatesP_wf m h hp1 (by omega) w2
theorem WF_of {d e : Nat → Int32} {n g : Nat} (wf : WF d n g) (h : ∀ i, i < 42 → ¬ i = 2 → ¬ i = 3 → ¬ i = 4 → ¬ i = 5 → e i = d i) : WF e n g := by
  obtain ⟨f0, hn, hg, wj⟩ := wf
  refine ⟨(h 0 (by omega) (by omega) (by omega) (by omega) (by omega)).trans f0, hn, hg, fun j hj => ?_⟩
  rw [h _ (by omega) (by omega) (by omega) (by omega) (by omega), h _ (by omega) (by omega) (by omega) (by omega) (by omega), h _ (by omega) (by omega) (by omega) (by omega) (by omega)]
  exact wj j hj
theorem outsP_wo {t : Nat} {f : Nat → Int32} {n g : Nat} (hn : n ≤ 6) (hg : g ≤ 12) : ∀ (m : Nat) {d : Nat → Int32} {a o : Nat} {q : (Nat → Int32) × Nat}, outsP t f (nI n + nI g - 1) m d a = some q → d 2 = nI o → o + m ≤ 7 → WO d n g o → ∃ o2, q.1 2 = nI o2 ∧ o2 ≤ 7 ∧ WO q.1 n g o2
  | 0, d, a, o, q, h, h1, ho, wo => by
    have e : q = (d, a) := (Option.some.inj h).symm
    subst e
    exact ⟨o, h1, by omega, wo⟩
  | m + 1, d, a, o, q, h, h1, ho, wo => by
    have h : (if m = 6 ∨ sortF (bA t f (sk t f a)) = 2 then (tkN t f 0 (nI n + nI g - 1) a).bind fun v => outsP t f (nI n + nI g - 1) m (addO d v.1) v.2 else some (d, a)) = some q := h
    by_cases c : m = 6 ∨ sortF (bA t f (sk t f a)) = 2
    · rw [if_pos c] at h
      obtain ⟨v, hv, h⟩ := Option.bind_eq_some_iff.mp h
      have hv := in_lt hn hg (tkN_in hv)
      refine outsP_wo hn hg m h (addO_2 h1 (by omega)) (by omega) ?_
      intro j hj
      rw [addO_eq h1 (by omega), pk_un (by omega)]
      by_cases e : j = o
      · subst e; rw [pk_us]; exact hv
      · rw [pk_un (by omega)]; exact wo j (by omega)
    · rw [if_neg c] at h
      have e : q = (d, a) := (Option.some.inj h).symm
      subst e
      exact ⟨o, h1, by omega, wo⟩
theorem all_wf {t : Nat} {f z d : Nat → Int32} (h : allP t f z = some d) (hz1 : z 1 = 0) (hz2 : z 2 = 0) : ∃ n g o, d 1 = nI g ∧ d 2 = nI o ∧ o ≤ 7 ∧ WF d n g ∧ WO d n g o := by
  rw [all_eq] at h
  obtain ⟨n, hn, h⟩ := Option.bind_eq_some_iff.mp h
  obtain ⟨q, hq, h⟩ := Option.bind_eq_some_iff.mp h
  obtain ⟨o, ho, h⟩ := Option.bind_eq_some_iff.mp h
  obtain ⟨w, hw, h⟩ := Option.bind_eq_some_iff.mp h
  by_cases c : sk t f w.2 = t
  · rw [if_pos c] at h
    have ed : w.1 = d := Option.some.inj h
    unfold inP at hn
    obtain ⟨_, _, hn⟩ := Option.bind_eq_some_iff.mp hn
    obtain ⟨v, hv, hn⟩ := Option.bind_eq_some_iff.mp hn
    obtain ⟨_, _, hn⟩ := Option.bind_eq_some_iff.mp hn
    have en : n.1 = v.1 := by rw [← Option.some.inj hn]
    have hin : ¬ inF n.1 1 6 = 0 := by rw [en]; exact tkN_in hv
    obtain ⟨N, hN1, hN6, hN⟩ := inF_ok (lo := 1) (hi := 6) (L := 1) (M := 6) rfl rfl (by decide) (by decide) hin
    have w0 : WF (upd z 0 n.1) N 0 := ⟨pk_us.trans hN, hN6, by omega, fun j hj => absurd hj (Nat.not_lt_zero j)⟩
    have hd1 : upd z 0 n.1 1 = nI 0 := by rw [pk_un (by omega)]; exact hz1
    obtain ⟨g, g1, g12, wg⟩ := gatesP_wf 12 hq hd1 (by omega) w0
    obtain ⟨_, g0, g2⟩ := gatesP_inv 12 (g := 0) hq hd1 (by omega)
    rw [pk_us] at g0
    rw [pk_un (by omega), hz2] at g2
    unfold outP at ho
    obtain ⟨_, _, ho⟩ := Option.bind_eq_some_iff.mp ho
    unfold outsQ at ho
    obtain ⟨p, hp, ho⟩ := Option.bind_eq_some_iff.mp ho
    obtain ⟨_, _, ho⟩ := Option.bind_eq_some_iff.mp ho
    have eo : o.1 = p.1 := by rw [← Option.some.inj ho]
    rw [g0, hN, g1] at hp
    obtain ⟨o2, o21, o27, wo⟩ := outsP_wo (o := 0) hN6 g12 7 hp g2 (by omega) (fun j hj => absurd hj (Nat.not_lt_zero j))
    have of := (outsP_inv 7 (o := 0) hp g2 (by omega)).2
    unfold tskP at hw
    obtain ⟨_, _, hw⟩ := Option.bind_eq_some_iff.mp hw
    unfold taskP at hw
    obtain ⟨k, _, hw⟩ := Option.bind_eq_some_iff.mp hw
    obtain ⟨a, _, hw⟩ := Option.bind_eq_some_iff.mp hw
    obtain ⟨b, _, hw⟩ := Option.bind_eq_some_iff.mp hw
    obtain ⟨_, _, hw⟩ := Option.bind_eq_some_iff.mp hw
    have ew : d = endD p.1 (nI (k - 8)) a.1 b.1 := by rw [← ed, ← Option.some.inj hw, eo]
    refine ⟨N, g, o2, ?_, ?_, o27, ?_, ?_⟩
    · rw [ew, endD_hi (by omega), of 1 (by omega) (by omega)]; exact g1
    · rw [ew, endD_hi (by omega)]; exact o21
    · refine WF_of wg (fun i h1 h2 h3 h4 h5 => ?_)
      rw [ew, endD_hi (by omega)]
      exact of i h1 h2
    · intro j hj
      rw [ew, endD_hi (by omega)]
      exact wo j hj
  · rw [if_neg c] at h; exact absurd h (by simp)
/-- a row being laid: wires from ahead -/
def WP (d : Nat → Int32) (n g o : Nat) : Prop := d 1 = nI g ∧ d 2 = nI o ∧ WF d n g ∧ WO d n g o
theorem WP_0 {N t p q : Int32} {z : Nat → Int32} {n : Nat} (hN : N = nI n) (hn : n ≤ 6) : WP (begF N t p q z) n 0 0 := ⟨begF_1, begF_2, ⟨begF_0.trans hN, hn, by omega, fun j hj => absurd hj (Nat.not_lt_zero j)⟩, fun j hj => absurd hj (Nat.not_lt_zero j)⟩
theorem WP_g {d : Nat → Int32} {n : Nat} {k x y : Int32} (g o : Nat) (hg : g < 12) (ho : o ≤ 7) (hx : ∃ s, x = nI s ∧ s < n + g) (hy : k = 0 ∨ ∃ s, y = nI s ∧ s < n + g) (h : WP d n g o) : WP (laysF d g k x y) n (g + 1) o := by
  obtain ⟨h1, h2, wf, wo⟩ := h
  have el : laysF d g k x y = addG d k x (if k = 0 then -1 else y) := by rw [addG_eq h1 hg]; rfl
  refine ⟨laysF_1, laysF_2.trans h2, ?_, ?_⟩
  · rw [el]
    refine WF_add h1 hg wf hx ?_
    by_cases k0 : k = 0
    · exact Or.inl k0
    · rw [if_neg k0]; exact hy
  · intro j hj
    obtain ⟨s, e, l⟩ := wo j hj
    refine ⟨s, ?_, by omega⟩
    rw [← e]
    unfold laysF
    rw [pk_un (by omega), pk_un (by omega), pk_un (by omega), pk_un (by omega)]
theorem WP_o {d : Nat → Int32} {n : Nat} {s : Int32} (g o : Nat) (hg : g ≤ 12) (ho : o < 7) (hs : ∃ k, s = nI k ∧ k < n + g) (h : WP d n g o) : WP (outsF d o s) n g (o + 1) := by
  obtain ⟨h1, h2, wf, wo⟩ := h
  have el : outsF d o s = addO d s := by rw [addO_eq h2 (by omega)]; rfl
  refine ⟨outsF_1.trans h1, outsF_2, ?_, ?_⟩
  · rw [el]
    exact WF_of wf (fun i h1 h2 _ _ _ => addO_lo h1 h2)
  · intro j hj
    unfold outsF
    rw [pk_un (by omega)]
    by_cases e : j = o
    · subst e; rw [pk_us]; exact hs
    · rw [pk_un (by omega)]; exact wo j (by omega)
theorem WP_n {d kv xv yv : Nat → Int32} {n o : Nat} (ho : o ≤ 7) (h : WP d n 0 o) : ∀ N, N ≤ 12 → (∀ j, j < N → (∃ s, xv j = nI s ∧ s < n + j) ∧ (kv j = 0 ∨ ∃ s, yv j = nI s ∧ s < n + j)) → WP (laysN kv xv yv N d) n N o
  | 0, _, _ => h
  | N + 1, hN, hw => WP_g N o (by omega) ho (hw N (by omega)).1 (hw N (by omega)).2 (WP_n ho h N (by omega) (fun j hj => hw j (by omega)))
/-- a kind or a wire put -/
theorem WF_kind {d : Nat → Int32} {n g k : Nat} {v : Int32} (wf : WF d n g) (hk : k < g) (hs : (if d (6 + k) = 0 then 1 else 0 : Int32) = (if v = 0 then 1 else 0 : Int32)) : WF (upd d (6 + k) v) n g := by
  obtain ⟨f0, hn, hg, wj⟩ := wf
  refine ⟨by rw [pk_un (by omega)]; exact f0, hn, hg, fun j hj => ?_⟩
  obtain ⟨a, b⟩ := wj j hj
  rw [pk_un (show ¬ 18 + j = 6 + k by omega), pk_un (show ¬ 30 + j = 6 + k by omega)]
  refine ⟨a, ?_⟩
  by_cases e : j = k
  · subst e
    rw [pk_us]
    rcases b with b | b
    · rw [if_pos b] at hs
      by_cases v0 : v = 0
      · exact Or.inl v0
      · rw [if_neg v0] at hs; exact absurd hs (by decide)
    · exact Or.inr b
  · rw [pk_un (by omega)]; exact b
theorem WF_x {d : Nat → Int32} {n g k : Nat} {v : Int32} (wf : WF d n g) (hk : k < g) (hv : ∃ s, v = nI s ∧ s < n + k) : WF (upd d (18 + k) v) n g := by
  obtain ⟨f0, hn, hg, wj⟩ := wf
  refine ⟨by rw [pk_un (by omega)]; exact f0, hn, hg, fun j hj => ?_⟩
  obtain ⟨a, b⟩ := wj j hj
  rw [pk_un (show ¬ 6 + j = 18 + k by omega), pk_un (show ¬ 30 + j = 18 + k by omega)]
  refine ⟨?_, b⟩
  by_cases e : j = k
  · subst e; rw [pk_us]; exact hv
  · rw [pk_un (by omega)]; exact a
theorem WF_y {d : Nat → Int32} {n g k : Nat} {v : Int32} (wf : WF d n g) (hk : k < g) (hv : ∃ s, v = nI s ∧ s < n + k) : WF (upd d (30 + k) v) n g := by
  obtain ⟨f0, hn, hg, wj⟩ := wf
  refine ⟨by rw [pk_un (by omega)]; exact f0, hn, hg, fun j hj => ?_⟩
  obtain ⟨a, b⟩ := wj j hj
  rw [pk_un (show ¬ 6 + j = 30 + k by omega), pk_un (show ¬ 18 + j = 30 + k by omega)]
  refine ⟨a, ?_⟩
  by_cases e : j = k
  · subst e; rw [pk_us]; exact Or.inr hv
  · rw [pk_un (by omega)]; exact b
theorem WO_upd {d : Nat → Int32} {n g o k : Nat} {v : Int32} (wo : WO d n g o) (hk : k < 42) : WO (upd d k v) n g o := fun j hj => by
  rw [pk_un (by omega)]; exact wo j hj
theorem adW1 {z : Nat → Int32} : WP (adD1 z) 2 2 2 := by
  unfold adD1
  exact (WP_o 2 1 (by decide) (by decide) ⟨3, rfl, by decide⟩ (WP_g 1 1 (by decide) (by decide) ⟨0, rfl, by decide⟩ (Or.inr ⟨1, rfl, by decide⟩) (WP_o 1 0 (by decide) (by decide) ⟨2, rfl, by decide⟩ (WP_g 0 0 (by decide) (by decide) ⟨0, rfl, by decide⟩ (Or.inr ⟨1, rfl, by decide⟩) (WP_0 (n := 2) rfl (by decide))))))
theorem adW2 {z : Nat → Int32} : WP (adD2 z) 4 7 3 := by
  unfold adD2
  exact (WP_o 7 2 (by decide) (by decide) ⟨10, rfl, by decide⟩ (WP_g 6 2 (by decide) (by decide) ⟨8, rfl, by decide⟩ (Or.inr ⟨9, rfl, by decide⟩) (WP_g 5 2 (by decide) (by decide) ⟨6, rfl, by decide⟩ (Or.inr ⟨5, rfl, by decide⟩) (WP_g 4 2 (by decide) (by decide) ⟨1, rfl, by decide⟩ (Or.inr ⟨3, rfl, by decide⟩) (WP_o 4 1 (by decide) (by decide) ⟨7, rfl, by decide⟩ (WP_g 3 1 (by decide) (by decide) ⟨6, rfl, by decide⟩ (Or.inr ⟨5, rfl, by decide⟩) (WP_g 2 1 (by decide) (by decide) ⟨1, rfl, by decide⟩ (Or.inr ⟨3, rfl, by decide⟩) (WP_g 1 1 (by decide) (by decide) ⟨0, rfl, by decide⟩ (Or.inr ⟨2, rfl, by decide⟩) (WP_o 1 0 (by decide) (by decide) ⟨4, rfl, by decide⟩ (WP_g 0 0 (by decide) (by decide) ⟨0, rfl, by decide⟩ (Or.inr ⟨2, rfl, by decide⟩) (WP_0 (n := 4) rfl (by decide))))))))))))
theorem adW3 {z : Nat → Int32} : WP (adD3 z) 6 12 4 := by
  unfold adD3
  exact (WP_o 12 3 (by decide) (by decide) ⟨17, rfl, by decide⟩ (WP_g 11 3 (by decide) (by decide) ⟨15, rfl, by decide⟩ (Or.inr ⟨16, rfl, by decide⟩) (WP_g 10 3 (by decide) (by decide) ⟨13, rfl, by decide⟩ (Or.inr ⟨12, rfl, by decide⟩) (WP_g 9 3 (by decide) (by decide) ⟨2, rfl, by decide⟩ (Or.inr ⟨5, rfl, by decide⟩) (WP_o 9 2 (by decide) (by decide) ⟨14, rfl, by decide⟩ (WP_g 8 2 (by decide) (by decide) ⟨13, rfl, by decide⟩ (Or.inr ⟨12, rfl, by decide⟩) (WP_g 7 2 (by decide) (by decide) ⟨2, rfl, by decide⟩ (Or.inr ⟨5, rfl, by decide⟩) (WP_g 6 2 (by decide) (by decide) ⟨10, rfl, by decide⟩ (Or.inr ⟨11, rfl, by decide⟩) (WP_g 5 2 (by decide) (by decide) ⟨8, rfl, by decide⟩ (Or.inr ⟨7, rfl, by decide⟩) (WP_g 4 2 (by decide) (by decide) ⟨1, rfl, by decide⟩ (Or.inr ⟨4, rfl, by decide⟩) (WP_o 4 1 (by decide) (by decide) ⟨9, rfl, by decide⟩ (WP_g 3 1 (by decide) (by decide) ⟨8, rfl, by decide⟩ (Or.inr ⟨7, rfl, by decide⟩) (WP_g 2 1 (by decide) (by decide) ⟨1, rfl, by decide⟩ (Or.inr ⟨4, rfl, by decide⟩) (WP_g 1 1 (by decide) (by decide) ⟨0, rfl, by decide⟩ (Or.inr ⟨3, rfl, by decide⟩) (WP_o 1 0 (by decide) (by decide) ⟨6, rfl, by decide⟩ (WP_g 0 0 (by decide) (by decide) ⟨0, rfl, by decide⟩ (Or.inr ⟨3, rfl, by decide⟩) (WP_0 (n := 6) rfl (by decide))))))))))))))))))
theorem bm64 {x : Int} (h0 : -9223372036854775808 ≤ x) (h1 : x < 9223372036854775808) : x.bmod (2 ^ 64) = x := by
  apply Int.bmod_eq_of_le
  · exact h0
  · exact h1
theorem rem_i {a b : Int64} (ha : 0 ≤ a.toInt) (hb : 0 < b.toInt) : (a - a / b * b).toInt = a.toInt % b.toInt := by
  have hA := Int64.toInt_lt a
  have hA0 := Int64.le_toInt a
  have hB := Int64.toInt_lt b
  have e1 : a.toInt.tdiv b.toInt = a.toInt / b.toInt := Int.tdiv_eq_ediv_of_nonneg ha
  have q0 : 0 ≤ a.toInt / b.toInt := Int.ediv_nonneg ha (by omega)
  have q1 : a.toInt / b.toInt ≤ a.toInt := Int.ediv_le_self _ ha
  have d1 : (a / b).toInt = a.toInt / b.toInt := by
    rw [Int64.toInt_div, e1]
    exact bm64 (by omega) (by omega)
  have m0 : 0 ≤ a.toInt / b.toInt * b.toInt := Int.mul_nonneg q0 (by omega)
  have m1 : a.toInt / b.toInt * b.toInt ≤ a.toInt := Int.ediv_mul_le _ (by omega)
  have d2 : (a / b * b).toInt = a.toInt / b.toInt * b.toInt := by
    rw [Int64.toInt_mul, d1]
    exact bm64 (by omega) (by omega)
  have r : a.toInt % b.toInt = a.toInt - a.toInt / b.toInt * b.toInt := by
    rw [Int.emod_def, Int.mul_comm]
  rw [Int64.toInt_sub, d2, r]
  exact bm64 (by omega) (by omega)
theorem lcg_ok {y : Int64} (h0 : 0 ≤ y.toInt) (h1 : y.toInt < 2147483648) : 0 ≤ (lcgF y).toInt ∧ (lcgF y).toInt < 2147483648 := by
  have c1 : (1103515245 : Int64).toInt = 1103515245 := by decide
  have c2 : (12345 : Int64).toInt = 12345 := by decide
  have c3 : (2147483648 : Int64).toInt = 2147483648 := by decide
  have e1 : (y * 1103515245).toInt = y.toInt * 1103515245 := by
    rw [Int64.toInt_mul, c1]
    exact bm64 (by omega) (by omega)
  have e2 : (y * 1103515245 + 12345).toInt = y.toInt * 1103515245 + 12345 := by
    rw [Int64.toInt_add, e1, c2]
    exact bm64 (by omega) (by omega)
  have e : (lcgF y).toInt = (y.toInt * 1103515245 + 12345) % 2147483648 := by
    unfold lcgF
    rw [rem_i (by rw [e2]; omega) (by rw [c3]; omega), e2, c3]
  rw [e]
  omega
theorem drawX_ok {x : Int64} (h0 : 0 ≤ x.toInt) (h1 : x.toInt < 2147483648) : ∀ j, 0 ≤ (drawX x j).toInt ∧ (drawX x j).toInt < 2147483648
  | 0 => ⟨h0, h1⟩
  | j + 1 => lcg_ok (drawX_ok h0 h1 j).1 (drawX_ok h0 h1 j).2
theorem div_ok {a b : Int64} (ha : 0 ≤ a.toInt) (hb : 0 < b.toInt) : 0 ≤ (a / b).toInt := by
  have hA := Int64.toInt_lt a
  have e1 : a.toInt.tdiv b.toInt = a.toInt / b.toInt := Int.tdiv_eq_ediv_of_nonneg ha
  have q0 : 0 ≤ a.toInt / b.toInt := Int.ediv_nonneg ha (by omega)
  have q1 : a.toInt / b.toInt ≤ a.toInt := Int.ediv_le_self _ ha
  rw [Int64.toInt_div, e1, bm64 (by omega) (by omega)]
  exact q0
theorem rem_lt {a : Int64} {m : Nat} (h0 : 0 < m) (h18 : m ≤ 18) (ha : 0 ≤ a.toInt) : ∃ s, remM a (nI m).toInt64 = nI s ∧ s < m := by
  have hm : (nI m).toInt64.toInt = (m : Int) := by
    rw [Int32.toInt_toInt64, nI_toInt (by omega)]
  have e := rem_i (a := a) (b := (nI m).toInt64) ha (by rw [hm]; omega)
  rw [hm] at e
  have r0 : 0 ≤ a.toInt % (m : Int) := Int.emod_nonneg _ (by omega)
  have r1 : a.toInt % (m : Int) < m := Int.emod_lt_of_pos _ (by omega)
  refine ⟨(a.toInt % (m : Int)).toNat, ?_, by omega⟩
  unfold remM
  apply Int32.toInt_inj.mp
  rw [Int64.toInt_toInt32, e, nI_toInt (by omega)]
  rw [Int.toNat_of_nonneg r0]
  exact Int.bmod_eq_of_le (by omega) (by omega)
theorem drW {x : Int64} {n : Int32} {nn N : Nat} {z : Nat → Int32} (hn : n = nI nn) (h1 : 1 ≤ nn) (h6 : nn ≤ 6) (hN : N ≤ 12) (hx0 : 0 ≤ x.toInt) (hx1 : x.toInt < 2147483648) : WP (drB x n N z) nn N 0 := by
  refine WP_n (by decide) (WP_0 hn h6) N hN (fun j hj => ?_)
  have hd := drawX_ok hx0 hx1 (j + 1)
  have e : n + nI j = nI (nn + j) := by rw [hn, nI_add]
  refine ⟨?_, Or.inr ?_⟩
  · unfold drawXm
    rw [e]
    exact rem_lt (by omega) (by omega) (div_ok hd.1 (by decide))
  · unfold drawYm
    rw [e]
    exact rem_lt (by omega) (by omega) (div_ok hd.1 (by decide))
theorem drW1 {x : Int64} {n g : Int32} {nn N : Nat} {z : Nat → Int32} (hn : n = nI nn) (h1 : 1 ≤ nn) (h6 : nn ≤ 6) (hg : g = nI N) (hN1 : 1 ≤ N) (hN : N ≤ 12) (hx0 : 0 ≤ x.toInt) (hx1 : x.toInt < 2147483648) : ∃ o, WP (drD x n g z) nn N o ∧ o ≤ 7 := by
  have hc : g.toNatClampNeg = N := by rw [hg]; exact nI_clamp (by omega)
  have w := drW (z := z) hn h1 h6 hN hx0 hx1
  have e1 : n + g - 1 = nI (nn + N - 1) := by
    rw [hn, hg, nI_add]; exact pk_sub (b := 1) (by omega)
  have e2 : n + g - 2 = nI (nn + N - 2) := by
    rw [hn, hg, nI_add]; exact pk_sub (b := 2) (by omega)
  have w1 := WP_o (s := n + g - 1) N 0 hN (by decide) ⟨nn + N - 1, e1, by omega⟩ w
  unfold drD
  rw [hc]
  by_cases c : g ≤ 1
  · rw [if_pos c]; exact ⟨1, w1, by decide⟩
  · rw [if_neg c]; exact ⟨2, WP_o (s := n + g - 2) N 1 hN (by decide) ⟨nn + N - 2, e2, by omega⟩ w1, by decide⟩
/-- both circuits, the wires from ahead, the columns filled -/
def EXW (cT cI cG cO cK cP cQ : Int32) (fK fX fY fZ : Nat → Int32) (gW : Nat → Int64) (f : Nat → Int32) : Prop := (cT = 0 ∧ thereM f = 0) ∨ (cT = 1 ∧ ¬ thereM f = 0 ∧ RC cI cG cO cK cP cQ fK fX fY fZ f ∧ ∃ n g o w0, f 1 = nI g ∧ f 2 = nI o ∧ o ≤ 7 ∧ WF f n g ∧ WO f n g o ∧ gW = colsF cI cG fK fX fY (-1) (-1) w0)
theorem EXW.ex {cT cI cG cO cK cP cQ : Int32} {fK fX fY fZ f : Nat → Int32} {gW : Nat → Int64} (h : EXW cT cI cG cO cK cP cQ fK fX fY fZ gW f) : EX cT cI cG cO cK cP cQ fK fX fY fZ f := by
  rcases h with h | ⟨a, b, c, _⟩
  · exact Or.inl h
  · exact Or.inr ⟨a, b, c⟩
theorem inp_no {f : Nat → Int32} {cI v : Int32} (ht : thereM f = 0) : isInputsF 0 cI v = inpM f v := by
  unfold isInputsF inpM inF
  rw [if_pos ht, if_pos rfl, show ((1 : Int32) <<< ((6 : Int32) &&& 31)) = Int32.ofNat 64 by decide]
  by_cases h : v < 0
  · rw [if_pos h, if_pos h]
  · rw [if_neg h, if_neg h]
    exact if_le (i_lt2 (n := 63) (m := 64) v (by decide) rfl) 0 1
theorem pow_sh : ∀ n, n ≤ 6 → ((1 : Int32) <<< (nI n &&& 31)) = nI (2 ^ n) := by
  intro n hn
  have e : ∀ n, n < 7 → ((1 : Int32) <<< (nI n &&& 31)) = nI (2 ^ n) := by decide +kernel
  exact e n (by omega)
theorem pow_le64 {n : Nat} (hn : n ≤ 6) : 2 ^ n ≤ 64 := by
  have : (2 : Nat) ^ n ≤ 2 ^ 6 := Nat.pow_le_pow_right (by decide) hn
  exact this
theorem inp_th {f : Nat → Int32} {n : Nat} {cI v : Int32} (hI : cI = nI n) (h0 : f 0 = nI n) (hn : n ≤ 6) (ht : ¬ thereM f = 0) : isInputsF 1 cI v = inpM f v := by
  unfold isInputsF inpM inF
  rw [if_neg ht, if_neg (show ¬ (1 : Int32) = 0 by decide), hI, h0, pow_sh n hn]
  by_cases h : v < 0
  · rw [if_pos h, if_pos h]
  · rw [if_neg h, if_neg h]
    exact if_le (le_m1 (by have := pow_le64 hn; omega) v) 0 1
theorem inp_ok {f : Nat → Int32} {n : Nat} {v : Int32} (h0 : f 0 = nI n) (hn : n ≤ 6) (ht : ¬ thereM f = 0) (h : ¬ inpM f v = 0) : ∃ k, k < 2 ^ n ∧ v = nI k := by
  unfold inpM at h
  rw [if_neg ht, h0, pow_sh n hn] at h
  exact inF_m (by have := pow_le64 hn; omega) h
theorem cols_n {n g : Nat} {fK fX fY : Nat → Int32} {w0 : Nat → Int64} (hn : n ≤ 6) (hg : g ≤ 12) : colsF (nI n) (nI g) fK fX fY (-1) (-1) w0 = fillG (nI n) fK fX fY (-1) (-1) g (fillI n w0) := by
  unfold colsF
  rw [nI_clamp (by omega), nI_clamp (by omega), Nat.min_eq_left hn]
theorem zRuns_in {a w : Int32} : zRuns a w = if a = 0 then 0 else if inF w 0 1 = 0 then 0 else 1 := by
  rw [in01]
  unfold zRuns
  by_cases h1 : a = 0 <;> by_cases h2 : w = 0 <;> by_cases h3 : w = 1 <;> simp [h1, h2, h3]
theorem ex_runs {cT cI cG cO cK cP cQ v w : Int32} {fK fX fY fZ f : Nat → Int32} {gW : Nat → Int64} (h : EXW cT cI cG cO cK cP cQ fK fX fY fZ gW f) : (if refusalF cT (zRuns (isInputsF cT cI v) w) = 0 then (if w = 0 then outForF gW cO fZ v else taskForF cK cP cQ v) else refusalF cT (zRuns (isInputsF cT cI v) w)) = runsS f v w := by
  rcases h with ⟨h0, ht⟩ | ⟨h0, ht, rc, n, g, o, w0, e1, e2, ho, wf, wo, hw⟩
  · subst h0
    have ez : zRuns (isInputsF 0 cI v) w = rzM f v w := by
      rw [zRuns_in, inp_no ht]; rfl
    rw [ez, ref_no, if_neg (none_ne _)]
    unfold runsS noneF
    rw [if_pos ht]
  · subst h0
    obtain ⟨q0, q1, q2, q3, q4, q5, g', o', hg', ho', e1', e2', ga, go⟩ := rc
    have wf2 := wf
    obtain ⟨f0, hn, hg, _⟩ := wf2
    have eg : g = g' := nI_inj (by omega) (by omega) (e1.symm.trans e1')
    have eo : o = o' := nI_inj (by omega) (by omega) (e2.symm.trans e2')
    subst eg eo
    have ez : zRuns (isInputsF 1 cI v) w = rzM f v w := by
      rw [zRuns_in, inp_th (q0.trans f0) f0 hn ht]; rfl
    rw [ez, ref_th]
    unfold runsS
    by_cases hm : rzM f v w = 0
    · rw [if_pos hm, if_pos hm, if_neg (by decide)]
    · rw [if_neg hm, if_neg hm, if_neg ht, if_pos rfl]
      have hi : ¬ inpM f v = 0 := fun q => hm (if_pos q)
      obtain ⟨k, hk, hv⟩ := inp_ok f0 hn ht hi
      by_cases w1 : w = 0
      · rw [if_pos w1, if_pos w1, hw, hv, q0, q1, f0, e1, cols_n hn hg, e2, nI_clamp (by omega), nI_clamp (by omega)]
        unfold outForF
        rw [q2, e2, nI_clamp (by omega)]
        exact out_eq wf ga go ho wo hk
      · rw [if_neg w1, if_neg w1]
        exact tk_eq q3 q4 q5
theorem zWrong_in {w : Int32} : zWrong w = inF w 0 1 := by
  rw [in01]
  rfl
theorem ex_wrong {cT cI cG cO cK cP cQ w : Int32} {fK fX fY fZ f : Nat → Int32} {gW : Nat → Int64} (h : EXW cT cI cG cO cK cP cQ fK fX fY fZ gW f) : (if refusalF cT (zWrong w) = 0 then (if w = 0 then firstW (fun j => isWrongF gW cO cK cP cQ fZ (nI j)) (allN cI) 0 else foldF (countW1 (fun j => isWrongF gW cO cK cP cQ fZ (nI j))) (allN cI) 0) else refusalF cT (zWrong w)) = wrongS f w := by
  rw [zWrong_in]
  rcases h with ⟨h0, ht⟩ | ⟨h0, ht, rc, n, g, o, w0, e1, e2, ho, wf, wo, hw⟩
  · subst h0
    rw [ref_no, if_neg (none_ne _)]
    unfold wrongS noneF
    rw [if_pos ht]
  · subst h0
    obtain ⟨q0, q1, q2, q3, q4, q5, g', o', hg', ho', e1', e2', ga, go⟩ := rc
    have wf2 := wf
    obtain ⟨f0, hn, hg, _⟩ := wf2
    have eg : g = g' := nI_inj (by omega) (by omega) (e1.symm.trans e1')
    have eo : o = o' := nI_inj (by omega) (by omega) (e2.symm.trans e2')
    subst eg eo
    rw [ref_th]
    unfold wrongS
    by_cases hm : inF w 0 1 = 0
    · rw [if_pos hm, if_pos hm, if_neg (by decide)]
    · rw [if_neg hm, if_neg hm, if_neg ht, if_pos rfl]
      have hq : ∀ j, j < 2 ^ n → isWrongF gW cO cK cP cQ fZ (nI j) = wqM f (f 1).toNatClampNeg (f 2).toNatClampNeg j := fun j hj => by
        rw [hw, q0, q1, q2, f0, e1, e2, cols_n hn hg, nI_clamp (by omega), nI_clamp (by omega)]
        exact wq_eq wf ga go ho wo q3 q4 q5 hj
      have ea : allN cI = 2 ^ n := by rw [q0, f0]; exact allN_n n hn
      have ef : allN (f 0) = 2 ^ n := by rw [f0]; exact allN_n n hn
      rw [ea, ef]
      by_cases w1 : w = 0
      · rw [if_pos w1, if_pos w1]
        exact firstW_congr _ 0 (fun i _ hi => hq i (by omega))
      · rw [if_neg w1, if_neg w1]
        exact countW_congr _ (fun i hi => hq i hi)
theorem sig_no {f : Nat → Int32} {a b s : Int32} (ht : thereM f = 0) : isSignalF 0 a b s = inF s 0 (if thereM f = 0 then 17 else f 0 + f 1 - 1) := by
  unfold isSignalF inF
  rw [if_pos ht, if_pos rfl]
  by_cases h : s < 0
  · rw [if_pos h, if_pos h]
  · rw [if_neg h, if_neg h]
    exact if_le (i_lt2 (n := 17) (m := 18) s (by decide) rfl) 0 1
theorem ex_signal {cT cI cG cO cK cP cQ s v : Int32} {fK fX fY fZ f : Nat → Int32} {gW : Nat → Int64} (h : EXW cT cI cG cO cK cP cQ fK fX fY fZ gW f) : (if refusalF cT (zAnd (isSignalF cT cI cG s) (isInputsF cT cI v)) = 0 then bitF gW s v else refusalF cT (zAnd (isSignalF cT cI cG s) (isInputsF cT cI v))) = sigS f s v := by
  rcases h with ⟨h0, ht⟩ | ⟨h0, ht, rc, n, g, o, w0, e1, e2, ho, wf, wo, hw⟩
  · subst h0
    have ez : zAnd (isSignalF 0 cI cG s) (isInputsF 0 cI v) = szM f s v := by
      rw [sig_no ht, inp_no ht]; rfl
    rw [ez, ref_no, if_neg (none_ne _)]
    unfold sigS noneF
    rw [if_pos ht]
  · subst h0
    obtain ⟨q0, q1, q2, q3, q4, q5, g', o', hg', ho', e1', e2', ga, go⟩ := rc
    have wf2 := wf
    obtain ⟨f0, hn, hg, _⟩ := wf2
    have eg : g = g' := nI_inj (by omega) (by omega) (e1.symm.trans e1')
    subst eg
    have es : isSignalF 1 cI cG s = inF s 0 (if thereM f = 0 then 17 else f 0 + f 1 - 1) := by
      unfold isSignalF inF
      rw [if_neg ht, if_neg (show ¬ (1 : Int32) = 0 by decide), q0, q1, f0, e1, nI_add]
      by_cases h : s < 0
      · rw [if_pos h, if_pos h]
      · rw [if_neg h, if_neg h]
        exact if_le (le_m1 (by omega) s) 0 1
    have ez : zAnd (isSignalF 1 cI cG s) (isInputsF 1 cI v) = szM f s v := by
      rw [es, inp_th (q0.trans f0) f0 hn ht]; rfl
    rw [ez, ref_th]
    unfold sigS
    by_cases hm : szM f s v = 0
    · rw [if_pos hm, if_pos hm, if_neg (by decide)]
    · rw [if_neg hm, if_neg hm, if_neg ht, if_pos rfl]
      have h1 : ¬ inF s 0 (f 0 + f 1 - 1) = 0 := fun q => hm (by
        unfold szM
        rw [if_neg ht, if_pos q])
      have h2 : ¬ inpM f v = 0 := fun q => hm (by
        unfold szM
        rw [if_neg ht, if_neg h1, if_pos q])
      rw [f0, e1] at h1
      obtain ⟨k, hs, hk⟩ := in_lt hn hg h1
      obtain ⟨m, hm2, hv⟩ := inp_ok f0 hn ht h2
      have hb := (cols_bits (h := w0) wf ga hm2 g (Nat.le_refl _)).1 k hk
      rw [hw, q0, q1, f0, e1, cols_n hn hg, hs, hv, nI_clamp (by omega), shr1 _ (by omega), hb]
      exact bitF_b (by omega) (by have := pow_le64 hn; omega)
theorem exw_kind {cT cI cG cO cK cP cQ i j : Int32} {fK fX fY fZ f : Nat → Int32} {gW : Nat → Int64} (h : EXW cT cI cG cO cK cP cQ fK fX fY fZ gW f) : EXW cT cI cG cO cK cP cQ (if refusalF cT (zAnd (isGateF cT cG i) (mayPutF cT (atF fK 12 i) j)) = 0 then putF fK 12 i j else fK) fX fY fZ (if refusalF cT (zAnd (isGateF cT cG i) (mayPutF cT (atF fK 12 i) j)) = 0 then colsF cI cG (putF fK 12 i j) fX fY (-1) (-1) gW else gW) (kindT f i j) := by
  have e := (ex_kind (i := i) (j := j) h.ex).2
  rcases h with ⟨h0, ht⟩ | ⟨h0, ht, rc, n, g, o, w0, e1, e2, ho, wf, wo, hw⟩
  · have et : kindT f i j = f := by
      unfold kindT
      by_cases hz : kzM f i j = 0
      · rw [if_pos hz]
      · rw [if_neg hz, if_pos ht]
    rw [et]
    exact Or.inl ⟨h0, ht⟩
  · rcases e with ⟨a, _⟩ | ⟨a, b, c⟩
    · rw [h0] at a; exact absurd a (by decide)
    · refine Or.inr ⟨a, b, c, ?_⟩
      unfold kindT
      by_cases hz : kzM f i j = 0
      · rw [if_pos hz]
        refine ⟨n, g, o, ?_⟩
        have hr : ¬ refusalF cT (zAnd (isGateF cT cG i) (mayPutF cT (atF fK 12 i) j)) = 0 := fun q => by
          have k := (ex_kind (i := i) (j := j) (Or.inr ⟨h0, ht, rc⟩ : EX cT cI cG cO cK cP cQ fK fX fY fZ f)).1
          rw [if_pos q] at k
          unfold kindS at k
          rw [if_pos hz] at k
          rw [h0] at q
          rw [ref_th] at q
          by_cases z : zAnd (isGateF 1 cG i) (mayPutF 1 (atF fK 12 i) j) = 0
          · rw [if_pos z] at q; exact absurd q (by decide)
          · apply z
            unfold zAnd
            have eg : isGateF 1 cG i = gateM f i := gate_th (by obtain ⟨_, q1, _⟩ := rc; exact q1.trans e1) e1 wf.2.2.1 ht
            rw [eg]
            by_cases hg : gateM f i = 0
            · rw [if_pos hg]
            · exfalso
              obtain ⟨kk, _, hi, hic, ak, _⟩ := rc_gate rc ht hg
              unfold kzM at hz
              rw [if_neg hg, if_neg ht, hic] at hz
              unfold zAnd mayPutF at z
              rw [eg, if_neg hg, if_neg (show ¬ (1 : Int32) = 0 by decide), ak, in07] at z
              by_cases hj : inF j 0 7 = 0
              · rw [if_pos hj, if_pos rfl] at z; exact z rfl
              · rw [if_neg hj] at z hz
                by_cases hs : (if j = 0 then 1 else 0 : Int32) = (if f (6 + kk) = 0 then 1 else 0 : Int32)
                · rw [if_pos hs.symm] at hz; exact absurd hz (by decide)
                · rw [if_neg hs, if_pos rfl] at z; exact z rfl
        rw [if_neg hr, if_neg hr]
        exact ⟨w0, e1, e2, ho, wf, wo, hw⟩
      · rw [if_neg hz, if_neg ht]
        have hg := kzM_g hz
        obtain ⟨k, hk, hi, hic, ak, _, _, g2, hkg, hg2, e3⟩ := rc_gate rc ht hg
        have eg : g = g2 := nI_inj (by have := wf.2.2.1; omega) (by omega) (e1.symm.trans e3)
        subst eg
        rw [hic]
        have hs : (if f (6 + k) = 0 then 1 else 0 : Int32) = (if j = 0 then 1 else 0 : Int32) := by
          unfold kzM at hz
          rw [if_neg hg, if_neg ht, hic] at hz
          by_cases q : (if f (6 + k) = 0 then 1 else 0 : Int32) = (if j = 0 then 1 else 0 : Int32)
          · exact q
          · exfalso
            apply hz
            rw [if_neg q]
            by_cases z : inF j 0 7 = 0
            · rw [if_pos z]
            · rw [if_neg z]
        refine ⟨n, g, o, ?_⟩
        by_cases hr : refusalF cT (zAnd (isGateF cT cG i) (mayPutF cT (atF fK 12 i) j)) = 0
        · rw [if_pos hr, if_pos hr]
          exact ⟨gW, by rw [pk_un (by omega)]; exact e1, by rw [pk_un (by omega)]; exact e2, ho, WF_kind wf hkg hs, WO_upd wo (by omega), rfl⟩
        · exfalso
          have k2 := (ex_kind (i := i) (j := j) (Or.inr ⟨h0, ht, rc⟩ : EX cT cI cG cO cK cP cQ fK fX fY fZ f)).2
          rw [if_neg hr] at k2
          apply hr
          rw [h0, ref_th]
          have eg : isGateF 1 cG i = gateM f i := gate_th (by obtain ⟨_, q1, _⟩ := rc; exact q1.trans e1) e1 wf.2.2.1 ht
          have hj : ¬ inF j 0 7 = 0 := fun q => hz (by unfold kzM; rw [if_neg hg, if_pos q])
          unfold zAnd mayPutF
          rw [eg, if_neg hg, if_neg (show ¬ (1 : Int32) = 0 by decide), ak, in07, if_neg hj, if_pos hs.symm]
          rfl
theorem exw_reads {cT cI cG cO cK cP cQ e1 e2 e3 e4 e5 e6 e7 : Int32} {fK fX fY fZ h1 h2 h3 h4 f s z T : Nat → Int32} {gW h5 : Nat → Int64} {t : Nat} (h : EXW cT cI cG cO cK cP cQ fK fX fY fZ gW f) (hz1 : z 1 = 0) (hz2 : z 2 = 0) (hc : (∃ d1, allP t T z = some d1 ∧ (e1 = 1 ∧ RC e2 e3 e4 e5 e6 e7 h1 h2 h3 h4 d1) ∧ h5 = colsF e2 e3 h1 h2 h3 (-1) (-1) gW) ∨ (allP t T z = none ∧ (e1 = cT ∧ e2 = cI ∧ e3 = cG ∧ e4 = cO ∧ e5 = cK ∧ e6 = cP ∧ e7 = cQ ∧ h1 = fK ∧ h2 = fX ∧ h3 = fY ∧ h4 = fZ) ∧ h5 = gW)) (hm : (∃ d, allP t T z = some d ∧ ∀ i, i < 49 → s i = d i) ∨ (allP t T z = none ∧ s = f)) : EXW e1 e2 e3 e4 e5 e6 e7 h1 h2 h3 h4 h5 s := by
  rcases hc with ⟨d1, ha, ⟨he, rc⟩, hw⟩ | ⟨ha, ⟨a1, a2, a3, a4, a5, a6, a7, b1, b2, b3, b4⟩, b5⟩
  · rcases hm with ⟨d, hb, hs⟩ | ⟨hb, _⟩
    · have ed : d1 = d := Option.some.inj (ha.symm.trans hb)
      subst ed
      obtain ⟨_, k2⟩ := all_ok ha hz1 hz2
      obtain ⟨n, g, o, g1, o1, o7, wf, wo⟩ := all_wf ha hz1 hz2
      refine Or.inr ⟨he, by rw [th_agree hs]; exact k2, rc_agree rc hs, n, g, o, gW, by rw [hs 1 (by omega)]; exact g1, by rw [hs 2 (by omega)]; exact o1, o7, WF_of wf (fun i h _ _ _ _ => hs i (by omega)), ?_, hw⟩
      intro j hj
      rw [hs _ (by omega)]
      exact wo j hj
    · rw [ha] at hb; exact absurd hb (by simp)
  · rcases hm with ⟨d, hb, _⟩ | ⟨_, hs⟩
    · rw [ha] at hb; exact absurd hb (by simp)
    · subst a1 a2 a3 a4 a5 a6 a7 b1 b2 b3 b4 b5 hs
      exact h
theorem exw_adder {cT cI cG cO cK cP cQ e1 e2 e3 e4 e5 e6 e7 b : Int32} {fK fX fY fZ h1 h2 h3 h4 f s : Nat → Int32} {gW h5 : Nat → Int64} (h : EXW cT cI cG cO cK cP cQ fK fX fY fZ gW f) (hc : (adderR b = -2 ∧ e1 = cT ∧ e2 = cI ∧ e3 = cG ∧ e4 = cO ∧ e5 = cK ∧ e6 = cP ∧ e7 = cQ ∧ h1 = fK ∧ h2 = fX ∧ h3 = fY ∧ h4 = fZ) ∨ (¬ adderR b = -2 ∧ e1 = 1 ∧ (b = 1 → ∀ z, RC e2 e3 e4 e5 e6 e7 h1 h2 h3 h4 (adD1 z)) ∧ (b = 2 → ∀ z, RC e2 e3 e4 e5 e6 e7 h1 h2 h3 h4 (adD2 z)) ∧ (b = 3 → ∀ z, RC e2 e3 e4 e5 e6 e7 h1 h2 h3 h4 (adD3 z)))) (hg0 : adderR b = -2 → h5 = gW) (hg1 : ¬ adderR b = -2 → h5 = colsF e2 e3 h1 h2 h3 (-1) (-1) gW) (hm : (adderRm b = -2 ∧ s = f) ∨ (¬ adderRm b = -2 ∧ (b = 1 → s = adD1 f) ∧ (b = 2 → s = adD2 f) ∧ (b = 3 → s = adD3 f))) : EXW e1 e2 e3 e4 e5 e6 e7 h1 h2 h3 h4 h5 s := by
  have ea := adder_in b
  rcases hc with ⟨ha, a1, a2, a3, a4, a5, a6, a7, b1, b2, b3, b4⟩ | ⟨ha, he, r1, r2, r3⟩
  · rcases hm with ⟨_, hs⟩ | ⟨hb, _⟩
    · have b5 := hg0 ha
      subst a1 a2 a3 a4 a5 a6 a7 b1 b2 b3 b4 b5 hs
      exact h
    · rw [← ea] at hb; exact absurd ha hb
  · rcases hm with ⟨hb, _⟩ | ⟨hb, s1, s2, s3⟩
    · rw [← ea] at hb; exact absurd hb ha
    · have hb3 : b = 1 ∨ b = 2 ∨ b = 3 := threeM (fun q => hb (by unfold adderRm; rw [if_pos q]))
      rcases hb3 with q | q | q
      · rw [s1 q]
        obtain ⟨w1, w2, w3, w4⟩ := adW1 (z := f)
        exact Or.inr ⟨he, ad_there1, r1 q f, _, _, _, gW, w1, w2, by decide, w3, w4, hg1 ha⟩
      · rw [s2 q]
        obtain ⟨w1, w2, w3, w4⟩ := adW2 (z := f)
        exact Or.inr ⟨he, ad_there2, r2 q f, _, _, _, gW, w1, w2, by decide, w3, w4, hg1 ha⟩
      · rw [s3 q]
        obtain ⟨w1, w2, w3, w4⟩ := adW3 (z := f)
        exact Or.inr ⟨he, ad_there3, r3 q f, _, _, _, gW, w1, w2, by decide, w3, w4, hg1 ha⟩
theorem exw_draw {cT cI cG cO cK cP cQ e1 e2 e3 e4 e5 e6 e7 x n g : Int32} {fK fX fY fZ h1 h2 h3 h4 f s : Nat → Int32} {gW h5 : Nat → Int64} (h : EXW cT cI cG cO cK cP cQ fK fX fY fZ gW f) (hc : (drawR x n g = -2 ∧ e1 = cT ∧ e2 = cI ∧ e3 = cG ∧ e4 = cO ∧ e5 = cK ∧ e6 = cP ∧ e7 = cQ ∧ h1 = fK ∧ h2 = fX ∧ h3 = fY ∧ h4 = fZ) ∨ (¬ drawR x n g = -2 ∧ e1 = 1 ∧ ∀ z, RC e2 e3 e4 e5 e6 e7 h1 h2 h3 h4 (drD x.toInt64 n g z))) (hg0 : drawR x n g = -2 → h5 = gW) (hg1 : ¬ drawR x n g = -2 → h5 = colsF e2 e3 h1 h2 h3 (-1) (-1) gW) (hm : (drawRm x n g = -2 ∧ s = f) ∨ (¬ drawRm x n g = -2 ∧ s = drD x.toInt64 n g f)) : EXW e1 e2 e3 e4 e5 e6 e7 h1 h2 h3 h4 h5 s := by
  have ea := draw_in x n g
  have hex := ex_draw h.ex hc hm
  rcases hc with ⟨ha, a1, a2, a3, a4, a5, a6, a7, b1, b2, b3, b4⟩ | ⟨ha, he, r1⟩
  · rcases hm with ⟨_, hs⟩ | ⟨hb, _⟩
    · have b5 := hg0 ha
      subst a1 a2 a3 a4 a5 a6 a7 b1 b2 b3 b4 b5 hs
      exact h
    · rw [← ea] at hb; exact absurd ha hb
  · rcases hm with ⟨hb, _⟩ | ⟨hb, s1⟩
    · rw [← ea] at hb; exact absurd hb ha
    · have hx : ¬ inF x 0 999999 = 0 := fun q => hb (by unfold drawRm; rw [if_pos q])
      have hn : ¬ inF n 1 6 = 0 := fun q => hb (by unfold drawRm; rw [if_neg hx, if_pos q])
      have hg : ¬ inF g 1 12 = 0 := fun q => hb (by unfold drawRm; rw [if_neg hx, if_neg hn, if_pos q])
      obtain ⟨X, _, hX2, hX⟩ := inF_ok (lo := 0) (hi := 999999) (L := 0) (M := 999999) rfl rfl (by decide) (by decide) hx
      obtain ⟨N, hN1, hN6, hN⟩ := inF_ok (lo := 1) (hi := 6) (L := 1) (M := 6) rfl rfl (by decide) (by decide) hn
      obtain ⟨K, hK1, hK2, hK⟩ := inF_ok (lo := 1) (hi := 12) (L := 1) (M := 12) rfl rfl (by decide) (by decide) hg
      have ex : x.toInt64.toInt = (X : Int) := by rw [Int32.toInt_toInt64, hX, nI_toInt (by omega)]
      obtain ⟨o, ⟨w1, w2, w3, w4⟩, o7⟩ := drW1 (x := x.toInt64) (z := f) hN hN1 hN6 hK hK1 hK2 (by rw [ex]; omega) (by rw [ex]; omega)
      rcases hex with ⟨q, _⟩ | ⟨_, k2, k3⟩
      · rw [he] at q; exact absurd q (by decide)
      · rw [s1] at k2 k3 ⊢
        exact Or.inr ⟨he, k2, k3, _, _, _, gW, w1, w2, o7, w3, w4, hg1 ha⟩
theorem wz_th {cI cG cO cK cP cQ i w s : Int32} {fK fX fY fZ f : Nat → Int32} {n g : Nat} (ht : ¬ thereM f = 0) (rc : RC cI cG cO cK cP cQ fK fX fY fZ f) (e1 : f 1 = nI g) (f0 : f 0 = nI n) (hn : n ≤ 6) (hg : g ≤ 12) : zAnd3 (isGateF 1 cG i) (isWayF 1 (atF fK 12 i) w) (isAheadF 1 cI i s) = wzM f i w s := by
  have rc2 := rc
  obtain ⟨q0, q1, _⟩ := rc2
  have eg : isGateF 1 cG i = gateM f i := gate_th (q1.trans e1) e1 hg ht
  by_cases hz : gateM f i = 0
  · have em : wzM f i w s = 0 := if_pos hz
    rw [em]
    unfold zAnd3
    rw [eg, if_pos hz]
  · obtain ⟨k, hk, hi, hic, ak, _⟩ := rc_gate rc ht hz
    unfold zAnd3 wzM isWayF
    rw [eg, if_neg hz, if_neg hz, in01, if_neg ht, ak, hic]
    have ea : isAheadF 1 cI i s = inF s 0 (f 0 + i - 1) := by
      rw [q0, f0, hi]; exact ahead_th hn hk
    rw [ea, if_neg (show ¬ (1 : Int32) = 0 by decide)]
    by_cases w0 : w = 0
    · rw [if_pos w0, if_pos w0, if_neg (show ¬ (1 : Int32) = 0 by decide), if_neg (show ¬ (1 : Int32) = 0 by decide), if_pos w0]
    · rw [if_neg w0, if_neg w0, if_neg w0]
      by_cases w1 : w = 1
      · rw [if_pos w1, if_pos w1, if_neg (show ¬ (1 : Int32) = 0 by decide)]
        by_cases k0 : f (6 + k) = 0
        · rw [if_pos k0, if_pos rfl]
          by_cases sa : inF s 0 (f 0 + i - 1) = 0
          · rw [if_pos sa]
          · rw [if_neg sa]
        · rw [if_neg k0, if_neg (show ¬ (1 : Int32) = 0 by decide)]
      · rw [if_neg w1, if_neg w1, if_pos rfl, if_pos rfl]
theorem exw_wire {cT cI cG cO cK cP cQ i w s : Int32} {fK fX fY fZ f : Nat → Int32} {gW : Nat → Int64} (h : EXW cT cI cG cO cK cP cQ fK fX fY fZ gW f) (hok : okM f) : EXW cT cI cG cO cK cP cQ fK (if refusalF cT (zAnd3 (isGateF cT cG i) (isWayF cT (atF fK 12 i) w) (isAheadF cT cI i s)) = 0 then (if w = 0 then putF fX 12 i s else fX) else fX) (if refusalF cT (zAnd3 (isGateF cT cG i) (isWayF cT (atF fK 12 i) w) (isAheadF cT cI i s)) = 0 then (if w = 0 then fY else putF fY 12 i s) else fY) fZ (if refusalF cT (zAnd3 (isGateF cT cG i) (isWayF cT (atF fK 12 i) w) (isAheadF cT cI i s)) = 0 then (if w = 0 then colsF cI cG fK (putF fX 12 i s) fY (-1) (-1) gW else colsF cI cG fK fX (putF fY 12 i s) (-1) (-1) gW) else gW) (wireT f i w s) := by
  have e := (ex_wire (i := i) (w := w) (s := s) h.ex hok).2
  rcases h with ⟨h0, ht⟩ | ⟨h0, ht, rc, n, g, o, w0, e1, e2, ho, wf, wo, hw⟩
  · have et : wireT f i w s = f := by
      unfold wireT
      by_cases hz : wzM f i w s = 0
      · rw [if_pos hz]
      · rw [if_neg hz, if_pos ht]
    rw [et]
    exact Or.inl ⟨h0, ht⟩
  · have wf2 := wf
    obtain ⟨f0, hn, hg, _⟩ := wf2
    subst h0
    have ez := wz_th (i := i) (w := w) (s := s) ht rc e1 f0 hn hg
    rw [ez, ref_th] at e ⊢
    rcases e with ⟨a, _⟩ | ⟨a, b, c⟩
    · exact absurd a (by decide)
    · refine Or.inr ⟨a, b, c, ?_⟩
      unfold wireT wireP
      by_cases hz : wzM f i w s = 0
      · rw [if_pos hz, if_pos hz, if_neg (by decide), if_neg (by decide), if_neg (by decide)]
        exact ⟨n, g, o, w0, e1, e2, ho, wf, wo, hw⟩
      · rw [if_neg hz, if_neg hz, if_neg ht, if_pos rfl, if_pos rfl, if_pos rfl]
        have hgm := wzM_g hz
        obtain ⟨k, hk, hi, hic, _, _, _, g2, hkg, hg2, e3⟩ := rc_gate rc ht hgm
        have eg : g = g2 := nI_inj (by omega) (by omega) (e1.symm.trans e3)
        subst eg
        have hs : ¬ inF s 0 (f 0 + i - 1) = 0 := fun q => hz (by
          unfold wzM
          rw [if_neg hgm, if_neg ht, if_pos q]
          by_cases z : inF w 0 1 = 0
          · rw [if_pos z]
          · rw [if_neg z])
        rw [f0, hi] at hs
        have hs := in_lt hn (by omega) hs
        rw [hic]
        by_cases w1 : w = 0
        · rw [if_pos w1, if_pos w1, if_pos w1, if_pos w1]
          exact ⟨n, g, o, gW, by rw [pk_un (by omega)]; exact e1, by rw [pk_un (by omega)]; exact e2, ho, WF_x wf hkg hs, WO_upd wo (by omega), rfl⟩
        · rw [if_neg w1, if_neg w1, if_neg w1, if_neg w1]
          exact ⟨n, g, o, gW, by rw [pk_un (by omega)]; exact e1, by rw [pk_un (by omega)]; exact e2, ho, WF_y wf hkg hs, WO_upd wo (by omega), rfl⟩
theorem rd_weak {cT cI cG cO cK cP cQ e1 e2 e3 e4 e5 e6 e7 : Int32} {fK fX fY fZ h1 h2 h3 h4 z T : Nat → Int32} {gW h5 : Nat → Int64} {t : Nat} (hc : (∃ d1, allP t T z = some d1 ∧ (e1 = 1 ∧ RC e2 e3 e4 e5 e6 e7 h1 h2 h3 h4 d1) ∧ h5 = colsF e2 e3 h1 h2 h3 (-1) (-1) gW) ∨ (allP t T z = none ∧ (e1 = cT ∧ e2 = cI ∧ e3 = cG ∧ e4 = cO ∧ e5 = cK ∧ e6 = cP ∧ e7 = cQ ∧ h1 = fK ∧ h2 = fX ∧ h3 = fY ∧ h4 = fZ) ∧ h5 = gW)) : (∃ d1, allP t T z = some d1 ∧ e1 = 1 ∧ RC e2 e3 e4 e5 e6 e7 h1 h2 h3 h4 d1) ∨ (allP t T z = none ∧ e1 = cT ∧ e2 = cI ∧ e3 = cG ∧ e4 = cO ∧ e5 = cK ∧ e6 = cP ∧ e7 = cQ ∧ h1 = fK ∧ h2 = fX ∧ h3 = fY ∧ h4 = fZ) := by
  rcases hc with ⟨d1, a, b, _⟩ | ⟨a, b, _⟩
  · exact Or.inl ⟨d1, a, b⟩
  · exact Or.inr ⟨a, b⟩
