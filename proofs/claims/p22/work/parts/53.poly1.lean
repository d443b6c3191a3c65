/-! ===== polynomials over bits: the rows that hold them ===== -/
def pAdd (P : Int32 → Int) (x : Int32) (v : Int) : Int32 → Int := fun t => P t + (if t = x then v else 0)
theorem pAdd_at {P : Int32 → Int} {x : Int32} {v : Int} : pAdd P x v x = P x + v := by
  unfold pAdd; rw [if_pos rfl]
theorem pAdd_ne {P : Int32 → Int} {x t : Int32} {v : Int} (h : ¬ t = x) : pAdd P x v t = P t := by
  unfold pAdd; rw [if_neg h, Int.add_zero]
def R32 (n : Nat) (S C : Nat → Int32) (P : Int32 → Int) : Prop := (∀ i j, i < j → j < n → S j < S i) ∧ (∀ j, j < n → C j = Int32.ofInt (P (S j)) ∧ ¬ C j = 0) ∧ (∀ t, ¬ Int32.ofInt (P t) = 0 → ∃ j, j < n ∧ S j = t)
def R64 (n : Nat) (S : Nat → Int32) (C : Nat → Int64) (P : Int32 → Int) : Prop := (∀ i j, i < j → j < n → S j < S i) ∧ (∀ j, j < n → C j = Int64.ofInt (P (S j)) ∧ ¬ C j = 0) ∧ (∀ t, ¬ Int64.ofInt (P t) = 0 → ∃ j, j < n ∧ S j = t)
def RU (n : Nat) (S : Nat → Int32) (C : Nat → Int64) (P : Int32 → Int) : Prop := (∀ i j, i < j → j < n → ¬ S j = S i) ∧ (∀ j, j < n → C j = Int64.ofInt (P (S j))) ∧ (∀ t, ¬ Int64.ofInt (P t) = 0 → ∃ j, j < n ∧ S j = t)
theorem R32.of {n : Nat} {S C S2 C2 : Nat → Int32} {P : Int32 → Int} (h : R32 n S C P) (e : ∀ j, j < n → S2 j = S j ∧ C2 j = C j) : R32 n S2 C2 P := by
  refine ⟨fun i j hij hj => ?_, fun j hj => ?_, fun t ht => ?_⟩
  · rw [(e j hj).1, (e i (by omega)).1]; exact h.1 i j hij hj
  · rw [(e j hj).1, (e j hj).2]; exact h.2.1 j hj
  · obtain ⟨j, hj, q⟩ := h.2.2 t ht
    exact ⟨j, hj, (e j hj).1.trans q⟩
theorem R64.of {n : Nat} {S S2 : Nat → Int32} {C C2 : Nat → Int64} {P : Int32 → Int} (h : R64 n S C P) (e : ∀ j, j < n → S2 j = S j ∧ C2 j = C j) : R64 n S2 C2 P := by
  refine ⟨fun i j hij hj => ?_, fun j hj => ?_, fun t ht => ?_⟩
  · rw [(e j hj).1, (e i (by omega)).1]; exact h.1 i j hij hj
  · rw [(e j hj).1, (e j hj).2]; exact h.2.1 j hj
  · obtain ⟨j, hj, q⟩ := h.2.2 t ht
    exact ⟨j, hj, (e j hj).1.trans q⟩
theorem R32.cong {n : Nat} {S C : Nat → Int32} {P Q : Int32 → Int} (h : R32 n S C P) (e : ∀ t, P t = Q t) : R32 n S C Q := (funext e : P = Q) ▸ h
theorem RU.cong {n : Nat} {S : Nat → Int32} {C : Nat → Int64} {P Q : Int32 → Int} (h : RU n S C P) (e : ∀ t, P t = Q t) : RU n S C Q := (funext e : P = Q) ▸ h
theorem R32.nil {S C : Nat → Int32} : R32 0 S C (fun _ => 0) := ⟨fun i j _ hj => absurd hj (Nat.not_lt_zero j), fun j hj => absurd hj (Nat.not_lt_zero j), fun t ht => absurd (show Int32.ofInt 0 = 0 by decide) ht⟩
theorem RU.nil {S : Nat → Int32} {C : Nat → Int64} : RU 0 S C (fun _ => 0) := ⟨fun i j _ hj => absurd hj (Nat.not_lt_zero j), fun j hj => absurd hj (Nat.not_lt_zero j), fun t ht => absurd (show Int64.ofInt 0 = 0 by decide) ht⟩
theorem R32.add0 {n : Nat} {S C : Nat → Int32} {P : Int32 → Int} {x : Int32} {V : Int} (h : R32 n S C P) (hv : Int32.ofInt V = 0) : R32 n S C (pAdd P x V) := by
  have e : ∀ t, Int32.ofInt (pAdd P x V t) = Int32.ofInt (P t) := fun t => by
    unfold pAdd
    by_cases q : t = x
    · rw [if_pos q, Int32.ofInt_add, hv, Int32.add_zero]
    · rw [if_neg q, Int.add_zero]
  exact ⟨h.1, fun j hj => by rw [e]; exact h.2.1 j hj, fun t ht => h.2.2 t (by rw [← e]; exact ht)⟩
def insA (f : Nat → Int32) (p n : Nat) (v : Int32) : Nat → Int32 := fun i => if i < p then f i else if i = p then v else if i ≤ n then f (i - 1) else f i
def remA (f : Nat → Int32) (p n : Nat) : Nat → Int32 := fun i => if i < p then f i else if i + 1 < n then f (i + 1) else f i
theorem insA_lo {f : Nat → Int32} {p n i : Nat} {v : Int32} (h : i < p) : insA f p n v i = f i := if_pos h
theorem insA_at {f : Nat → Int32} {p n : Nat} {v : Int32} : insA f p n v p = v := by
  unfold insA; rw [if_neg (Nat.lt_irrefl p), if_pos rfl]
theorem insA_hi {f : Nat → Int32} {p n i : Nat} {v : Int32} (h : p ≤ i) (hn : i < n) : insA f p n v (i + 1) = f i := by
  unfold insA; rw [if_neg (by omega), if_neg (by omega), if_pos (by omega)]; rfl
theorem remA_lo {f : Nat → Int32} {p n i : Nat} (h : i < p) : remA f p n i = f i := if_pos h
theorem remA_hi {f : Nat → Int32} {p n i : Nat} (h : p ≤ i) (hn : i + 1 < n) : remA f p n i = f (i + 1) := by
  unfold remA; rw [if_neg (by omega), if_pos hn]
theorem ins3 {p i : Nat} : i < p ∨ i = p ∨ ∃ k, i = k + 1 ∧ p ≤ k := by
  rcases Nat.lt_trichotomy i p with h | h | h
  · exact Or.inl h
  · exact Or.inr (Or.inl h)
  · exact Or.inr (Or.inr ⟨i - 1, by omega, by omega⟩)
theorem R32.ins {n p : Nat} {S C : Nat → Int32} {P : Int32 → Int} {x v : Int32} {V : Int} (h : R32 n S C P) (hv : v = Int32.ofInt V) (hv0 : ¬ v = 0) (hp : p ≤ n) (lo : ∀ j, j < p → x < S j) (hi : ∀ j, p ≤ j → j < n → S j < x) : R32 (n + 1) (insA S p n x) (insA C p n v) (pAdd P x V) := by
  have nx : ∀ j, j < n → ¬ S j = x := fun j hj q => by
    rcases Nat.lt_or_ge j p with c | c
    · have := lo j c; rw [q] at this; exact Int32.lt_irrefl this
    · have := hi j c hj; rw [q] at this; exact Int32.lt_irrefl this
  have px : Int32.ofInt (P x) = 0 := by
    by_cases q : Int32.ofInt (P x) = 0
    · exact q
    · obtain ⟨j, hj, e⟩ := h.2.2 x q
      exact absurd e (nx j hj)
  refine ⟨fun i j hij hj => ?_, fun j hj => ?_, fun t ht => ?_⟩
  · rcases @ins3 p i with a | a | ⟨a, ea, ha⟩
    · rcases @ins3 p j with b | b | ⟨b, eb, hb⟩
      · rw [insA_lo a, insA_lo b]; exact h.1 i j hij (by omega)
      · subst b; rw [insA_lo a, insA_at]; exact lo i a
      · subst eb; rw [insA_lo a, insA_hi hb (by omega)]; exact h.1 i b (by omega) (by omega)
    · subst a
      rcases @ins3 i j with b | b | ⟨b, eb, hb⟩
      · omega
      · omega
      · subst eb; rw [insA_at, insA_hi hb (by omega)]; exact hi b hb (by omega)
    · subst ea
      rcases @ins3 p j with b | b | ⟨b, eb, hb⟩
      · omega
      · omega
      · subst eb; rw [insA_hi ha (by omega), insA_hi hb (by omega)]; exact h.1 a b (by omega) (by omega)
  · rcases @ins3 p j with b | b | ⟨b, eb, hb⟩
    · rw [insA_lo b, insA_lo b, pAdd_ne (nx j (by omega))]; exact h.2.1 j (by omega)
    · subst b
      rw [insA_at, insA_at, pAdd_at, Int32.ofInt_add, px, Int32.zero_add]; exact ⟨hv, hv0⟩
    · subst eb
      rw [insA_hi hb (by omega), insA_hi hb (by omega), pAdd_ne (nx b (by omega))]; exact h.2.1 b (by omega)
  · by_cases q : t = x
    · subst q; exact ⟨p, by omega, insA_at⟩
    · rw [pAdd_ne q] at ht
      obtain ⟨j, hj, e⟩ := h.2.2 t ht
      rcases Nat.lt_or_ge j p with c | c
      · exact ⟨j, by omega, (insA_lo c).trans e⟩
      · exact ⟨j + 1, by omega, (insA_hi c hj).trans e⟩
theorem R32.inj {n : Nat} {S C : Nat → Int32} {P : Int32 → Int} (h : R32 n S C P) {i j : Nat} (hi : i < n) (hj : j < n) (e : S i = S j) : i = j := by
  rcases Nat.lt_trichotomy i j with q | q | q
  · have := h.1 i j q hj; rw [e] at this; exact absurd this Int32.lt_irrefl
  · exact q
  · have := h.1 j i q hi; rw [e] at this; exact absurd this Int32.lt_irrefl
theorem R32.rem {n p : Nat} {S C : Nat → Int32} {P : Int32 → Int} {x : Int32} {V : Int} (h : R32 n S C P) (hp : p < n) (hx : S p = x) (hs : C p + Int32.ofInt V = 0) : R32 (n - 1) (remA S p n) (remA C p n) (pAdd P x V) := by
  have nx : ∀ j, j < n → ¬ j = p → ¬ S j = x := fun j hj q e => q (h.inj hj hp (e.trans hx.symm))
  have px : Int32.ofInt (pAdd P x V x) = 0 := by
    rw [pAdd_at, Int32.ofInt_add, ← hx, ← (h.2.1 p hp).1]; exact hs
  refine ⟨fun i j hij hj => ?_, fun j hj => ?_, fun t ht => ?_⟩
  · rcases Nat.lt_or_ge i p with a | a
    · rcases Nat.lt_or_ge j p with b | b
      · rw [remA_lo a, remA_lo b]; exact h.1 i j hij (by omega)
      · rw [remA_lo a, remA_hi b (by omega)]; exact h.1 i (j + 1) (by omega) (by omega)
    · rw [remA_hi a (by omega), remA_hi (show p ≤ j by omega) (by omega)]; exact h.1 (i + 1) (j + 1) (by omega) (by omega)
  · rcases Nat.lt_or_ge j p with b | b
    · rw [remA_lo b, remA_lo b, pAdd_ne (nx j (by omega) (by omega))]; exact h.2.1 j (by omega)
    · rw [remA_hi b (by omega), remA_hi b (by omega), pAdd_ne (nx (j + 1) (by omega) (by omega))]; exact h.2.1 (j + 1) (by omega)
  · by_cases q : t = x
    · subst q; exact absurd px ht
    · rw [pAdd_ne q] at ht
      obtain ⟨j, hj, e⟩ := h.2.2 t ht
      have jp : ¬ j = p := fun w => q (by rw [← e, w]; exact hx)
      rcases Nat.lt_or_ge j p with c | c
      · exact ⟨j, by omega, (remA_lo c).trans e⟩
      · refine ⟨j - 1, by omega, (remA_hi (by omega) (by omega)).trans ?_⟩
        rw [show j - 1 + 1 = j by omega]; exact e
theorem R32.put {n p : Nat} {S C : Nat → Int32} {P : Int32 → Int} {x : Int32} {V : Int} (h : R32 n S C P) (hp : p < n) (hx : S p = x) (hs : ¬ C p + Int32.ofInt V = 0) : R32 n S (upd C p (C p + Int32.ofInt V)) (pAdd P x V) := by
  have nx : ∀ j, j < n → ¬ j = p → ¬ S j = x := fun j hj q e => q (h.inj hj hp (e.trans hx.symm))
  refine ⟨h.1, fun j hj => ?_, fun t ht => ?_⟩
  · by_cases q : j = p
    · subst q
      rw [pk_us, hx, pAdd_at, Int32.ofInt_add, ← hx, ← (h.2.1 j hj).1]; exact ⟨rfl, hs⟩
    · rw [pk_un q, pAdd_ne (nx j hj q)]; exact h.2.1 j hj
  · by_cases q : t = x
    · exact ⟨p, hp, hx.trans q.symm⟩
    · rw [pAdd_ne q] at ht
      exact h.2.2 t ht
theorem half_ok : ∀ m, m < 321 → ((nI m).toUInt32 >>> ((1 : Int32).toUInt32 &&& Int32.toUInt32 31)).toInt32 = nI (m / 2) := by decide +kernel
theorem plF_ok {S : Nat → Int32} {x : Int32} {n : Nat} (hd : ∀ i j, i < j → j < n → S j < S i) (hn : n ≤ 160) : ∀ (k lo hi : Nat), lo ≤ hi → hi ≤ n → hi - lo < 2 ^ k → (∀ j, j < lo → x < S j) → (∀ j, hi ≤ j → j < n → S j ≤ x) → ∃ p, plF S x k (nI lo) (nI hi) = nI p ∧ p ≤ n ∧ (∀ j, j < p → x < S j) ∧ (∀ j, p ≤ j → j < n → S j ≤ x)
  | 0, lo, hi, h1, h2, h3, a, b => ⟨lo, rfl, by omega, a, fun j hj hjn => b j (by rw [Nat.pow_zero] at h3; omega) hjn⟩
  | k + 1, lo, hi, h1, h2, h3, a, b => by
    have e2 : 2 ^ (k + 1) = 2 * 2 ^ k := by rw [Nat.pow_succ, Nat.mul_comm]
    by_cases c : nI hi ≤ nI lo
    · have c2 : hi ≤ lo := (nI_leI (by omega) (by omega)).mp c
      refine ⟨lo, ?_, by omega, a, fun j hj hjn => b j (by omega) hjn⟩
      unfold plF; rw [if_pos c]
    · have c2 : ¬ hi ≤ lo := fun q => c ((nI_leI (by omega) (by omega)).mpr q)
      have em : ((nI lo + nI hi).toUInt32 >>> ((1 : Int32).toUInt32 &&& Int32.toUInt32 31)).toInt32 = nI ((lo + hi) / 2) := by
        rw [nI_add]; exact half_ok _ (by omega)
      have hm : (lo + hi) / 2 < n := by omega
      unfold plF
      rw [if_neg c, em, atF_nI (show (lo + hi) / 2 < 160 by omega) (by decide)]
      by_cases d : S ((lo + hi) / 2) ≤ x
      · rw [if_pos d]
        refine plF_ok hd hn k lo ((lo + hi) / 2) (by omega) (by omega) (by omega) a (fun j hj hjn => ?_)
        by_cases q : j = (lo + hi) / 2
        · rw [q]; exact d
        · exact Int32.le_of_lt (Int32.lt_of_lt_of_le (hd _ j (by omega) hjn) d)
      · rw [if_neg d, nI_1]
        have d2 : x < S ((lo + hi) / 2) := Int32.not_le.mp d
        refine plF_ok hd hn k ((lo + hi) / 2 + 1) hi (by omega) h2 (by omega) (fun j hj => ?_) b
        by_cases q : j = (lo + hi) / 2
        · rw [q]; exact d2
        · exact Int32.lt_trans d2 (hd j _ (by omega) hm)
theorem ins_eq {f : Nat → Int32} {p n : Nat} {v : Int32} (hp : p ≤ n) (hn : n < 160) : putF (va_cpy f f (nI p).toNatClampNeg (nI p + 1).toNatClampNeg (nI n - nI p).toNatClampNeg) 160 (nI p) v = insA f p n v := by
  rw [nI_1, pk_sub hp, nI_clamp (by omega), nI_clamp (by omega), nI_clamp (by omega), putF_nI (by omega) (by decide)]
  funext i
  unfold insA
  rcases @ins3 p i with a | a | ⟨a, ea, ha⟩
  · rw [pk_un (by omega), if_pos a]; unfold va_cpy; rw [if_neg (by omega)]
  · subst a; rw [pk_us, if_neg (Nat.lt_irrefl i), if_pos rfl]
  · subst ea
    rw [pk_un (by omega), if_neg (by omega), if_neg (by omega)]
    unfold va_cpy
    by_cases q : a + 1 ≤ n
    · rw [if_pos (by omega), if_pos q, show p + (a + 1 - (p + 1)) = a + 1 - 1 by omega]
    · rw [if_neg (by omega), if_neg q]
theorem rem_eq {f : Nat → Int32} {p n : Nat} (hp : p < n) (hn : n ≤ 160) : va_cpy f f (nI p + 1).toNatClampNeg (nI p).toNatClampNeg (nI (n - p - 1)).toNatClampNeg = remA f p n := by
  rw [nI_1, nI_clamp (by omega), nI_clamp (by omega), nI_clamp (by omega)]
  funext i
  unfold va_cpy remA
  by_cases a : i < p
  · rw [if_neg (by omega), if_pos a]
  · rw [if_neg a]
    by_cases b : i + 1 < n
    · rw [if_pos (by omega), if_pos b, show p + 1 + (i - p) = i + 1 by omega]
    · rw [if_neg (by omega), if_neg b]
theorem RU.found {n k : Nat} {S : Nat → Int32} {C : Nat → Int64} {P : Int32 → Int} {x : Int32} {b : Int64} {B : Int} (h : RU n S C P) (hk : k < n) (hx : S k = x) (hb : b = Int64.ofInt B) : RU n S (vp_updL C k (C k + b)) (pAdd P x B) := by
  have nx : ∀ j, j < n → ¬ j = k → ¬ S j = x := fun j hj q e => by
    rcases Nat.lt_trichotomy j k with w | w | w
    · exact h.1 j k w hk (hx.trans e.symm)
    · exact q w
    · exact h.1 k j w hj (e.trans hx.symm)
  refine ⟨h.1, fun j hj => ?_, fun t ht => ?_⟩
  · by_cases q : j = k
    · subst q
      rw [pk_uLs, hx, pAdd_at, Int64.ofInt_add, ← hx, ← h.2.1 j hj, ← hb]
    · rw [pk_uLn q, pAdd_ne (nx j hj q)]; exact h.2.1 j hj
  · by_cases q : t = x
    · exact ⟨k, hk, hx.trans q.symm⟩
    · rw [pAdd_ne q] at ht
      exact h.2.2 t ht
theorem RU.more {n : Nat} {S : Nat → Int32} {C : Nat → Int64} {P : Int32 → Int} {x : Int32} {b : Int64} {B : Int} (h : RU n S C P) (hx : ∀ j, j < n → ¬ S j = x) (hb : b = Int64.ofInt B) : RU (n + 1) (upd S n x) (vp_updL (vp_updL C n 0) n (vp_updL C n 0 n + b)) (pAdd P x B) := by
  have px : Int64.ofInt (P x) = 0 := by
    by_cases q : Int64.ofInt (P x) = 0
    · exact q
    · obtain ⟨j, hj, e⟩ := h.2.2 x q
      exact absurd e (hx j hj)
  refine ⟨fun i j hij hj => ?_, fun j hj => ?_, fun t ht => ?_⟩
  · by_cases q : j = n
    · subst q; rw [pk_us, pk_un (by omega)]; exact fun e => hx i (by omega) e.symm
    · rw [pk_un q, pk_un (by omega)]; exact h.1 i j hij (by omega)
  · by_cases q : j = n
    · subst q; rw [pk_us, pk_uLs, pk_uLs, pAdd_at, Int64.ofInt_add, px, ← hb]
    · rw [pk_un q, pk_uLn q, pk_uLn q, pAdd_ne (hx j (by omega))]; exact h.2.1 j (by omega)
  · by_cases q : t = x
    · exact ⟨n, by omega, pk_us.trans q.symm⟩
    · rw [pAdd_ne q] at ht
      obtain ⟨j, hj, e⟩ := h.2.2 t ht
      exact ⟨j, by omega, (pk_un (by omega)).trans e⟩
/-- terms taken over, in order -/
def BI (j n : Nat) (Q : Nat → Int32) (D : Nat → Int64) (U : Nat → Int32) (L : Nat → Int64) : Prop := (∀ i k, i < k → k < n → Q k < Q i) ∧ (∀ i, i < n → ∃ k, k < j ∧ Q i = U k ∧ D i = L k ∧ ¬ L k = 0) ∧ (∀ k, k < j → ¬ L k = 0 → ∃ i, i < n ∧ Q i = U k)
theorem BI.zero {Q U : Nat → Int32} {D L : Nat → Int64} : BI 0 0 Q D U L := ⟨fun i k _ h => absurd h (Nat.not_lt_zero k), fun i h => absurd h (Nat.not_lt_zero i), fun k h => absurd h (Nat.not_lt_zero k)⟩
theorem BI.fin {m n : Nat} {Q U : Nat → Int32} {D L : Nat → Int64} {P : Int32 → Int} (h : BI m n Q D U L) (r : RU m U L P) : R64 n Q D P := by
  refine ⟨h.1, fun i hi => ?_, fun t ht => ?_⟩
  · obtain ⟨k, hk, a, b, c⟩ := h.2.1 i hi
    rw [b, a, ← r.2.1 k hk]; exact ⟨rfl, c⟩
  · obtain ⟨k, hk, e⟩ := r.2.2 t ht
    have : ¬ L k = 0 := by rw [r.2.1 k hk, e]; exact ht
    obtain ⟨i, hi, a⟩ := h.2.2 k hk this
    exact ⟨i, hi, a.trans e⟩
theorem BI.skip {j n : Nat} {Q U : Nat → Int32} {D L : Nat → Int64} (h : BI j n Q D U L) (h0 : L j = 0) : BI (j + 1) n Q D U L := by
  refine ⟨h.1, fun i hi => ?_, fun k hk hk0 => ?_⟩
  · obtain ⟨k, hk, r⟩ := h.2.1 i hi
    exact ⟨k, by omega, r⟩
  · by_cases q : k = j
    · subst q; exact absurd h0 hk0
    · exact h.2.2 k (by omega) hk0
/-- the greater ones stay, the smaller ones go one place on -/
def NJ (t n : Nat) (x : Int32) (q Q : Nat → Int32) (d D : Nat → Int64) : Prop := t ≤ n ∧ (∀ i, i < t → q i = Q i ∧ d i = D i) ∧ (∀ i, t ≤ i → i < n → q (i + 1) = Q i ∧ d (i + 1) = D i ∧ Q i < x)
theorem NJ.start {n : Nat} {x : Int32} {Q : Nat → Int32} {D : Nat → Int64} : NJ n n x Q Q D D := ⟨Nat.le_refl n, fun _ _ => ⟨rfl, rfl⟩, fun i a b => absurd b (by omega)⟩
theorem NJ.step {t n : Nat} {x : Int32} {q Q : Nat → Int32} {d D : Nat → Int64} (h : NJ t n x q Q d D) (h0 : 0 < t) (hx : q (t - 1) < x) : NJ (t - 1) n x (upd q t (q (t - 1))) Q (vp_updL d t (d (t - 1))) D := by
  have e := h.2.1 (t - 1) (by omega)
  have h1 := h.1
  refine ⟨by omega, fun i hi => ?_, fun i a b => ?_⟩
  · rw [pk_un (by omega), pk_uLn (by omega)]; exact h.2.1 i (by omega)
  · by_cases c : i + 1 = t
    · have ei : i = t - 1 := by omega
      rw [c, pk_us, pk_uLs, ei]; exact ⟨e.1, e.2, by rw [← e.1]; exact hx⟩
    · rw [pk_un c, pk_uLn c]; exact h.2.2 i (by omega) b
theorem NJ.fin {t n j m : Nat} {q Q U : Nat → Int32} {d D L : Nat → Int64} {P : Int32 → Int} (h : NJ t n (U j) q Q d D) (hb : BI j n Q D U L) (r : RU m U L P) (hj : j < m) (hc : 0 < t → ¬ q (t - 1) < U j) (h0 : ¬ L j = 0) : BI (j + 1) (n + 1) (upd q t (U j)) (vp_updL d t (L j)) U L := by
  have h1 := h.1
  have nx : ∀ i, i < n → ¬ Q i = U j := fun i hi e => by
    obtain ⟨k, hk, a, _⟩ := hb.2.1 i hi
    exact r.1 k j hk hj (e.symm.trans a)
  have lo : ∀ i, i < t → U j < Q i := fun i hi => by
    have e := h.2.1 (t - 1) (by omega)
    have c := hc (by omega)
    rw [e.1] at c
    have c2 : U j < Q (t - 1) := Int32.lt_of_le_of_ne (Int32.not_lt.mp c) (fun q => nx (t - 1) (by omega) q.symm)
    by_cases w : i = t - 1
    · rw [w]; exact c2
    · exact Int32.lt_trans c2 (hb.1 i (t - 1) (by omega) (by omega))
  have vS : ∀ i, i < n + 1 → (i < t ∧ upd q t (U j) i = Q i ∧ vp_updL d t (L j) i = D i) ∨ (i = t ∧ upd q t (U j) i = U j ∧ vp_updL d t (L j) i = L j) ∨ ∃ k, i = k + 1 ∧ t ≤ k ∧ k < n ∧ upd q t (U j) i = Q k ∧ vp_updL d t (L j) i = D k ∧ Q k < U j := fun i hi => by
    rcases @ins3 t i with a | a | ⟨a, ea, ha⟩
    · refine Or.inl ⟨a, ?_⟩
      rw [pk_un (by omega), pk_uLn (by omega)]; exact h.2.1 i a
    · refine Or.inr (Or.inl ⟨a, ?_⟩)
      subst a
      exact ⟨pk_us, pk_uLs⟩
    · refine Or.inr (Or.inr ⟨a, ea, ha, by omega, ?_⟩)
      subst ea
      rw [pk_un (by omega), pk_uLn (by omega)]; exact h.2.2 a ha (by omega)
  refine ⟨fun i k hik hk => ?_, fun i hi => ?_, fun k hk hk0 => ?_⟩
  · rcases vS i (by omega) with ⟨a, ei, _⟩ | ⟨a, ei, _⟩ | ⟨a, ea, ha, han, ei, _, hlt⟩
    · rcases vS k hk with ⟨b, ek, _⟩ | ⟨b, ek, _⟩ | ⟨b, eb, hb2, hbn, ek, _, hlt⟩
      · rw [ei, ek]; exact hb.1 i k hik (by omega)
      · rw [ei, ek]; exact lo i a
      · rw [ei, ek]; exact hb.1 i b (by omega) hbn
    · rcases vS k hk with ⟨b, ek, _⟩ | ⟨b, ek, _⟩ | ⟨b, eb, hb2, hbn, ek, _, hlt⟩
      · omega
      · omega
      · rw [ei, ek]; exact hlt
    · rcases vS k hk with ⟨b, ek, _⟩ | ⟨b, ek, _⟩ | ⟨b, eb, hb2, hbn, ek, _, _⟩
      · omega
      · omega
      · rw [ei, ek]; exact hb.1 a b (by omega) hbn
  · rcases vS i hi with ⟨a, ei, di⟩ | ⟨a, ei, di⟩ | ⟨a, ea, ha, han, ei, di, hlt⟩
    · obtain ⟨k, hk, x1, x2, x3⟩ := hb.2.1 i (by omega)
      exact ⟨k, by omega, ei.trans x1, di.trans x2, x3⟩
    · exact ⟨j, by omega, ei, di, h0⟩
    · obtain ⟨k, hk, x1, x2, x3⟩ := hb.2.1 a han
      exact ⟨k, by omega, ei.trans x1, di.trans x2, x3⟩
  · by_cases w : k = j
    · subst w; exact ⟨t, by omega, pk_us⟩
    · obtain ⟨i, hi, a⟩ := hb.2.2 k (by omega) hk0
      rcases Nat.lt_or_ge i t with c | c
      · refine ⟨i, by omega, ?_⟩
        rw [pk_un (by omega), (h.2.1 i c).1]; exact a
      · refine ⟨i + 1, by omega, ?_⟩
        rw [pk_un (by omega), (h.2.2 i c hi).1]; exact a
/-- two rows of one polynomial are the same -/
theorem desc_uniq {n m : Nat} {S T : Nat → Int32} (hS : ∀ i j, i < j → j < n → S j < S i) (hT : ∀ i j, i < j → j < m → T j < T i) (h1 : ∀ j, j < n → ∃ i, i < m ∧ T i = S j) (h2 : ∀ j, j < m → ∃ i, i < n ∧ S i = T j) : ∀ j, j < n → j < m ∧ S j = T j := by
  intro j
  induction j using Nat.strongRecOn with
  | ind j ih =>
    intro hj
    obtain ⟨i, hi, e⟩ := h1 j hj
    rcases Nat.lt_trichotomy i j with w | w | w
    · have q := (ih i w (by omega)).2
      have := hS i j w hj
      rw [q, e] at this
      exact absurd this Int32.lt_irrefl
    · subst w; exact ⟨hi, e.symm⟩
    · have hjm : j < m := by omega
      obtain ⟨k, hk, ek⟩ := h2 j hjm
      have l1 : S j < S k := by
        rw [ek, ← e]; exact hT j i w hi
      have kj : k < j := by
        rcases Nat.lt_trichotomy k j with v | v | v
        · exact v
        · subst v; exact absurd l1 Int32.lt_irrefl
        · have := Int32.lt_trans l1 (hS j k v hk)
          exact absurd this Int32.lt_irrefl
      obtain ⟨km, e2⟩ := ih k kj hk
      have := hT k j kj hjm
      rw [← e2, ek] at this
      exact absurd this Int32.lt_irrefl
theorem of32_z {a : Int} (h0 : -2147483648 ≤ a) (h1 : a < 2147483648) : (Int32.ofInt a).toInt = a := by
  rw [Int32.toInt_ofInt]
  exact Int.bmod_eq_of_le (by show -(((4294967296 : Nat) : Int) / 2) ≤ a; omega) (by show a < (((4294967296 : Nat) : Int) + 1) / 2; omega)
theorem of64_z {a : Int} (h0 : -2147483648 ≤ a) (h1 : a < 2147483648) : (Int64.ofInt a).toInt = a := by
  rw [Int64.toInt_ofInt]
  exact Int.bmod_eq_of_le (by show -(((18446744073709551616 : Nat) : Int) / 2) ≤ a; omega) (by show a < (((18446744073709551616 : Nat) : Int) + 1) / 2; omega)
theorem of32_0 {a : Int} (h0 : -2147483648 ≤ a) (h1 : a < 2147483648) : Int32.ofInt a = 0 ↔ a = 0 := by
  constructor
  · intro h
    have := congrArg Int32.toInt h
    rw [of32_z h0 h1] at this
    exact this
  · intro h; rw [h]; rfl
theorem of64_0 {a : Int} (h0 : -2147483648 ≤ a) (h1 : a < 2147483648) : Int64.ofInt a = 0 ↔ a = 0 := by
  constructor
  · intro h
    have := congrArg Int64.toInt h
    rw [of64_z h0 h1] at this
    exact this
  · intro h; rw [h]; rfl
def BdP (P : Int32 → Int) : Prop := ∀ t, -2147483648 < P t ∧ P t < 2147483648
theorem R_same {n m : Nat} {S C T : Nat → Int32} {D : Nat → Int64} {P : Int32 → Int} (hb : BdP P) (a : R32 n S C P) (b : R64 m T D P) : n = m ∧ ∀ j, j < n → S j = T j ∧ (C j).toInt = P (S j) ∧ (D j).toInt = P (S j) ∧ ¬ P (S j) = 0 := by
  have z1 : ∀ t, Int32.ofInt (P t) = 0 ↔ P t = 0 := fun t => of32_0 (by have := (hb t).1; omega) (hb t).2
  have z2 : ∀ t, Int64.ofInt (P t) = 0 ↔ P t = 0 := fun t => of64_0 (by have := (hb t).1; omega) (hb t).2
  have s1 : ∀ j, j < n → ∃ i, i < m ∧ T i = S j := fun j hj => b.2.2 (S j) (fun q => (a.2.1 j hj).2 (by rw [(a.2.1 j hj).1]; exact (z1 _).mpr ((z2 _).mp q)))
  have s2 : ∀ j, j < m → ∃ i, i < n ∧ S i = T j := fun j hj => a.2.2 (T j) (fun q => (b.2.1 j hj).2 (by rw [(b.2.1 j hj).1]; exact (z2 _).mpr ((z1 _).mp q)))
  have u1 := desc_uniq a.1 b.1 s1 s2
  have u2 := desc_uniq b.1 a.1 s2 s1
  have e : n = m := by
    rcases Nat.lt_trichotomy n m with q | q | q
    · have := (u2 n q).1; omega
    · exact q
    · have := (u1 m q).1; omega
  refine ⟨e, fun j hj => ?_⟩
  have w := u1 j hj
  refine ⟨w.2, ?_, ?_, ?_⟩
  · rw [(a.2.1 j hj).1]; exact of32_z (by have := (hb (S j)).1; omega) (hb (S j)).2
  · rw [(b.2.1 j w.1).1, ← w.2]; exact of64_z (by have := (hb (S j)).1; omega) (hb (S j)).2
  · exact fun q => (a.2.1 j hj).2 (by rw [(a.2.1 j hj).1]; exact (z1 _).mpr q)
theorem R32_same {n m : Nat} {S C T D : Nat → Int32} {P : Int32 → Int} (a : R32 n S C P) (b : R32 m T D P) : n = m := by
  have s1 : ∀ j, j < n → ∃ i, i < m ∧ T i = S j := fun j hj => b.2.2 (S j) (fun q => (a.2.1 j hj).2 ((a.2.1 j hj).1.trans q))
  have s2 : ∀ j, j < m → ∃ i, i < n ∧ S i = T j := fun j hj => a.2.2 (T j) (fun q => (b.2.1 j hj).2 ((b.2.1 j hj).1.trans q))
  have u1 := desc_uniq a.1 b.1 s1 s2
  have u2 := desc_uniq b.1 a.1 s2 s1
  rcases Nat.lt_trichotomy n m with q | q | q
  · have := (u2 n q).1; omega
  · exact q
  · have := (u1 m q).1; omega
