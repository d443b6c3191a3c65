/-! ===== kinds as told, through every call that changes the circuit ===== -/
theorem gf_eq {f : Nat → Int32} {g : Nat} (h : f 1 = nI g) (hg : g ≤ 12) : gf f = g := by
  unfold gf
  rw [h, nI_clamp (by omega)]
theorem KD_0 {N t p q : Int32} {z : Nat → Int32} (ht : ∃ k, k < 4 ∧ t = nI k) : KD (begF N t p q z) 0 := ⟨fun j hj => absurd hj (Nat.not_lt_zero j), by rw [begF_3]; exact ht⟩
theorem KD_g {d : Nat → Int32} {k x y : Int32} (g : Nat) (hg : g < 12) (hk : ∃ m, m < 8 ∧ k = nI m) (h : KD d g) : KD (laysF d g k x y) (g + 1) := by
  refine ⟨fun j hj => ?_, by rw [laysF_3]; exact h.2⟩
  unfold laysF
  rw [pk_un (by omega), pk_un (by omega), pk_un (by omega)]
  by_cases e : j = g
  · subst e; rw [pk_us]; exact hk
  · rw [pk_un (by omega)]; exact h.1 j (by omega)
theorem KD_o {d : Nat → Int32} {s : Int32} (g o : Nat) (hg : g ≤ 12) (h : KD d g) : KD (outsF d o s) g := by
  refine ⟨fun j hj => ?_, by rw [outsF_3]; exact h.2⟩
  unfold outsF
  rw [pk_un (by omega), pk_un (by omega)]; exact h.1 j hj
theorem KD_n {d kv xv yv : Nat → Int32} (h : KD d 0) : ∀ N, N ≤ 12 → (∀ j, j < N → ∃ m, m < 8 ∧ kv j = nI m) → KD (laysN kv xv yv N d) N
  | 0, _, _ => h
  | N + 1, hN, hw => KD_g N (by omega) (hw N (by omega)) (KD_n h N (by omega) (fun j hj => hw j (by omega)))
theorem adK1 {z : Nat → Int32} : KD (adD1 z) 2 := by
  unfold adD1
  exact (KD_o 2 1 (by decide) (KD_g 1 (by decide) ⟨1, by decide, rfl⟩ (KD_o 1 0 (by decide) (KD_g 0 (by decide) ⟨3, by decide, rfl⟩ (KD_0 ⟨0, by decide, rfl⟩)))))
theorem adK2 {z : Nat → Int32} : KD (adD2 z) 7 := by
  unfold adD2
  exact (KD_o 7 2 (by decide) (KD_g 6 (by decide) ⟨2, by decide, rfl⟩ (KD_g 5 (by decide) ⟨1, by decide, rfl⟩ (KD_g 4 (by decide) ⟨1, by decide, rfl⟩ (KD_o 4 1 (by decide) (KD_g 3 (by decide) ⟨3, by decide, rfl⟩ (KD_g 2 (by decide) ⟨3, by decide, rfl⟩ (KD_g 1 (by decide) ⟨1, by decide, rfl⟩ (KD_o 1 0 (by decide) (KD_g 0 (by decide) ⟨3, by decide, rfl⟩ (KD_0 ⟨0, by decide, rfl⟩)))))))))))
theorem adK3 {z : Nat → Int32} : KD (adD3 z) 12 := by
  unfold adD3
  exact (KD_o 12 3 (by decide) (KD_g 11 (by decide) ⟨2, by decide, rfl⟩ (KD_g 10 (by decide) ⟨1, by decide, rfl⟩ (KD_g 9 (by decide) ⟨1, by decide, rfl⟩ (KD_o 9 2 (by decide) (KD_g 8 (by decide) ⟨3, by decide, rfl⟩ (KD_g 7 (by decide) ⟨3, by decide, rfl⟩ (KD_g 6 (by decide) ⟨2, by decide, rfl⟩ (KD_g 5 (by decide) ⟨1, by decide, rfl⟩ (KD_g 4 (by decide) ⟨1, by decide, rfl⟩ (KD_o 4 1 (by decide) (KD_g 3 (by decide) ⟨3, by decide, rfl⟩ (KD_g 2 (by decide) ⟨3, by decide, rfl⟩ (KD_g 1 (by decide) ⟨1, by decide, rfl⟩ (KD_o 1 0 (by decide) (KD_g 0 (by decide) ⟨3, by decide, rfl⟩ (KD_0 ⟨0, by decide, rfl⟩)))))))))))))))))
theorem drK {x : Int64} {n g : Int32} {nn N : Nat} {z : Nat → Int32} (hn : n = nI nn) (h1 : 1 ≤ nn) (h6 : nn ≤ 6) (hg : g = nI N) (hN1 : 1 ≤ N) (hN : N ≤ 12) (hx0 : 0 ≤ x.toInt) (hx1 : x.toInt < 2147483648) : KD (drD x n g z) N := by
  have hc : g.toNatClampNeg = N := by rw [hg]; exact nI_clamp (by omega)
  have w : KD (drB x n N z) N := KD_n (KD_0 ⟨0, by decide, rfl⟩) N hN (fun j hj => by
    have hd := drawX_ok hx0 hx1 (j + 1)
    obtain ⟨s, e, l⟩ := rem_lt (a := drawX x (j + 1) / 65536) (m := 8) (by decide) (by decide) (div_ok hd.1 (by decide))
    exact ⟨s, l, e⟩)
  unfold drD
  rw [hc]
  by_cases c : g ≤ 1
  · rw [if_pos c]; exact KD_o N 0 hN w
  · rw [if_neg c]; exact KD_o N 1 hN (KD_o N 0 hN w)
theorem gk_lt {t : Nat} {f : Nat → Int32} {lo b j : Nat} : ∀ n, gk t f lo b n = some j → lo ≤ j ∧ j < lo + n
  | 0, h => absurd h (by unfold gk; simp)
  | n + 1, h => by
    have h : (match gk t f lo b n with | some j => some j | none => if CW t f (lo + n) b then some (lo + n) else none) = some j := h
    cases hq : gk t f lo b n with
    | some i =>
      rw [hq] at h
      have e : i = j := Option.some.inj h
      subst e
      have := gk_lt n hq
      omega
    | none =>
      rw [hq] at h
      by_cases c : CW t f (lo + n) b
      · have h : (if CW t f (lo + n) b then some (lo + n) else none) = some j := h
        rw [if_pos c] at h
        have e : lo + n = j := Option.some.inj h
        omega
      · have h : (if CW t f (lo + n) b then some (lo + n) else none) = some j := h
        rw [if_neg c] at h
        exact absurd h (by simp)
def KG (d : Nat → Int32) (g : Nat) : Prop := ∀ j, j < g → ∃ k, k < 8 ∧ d (6 + j) = nI k
theorem gateP_kd {t : Nat} {f d : Nat → Int32} {a : Nat} {q : (Nat → Int32) × Nat} (h : gateP t f d a = some q) : ∃ (k : Nat) (x y : Int32), k < 8 ∧ q.1 = addG d (nI k) x y := by
  unfold gateP at h
  obtain ⟨k, hk, h⟩ := Option.bind_eq_some_iff.mp h
  have hl := gk_lt 8 hk
  obtain ⟨x, hx, h⟩ := Option.bind_eq_some_iff.mp h
  by_cases k0 : k = 0
  · rw [if_pos k0] at h
    obtain ⟨s, _, h⟩ := Option.bind_eq_some_iff.mp h
    exact ⟨k, x.1, -1, by omega, by rw [← Option.some.inj h]⟩
  · rw [if_neg k0] at h
    obtain ⟨y, hy, h⟩ := Option.bind_eq_some_iff.mp h
    obtain ⟨s, _, h⟩ := Option.bind_eq_some_iff.mp h
    exact ⟨k, x.1, y.1, by omega, by rw [← Option.some.inj h]⟩
theorem gatesP_kd {t : Nat} {f : Nat → Int32} : ∀ (m : Nat) {d : Nat → Int32} {a g : Nat} {q : (Nat → Int32) × Nat}, gatesP t f m d a = some q → d 1 = nI g → g + m ≤ 12 → KG d g → ∃ g2, q.1 1 = nI g2 ∧ g2 ≤ 12 ∧ KG q.1 g2
  | 0, d, a, g, q, h, h1, hg, kg => by
    have e : q = (d, a) := (Option.some.inj h).symm
    subst e
    exact ⟨g, h1, by omega, kg⟩
  | m + 1, d, a, g, q, h, h1, hg, kg => by
    have h : (match tkW t f 13 a with | none => some (d, a) | some a1 => (gateP t f d a1).bind fun q => gatesP t f m q.1 q.2) = some q := h
    cases hw : tkW t f 13 a with
    | none =>
      rw [hw] at h
      have e : q = (d, a) := (Option.some.inj h).symm
      subst e
      exact ⟨g, h1, by omega, kg⟩
    | some a1 =>
      rw [hw] at h
      obtain ⟨p, hp, h⟩ := Option.bind_eq_some_iff.mp h
      have hp1 := (gate_sh h1 (by omega) hp).1
      obtain ⟨k, x, y, hk, e⟩ := gateP_kd hp
      refine gatesP_kd m h hp1 (by omega) ?_
      rw [e, addG_eq h1 (by omega)]
      intro j hj
      rw [pk_un (by omega), pk_un (by omega), pk_un (by omega)]
      by_cases w : j = g
      · subst w; rw [pk_us]; exact ⟨k, hk, rfl⟩
      · rw [pk_un (by omega)]; exact kg j (by omega)
theorem all_kd {t : Nat} {f z d : Nat → Int32} (h : allP t f z = some d) (hz1 : z 1 = 0) (hz2 : z 2 = 0) : ∃ g, d 1 = nI g ∧ g ≤ 12 ∧ KD d g := by
  rw [all_eq] at h
  obtain ⟨n, hn, h⟩ := Option.bind_eq_some_iff.mp h
  obtain ⟨q, hq, h⟩ := Option.bind_eq_some_iff.mp h
  obtain ⟨o, ho, h⟩ := Option.bind_eq_some_iff.mp h
  obtain ⟨w, hw, h⟩ := Option.bind_eq_some_iff.mp h
  by_cases c : sk t f w.2 = t
  · rw [if_pos c] at h
    have ed : w.1 = d := Option.some.inj h
    have hd1 : upd z 0 n.1 1 = nI 0 := by rw [pk_un (by omega)]; exact hz1
    obtain ⟨g, g1, g12, kg⟩ := gatesP_kd 12 hq hd1 (by omega) (fun j hj => absurd hj (Nat.not_lt_zero j))
    obtain ⟨_, g0, g2⟩ := gatesP_inv 12 (g := 0) hq hd1 (by omega)
    rw [pk_un (by omega), hz2] at g2
    unfold outP at ho
    obtain ⟨_, _, ho⟩ := Option.bind_eq_some_iff.mp ho
    unfold outsQ at ho
    obtain ⟨p, hp, ho⟩ := Option.bind_eq_some_iff.mp ho
    obtain ⟨_, _, ho⟩ := Option.bind_eq_some_iff.mp ho
    have eo : o.1 = p.1 := by rw [← Option.some.inj ho]
    have of := (outsP_inv 7 (o := 0) hp g2 (by omega)).2
    unfold tskP at hw
    obtain ⟨_, _, hw⟩ := Option.bind_eq_some_iff.mp hw
    unfold taskP at hw
    obtain ⟨k, hk, hw⟩ := Option.bind_eq_some_iff.mp hw
    have hl := gk_lt 4 hk
    obtain ⟨a, _, hw⟩ := Option.bind_eq_some_iff.mp hw
    obtain ⟨b, _, hw⟩ := Option.bind_eq_some_iff.mp hw
    obtain ⟨_, _, hw⟩ := Option.bind_eq_some_iff.mp hw
    have ew : d = endD p.1 (nI (k - 8)) a.1 b.1 := by rw [← ed, ← Option.some.inj hw, eo]
    refine ⟨g, ?_, g12, fun j hj => ?_, k - 8, by omega, ?_⟩
    · rw [ew, endD_hi (by omega), of 1 (by omega) (by omega)]; exact g1
    · rw [ew, endD_hi (by omega), of _ (by omega) (by omega)]; exact kg j hj
    · rw [ew, endD_3]
  · rw [if_neg c] at h; exact absurd h (by simp)
theorem KD_of {d e : Nat → Int32} {g : Nat} (hg : g ≤ 12) (h : KD d g) (ha : ∀ i, i < 18 → e i = d i) : KD e g := ⟨fun j hj => by rw [ha _ (by omega)]; exact h.1 j hj, by rw [ha 3 (by omega)]; exact h.2⟩
theorem okM.g12 {f : Nat → Int32} (h : okM f) : gf f ≤ 12 := by
  obtain ⟨n, g, o, p, q, h0, n6, h1, g12, _⟩ := h
  rw [gf_eq h1 g12]; exact g12
theorem kd_kind {f : Nat → Int32} {i j : Int32} (h : KD f (gf f)) : KD (kindT f i j) (gf (kindT f i j)) := by
  unfold kindT
  by_cases hz : kzM f i j = 0
  · rw [if_pos hz]; exact h
  · rw [if_neg hz]
    by_cases ht : thereM f = 0
    · rw [if_pos ht]; exact h
    · rw [if_neg ht]
      have hj : ¬ inF j 0 7 = 0 := fun q => hz (by unfold kzM; rw [if_neg (kzM_g hz), if_pos q])
      obtain ⟨k, _, hk, e⟩ := inF_ok (lo := 0) (hi := 7) (L := 0) (M := 7) rfl rfl (by decide) (by decide) hj
      have eg : gf (upd f (6 + i.toNatClampNeg) j) = gf f := by unfold gf; rw [pk_un (by omega)]
      rw [eg]
      refine ⟨fun m hm => ?_, by rw [pk_un (by omega)]; exact h.2⟩
      by_cases w : m = i.toNatClampNeg
      · rw [w, pk_us]; exact ⟨k, by omega, e⟩
      · rw [pk_un (by omega)]; exact h.1 m hm
theorem kd_wire {f : Nat → Int32} {i w s : Int32} (hg : gf f ≤ 12) (h : KD f (gf f)) : KD (wireT f i w s) (gf (wireT f i w s)) := by
  unfold wireT
  by_cases hz : wzM f i w s = 0
  · rw [if_pos hz]; exact h
  · rw [if_neg hz]
    by_cases ht : thereM f = 0
    · rw [if_pos ht]; exact h
    · rw [if_neg ht]
      have hp : 18 ≤ wireP w := by
        unfold wireP
        by_cases c : w = 0
        · rw [if_pos c]; omega
        · rw [if_neg c]; omega
      have eg : gf (upd f (wireP w + i.toNatClampNeg) s) = gf f := by unfold gf; rw [pk_un (by omega)]
      rw [eg]
      exact KD_of hg h (fun m hm => pk_un (by omega))
/-! ===== both sides with the stages ===== -/
theorem mk_wk {cT cI cG cO cK cP cQ : Int32} {fK fX fY fZ f : Nat → Int32} {gW : Nat → Int64} (h : EXW cT cI cG cO cK cP cQ fK fX fY fZ gW f) (ht : ¬ cT = 0) (hok : okM f) (kd : KD f (gf f)) : WK f := by
  rcases h with ⟨q, _⟩ | ⟨_, _, _, n, g, o, w0, e1, e2, ho, wf, wo, _⟩
  · exact absurd q ht
  · obtain ⟨n', g', o', p, q, h0, n6, h1, g12, h2, o7, h4, p6, h5, q6⟩ := hok
    have eg : gf f = g := gf_eq e1 wf.2.2.1
    have eo : of_ f = o := by unfold of_; rw [e2, nI_clamp (by omega)]
    have ep : pf_ f = p := by unfold pf_; rw [h4, nI_clamp (by omega)]
    have eq : qf_ f = q := by unfold qf_; rw [h5, nI_clamp (by omega)]
    rw [eg] at kd
    unfold WK
    rw [eg, eo, ep, eq]
    exact ⟨n, wf.1, e1, e2, h4, h5, ho, p6, q6, wf, wo, kd⟩
theorem EXS_new {cT cI cG cO cK cP cQ sN sB : Int32} {fK fX fY fZ a b c f : Nat → Int32} {gW : Nat → Int64} (h : EXW cT cI cG cO cK cP cQ fK fX fY fZ gW f) (hok : okM f) (kd : KD f (gf f)) (h1 : sN = 0) (h2 : sB = 0) : EXS cT cI cG cO cK cP cQ fK fX fY fZ gW sN sB a b c f := ⟨h, fun ht => ⟨mk_wk h ht hok kd, 0, h1, by rw [h2]; exact SK.nil⟩⟩
theorem EXS.wk {cT cI cG cO cK cP cQ sN sB : Int32} {fK fX fY fZ a b c f : Nat → Int32} {gW : Nat → Int64} (h : EXS cT cI cG cO cK cP cQ fK fX fY fZ gW sN sB a b c f) (ht : ¬ thereM f = 0) : WK f := by
  rcases h.1 with ⟨_, q⟩ | ⟨q, _⟩
  · exact absurd q ht
  · exact (h.2 (by rw [q]; decide)).1
theorem kz_th {cI cG cO cK cP cQ i j : Int32} {fK fX fY fZ f : Nat → Int32} {g : Nat} (ht : ¬ thereM f = 0) (rc : RC cI cG cO cK cP cQ fK fX fY fZ f) (e1 : f 1 = nI g) (hg : g ≤ 12) : zAnd (isGateF 1 cG i) (mayPutF 1 (atF fK 12 i) j) = kzM f i j := by
  have rc2 := rc
  obtain ⟨q0, q1, _⟩ := rc2
  have eg : isGateF 1 cG i = gateM f i := gate_th (q1.trans e1) e1 hg ht
  by_cases hz : gateM f i = 0
  · have em : kzM f i j = 0 := if_pos hz
    rw [em]
    unfold zAnd
    rw [eg, if_pos hz]
  · obtain ⟨k, hk, hi, hic, ak, _⟩ := rc_gate rc ht hz
    unfold zAnd mayPutF kzM
    rw [eg, if_neg hz, if_neg hz, if_neg (show ¬ (1 : Int32) = 0 by decide), ak, in07, if_neg ht, hic]
    by_cases hj : inF j 0 7 = 0
    · rw [if_pos hj, if_pos hj, if_pos rfl]
    · rw [if_neg hj, if_neg hj]
      by_cases hs : (if j = 0 then 1 else 0 : Int32) = (if f (6 + k) = 0 then 1 else 0 : Int32)
      · rw [if_pos hs, if_pos hs.symm, if_neg (show ¬ (1 : Int32) = 0 by decide)]
      · rw [if_neg hs, if_pos rfl, if_neg (fun q => hs q.symm)]
theorem EXS.same {cT cI cG cO cK cP cQ sN sB : Int32} {fK fX fY fZ a b c f s : Nat → Int32} {gW : Nat → Int64} (h : EXS cT cI cG cO cK cP cQ fK fX fY fZ gW sN sB a b c f) (e : s = f) : EXS cT cI cG cO cK cP cQ fK fX fY fZ gW sN sB a b c s := by
  rw [e]; exact h
theorem exs_kind {cT cI cG cO cK cP cQ i j sN sB : Int32} {fK fX fY fZ a b c f : Nat → Int32} {gW : Nat → Int64} (h : EXS cT cI cG cO cK cP cQ fK fX fY fZ gW sN sB a b c f) (hok : okM (kindT f i j)) (kd : KD f (gf f)) : EXS cT cI cG cO cK cP cQ (if refusalF cT (zAnd (isGateF cT cG i) (mayPutF cT (atF fK 12 i) j)) = 0 then putF fK 12 i j else fK) fX fY fZ (if refusalF cT (zAnd (isGateF cT cG i) (mayPutF cT (atF fK 12 i) j)) = 0 then colsF cI cG (putF fK 12 i j) fX fY (-1) (-1) gW else gW) (if refusalF cT (zAnd (isGateF cT cG i) (mayPutF cT (atF fK 12 i) j)) = 0 then 0 else sN) (if refusalF cT (zAnd (isGateF cT cG i) (mayPutF cT (atF fK 12 i) j)) = 0 then 0 else sB) a b c (kindT f i j) := by
  have hx := exw_kind (i := i) (j := j) h.1
  by_cases hr : refusalF cT (zAnd (isGateF cT cG i) (mayPutF cT (atF fK 12 i) j)) = 0
  · rw [if_pos hr, if_pos hr] at hx
    rw [if_pos hr, if_pos hr, if_pos hr, if_pos hr]
    exact EXS_new hx hok (kd_kind kd) rfl rfl
  · rw [if_neg hr, if_neg hr, if_neg hr, if_neg hr]
    refine h.same ?_
    unfold kindT
    by_cases hz : kzM f i j = 0
    · rw [if_pos hz]
    · rw [if_neg hz]
      by_cases ht : thereM f = 0
      · rw [if_pos ht]
      · exfalso
        rcases h.1 with ⟨_, q⟩ | ⟨q, _, rc, n, g, o, w0, e1, _, _, wf, _⟩
        · exact ht q
        · apply hr
          rw [q, ref_th, kz_th ht rc e1 wf.2.2.1, if_neg hz]
theorem exs_wire {cT cI cG cO cK cP cQ i w s sN sB : Int32} {fK fX fY fZ a b c f : Nat → Int32} {gW : Nat → Int64} (h : EXS cT cI cG cO cK cP cQ fK fX fY fZ gW sN sB a b c f) (hok0 : okM f) (hok : okM (wireT f i w s)) (kd : KD f (gf f)) : EXS cT cI cG cO cK cP cQ fK (if refusalF cT (zAnd3 (isGateF cT cG i) (isWayF cT (atF fK 12 i) w) (isAheadF cT cI i s)) = 0 then (if w = 0 then putF fX 12 i s else fX) else fX) (if refusalF cT (zAnd3 (isGateF cT cG i) (isWayF cT (atF fK 12 i) w) (isAheadF cT cI i s)) = 0 then (if w = 0 then fY else putF fY 12 i s) else fY) fZ (if refusalF cT (zAnd3 (isGateF cT cG i) (isWayF cT (atF fK 12 i) w) (isAheadF cT cI i s)) = 0 then (if w = 0 then colsF cI cG fK (putF fX 12 i s) fY (-1) (-1) gW else colsF cI cG fK fX (putF fY 12 i s) (-1) (-1) gW) else gW) (if refusalF cT (zAnd3 (isGateF cT cG i) (isWayF cT (atF fK 12 i) w) (isAheadF cT cI i s)) = 0 then 0 else sN) (if refusalF cT (zAnd3 (isGateF cT cG i) (isWayF cT (atF fK 12 i) w) (isAheadF cT cI i s)) = 0 then 0 else sB) a b c (wireT f i w s) := by
  have hx := exw_wire (i := i) (w := w) (s := s) h.1 hok0
  by_cases hr : refusalF cT (zAnd3 (isGateF cT cG i) (isWayF cT (atF fK 12 i) w) (isAheadF cT cI i s)) = 0
  · simp only [if_pos hr] at hx ⊢
    exact EXS_new hx hok (kd_wire hok0.g12 kd) rfl rfl
  · simp only [if_neg hr]
    refine h.same ?_
    unfold wireT
    by_cases hz : wzM f i w s = 0
    · rw [if_pos hz]
    · rw [if_neg hz]
      by_cases ht : thereM f = 0
      · rw [if_pos ht]
      · exfalso
        rcases h.1 with ⟨_, q⟩ | ⟨q, _, rc, n, g, o, w0, e1, _, _, wf, _⟩
        · exact ht q
        · apply hr
          rw [q, ref_th, wz_th ht rc e1 wf.1 wf.2.1 wf.2.2.1, if_neg hz]
theorem exs_reads {cT cI cG cO cK cP cQ e1 e2 e3 e4 e5 e6 e7 sN sB v1 v2 : Int32} {fK fX fY fZ h1 h2 h3 h4 f s z T a b c : Nat → Int32} {gW h5 : Nat → Int64} {t : Nat} (h : EXS cT cI cG cO cK cP cQ fK fX fY fZ gW sN sB a b c f) (hok : okM s) (hok0 : okM f) (kd : KD f (gf f)) (hz1 : z 1 = 0) (hz2 : z 2 = 0) (hc : (∃ d1, allP t T z = some d1 ∧ (e1 = 1 ∧ RC e2 e3 e4 e5 e6 e7 h1 h2 h3 h4 d1) ∧ h5 = colsF e2 e3 h1 h2 h3 (-1) (-1) gW ∧ v1 = 0 ∧ v2 = 0) ∨ (allP t T z = none ∧ (e1 = cT ∧ e2 = cI ∧ e3 = cG ∧ e4 = cO ∧ e5 = cK ∧ e6 = cP ∧ e7 = cQ ∧ h1 = fK ∧ h2 = fX ∧ h3 = fY ∧ h4 = fZ) ∧ h5 = gW ∧ v1 = sN ∧ v2 = sB)) (hm : (∃ d, allP t T z = some d ∧ ∀ i, i < 49 → s i = d i) ∨ (allP t T z = none ∧ s = f)) : EXS e1 e2 e3 e4 e5 e6 e7 h1 h2 h3 h4 h5 v1 v2 a b c s ∧ KD s (gf s) := by
  have hx := exw_reads h.1 hz1 hz2 (e1 := e1) (e2 := e2) (e3 := e3) (e4 := e4) (e5 := e5) (e6 := e6) (e7 := e7) (h1 := h1) (h2 := h2) (h3 := h3) (h4 := h4) (h5 := h5) (T := T) (t := t) (by
    rcases hc with ⟨d, x, y, w, _⟩ | ⟨x, y, w, _⟩
    · exact Or.inl ⟨d, x, y, w⟩
    · exact Or.inr ⟨x, y, w⟩) hm
  have hk : KD s (gf s) := by
    rcases hm with ⟨d, hb, hs⟩ | ⟨_, hs⟩
    · obtain ⟨g, g1, g12, k⟩ := all_kd hb hz1 hz2
      rw [gf_eq ((hs 1 (by omega)).trans g1) g12]
      exact KD_of g12 k (fun i hi => hs i (by omega))
    · rw [hs]; exact kd
  refine ⟨?_, hk⟩
  rcases hc with ⟨d1, ha, _, _, v1z, v2z⟩ | ⟨ha, ⟨a1, a2, a3, a4, a5, a6, a7, b1, b2, b3, b4⟩, b5, v1z, v2z⟩
  · exact EXS_new hx hok hk v1z v2z
  · rcases hm with ⟨d, hb, _⟩ | ⟨_, hs⟩
    · rw [ha] at hb; exact absurd hb (by simp)
    · subst a1 a2 a3 a4 a5 a6 a7 b1 b2 b3 b4 b5 v1z v2z hs
      exact h
theorem exs_adder {cT cI cG cO cK cP cQ e1 e2 e3 e4 e5 e6 e7 b sN sB v1 v2 : Int32} {fK fX fY fZ h1 h2 h3 h4 f s a1 a2 a3 : Nat → Int32} {gW h5 : Nat → Int64} (h : EXS cT cI cG cO cK cP cQ fK fX fY fZ gW sN sB a1 a2 a3 f) (hok : okM s) (kd : KD f (gf f)) (hc : (adderR b = -2 ∧ e1 = cT ∧ e2 = cI ∧ e3 = cG ∧ e4 = cO ∧ e5 = cK ∧ e6 = cP ∧ e7 = cQ ∧ h1 = fK ∧ h2 = fX ∧ h3 = fY ∧ h4 = fZ) ∨ (¬ adderR b = -2 ∧ e1 = 1 ∧ (b = 1 → ∀ z, RC e2 e3 e4 e5 e6 e7 h1 h2 h3 h4 (adD1 z)) ∧ (b = 2 → ∀ z, RC e2 e3 e4 e5 e6 e7 h1 h2 h3 h4 (adD2 z)) ∧ (b = 3 → ∀ z, RC e2 e3 e4 e5 e6 e7 h1 h2 h3 h4 (adD3 z)))) (hg0 : adderR b = -2 → h5 = gW ∧ v1 = sN ∧ v2 = sB) (hg1 : ¬ adderR b = -2 → h5 = colsF e2 e3 h1 h2 h3 (-1) (-1) gW ∧ v1 = 0 ∧ v2 = 0) (hm : (adderRm b = -2 ∧ s = f) ∨ (¬ adderRm b = -2 ∧ (b = 1 → s = adD1 f) ∧ (b = 2 → s = adD2 f) ∧ (b = 3 → s = adD3 f))) : EXS e1 e2 e3 e4 e5 e6 e7 h1 h2 h3 h4 h5 v1 v2 a1 a2 a3 s ∧ KD s (gf s) := by
  have ea := adder_in b
  have hx := exw_adder h.1 hc (fun q => (hg0 q).1) (fun q => (hg1 q).1) hm
  rcases hm with ⟨hb, hs⟩ | ⟨hb, s1, s2, s3⟩
  · have ha : adderR b = -2 := ea.trans hb
    rcases hc with ⟨_, x1, x2, x3, x4, x5, x6, x7, b1, b2, b3, b4⟩ | ⟨hn, _⟩
    · obtain ⟨b5, v1z, v2z⟩ := hg0 ha
      subst x1 x2 x3 x4 x5 x6 x7 b1 b2 b3 b4 b5 v1z v2z hs
      exact ⟨h, kd⟩
    · exact absurd ha hn
  · have ha : ¬ adderR b = -2 := fun q => hb (ea.symm.trans q)
    have hb3 : b = 1 ∨ b = 2 ∨ b = 3 := threeM (fun q => hb (by unfold adderRm; rw [if_pos q]))
    have hk : KD s (gf s) := by
      rcases hb3 with q | q | q
      · rw [s1 q, gf_eq (adW1 (z := f)).1 (by decide)]; exact adK1
      · rw [s2 q, gf_eq (adW2 (z := f)).1 (by decide)]; exact adK2
      · rw [s3 q, gf_eq (adW3 (z := f)).1 (by decide)]; exact adK3
    exact ⟨EXS_new hx hok hk (hg1 ha).2.1 (hg1 ha).2.2, hk⟩
theorem exs_draw {cT cI cG cO cK cP cQ e1 e2 e3 e4 e5 e6 e7 x n g sN sB v1 v2 : Int32} {fK fX fY fZ h1 h2 h3 h4 f s a1 a2 a3 : Nat → Int32} {gW h5 : Nat → Int64} (h : EXS cT cI cG cO cK cP cQ fK fX fY fZ gW sN sB a1 a2 a3 f) (hok : okM s) (kd : KD f (gf f)) (hc : (drawR x n g = -2 ∧ e1 = cT ∧ e2 = cI ∧ e3 = cG ∧ e4 = cO ∧ e5 = cK ∧ e6 = cP ∧ e7 = cQ ∧ h1 = fK ∧ h2 = fX ∧ h3 = fY ∧ h4 = fZ) ∨ (¬ drawR x n g = -2 ∧ e1 = 1 ∧ ∀ z, RC e2 e3 e4 e5 e6 e7 h1 h2 h3 h4 (drD x.toInt64 n g z))) (hg0 : drawR x n g = -2 → h5 = gW ∧ v1 = sN ∧ v2 = sB) (hg1 : ¬ drawR x n g = -2 → h5 = colsF e2 e3 h1 h2 h3 (-1) (-1) gW ∧ v1 = 0 ∧ v2 = 0) (hm : (drawRm x n g = -2 ∧ s = f) ∨ (¬ drawRm x n g = -2 ∧ s = drD x.toInt64 n g f)) : EXS e1 e2 e3 e4 e5 e6 e7 h1 h2 h3 h4 h5 v1 v2 a1 a2 a3 s ∧ KD s (gf s) := by
  have ea := draw_in x n g
  have hx := exw_draw h.1 hc (fun q => (hg0 q).1) (fun q => (hg1 q).1) hm
  rcases hm with ⟨hb, hs⟩ | ⟨hb, s1⟩
  · have ha : drawR x n g = -2 := ea.trans hb
    rcases hc with ⟨_, x1, x2, x3, x4, x5, x6, x7, b1, b2, b3, b4⟩ | ⟨hn, _⟩
    · obtain ⟨b5, v1z, v2z⟩ := hg0 ha
      subst x1 x2 x3 x4 x5 x6 x7 b1 b2 b3 b4 b5 v1z v2z hs
      exact ⟨h, kd⟩
    · exact absurd ha hn
  · have ha : ¬ drawR x n g = -2 := fun q => hb (ea.symm.trans q)
    have hq : ¬ inF x 0 999999 = 0 := fun q => hb (by unfold drawRm; rw [if_pos q])
    have hn : ¬ inF n 1 6 = 0 := fun q => hb (by unfold drawRm; rw [if_neg hq, if_pos q])
    have hg : ¬ inF g 1 12 = 0 := fun q => hb (by unfold drawRm; rw [if_neg hq, if_neg hn, if_pos q])
    obtain ⟨X, _, hX2, hX⟩ := inF_ok (lo := 0) (hi := 999999) (L := 0) (M := 999999) rfl rfl (by decide) (by decide) hq
    obtain ⟨N, hN1, hN6, hN⟩ := inF_ok (lo := 1) (hi := 6) (L := 1) (M := 6) rfl rfl (by decide) (by decide) hn
    obtain ⟨K, hK1, hK2, hK⟩ := inF_ok (lo := 1) (hi := 12) (L := 1) (M := 12) rfl rfl (by decide) (by decide) hg
    have ex : x.toInt64.toInt = (X : Int) := by rw [Int32.toInt_toInt64, hX, nI_toInt (by omega)]
    obtain ⟨o, ⟨w1, _⟩, _⟩ := drW1 (x := x.toInt64) (z := f) hN hN1 hN6 hK hK1 hK2 (by rw [ex]; omega) (by rw [ex]; omega)
    have hk : KD s (gf s) := by
      rw [s1, gf_eq w1 hK2]
      exact drK hN hN1 hN6 hK hK1 hK2 (by rw [ex]; omega) (by rw [ex]; omega)
    exact ⟨EXS_new hx hok hk (hg1 ha).2.1 (hg1 ha).2.2, hk⟩
/-! ===== most, dearest, witness: words ===== -/
theorem gmx_mx {M : Nat → Nat} {j : Nat} (h1 : gmx M j ≤ 40) (h2 : M j ≤ 40) : (if nI (gmx M j) < nI (M j) then nI (M j) else nI (gmx M j)) = nI (gmx M (j + 1)) := by
  show _ = nI (if gmx M j < M j then M j else gmx M j)
  by_cases c : gmx M j < M j
  · rw [if_pos c, if_pos ((nI_ltI (by omega) (by omega)).mpr c)]
  · rw [if_neg c, if_neg (fun q => c ((nI_ltI (by omega) (by omega)).mp q))]
def wd1 (T : Nat → Int32) (j : Nat) (a : Int32) : Int32 := if a < bitCntF (T j) then bitCntF (T j) else a
def nwV (T : Nat → Int32) : Nat → Int32 × Int32
  | 0 => (-1, 18)
  | j + 1 => if (nwV T j).2 < bitCntF (T j) then nwV T j else (T j, bitCntF (T j))
theorem nw_keep {T : Nat → Int32} {j : Nat} (h : (nwV T j).2 < bitCntF (T j)) : nwV T (j + 1) = nwV T j := if_pos h
theorem nw_take {T : Nat → Int32} {j : Nat} (h : ¬ (nwV T j).2 < bitCntF (T j)) : nwV T (j + 1) = (T j, bitCntF (T j)) := if_neg h
def absI (x : Int32) : Int32 := if 0 ≤ x then x else 0 - x
def dez (U : Nat → Int32) (j i : Nat) : Int32 := if absI (U j) < absI (U i) then 1 else if absI (U i) = absI (U j) then (if nI j ≤ nI i then 0 else 1) else 0
def de1 (U : Nat → Int32) (j i : Nat) (a : Int32) : Int32 := a + dez U j i
def dsF (U T : Nat → Int32) (m : Nat) (r : Int32) : Nat → Nat → Int32
  | 0, _ => -1
  | n + 1, j => if foldF (de1 U j) m 0 = r then T j else dsF U T m r n (j + 1)
noncomputable def mostW (f : Nat → Int32) (w : Int32) : Int32 := if w = 0 then nI (gmx (fun j => cnt (PQ f j)) (gf f + 1)) else if w = 1 then foldF (wd1 (cset (PQ f (gf f)))) (cnt (PQ f (gf f))) 0 else swV (PQ f (gf f)) (-1)
noncomputable def mostV (f : Nat → Int32) (w : Int32) : Int32 := stV f (gf f) (mostW f w)
noncomputable def dearV (f : Nat → Int32) (i j : Int32) : Int32 := stV f i.toNatClampNeg (dsF (cco (PQ f i.toNatClampNeg)) (cset (PQ f i.toNatClampNeg)) (cnt (PQ f i.toNatClampNeg)) j (cnt (PQ f i.toNatClampNeg)) 0)
noncomputable def witV (f : Nat → Int32) : Int32 := stV f (gf f) (nwV (cset (PQ f (gf f))) (cnt (PQ f (gf f)))).1
theorem zD_s {a j : Int32} (h : ¬ zDear a j = 0) : ¬ a = 0 := fun q => h (by unfold zDear; rw [if_pos q])
