section CRel2
theorem ge_n0 {a x : Int32} (ha : 0 ≤ a.toInt) (h : a ≤ x) : ¬ x < 0 := fun q => by rw [Int32.le_iff_toInt_le] at h; have := i_lt q; omega
theorem RK.c {kn : Nat → Int32} {k : Int32} {mi : Nat → Int32} (h : RK kn k mi) (c : Int32) : RK kn k (miC mi c) := h
theorem eAS : ¬ eA = eS := by decide
theorem eAI : ¬ eA = eI := by decide
theorem eSI : ¬ eS = eI := by decide
theorem w_iff {h0 k0 f0 : Int32} : wOk h0 k0 f0 ↔ (okH h0 ∧ ¬ k0 < 0 ∧ k0 ≤ 5 ∧ (k0 = 0 ∨ k0 = 5 ∨ (¬ f0 < 0 ∧ f0 ≤ 40))) := by
  constructor
  · rintro ⟨h1, h2, h3⟩
    refine ⟨h1, Int32.not_lt.mpr h2.1, h2.2, ?_⟩
    rcases h3 with h3 | h3
    · obtain ⟨t, ht, rfl⟩ := nI_of2 (M := 5) (n := 5) (by decide) (Int32.not_lt.mpr h2.1) h2.2
      rcases (show t = 0 ∨ t = 1 ∨ t = 2 ∨ t = 3 ∨ t = 4 ∨ t = 5 by omega) with rfl | rfl | rfl | rfl | rfl | rfl
      · exact Or.inl rfl
      · exact absurd (by decide) h3
      · exact absurd (by decide) h3
      · exact absurd (by decide) h3
      · exact absurd (by decide) h3
      · exact Or.inr (Or.inl rfl)
    · exact Or.inr (Or.inr ⟨Int32.not_lt.mpr h3.1, h3.2⟩)
  · rintro ⟨h1, h2, h3, h4⟩
    refine ⟨h1, ⟨Int32.not_lt.mp h2, h3⟩, ?_⟩
    rcases h4 with rfl | rfl | h4
    · exact Or.inl (by decide)
    · exact Or.inl (by decide)
    · exact Or.inr ⟨Int32.not_lt.mp h4.1, h4.2⟩
theorem k12 {x : Int32} : (1 ≤ x ∧ x ≤ 2) ↔ (x = 1 ∨ x = 2) := by
  constructor
  · rintro ⟨h1, h2⟩
    obtain ⟨t, ht, rfl⟩ := nI_of2 (x := x) (M := 2) (n := 2) (by decide) (ge_n0 (by decide) h1) h2
    rcases (show t = 0 ∨ t = 1 ∨ t = 2 by omega) with rfl | rfl | rfl
    · exact absurd h1 (by decide)
    · exact Or.inl rfl
    · exact Or.inr rfl
  · rintro (rfl | rfl) <;> decide
theorem k34 {x : Int32} : (3 ≤ x ∧ x ≤ 4) ↔ (x = 3 ∨ x = 4) := by
  constructor
  · rintro ⟨h1, h2⟩
    obtain ⟨t, ht, rfl⟩ := nI_of2 (x := x) (M := 4) (n := 4) (by decide) (ge_n0 (by decide) h1) h2
    rcases (show t = 0 ∨ t = 1 ∨ t = 2 ∨ t = 3 ∨ t = 4 by omega) with rfl | rfl | rfl | rfl | rfl
    · exact absurd h1 (by decide)
    · exact absurd h1 (by decide)
    · exact absurd h1 (by decide)
    · exact Or.inl rfl
    · exact Or.inr rfl
  · rintro (rfl | rfl) <;> decide
theorem k15 {x : Int32} (h : 1 ≤ x ∧ x ≤ 5) : x = 1 ∨ x = 2 ∨ x = 3 ∨ x = 4 ∨ x = 5 := by
  obtain ⟨t, ht, rfl⟩ := nI_of2 (x := x) (M := 5) (n := 5) (by decide) (ge_n0 (by decide) h.1) h.2
  rcases (show t = 0 ∨ t = 1 ∨ t = 2 ∨ t = 3 ∨ t = 4 ∨ t = 5 by omega) with rfl | rfl | rfl | rfl | rfl | rfl
  · exact absurd h.1 (by decide)
  · exact Or.inl rfl
  · exact Or.inr (Or.inl rfl)
  · exact Or.inr (Or.inr (Or.inl rfl))
  · exact Or.inr (Or.inr (Or.inr (Or.inl rfl)))
  · exact Or.inr (Or.inr (Or.inr (Or.inr rfl)))
theorem k14 {x : Int32} (h : 1 ≤ x ∧ x ≤ 5) : (1 ≤ x ∧ x ≤ 4) ↔ ¬ x = 5 := by
  rcases k15 h with rfl | rfl | rfl | rfl | rfl <;> decide
theorem RR.pz {hk : Nat → Option Nat} {re : Nat → RE} {on kd sz : Nat → Int32} {fr : Nat → Int64} (h : RR hk re on kd sz fr) {j r p z : Nat} (hj : j < 6) (er : hk j = some r) (hp : p < 7) (hz : z ≤ 40) (op : on j = nI p) (sp : sz p = nI z) : ReAt kd sz fr (re r) p ∧ z = (re r).2.2.1 := by
  obtain ⟨q, hq, oq, hR⟩ := h.at hj er
  have e : p = q := (nI_eq (by omega) (by omega)).mp (op.symm.trans oq)
  subst e
  have h1 := (h.ok hj er).1
  exact ⟨hR, (nI_eq (by omega) (by omega)).mp (sp.symm.trans hR.2.1)⟩
theorem jj_eq {a b : Nat} (ha : a < 6) (hb : b < 6) (h : nI a = nI b) : a = b := (nI_eq (by omega) (by omega)).mp h
theorem r_wind {hk : Nat → Option Nat} {re : Nat → RE} {kn : Nat → Int32} {sh : Nat → Nat → Int32} {k : Int32} {on kd sz : Nat → Int32} {fr li : Nat → Int64} {st mi : Nat → Int32} (R : Rel (hk, re, kn, sh, k) (on, kd, sz, fr, li, st, mi)) {h0 k0 f0 : Int32} {fo : Nat → Int64} {r : Int32} {u : CS × (Nat → Int64)} (hc : (∃ E : String, (E = eA ∧ ¬ (okH h0 ∧ ¬ k0 < 0 ∧ k0 ≤ 5 ∧ (k0 = 0 ∨ k0 = 5 ∨ (¬ f0 < 0 ∧ f0 ≤ 40)))) ∧ ((E = eA ∧ r = 1)) ∧ u = ((hk, re, kn, sh, k), fo)) ∨ (r = 0 ∧ ∃ rr : Int32, (∃ j1 : Nat, j1 < 6 ∧ h0 = nI j1 ∧ ¬ k0 < 0 ∧ k0 ≤ 5 ∧ rr = k0 ∧ ((k0 = 0 ∧ u.1 = (va_up hk j1 none, re, kn, sh, k)) ∨ (¬ k0 = 0 ∧ ∃ (r1 w1 z1 : Nat) (f1 : Nat → Int64), (∀ r2, Live hk r2 → r2 < r1) ∧ ((k0 = 5 ∧ z1 = 0) ∨ (¬ k0 = 5 ∧ f0 = nI z1 ∧ z1 ≤ 40)) ∧ (∀ i1, i1 < z1 → f1 i1 = fr0 k0) ∧ u.1 = (va_up hk j1 (some r1), va_up re r1 (k0, w1, z1, f1), kn, sh, k)))) ∧ u.2 = vp_updL fo 0 rr.toInt64)) {b : Int32} {v : MS} (hm : (¬ wOk h0 k0 f0 ∧ b = 0 ∧ v = (on, kd, sz, fr, li, st, miC mi 1)) ∨ (wOk h0 k0 f0 ∧ ∃ j1 : Nat, j1 < 6 ∧ h0 = nI j1 ∧ ((k0 = 0 ∧ b = 0 ∧ v = (upd on j1 (-1), kd, sz, fr, li, st, miC mi 0)) ∨ (¬ k0 = 0 ∧ b = k0 ∧ ∃ (p1 : Nat) (g1 : Nat → Int64), p1 < 7 ∧ (∀ h, h < 6 → ¬ on h = nI p1) ∧ (∀ t, t < 40 → g1 (40 * p1 + t) = if 3 ≤ k0 then -1 else 0) ∧ (∀ t, (t < 40 * p1 ∨ 40 * p1 + 40 ≤ t) → g1 t = fr t) ∧ v = (upd on j1 (nI p1), upd kd p1 k0, upd sz p1 (if 1 ≤ k0 ∧ k0 ≤ 4 then f0 else 0), g1, li, st, miC mi 0))))) : v.2.2.2.2.2.2 8 = r ∧ (r = 0 → u.2 0 = b.toInt64) ∧ Rel u.1 v := by
  obtain ⟨R1, R2, R3⟩ := R
  have R1 : RR hk re on kd sz fr := R1
  have R2 : RK kn k mi := R2
  have R3 : RSt sh k st := R3
  rcases hc with ⟨E, hX, hE, hu⟩ | ⟨hr, rr, hp, ho⟩
  · have hu := hu
    subst hu
    rcases hm with ⟨hb, hb0, hv⟩ | ⟨hok, hm⟩
    · subst hv
      exact ⟨hE.2.symm, fun z => absurd (hE.2.symm.trans z) (by decide), R1, R2.c 1, R3⟩
    · exact absurd (w_iff.mp hok) hX.2
  · obtain ⟨j, hj, eh, hk0, hk5, err, hp⟩ := hp
    subst hr
    subst eh
    subst err
    rcases hm with hm | ⟨hok, j2, hj2, ej, hm⟩
    · exfalso
      refine hm.1 (w_iff.mpr ⟨⟨j, hj, rfl⟩, hk0, hk5, ?_⟩)
      rcases hp with ⟨e0, -⟩ | ⟨-, r1, w1, z1, f1, -, e1, -⟩
      · exact Or.inl e0
      · rcases e1 with ⟨e1, -⟩ | ⟨-, e1, e2⟩
        · exact Or.inr (Or.inl e1)
        · rw [e1]; exact Or.inr (Or.inr ⟨nI_pos (by omega), nI_le (b := 40) e2 (by decide)⟩)
    · have ejj : j = j2 := (nI_eq (by omega) (by omega)).mp ej
      subst ejj
      have hout : u.2 0 = rr.toInt64 := by rw [ho]; exact pk_uLs
      rcases hp with ⟨e0, hu⟩ | ⟨e0, r1, w1, z1, f1, hfr, e1, hf1, hu⟩
      · rcases hm with ⟨-, hb, hv⟩ | ⟨hn, -⟩
        · subst hv
          rw [hu]
          exact ⟨rfl, fun _ => by rw [hout, e0, hb], R1.put hj (Or.inl ⟨rfl, rfl⟩), R2.c 0, R3⟩
        · exact absurd e0 hn
      · rcases hm with ⟨hn, -⟩ | ⟨-, hb, p1, g1, hp1, hfree, hg, hgo, hv⟩
        · exact absurd hn e0
        · subst hv
          rw [hu]
          have hz : z1 ≤ 40 := by rcases e1 with ⟨-, e1⟩ | ⟨-, -, e1⟩ <;> omega
          have hkr : (1 : Int32) ≤ rr ∧ rr ≤ 5 := by
            refine ⟨?_, hk5⟩
            obtain ⟨t, ht, rfl⟩ := nI_of2 (M := 5) (n := 5) (by decide) hk0 hk5
            exact nI_le (a := 1) (Nat.pos_of_ne_zero (fun e => e0 (by rw [e]; rfl))) (by omega)
          have hszv : (if 1 ≤ rr ∧ rr ≤ 4 then f0 else 0) = nI z1 := by
            rcases e1 with ⟨rfl, e1⟩ | ⟨hn5, e1, -⟩
            · rw [if_neg (by decide), e1]; rfl
            · rw [if_pos ((k14 hkr).mpr hn5), e1]
          have hfrv : fr0 rr = (if 3 ≤ rr then -1 else 0) ∨ z1 = 0 := by
            rcases e1 with ⟨-, e1⟩ | ⟨hn5, -, -⟩
            · exact Or.inr e1
            · refine Or.inl ?_
              obtain ⟨t, ht, rfl⟩ := nI_of2 (M := 5) (n := 5) (by decide) hk0 hk5
              rcases (show t = 0 ∨ t = 1 ∨ t = 2 ∨ t = 3 ∨ t = 4 ∨ t = 5 by omega) with rfl | rfl | rfl | rfl | rfl | rfl
              · decide
              · decide
              · decide
              · decide
              · decide
              · exact absurd rfl hn5
          rw [hszv]
          refine ⟨rfl, fun _ => by rw [hout, hb], R1.new hj hfr hp1 hfree (e := (rr, w1, z1, f1)) ⟨hz, hkr, fun e5 => ?_, fun hc i hi => ?_⟩ (fun i hi => ?_) hgo, R2.c 0, R3⟩
          · rcases e1 with ⟨-, e1⟩ | ⟨hn5, -, -⟩
            · exact e1
            · exact absurd e5 hn5
          · have := hf1 i hi
            show -1 ≤ f1 i ∧ f1 i ≤ 1999
            rw [this, fr0, if_pos hc]
            decide
          · show g1 (40 * p1 + i) = f1 i
            have hi : i < z1 := hi
            rw [hg i (by omega), hf1 i hi]
            rcases hfrv with q | q
            · exact q.symm
            · omega
theorem r_hang {hk : Nat → Option Nat} {re : Nat → RE} {kn : Nat → Int32} {sh : Nat → Nat → Int32} {k : Int32} {on kd sz : Nat → Int32} {fr li : Nat → Int64} {st mi : Nat → Int32} (R : Rel (hk, re, kn, sh, k) (on, kd, sz, fr, li, st, mi)) {h0 o0 : Int32} {fo : Nat → Int64} {r : Int32} {u : CS × (Nat → Int64)} (hc : (∃ E : String, (E = eA ∧ ¬ (okH h0 ∧ okH o0)) ∧ ((E = eA ∧ r = 1)) ∧ u = ((hk, re, kn, sh, k), fo)) ∨ (r = 0 ∧ ∃ rr : Int32, (∃ j1 i1 : Nat, j1 < 6 ∧ i1 < 6 ∧ h0 = nI j1 ∧ o0 = nI i1 ∧ rr = kOf re (hk i1) ∧ u.1 = (va_up hk j1 (hk i1), re, kn, sh, k)) ∧ u.2 = vp_updL fo 0 rr.toInt64)) {b : Int32} {v : MS} (hm : (¬ (okH h0 ∧ okH o0) ∧ b = 0 ∧ v = (on, kd, sz, fr, li, st, miC mi 1)) ∨ (∃ j1 i1 : Nat, j1 < 6 ∧ i1 < 6 ∧ h0 = nI j1 ∧ o0 = nI i1 ∧ b = mK (upd on j1 (on i1)) kd j1 ∧ v = (upd on j1 (on i1), kd, sz, fr, li, st, miC mi 0))) : v.2.2.2.2.2.2 8 = r ∧ (r = 0 → u.2 0 = b.toInt64) ∧ Rel u.1 v := by
  obtain ⟨R1, R2, R3⟩ := R
  have R1 : RR hk re on kd sz fr := R1
  have R2 : RK kn k mi := R2
  have R3 : RSt sh k st := R3
  rcases hc with ⟨E, hX, hE, hu⟩ | ⟨hr, rr, ⟨j, i, hj, hi, e1, e2, e3, hu⟩, ho⟩
  · subst hu
    rcases hm with ⟨hb, hb0, hv⟩ | ⟨j, i, hj, hi, e1, e2, -⟩
    · subst hv
      exact ⟨hE.2.symm, fun z => absurd (hE.2.symm.trans z) (by decide), R1, R2.c 1, R3⟩
    · exact absurd ⟨⟨j, hj, e1⟩, ⟨i, hi, e2⟩⟩ hX.2
  · subst hr
    rcases hm with ⟨hb, -⟩ | ⟨j2, i2, hj2, hi2, e4, e5, hb, hv⟩
    · exact absurd ⟨⟨j, hj, e1⟩, ⟨i, hi, e2⟩⟩ hb
    · have q1 := jj_eq hj hj2 (e1.symm.trans e4)
      have q2 := jj_eq hi hi2 (e2.symm.trans e5)
      subst q1
      subst q2
      subst hv
      have R4 := R1.put hj (o := hk i) (v := on i) (Or.inr ⟨i, hi, rfl, rfl⟩)
      have hb2 := R4.kind hj
      rw [va_up_self] at hb2
      rw [hu]
      refine ⟨rfl, fun _ => ?_, R4, R2.c 0, R3⟩
      rw [ho, pk_uLs, hb, hb2, e3]
theorem r_sweep {hk : Nat → Option Nat} {re : Nat → RE} {kn : Nat → Int32} {sh : Nat → Nat → Int32} {k : Int32} {on kd sz : Nat → Int32} {fr li : Nat → Int64} {st mi : Nat → Int32} (R : Rel (hk, re, kn, sh, k) (on, kd, sz, fr, li, st, mi)) : Rel (hk, re, kn, sh, 0) (on, kd, sz, fr, li, st, mi9 0 (mi 1) (mi 2) (mi 3) (mi 4) (mi 5) (mi 6) (mi 7) 0) ∧ mi 0 = k := by
  obtain ⟨R1, ⟨r0, r1, r2, r3, r4, r5, r6, r7, r8⟩, R3⟩ := R
  exact ⟨⟨R1, ⟨rfl, r1, r2, r3, r4, r5, r6, r7, r8⟩, 0, by omega, rfl, fun i hi => absurd hi (by omega)⟩, r0⟩
theorem r_grind {hk : Nat → Option Nat} {re : Nat → RE} {kn : Nat → Int32} {sh : Nat → Nat → Int32} {k : Int32} {on kd sz : Nat → Int32} {fr li : Nat → Int64} {st mi : Nat → Int32} (R : Rel (hk, re, kn, sh, k) (on, kd, sz, fr, li, st, mi))  {fo : Nat → Int64} {r : Int32} {u : CS × (Nat → Int64)} (hc : (∃ E : String, (E = eS ∧ ¬ 3 ≤ kn 3) ∧ ((E = eS ∧ r = 1)) ∧ u = ((hk, re, kn, sh, k), fo)) ∨ (r = 0 ∧ ∃ rr : Int32, (3 ≤ kn 3 ∧ rr = kn 6 + 1 ∧ u.1 = (hk, re, knGr kn, sh, k)) ∧ u.2 = vp_updL fo 0 rr.toInt64)) {b : Int32} {v : MS} (hm : (mi 4 = 3 ∧ b = mi 7 + 1 ∧ v = (on, kd, sz, fr, li, st, mi9 (mi 0) (mi 1) (mi 2) (mi 3) 0 (mi 5) (mi 6) (mi 7 + 1) 0)) ∨ (¬ mi 4 = 3 ∧ b = 0 ∧ v = (on, kd, sz, fr, li, st, miC mi 1))) : v.2.2.2.2.2.2 8 = r ∧ (r = 0 → u.2 0 = b.toInt64) ∧ Rel u.1 v := by
  obtain ⟨R1, R2, R3⟩ := R
  have R1 : RR hk re on kd sz fr := R1
  have R2 : RK kn k mi := R2
  have R3 : RSt sh k st := R3
  obtain ⟨r0, r1, r2, r3, r4, r5, r6, r7, b3, hb3, eb3⟩ := id R2
  have hbl : 3 ≤ kn 3 ↔ mi 4 = 3 := by
    rw [r4, eb3]
    constructor
    · intro q
      have := (nI_leI (a := 3) (b := b3) (by decide) (by omega)).mp q
      rw [show b3 = 3 by omega]; rfl
    · intro q
      rw [q]; decide
  rcases hc with ⟨E, hX, hE, hu⟩ | ⟨hr, rr, ⟨h3, e3, hu⟩, ho⟩
  · subst hu
    rcases hm with ⟨hb, -⟩ | ⟨hb, hb0, hv⟩
    · exact absurd (hbl.mpr hb) hX.2
    · subst hv
      exact ⟨hE.2.symm, fun z => absurd (hE.2.symm.trans z) (by decide), R1, R2.c 1, R3⟩
  · subst hr
    rcases hm with ⟨hb, hb0, hv⟩ | ⟨hb, -⟩
    · subst hv
      rw [hu]
      refine ⟨rfl, fun _ => by rw [ho, pk_uLs, e3, hb0, r7], R1, ⟨r0, r1, r2, r3, rfl, r5, r6, ?_, 0, by omega, rfl⟩, R3⟩
      show mi 7 + 1 = kn 6 + 1
      rw [r7]
    · exact absurd (hbl.mp h3) hb
theorem r_twin {hk : Nat → Option Nat} {re : Nat → RE} {kn : Nat → Int32} {sh : Nat → Nat → Int32} {k : Int32} {on kd sz : Nat → Int32} {fr li : Nat → Int64} {st mi : Nat → Int32} (R : Rel (hk, re, kn, sh, k) (on, kd, sz, fr, li, st, mi)) {h0 o0 : Int32} {fo : Nat → Int64} {r : Int32} {u : CS × (Nat → Int64)} (hc : (∃ E : String, ((E = eA ∧ ¬ (okH h0 ∧ okH o0)) ∨ (E = eS ∧ ∃ j1 i1 : Nat, j1 < 6 ∧ i1 < 6 ∧ h0 = nI j1 ∧ o0 = nI i1 ∧ (hk i1 = none ∨ ∃ r1 : Nat, hk i1 = some r1 ∧ (re r1).1 = 5))) ∧ ((E = eA ∧ r = 1) ∨ (E = eS ∧ r = 2)) ∧ u = ((hk, re, kn, sh, k), fo)) ∨ (r = 0 ∧ ∃ rr : Int32, (∃ j1 i1 r1 : Nat, j1 < 6 ∧ i1 < 6 ∧ h0 = nI j1 ∧ o0 = nI i1 ∧ hk i1 = some r1 ∧ ¬ (re r1).1 = 5 ∧ rr = (re r1).1 ∧ ∃ (q1 w1 : Nat) (f1 : Nat → Int64), (∀ r2, Live hk r2 → r2 < q1) ∧ (∀ t1, t1 < (re r1).2.2.1 → f1 t1 = (re r1).2.2.2 t1) ∧ u.1 = (va_up hk j1 (some q1), va_up re q1 ((re r1).1, w1, (re r1).2.2.1, f1), kn, sh, k)) ∧ u.2 = vp_updL fo 0 rr.toInt64)) {b : Int32} {v : MS} (hm : (¬ (okH h0 ∧ okH o0) ∧ b = 0 ∧ v = (on, kd, sz, fr, li, st, miC mi 1)) ∨ (∃ j1 i1 : Nat, j1 < 6 ∧ i1 < 6 ∧ h0 = nI j1 ∧ o0 = nI i1 ∧ ((¬ (1 ≤ mK on kd i1 ∧ mK on kd i1 ≤ 4) ∧ b = 0 ∧ v = (on, kd, sz, fr, li, st, miC mi 2)) ∨ ((1 ≤ mK on kd i1 ∧ mK on kd i1 ≤ 4) ∧ ∃ (p1 p2 : Nat) (g1 : Nat → Int64), p1 < 7 ∧ p2 < 7 ∧ on i1 = nI p1 ∧ (∀ h, h < 6 → ¬ on h = nI p2) ∧ b = kd p1 ∧ (∀ t, t < 40 → g1 (40 * p2 + t) = fr (40 * p1 + t)) ∧ (∀ t, (t < 40 * p2 ∨ 40 * p2 + 40 ≤ t) → g1 t = fr t) ∧ v = (upd on j1 (nI p2), upd kd p2 (kd p1), upd sz p2 (sz p1), g1, li, st, miC mi 0))))) : v.2.2.2.2.2.2 8 = r ∧ (r = 0 → u.2 0 = b.toInt64) ∧ Rel u.1 v := by
  obtain ⟨R1, R2, R3⟩ := R
  have R1 : RR hk re on kd sz fr := R1
  have R2 : RK kn k mi := R2
  have R3 : RSt sh k st := R3
  have cls : ∀ i, i < 6 → ((1 ≤ mK on kd i ∧ mK on kd i ≤ 4) ↔ ∃ r1, hk i = some r1 ∧ ¬ (re r1).1 = 5) := by
    intro i hi
    rw [R1.kind hi]
    cases e : hk i with
    | none => exact ⟨fun q => absurd q.1 (by show ¬ (1 : Int32) ≤ 0; decide), fun ⟨_, q, _⟩ => by cases q⟩
    | some r1 =>
      have h15 := (R1.ok hi e).2.1
      exact ⟨fun q => ⟨r1, rfl, (k14 h15).mp q⟩, fun ⟨r2, q, q2⟩ => by cases q; exact (k14 h15).mpr q2⟩
  rcases hc with ⟨E, hX, hE, hu⟩ | ⟨hr, rr, ⟨j, i, r1, hj, hi, e1, e2, e3, e4, e5, q1, w1, f1, hq1, hf1, hu⟩, ho⟩
  · subst hu
    rcases hX with ⟨eE, hX⟩ | ⟨eE, j, i, hj, hi, e1, e2, hX⟩
    · have hE : r = 1 := hE.elim (fun q => q.2) (fun q => absurd (eE.symm.trans q.1) eAS)
      rcases hm with ⟨hb, hb0, hv⟩ | ⟨j, i, hj, hi, e1, e2, -⟩
      · subst hv
        exact ⟨hE.symm, fun z => absurd (hE.symm.trans z) (by decide), R1, R2.c 1, R3⟩
      · exact absurd ⟨⟨j, hj, e1⟩, ⟨i, hi, e2⟩⟩ hX
    · have hE : r = 2 := hE.elim (fun q => absurd (q.1.symm.trans eE) eAS) (fun q => q.2)
      rcases hm with ⟨hb, -⟩ | ⟨j2, i2, hj2, hi2, e4, e5, hm⟩
      · exact absurd ⟨⟨j, hj, e1⟩, ⟨i, hi, e2⟩⟩ hb
      · have q2 := jj_eq hi hi2 (e2.symm.trans e5)
        subst q2
        rcases hm with ⟨hn, hb0, hv⟩ | ⟨hy, -⟩
        · subst hv
          exact ⟨hE.symm, fun z => absurd (hE.symm.trans z) (by decide), R1, R2.c 2, R3⟩
        · obtain ⟨r2, h2, h3⟩ := (cls i hi).mp hy
          rcases hX with hX | ⟨r3, h4, h5⟩
          · rw [hX] at h2; cases h2
          · rw [h4] at h2; cases h2; exact absurd h5 h3
  · subst hr
    rcases hm with ⟨hb, -⟩ | ⟨j2, i2, hj2, hi2, e6, e7, hm⟩
    · exact absurd ⟨⟨j, hj, e1⟩, ⟨i, hi, e2⟩⟩ hb
    · have q2 := jj_eq hj hj2 (e1.symm.trans e6)
      have q3 := jj_eq hi hi2 (e2.symm.trans e7)
      subst q2
      subst q3
      rcases hm with ⟨hn, -⟩ | ⟨hy, p1, p2, g1, hp1, hp2, o1, hfree, hb, hg, hgo, hv⟩
      · exact absurd ((cls i hi).mpr ⟨r1, e3, e4⟩) hn
      · subst hv
        obtain ⟨p3, hp3, o3, hR⟩ := R1.at hi e3
        have q4 : p1 = p3 := (nI_eq (by omega) (by omega)).mp (o1.symm.trans o3)
        subst q4
        have hO := R1.ok hi e3
        rw [hu]
        have R4 := R1.new (e := ((re r1).1, w1, (re r1).2.2.1, f1)) hj hq1 hp2 hfree ⟨hO.1, hO.2.1, hO.2.2.1, fun hcd t ht => by show -1 ≤ f1 t ∧ f1 t ≤ 1999; rw [hf1 t ht]; exact hO.2.2.2 hcd t ht⟩ (fun t ht => by show g1 (40 * p2 + t) = f1 t; have ht : t < (re r1).2.2.1 := ht; have hz9 : (re r1).2.2.1 ≤ 40 := hO.1; rw [hg t (by omega), hf1 t ht]; exact hR.2.2 t ht) hgo
        rw [hR.1, hR.2.1]
        exact ⟨rfl, fun _ => by rw [ho, pk_uLs, e5, hb, hR.1], R4, R2.c 0, R3⟩
end CRel2
