section CRel3
theorem n_iff {n : Int32} : (¬ n < 0 ∧ n < 1000) ↔ (0 ≤ n ∧ n ≤ 999) := by
  have e1 : (1000 : Int32).toInt = 1000 := by decide
  have e2 : (999 : Int32).toInt = 999 := by decide
  rw [Int32.not_lt, Int32.lt_iff_toInt_lt, Int32.le_iff_toInt_le (x := n) (y := 999), e1, e2]
  constructor
  · rintro ⟨h1, h2⟩
    exact ⟨h1, by omega⟩
  · rintro ⟨h1, h2⟩
    exact ⟨h1, by omega⟩
theorem i64_1 (x : Int32) : x.toInt64.toInt = x.toInt := Int32.toInt_toInt64 x
theorem n_nI {n : Int32} (h : 0 ≤ n ∧ n ≤ 999) : ∃ m : Nat, m ≤ 999 ∧ n = nI m := nI_of2 (M := 999) (n := 999) (by decide) (Int32.not_lt.mpr h.1) h.2
theorem cdV_i {n s : Int32} (h : 0 ≤ n ∧ n ≤ 999) : ∃ m : Nat, m ≤ 999 ∧ (cdV n s).toInt = if s = 0 then (m : Int) else 1000 + (m : Int) := by
  obtain ⟨m, hm, rfl⟩ := n_nI h
  refine ⟨m, hm, ?_⟩
  unfold cdV
  by_cases e : s = 0
  · rw [if_pos e, if_pos e, i64_1, nI_toInt (by omega)]
  · rw [if_neg e, if_neg e, i64_1, show (1000 : Int32) = nI 1000 from by decide, nI_add, nI_toInt (by omega)]
    omega
theorem cd_eq {n s : Int32} (h : 0 ≤ n ∧ n ≤ 999) : cdV n s = cdM n s := by
  obtain ⟨m, hm, rfl⟩ := n_nI h
  unfold cdV cdM
  by_cases e : s = 0
  · rw [if_pos e, if_pos e]
  · rw [if_neg e, if_neg e]
    refine Int64.toInt_inj.mp ?_
    rw [i64_1, show (1000 : Int32) = nI 1000 from by decide, nI_add, nI_toInt (by omega), Int64.toInt_add, i64_1, nI_toInt (by omega), show (1000 : Int64).toInt = 1000 from by decide]
    rw [Int.bmod_eq_of_le (by omega) (by omega)]
    omega
theorem cd_rng {n s : Int32} (h : 0 ≤ n ∧ n ≤ 999) : -1 ≤ cdV n s ∧ cdV n s ≤ 1999 := by
  obtain ⟨m, hm, e⟩ := cdV_i (s := s) h
  rw [Int64.le_iff_toInt_le, Int64.le_iff_toInt_le, e, show (-1 : Int64).toInt = -1 from by decide, show (1999 : Int64).toInt = 1999 from by decide]
  by_cases q : s = 0
  · rw [if_pos q]; omega
  · rw [if_neg q]; omega
theorem cd_take {n s k : Int32} (h : 0 ≤ n ∧ n ≤ 999) : kTake k (cdV n s) ↔ ¬ (k = 4 ∧ s = 0) := by
  obtain ⟨m, hm, e⟩ := cdV_i (s := s) h
  have h1 : ¬ cdV n s = -1 := fun q => by
    rw [q, show (-1 : Int64).toInt = -1 from by decide] at e
    by_cases q2 : s = 0
    · rw [if_pos q2] at e; omega
    · rw [if_neg q2] at e; omega
  have h2 : 1000 ≤ cdV n s ↔ ¬ s = 0 := by
    rw [Int64.le_iff_toInt_le, e, show (1000 : Int64).toInt = 1000 from by decide]
    by_cases q : s = 0
    · rw [if_pos q]; exact ⟨fun z => by omega, fun z => absurd q z⟩
    · rw [if_neg q]; exact ⟨fun _ => q, fun _ => by omega⟩
  constructor
  · rintro (q | q | q) ⟨z1, z2⟩
    · exact q z1
    · exact h1 q
    · exact h2.mp q z2
  · intro q
    by_cases z : k = 4
    · exact Or.inr (Or.inr (h2.mpr (fun z2 => q ⟨z, z2⟩)))
    · exact Or.inl z
theorem neg1_iff {x : Int64} (h : -1 ≤ x) : ¬ x = -1 ↔ 0 ≤ x := by
  have e1 : (-1 : Int64).toInt = -1 := by decide
  have e0 : (0 : Int64).toInt = 0 := by decide
  rw [Int64.le_iff_toInt_le, e1] at h
  rw [Int64.le_iff_toInt_le, e0]
  constructor
  · intro q
    have : ¬ x.toInt = -1 := fun z => q (Int64.toInt_inj.mp (by rw [z, e1]))
    omega
  · intro q z
    rw [z, e1] at q
    omega
theorem RR.cls {hk : Nat → Option Nat} {re : Nat → RE} {on kd sz : Nat → Int32} {fr : Nat → Int64} (h : RR hk re on kd sz fr) {P Q : Int32 → Prop} (h0 : ¬ P 0) (hPQ : ∀ x, (1 ≤ x ∧ x ≤ 5) → (P x ↔ Q x)) (i : Nat) (hi : i < 6) : P (mK on kd i) ↔ ∃ r1, hk i = some r1 ∧ Q (re r1).1 := by
  rw [h.kind hi]
  cases e : hk i with
  | none => exact ⟨fun q => absurd q h0, fun ⟨_, q, _⟩ => by cases q⟩
  | some r1 =>
    have h15 := (h.ok hi e).2.1
    exact ⟨fun q => ⟨r1, rfl, (hPQ _ h15).mp q⟩, fun ⟨r2, q, q2⟩ => by cases q; exact (hPQ _ h15).mpr q2⟩
theorem RR.one {hk : Nat → Option Nat} {re : Nat → RE} {on kd sz : Nat → Int32} {fr : Nat → Int64} (h : RR hk re on kd sz fr) {j r p i : Nat} (hj : j < 6) (er : hk j = some r) (hp : p < 7) (ep : on j = nI p) (hR : ReAt kd sz fr (re r) p) {x : Int64} (hc : ((re r).1 = 3 ∨ (re r).1 = 4) → -1 ≤ x ∧ x ≤ 1999) (hi : i < (re r).2.2.1) : RR hk (va_up re r ((re r).1, (re r).2.1, (re r).2.2.1, vp_updL (re r).2.2.2 i x)) on kd sz (vp_updL fr (40 * p + i) x) := by
  refine h.row hj er hp ep (fun t ht => ?_) (fun t ht => pk_uLn (by omega)) (fun hcd t ht => ?_)
  · by_cases e : t = i
    · rw [e, pk_uLs, pk_uLs]
    · rw [pk_uLn e, pk_uLn (by omega)]
      exact hR.2.2 t ht
  · by_cases e : t = i
    · rw [e, pk_uLs]; exact hc hcd
    · rw [pk_uLn e]; exact (h.ok hj er).2.2.2 hcd t ht
theorem RR.kdE {hk : Nat → Option Nat} {re : Nat → RE} {on kd sz : Nat → Int32} {fr : Nat → Int64} (h : RR hk re on kd sz fr) {j r : Nat} (hj : j < 6) (er : hk j = some r) : mK on kd j = (re r).1 := by
  have e := h.kind hj
  rw [er] at e
  exact e
theorem c123 {E : String} {r : Int32} (h : (E = eA ∧ r = 1) ∨ (E = eS ∧ r = 2) ∨ (E = eI ∧ r = 3)) : (E = eA → r = 1) ∧ (E = eS → r = 2) ∧ (E = eI → r = 3) := by
  rcases h with ⟨rfl, h⟩ | ⟨rfl, h⟩ | ⟨rfl, h⟩
  · exact ⟨fun _ => h, fun q => absurd q eAS, fun q => absurd q eAI⟩
  · exact ⟨fun q => absurd q.symm eAS, fun _ => h, fun q => absurd q eSI⟩
  · exact ⟨fun q => absurd q.symm eAI, fun q => absurd q.symm eSI, fun _ => h⟩
theorem c12 {E : String} {r : Int32} (h : (E = eA ∧ r = 1) ∨ (E = eS ∧ r = 2)) : (E = eA → r = 1) ∧ (E = eS → r = 2) := by
  rcases h with ⟨rfl, h⟩ | ⟨rfl, h⟩
  · exact ⟨fun _ => h, fun q => absurd q eAS⟩
  · exact ⟨fun q => absurd q.symm eAS, fun _ => h⟩
theorem r_mark {hk : Nat → Option Nat} {re : Nat → RE} {kn : Nat → Int32} {sh : Nat → Nat → Int32} {k : Int32} {on kd sz : Nat → Int32} {fr li : Nat → Int64} {st mi : Nat → Int32} (R : Rel (hk, re, kn, sh, k) (on, kd, sz, fr, li, st, mi)) {h0 i0 : Int32} {v0 : Int64} {fo : Nat → Int64} {r : Int32} {u : CS × (Nat → Int64)} (hc : (∃ E : String, ((E = eA ∧ ¬ okH h0) ∨ (∃ j1 : Nat, j1 < 6 ∧ h0 = nI j1 ∧ ((E = eS ∧ (hk j1 = none ∨ ∃ r1 : Nat, hk j1 = some r1 ∧ ¬ ((re r1).1 = 1 ∨ (re r1).1 = 2))) ∨ (E = eI ∧ ∃ r1 : Nat, hk j1 = some r1 ∧ ((re r1).1 = 1 ∨ (re r1).1 = 2) ∧ ¬ okF i0 (re r1).2.2.1)))) ∧ ((E = eA ∧ r = 1) ∨ (E = eS ∧ r = 2) ∨ (E = eI ∧ r = 3)) ∧ u = ((hk, re, kn, sh, k), fo)) ∨ (r = 0 ∧ (∃ j1 r1 i1 : Nat, j1 < 6 ∧ h0 = nI j1 ∧ hk j1 = some r1 ∧ ((re r1).1 = 1 ∨ (re r1).1 = 2) ∧ i1 < (re r1).2.2.1 ∧ i0 = nI i1 ∧ u.1 = (hk, va_up re r1 ((re r1).1, (re r1).2.1, (re r1).2.2.1, vp_updL (re r1).2.2.2 i1 (mkV (re r1).1 v0)), kn, sh, k)) ∧ u.2 = fo)) {v : MS} (hm : (¬ okH h0 ∧ v = (on, kd, sz, fr, li, st, miC mi 1)) ∨ (∃ j1 : Nat, j1 < 6 ∧ h0 = nI j1 ∧ ((¬ (1 ≤ mK on kd j1 ∧ mK on kd j1 ≤ 2) ∧ v = (on, kd, sz, fr, li, st, miC mi 2)) ∨ ((1 ≤ mK on kd j1 ∧ mK on kd j1 ≤ 2) ∧ ∃ p1 z1 : Nat, p1 < 7 ∧ z1 ≤ 40 ∧ on j1 = nI p1 ∧ sz p1 = nI z1 ∧ ((¬ okF i0 z1 ∧ v = (on, kd, sz, fr, li, st, miC mi 3)) ∨ (∃ i1 : Nat, i1 < z1 ∧ i0 = nI i1 ∧ v = (on, kd, sz, vp_updL fr (40 * p1 + i1) (mkV (mK on kd j1) v0), li, st, miC mi 0))))))) : v.2.2.2.2.2.2 8 = r ∧ Rel u.1 v := by
  obtain ⟨R1, R2, R3⟩ := R
  have R1 : RR hk re on kd sz fr := R1
  have R2 : RK kn k mi := R2
  have R3 : RSt sh k st := R3
  have cls : ∀ i, i < 6 → ((1 ≤ mK on kd i ∧ mK on kd i ≤ 2) ↔ ∃ r1, hk i = some r1 ∧ ((re r1).1 = 1 ∨ (re r1).1 = 2)) := R1.cls (P := fun x => (1 ≤ x ∧ x ≤ 2)) (Q := fun x => (x = 1 ∨ x = 2)) (show ¬ ((1 : Int32) ≤ 0 ∧ (0 : Int32) ≤ 2) by decide) (fun x _ => k12)
  rcases hc with ⟨E, hX, hE, hu⟩ | hok
  · subst hu
    have hE := c123 hE
    rcases hX with ⟨eE, hX⟩ | ⟨j, hj, e1, hX⟩
    · have hE := hE.1 eE
      rcases hm with ⟨hb, hv⟩ | ⟨j, hj, e1, hm⟩
      · subst hv
        exact ⟨hE.symm, R1, R2.c 1, R3⟩
      · exact absurd ⟨j, hj, e1⟩ hX
    · rcases hm with ⟨hb, hm⟩ | ⟨j2, hj2, e2, hm⟩
      · exact absurd ⟨j, hj, e1⟩ hb
      · have q := jj_eq hj hj2 (e1.symm.trans e2)
        subst q
        rcases hX with ⟨eE, hX⟩ | ⟨eE, r1, hr1, hQ, hF⟩
        · have hE := hE.2.1 eE
          rcases hm with ⟨hn, hv⟩ | ⟨hy, hm⟩
          · subst hv
            exact ⟨hE.symm, R1, R2.c 2, R3⟩
          · obtain ⟨r2, h2, h3⟩ := (cls j hj).mp hy
            rcases hX with hX | ⟨r3, h4, h5⟩
            · rw [hX] at h2; cases h2
            · rw [h4] at h2; cases h2; exact absurd h3 h5
        · have hE := hE.2.2 eE
          rcases hm with ⟨hn, hm⟩ | ⟨hy, p1, z1, hp1, hz1, o1, s1, hm⟩
          · exact absurd ((cls j hj).mpr ⟨r1, hr1, hQ⟩) hn
          · obtain ⟨hR, ez⟩ := R1.pz hj hr1 hp1 hz1 o1 s1
            subst ez
            rcases hm with ⟨hF2, hv⟩ | ⟨i1, hi1, ei1, hm⟩
            · subst hv
              exact ⟨hE.symm, R1, R2.c 3, R3⟩
            · exact absurd ⟨i1, hi1, ei1⟩ hF
  · obtain ⟨hr, ⟨j, r1, i1, hj, e1, hr1, hQ, hi1, ei1, hu⟩, ho⟩ := hok
    subst hr
    rcases hm with ⟨hb, hm⟩ | ⟨j2, hj2, e2, hm⟩
    · exact absurd ⟨j, hj, e1⟩ hb
    · have q := jj_eq hj hj2 (e1.symm.trans e2)
      subst q
      rcases hm with ⟨hn, hm⟩ | ⟨hy, p1, z1, hp1, hz1, o1, s1, hm⟩
      · exact absurd ((cls j hj).mpr ⟨r1, hr1, hQ⟩) hn
      · obtain ⟨hR, ez⟩ := R1.pz hj hr1 hp1 hz1 o1 s1
        subst ez
        rcases hm with ⟨hF2, hm⟩ | ⟨i2, hi2, ei2, hm⟩
        · exact absurd ⟨i1, hi1, ei1⟩ hF2
        · have q2 : i1 = i2 := (nI_eq (by omega) (by omega)).mp (ei1.symm.trans ei2)
          subst q2
          subst hm
          rw [hu, R1.kdE hj hr1]
          exact ⟨rfl, R1.one hj hr1 hp1 o1 hR (fun q => absurd q (by rcases hQ with z | z <;> rw [z] <;> decide)) hi1, R2.c 0, R3⟩
theorem r_frame {hk : Nat → Option Nat} {re : Nat → RE} {kn : Nat → Int32} {sh : Nat → Nat → Int32} {k : Int32} {on kd sz : Nat → Int32} {fr li : Nat → Int64} {st mi : Nat → Int32} (R : Rel (hk, re, kn, sh, k) (on, kd, sz, fr, li, st, mi)) {h0 i0 : Int32} {fo : Nat → Int64} {r : Int32} {u : CS × (Nat → Int64)} (hc : (∃ E : String, ((E = eA ∧ ¬ okH h0) ∨ (∃ j1 : Nat, j1 < 6 ∧ h0 = nI j1 ∧ ((E = eS ∧ (hk j1 = none ∨ ∃ r1 : Nat, hk j1 = some r1 ∧ (re r1).1 = 5)) ∨ (E = eI ∧ ∃ r1 : Nat, hk j1 = some r1 ∧ ¬ (re r1).1 = 5 ∧ ¬ okF i0 (re r1).2.2.1)))) ∧ ((E = eA ∧ r = 1) ∨ (E = eS ∧ r = 2) ∨ (E = eI ∧ r = 3)) ∧ u = ((hk, re, kn, sh, k), fo)) ∨ (r = 0 ∧ ∃ rr : Int64, (∃ j1 r1 i1 : Nat, j1 < 6 ∧ h0 = nI j1 ∧ hk j1 = some r1 ∧ ¬ (re r1).1 = 5 ∧ i1 < (re r1).2.2.1 ∧ i0 = nI i1 ∧ rr = (re r1).2.2.2 i1 ∧ u.1 = (hk, re, kn, sh, k)) ∧ u.2 = vp_updL fo 0 rr)) {b : Int64} {v : MS} (hm : (¬ okH h0 ∧ v = (on, kd, sz, fr, li, st, miC mi 1)) ∨ (∃ j1 : Nat, j1 < 6 ∧ h0 = nI j1 ∧ ((¬ (1 ≤ mK on kd j1 ∧ mK on kd j1 ≤ 4) ∧ v = (on, kd, sz, fr, li, st, miC mi 2)) ∨ ((1 ≤ mK on kd j1 ∧ mK on kd j1 ≤ 4) ∧ ∃ p1 z1 : Nat, p1 < 7 ∧ z1 ≤ 40 ∧ on j1 = nI p1 ∧ sz p1 = nI z1 ∧ ((¬ okF i0 z1 ∧ v = (on, kd, sz, fr, li, st, miC mi 3)) ∨ (∃ i1 : Nat, i1 < z1 ∧ i0 = nI i1 ∧ b = fr (40 * p1 + i1) ∧ v = (on, kd, sz, fr, li, st, miC mi 0))))))) : v.2.2.2.2.2.2 8 = r ∧ (r = 0 → u.2 0 = b) ∧ Rel u.1 v := by
  obtain ⟨R1, R2, R3⟩ := R
  have R1 : RR hk re on kd sz fr := R1
  have R2 : RK kn k mi := R2
  have R3 : RSt sh k st := R3
  have cls : ∀ i, i < 6 → ((1 ≤ mK on kd i ∧ mK on kd i ≤ 4) ↔ ∃ r1, hk i = some r1 ∧ ¬ (re r1).1 = 5) := R1.cls (P := fun x => (1 ≤ x ∧ x ≤ 4)) (Q := fun x => ¬ x = 5) (show ¬ ((1 : Int32) ≤ 0 ∧ (0 : Int32) ≤ 4) by decide) (fun x h => k14 h)
  rcases hc with ⟨E, hX, hE, hu⟩ | hok
  · subst hu
    have hE := c123 hE
    rcases hX with ⟨eE, hX⟩ | ⟨j, hj, e1, hX⟩
    · have hE := hE.1 eE
      rcases hm with ⟨hb, hv⟩ | ⟨j, hj, e1, hm⟩
      · subst hv
        exact ⟨hE.symm, fun z => absurd (hE.symm.trans z) (by decide), R1, R2.c 1, R3⟩
      · exact absurd ⟨j, hj, e1⟩ hX
    · rcases hm with ⟨hb, hm⟩ | ⟨j2, hj2, e2, hm⟩
      · exact absurd ⟨j, hj, e1⟩ hb
      · have q := jj_eq hj hj2 (e1.symm.trans e2)
        subst q
        rcases hX with ⟨eE, hX⟩ | ⟨eE, r1, hr1, hQ, hF⟩
        · have hE := hE.2.1 eE
          rcases hm with ⟨hn, hv⟩ | ⟨hy, hm⟩
          · subst hv
            exact ⟨hE.symm, fun z => absurd (hE.symm.trans z) (by decide), R1, R2.c 2, R3⟩
          · obtain ⟨r2, h2, h3⟩ := (cls j hj).mp hy
            rcases hX with hX | ⟨r3, h4, h5⟩
            · rw [hX] at h2; cases h2
            · rw [h4] at h2; cases h2; exact absurd h5 h3
        · have hE := hE.2.2 eE
          rcases hm with ⟨hn, hm⟩ | ⟨hy, p1, z1, hp1, hz1, o1, s1, hm⟩
          · exact absurd ((cls j hj).mpr ⟨r1, hr1, hQ⟩) hn
          · obtain ⟨hR, ez⟩ := R1.pz hj hr1 hp1 hz1 o1 s1
            subst ez
            rcases hm with ⟨hF2, hv⟩ | ⟨i1, hi1, ei1, hm⟩
            · subst hv
              exact ⟨hE.symm, fun z => absurd (hE.symm.trans z) (by decide), R1, R2.c 3, R3⟩
            · exact absurd ⟨i1, hi1, ei1⟩ hF
  · obtain ⟨hr, rr, ⟨j, r1, i1, hj, e1, hr1, hQ, hi1, ei1, err, hu⟩, ho⟩ := hok
    subst hr
    rcases hm with ⟨hb, hm⟩ | ⟨j2, hj2, e2, hm⟩
    · exact absurd ⟨j, hj, e1⟩ hb
    · have q := jj_eq hj hj2 (e1.symm.trans e2)
      subst q
      rcases hm with ⟨hn, hm⟩ | ⟨hy, p1, z1, hp1, hz1, o1, s1, hm⟩
      · exact absurd ((cls j hj).mpr ⟨r1, hr1, hQ⟩) hn
      · obtain ⟨hR, ez⟩ := R1.pz hj hr1 hp1 hz1 o1 s1
        subst ez
        rcases hm with ⟨hF2, hm⟩ | ⟨i2, hi2, ei2, hm⟩
        · exact absurd ⟨i1, hi1, ei1⟩ hF2
        · have q2 : i1 = i2 := (nI_eq (by omega) (by omega)).mp (ei1.symm.trans ei2)
          subst q2
          obtain ⟨hb, hv⟩ := hm
          subst hv
          rw [hu]
          exact ⟨rfl, fun _ => by rw [ho, pk_uLs, err, hb]; exact (hR.2.2 i1 hi1).symm, R1, R2.c 0, R3⟩
theorem r_pull {hk : Nat → Option Nat} {re : Nat → RE} {kn : Nat → Int32} {sh : Nat → Nat → Int32} {k : Int32} {on kd sz : Nat → Int32} {fr li : Nat → Int64} {st mi : Nat → Int32} (R : Rel (hk, re, kn, sh, k) (on, kd, sz, fr, li, st, mi)) {h0 i0 : Int32} {fo : Nat → Int64} {r : Int32} {u : CS × (Nat → Int64)} (hc : (∃ E : String, ((E = eA ∧ ¬ okH h0) ∨ (∃ j1 : Nat, j1 < 6 ∧ h0 = nI j1 ∧ ((E = eS ∧ (hk j1 = none ∨ ∃ r1 : Nat, hk j1 = some r1 ∧ ¬ ((re r1).1 = 3 ∨ (re r1).1 = 4))) ∨ (E = eI ∧ ∃ r1 : Nat, hk j1 = some r1 ∧ ((re r1).1 = 3 ∨ (re r1).1 = 4) ∧ ¬ okF i0 (re r1).2.2.1)))) ∧ ((E = eA ∧ r = 1) ∨ (E = eS ∧ r = 2) ∨ (E = eI ∧ r = 3)) ∧ u = ((hk, re, kn, sh, k), fo)) ∨ (r = 0 ∧ ∃ rr : Int32, (∃ j1 r1 i1 : Nat, j1 < 6 ∧ h0 = nI j1 ∧ hk j1 = some r1 ∧ ((re r1).1 = 3 ∨ (re r1).1 = 4) ∧ i1 < (re r1).2.2.1 ∧ i0 = nI i1 ∧ rr = tB (¬ (re r1).2.2.2 i1 = -1) ∧ u.1 = (hk, va_up re r1 ((re r1).1, (re r1).2.1, (re r1).2.2.1, vp_updL (re r1).2.2.2 i1 (-1)), kn, sh, k)) ∧ u.2 = vp_updL fo 0 (if rr = 0 then 0 else 1))) {b : Int32} {v : MS} (hm : (¬ okH h0 ∧ b = 0 ∧ v = (on, kd, sz, fr, li, st, miC mi 1)) ∨ (∃ j1 : Nat, j1 < 6 ∧ h0 = nI j1 ∧ ((¬ (3 ≤ mK on kd j1 ∧ mK on kd j1 ≤ 4) ∧ b = 0 ∧ v = (on, kd, sz, fr, li, st, miC mi 2)) ∨ ((3 ≤ mK on kd j1 ∧ mK on kd j1 ≤ 4) ∧ ∃ p1 z1 : Nat, p1 < 7 ∧ z1 ≤ 40 ∧ on j1 = nI p1 ∧ sz p1 = nI z1 ∧ ((¬ okF i0 z1 ∧ b = 0 ∧ v = (on, kd, sz, fr, li, st, miC mi 3)) ∨ (∃ i1 : Nat, i1 < z1 ∧ i0 = nI i1 ∧ b = tB (0 ≤ fr (40 * p1 + i1)) ∧ v = (on, kd, sz, vp_updL fr (40 * p1 + i1) (-1), li, st, miC mi 0))))))) : v.2.2.2.2.2.2 8 = r ∧ (r = 0 → u.2 0 = if b = 0 then 0 else 1) ∧ Rel u.1 v := by
  obtain ⟨R1, R2, R3⟩ := R
  have R1 : RR hk re on kd sz fr := R1
  have R2 : RK kn k mi := R2
  have R3 : RSt sh k st := R3
  have cls : ∀ i, i < 6 → ((3 ≤ mK on kd i ∧ mK on kd i ≤ 4) ↔ ∃ r1, hk i = some r1 ∧ ((re r1).1 = 3 ∨ (re r1).1 = 4)) := R1.cls (P := fun x => (3 ≤ x ∧ x ≤ 4)) (Q := fun x => (x = 3 ∨ x = 4)) (show ¬ ((3 : Int32) ≤ 0 ∧ (0 : Int32) ≤ 4) by decide) (fun x _ => k34)
  rcases hc with ⟨E, hX, hE, hu⟩ | hok
  · subst hu
    have hE := c123 hE
    rcases hX with ⟨eE, hX⟩ | ⟨j, hj, e1, hX⟩
    · have hE := hE.1 eE
      rcases hm with ⟨hb, hb0, hv⟩ | ⟨j, hj, e1, hm⟩
      · subst hv
        exact ⟨hE.symm, fun z => absurd (hE.symm.trans z) (by decide), R1, R2.c 1, R3⟩
      · exact absurd ⟨j, hj, e1⟩ hX
    · rcases hm with ⟨hb, hm⟩ | ⟨j2, hj2, e2, hm⟩
      · exact absurd ⟨j, hj, e1⟩ hb
      · have q := jj_eq hj hj2 (e1.symm.trans e2)
        subst q
        rcases hX with ⟨eE, hX⟩ | ⟨eE, r1, hr1, hQ, hF⟩
        · have hE := hE.2.1 eE
          rcases hm with ⟨hn, hb0, hv⟩ | ⟨hy, hm⟩
          · subst hv
            exact ⟨hE.symm, fun z => absurd (hE.symm.trans z) (by decide), R1, R2.c 2, R3⟩
          · obtain ⟨r2, h2, h3⟩ := (cls j hj).mp hy
            rcases hX with hX | ⟨r3, h4, h5⟩
            · rw [hX] at h2; cases h2
            · rw [h4] at h2; cases h2; exact absurd h3 h5
        · have hE := hE.2.2 eE
          rcases hm with ⟨hn, hm⟩ | ⟨hy, p1, z1, hp1, hz1, o1, s1, hm⟩
          · exact absurd ((cls j hj).mpr ⟨r1, hr1, hQ⟩) hn
          · obtain ⟨hR, ez⟩ := R1.pz hj hr1 hp1 hz1 o1 s1
            subst ez
            rcases hm with ⟨hF2, hb0, hv⟩ | ⟨i1, hi1, ei1, hm⟩
            · subst hv
              exact ⟨hE.symm, fun z => absurd (hE.symm.trans z) (by decide), R1, R2.c 3, R3⟩
            · exact absurd ⟨i1, hi1, ei1⟩ hF
  · obtain ⟨hr, rr, ⟨j, r1, i1, hj, e1, hr1, hQ, hi1, ei1, err, hu⟩, ho⟩ := hok
    subst hr
    rcases hm with ⟨hb, hm⟩ | ⟨j2, hj2, e2, hm⟩
    · exact absurd ⟨j, hj, e1⟩ hb
    · have q := jj_eq hj hj2 (e1.symm.trans e2)
      subst q
      rcases hm with ⟨hn, hm⟩ | ⟨hy, p1, z1, hp1, hz1, o1, s1, hm⟩
      · exact absurd ((cls j hj).mpr ⟨r1, hr1, hQ⟩) hn
      · obtain ⟨hR, ez⟩ := R1.pz hj hr1 hp1 hz1 o1 s1
        subst ez
        rcases hm with ⟨hF2, hm⟩ | ⟨i2, hi2, ei2, hm⟩
        · exact absurd ⟨i1, hi1, ei1⟩ hF2
        · have q2 : i1 = i2 := (nI_eq (by omega) (by omega)).mp (ei1.symm.trans ei2)
          subst q2
          obtain ⟨hb, hv⟩ := hm
          subst hv
          rw [hu]
          have hrg := (R1.ok hj hr1).2.2.2 hQ i1 hi1
          have hfe := hR.2.2 i1 hi1
          refine ⟨rfl, fun _ => ?_, R1.one hj hr1 hp1 o1 hR (fun _ => by decide) hi1, R2.c 0, R3⟩
          have hbr : rr = b := by
            rw [err, hb]
            refine tB_c ?_
            rw [hfe]
            exact neg1_iff hrg.1
          rw [ho, pk_uLs, hbr]
theorem r_paste {hk : Nat → Option Nat} {re : Nat → RE} {kn : Nat → Int32} {sh : Nat → Nat → Int32} {k : Int32} {on kd sz : Nat → Int32} {fr li : Nat → Int64} {st mi : Nat → Int32} (R : Rel (hk, re, kn, sh, k) (on, kd, sz, fr, li, st, mi)) {h0 i0 n0 s0 : Int32} {fo : Nat → Int64} {r : Int32} {u : CS × (Nat → Int64)} (hc : (∃ E : String, ((E = eA ∧ ¬ (okH h0 ∧ ¬ n0 < 0 ∧ n0 < 1000)) ∨ (∃ j1 : Nat, j1 < 6 ∧ h0 = nI j1 ∧ (¬ n0 < 0 ∧ n0 < 1000) ∧ ((E = eS ∧ (hk j1 = none ∨ ∃ r1 : Nat, hk j1 = some r1 ∧ ¬ ((re r1).1 = 3 ∨ (re r1).1 = 4))) ∨ (E = eI ∧ ∃ r1 : Nat, hk j1 = some r1 ∧ ((re r1).1 = 3 ∨ (re r1).1 = 4) ∧ ¬ okF i0 (re r1).2.2.1)))) ∧ ((E = eA ∧ r = 1) ∨ (E = eS ∧ r = 2) ∨ (E = eI ∧ r = 3)) ∧ u = ((hk, re, kn, sh, k), fo)) ∨ (r = 0 ∧ ∃ rr : Int32, (∃ j1 r1 i1 : Nat, j1 < 6 ∧ h0 = nI j1 ∧ ¬ n0 < 0 ∧ n0 < 1000 ∧ hk j1 = some r1 ∧ ((re r1).1 = 3 ∨ (re r1).1 = 4) ∧ i1 < (re r1).2.2.1 ∧ i0 = nI i1 ∧ ((kTake (re r1).1 (cdV n0 s0) ∧ rr = 1 ∧ u.1 = (hk, va_up re r1 ((re r1).1, (re r1).2.1, (re r1).2.2.1, vp_updL (re r1).2.2.2 i1 (cdV n0 s0)), kn, sh, k)) ∨ (¬ kTake (re r1).1 (cdV n0 s0) ∧ rr = 0 ∧ u.1 = (hk, re, kn, sh, k)))) ∧ u.2 = vp_updL fo 0 (if rr = 0 then 0 else 1))) {b : Int32} {v : MS} (hm : (¬ (okH h0 ∧ (0 ≤ n0 ∧ n0 ≤ 999)) ∧ b = 0 ∧ v = (on, kd, sz, fr, li, st, miC mi 1)) ∨ (∃ j1 : Nat, j1 < 6 ∧ h0 = nI j1 ∧ (0 ≤ n0 ∧ n0 ≤ 999) ∧ ((¬ (3 ≤ mK on kd j1 ∧ mK on kd j1 ≤ 4) ∧ b = 0 ∧ v = (on, kd, sz, fr, li, st, miC mi 2)) ∨ ((3 ≤ mK on kd j1 ∧ mK on kd j1 ≤ 4) ∧ ∃ p1 z1 : Nat, p1 < 7 ∧ z1 ≤ 40 ∧ on j1 = nI p1 ∧ sz p1 = nI z1 ∧ ((¬ okF i0 z1 ∧ b = 0 ∧ v = (on, kd, sz, fr, li, st, miC mi 3)) ∨ (∃ i1 : Nat, i1 < z1 ∧ i0 = nI i1 ∧ (((mK on kd j1 = 4 ∧ s0 = 0) ∧ b = 0 ∧ v = (on, kd, sz, fr, li, st, miC mi 0)) ∨ (¬ (mK on kd j1 = 4 ∧ s0 = 0) ∧ b = 1 ∧ v = (on, kd, sz, vp_updL fr (40 * p1 + i1) (cdM n0 s0), li, st, miC mi 0))))))))) : v.2.2.2.2.2.2 8 = r ∧ (r = 0 → u.2 0 = if b = 0 then 0 else 1) ∧ Rel u.1 v := by
  obtain ⟨R1, R2, R3⟩ := R
  have R1 : RR hk re on kd sz fr := R1
  have R2 : RK kn k mi := R2
  have R3 : RSt sh k st := R3
  have cls : ∀ i, i < 6 → ((3 ≤ mK on kd i ∧ mK on kd i ≤ 4) ↔ ∃ r1, hk i = some r1 ∧ ((re r1).1 = 3 ∨ (re r1).1 = 4)) := R1.cls (P := fun x => (3 ≤ x ∧ x ≤ 4)) (Q := fun x => (x = 3 ∨ x = 4)) (show ¬ ((3 : Int32) ≤ 0 ∧ (0 : Int32) ≤ 4) by decide) (fun x _ => k34)
  rcases hc with ⟨E, hX, hE, hu⟩ | hok
  · subst hu
    have hE := c123 hE
    rcases hX with ⟨eE, hX⟩ | ⟨j, hj, e1, hn0, hX⟩
    · have hE := hE.1 eE
      rcases hm with ⟨hb, hb0, hv⟩ | ⟨j, hj, e1, hn1, hm⟩
      · subst hv
        exact ⟨hE.symm, fun z => absurd (hE.symm.trans z) (by decide), R1, R2.c 1, R3⟩
      · exact absurd ⟨⟨j, hj, e1⟩, n_iff.mpr hn1⟩ hX
    · rcases hm with ⟨hb, hm⟩ | ⟨j2, hj2, e2, hn1, hm⟩
      · exact absurd ⟨⟨j, hj, e1⟩, n_iff.mp hn0⟩ hb
      · have q := jj_eq hj hj2 (e1.symm.trans e2)
        subst q
        rcases hX with ⟨eE, hX⟩ | ⟨eE, r1, hr1, hQ, hF⟩
        · have hE := hE.2.1 eE
          rcases hm with ⟨hn, hb0, hv⟩ | ⟨hy, hm⟩
          · subst hv
            exact ⟨hE.symm, fun z => absurd (hE.symm.trans z) (by decide), R1, R2.c 2, R3⟩
          · obtain ⟨r2, h2, h3⟩ := (cls j hj).mp hy
            rcases hX with hX | ⟨r3, h4, h5⟩
            · rw [hX] at h2; cases h2
            · rw [h4] at h2; cases h2; exact absurd h3 h5
        · have hE := hE.2.2 eE
          rcases hm with ⟨hn, hm⟩ | ⟨hy, p1, z1, hp1, hz1, o1, s1, hm⟩
          · exact absurd ((cls j hj).mpr ⟨r1, hr1, hQ⟩) hn
          · obtain ⟨hR, ez⟩ := R1.pz hj hr1 hp1 hz1 o1 s1
            subst ez
            rcases hm with ⟨hF2, hb0, hv⟩ | ⟨i1, hi1, ei1, hm⟩
            · subst hv
              exact ⟨hE.symm, fun z => absurd (hE.symm.trans z) (by decide), R1, R2.c 3, R3⟩
            · exact absurd ⟨i1, hi1, ei1⟩ hF
  · obtain ⟨hr, rr, ⟨j, r1, i1, hj, e1, hn2, hn3, hr1, hQ, hi1, ei1, hT⟩, ho⟩ := hok
    have hn0 : ¬ n0 < 0 ∧ n0 < 1000 := ⟨hn2, hn3⟩
    subst hr
    rcases hm with ⟨hb, hm⟩ | ⟨j2, hj2, e2, hn1, hm⟩
    · exact absurd ⟨⟨j, hj, e1⟩, n_iff.mp hn0⟩ hb
    · have q := jj_eq hj hj2 (e1.symm.trans e2)
      subst q
      rcases hm with ⟨hn, hm⟩ | ⟨hy, p1, z1, hp1, hz1, o1, s1, hm⟩
      · exact absurd ((cls j hj).mpr ⟨r1, hr1, hQ⟩) hn
      · obtain ⟨hR, ez⟩ := R1.pz hj hr1 hp1 hz1 o1 s1
        subst ez
        rcases hm with ⟨hF2, hm⟩ | ⟨i2, hi2, ei2, hm⟩
        · exact absurd ⟨i1, hi1, ei1⟩ hF2
        · have q2 : i1 = i2 := (nI_eq (by omega) (by omega)).mp (ei1.symm.trans ei2)
          subst q2
          rw [R1.kdE hj hr1] at hm
          rcases hT with ⟨hT, err, hu⟩ | ⟨hT, err, hu⟩
          · have hT := (cd_take hn1).mp hT
            rcases hm with ⟨h4, hm⟩ | ⟨h4, hb, hv⟩
            · exact absurd h4 hT
            · subst hv
              rw [hu, ← cd_eq hn1]
              exact ⟨rfl, fun _ => by rw [ho, pk_uLs, err, hb], R1.one hj hr1 hp1 o1 hR (fun _ => cd_rng hn1) hi1, R2.c 0, R3⟩
          · rcases hm with ⟨h4, hb, hv⟩ | ⟨h4, hm⟩
            · subst hv
              rw [hu]
              exact ⟨rfl, fun _ => by rw [ho, pk_uLs, err, hb], R1, R2.c 0, R3⟩
            · exact absurd ((cd_take hn1).mpr h4) hT
theorem r_count {hk : Nat → Option Nat} {re : Nat → RE} {kn : Nat → Int32} {sh : Nat → Nat → Int32} {k : Int32} {on kd sz : Nat → Int32} {fr li : Nat → Int64} {st mi : Nat → Int32} (R : Rel (hk, re, kn, sh, k) (on, kd, sz, fr, li, st, mi)) {w0 : Int32} {fo : Nat → Int64} {r : Int32} {u : CS × (Nat → Int64)} (hc : (∃ E : String, (E = eA ∧ ¬ w0 = 0 ∧ ¬ w0 = 1 ∧ ¬ w0 = 2 ∧ ¬ w0 = 3 ∧ ¬ w0 = 4 ∧ ¬ w0 = 5 ∧ ¬ w0 = 6 ∧ ¬ w0 = 7) ∧ ((E = eA ∧ r = 1)) ∧ u = ((hk, re, kn, sh, k), fo)) ∨ (r = 0 ∧ ∃ rr : Int32, (((w0 = 0 ∧ rr = kn 0) ∨ (w0 = 1 ∧ rr = kn 1) ∨ (w0 = 2 ∧ rr = kn 2) ∨ (w0 = 3 ∧ rr = kn 3) ∨ (w0 = 4 ∧ rr = k) ∨ (w0 = 5 ∧ rr = kn 4) ∨ (w0 = 6 ∧ rr = kn 5) ∨ (w0 = 7 ∧ rr = kn 6)) ∧ u.1 = (hk, re, kn, sh, k)) ∧ u.2 = vp_updL fo 0 rr.toInt64)) {b : Int32} {v : MS} (hm : (((w0 = 0 ∧ b = mi 1) ∨ (w0 = 1 ∧ b = mi 2) ∨ (w0 = 2 ∧ b = mi 3) ∨ (w0 = 3 ∧ b = mi 4) ∨ (w0 = 4 ∧ b = mi 0) ∨ (w0 = 5 ∧ b = mi 5) ∨ (w0 = 6 ∧ b = mi 6) ∨ (w0 = 7 ∧ b = mi 7)) ∧ v = (on, kd, sz, fr, li, st, miC mi 0)) ∨ ((¬ w0 = 0 ∧ ¬ w0 = 1 ∧ ¬ w0 = 2 ∧ ¬ w0 = 3 ∧ ¬ w0 = 4 ∧ ¬ w0 = 5 ∧ ¬ w0 = 6 ∧ ¬ w0 = 7) ∧ v = (on, kd, sz, fr, li, st, miC mi 1))) : v.2.2.2.2.2.2 8 = r ∧ (r = 0 → u.2 0 = b.toInt64) ∧ Rel u.1 v := by
  obtain ⟨R1, R2, R3⟩ := R
  have R1 : RR hk re on kd sz fr := R1
  have R2 : RK kn k mi := R2
  have R3 : RSt sh k st := R3
  obtain ⟨r0, r1, r2, r3, r4, r5, r6, r7, r8⟩ := id R2
  rcases hc with ⟨E, hX, hE, hu⟩ | ⟨hr, rr, ⟨hp, hu⟩, ho⟩
  · subst hu
    have hX := hX.2
    have hE := hE.2
    rcases hm with ⟨hm, hv⟩ | ⟨hm, hv⟩
    · exfalso
      obtain ⟨x0, x1, x2, x3, x4, x5, x6, x7⟩ := hX
      rcases hm with ⟨q, -⟩ | ⟨q, -⟩ | ⟨q, -⟩ | ⟨q, -⟩ | ⟨q, -⟩ | ⟨q, -⟩ | ⟨q, -⟩ | ⟨q, -⟩
      · exact x0 q
      · exact x1 q
      · exact x2 q
      · exact x3 q
      · exact x4 q
      · exact x5 q
      · exact x6 q
      · exact x7 q
    · subst hv
      exact ⟨hE.symm, fun z => absurd (hE.symm.trans z) (by decide), R1, R2.c 1, R3⟩
  · subst hr
    rcases hm with ⟨hm, hv⟩ | ⟨hm, hv⟩
    · subst hv
      rw [hu]
      have hb : rr = b := by
        rcases hp with ⟨w, q⟩ | ⟨w, q⟩ | ⟨w, q⟩ | ⟨w, q⟩ | ⟨w, q⟩ | ⟨w, q⟩ | ⟨w, q⟩ | ⟨w, q⟩
        · subst w
          rcases hm with ⟨w, z⟩ | ⟨w, z⟩ | ⟨w, z⟩ | ⟨w, z⟩ | ⟨w, z⟩ | ⟨w, z⟩ | ⟨w, z⟩ | ⟨w, z⟩
          · rw [q, z, r1]
          · exact absurd w (by decide)
          · exact absurd w (by decide)
          · exact absurd w (by decide)
          · exact absurd w (by decide)
          · exact absurd w (by decide)
          · exact absurd w (by decide)
          · exact absurd w (by decide)
        · subst w
          rcases hm with ⟨w, z⟩ | ⟨w, z⟩ | ⟨w, z⟩ | ⟨w, z⟩ | ⟨w, z⟩ | ⟨w, z⟩ | ⟨w, z⟩ | ⟨w, z⟩
          · exact absurd w (by decide)
          · rw [q, z, r2]
          · exact absurd w (by decide)
          · exact absurd w (by decide)
          · exact absurd w (by decide)
          · exact absurd w (by decide)
          · exact absurd w (by decide)
          · exact absurd w (by decide)
        · subst w
          rcases hm with ⟨w, z⟩ | ⟨w, z⟩ | ⟨w, z⟩ | ⟨w, z⟩ | ⟨w, z⟩ | ⟨w, z⟩ | ⟨w, z⟩ | ⟨w, z⟩
          · exact absurd w (by decide)
          · exact absurd w (by decide)
          · rw [q, z, r3]
          · exact absurd w (by decide)
          · exact absurd w (by decide)
          · exact absurd w (by decide)
          · exact absurd w (by decide)
          · exact absurd w (by decide)
        · subst w
          rcases hm with ⟨w, z⟩ | ⟨w, z⟩ | ⟨w, z⟩ | ⟨w, z⟩ | ⟨w, z⟩ | ⟨w, z⟩ | ⟨w, z⟩ | ⟨w, z⟩
          · exact absurd w (by decide)
          · exact absurd w (by decide)
          · exact absurd w (by decide)
          · rw [q, z, r4]
          · exact absurd w (by decide)
          · exact absurd w (by decide)
          · exact absurd w (by decide)
          · exact absurd w (by decide)
        · subst w
          rcases hm with ⟨w, z⟩ | ⟨w, z⟩ | ⟨w, z⟩ | ⟨w, z⟩ | ⟨w, z⟩ | ⟨w, z⟩ | ⟨w, z⟩ | ⟨w, z⟩
          · exact absurd w (by decide)
          · exact absurd w (by decide)
          · exact absurd w (by decide)
          · exact absurd w (by decide)
          · rw [q, z, r0]
          · exact absurd w (by decide)
          · exact absurd w (by decide)
          · exact absurd w (by decide)
        · subst w
          rcases hm with ⟨w, z⟩ | ⟨w, z⟩ | ⟨w, z⟩ | ⟨w, z⟩ | ⟨w, z⟩ | ⟨w, z⟩ | ⟨w, z⟩ | ⟨w, z⟩
          · exact absurd w (by decide)
          · exact absurd w (by decide)
          · exact absurd w (by decide)
          · exact absurd w (by decide)
          · exact absurd w (by decide)
          · rw [q, z, r5]
          · exact absurd w (by decide)
          · exact absurd w (by decide)
        · subst w
          rcases hm with ⟨w, z⟩ | ⟨w, z⟩ | ⟨w, z⟩ | ⟨w, z⟩ | ⟨w, z⟩ | ⟨w, z⟩ | ⟨w, z⟩ | ⟨w, z⟩
          · exact absurd w (by decide)
          · exact absurd w (by decide)
          · exact absurd w (by decide)
          · exact absurd w (by decide)
          · exact absurd w (by decide)
          · exact absurd w (by decide)
          · rw [q, z, r6]
          · exact absurd w (by decide)
        · subst w
          rcases hm with ⟨w, z⟩ | ⟨w, z⟩ | ⟨w, z⟩ | ⟨w, z⟩ | ⟨w, z⟩ | ⟨w, z⟩ | ⟨w, z⟩ | ⟨w, z⟩
          · exact absurd w (by decide)
          · exact absurd w (by decide)
          · exact absurd w (by decide)
          · exact absurd w (by decide)
          · exact absurd w (by decide)
          · exact absurd w (by decide)
          · exact absurd w (by decide)
          · rw [q, z, r7]
      exact ⟨rfl, fun _ => by rw [ho, pk_uLs, hb], R1, R2.c 0, R3⟩
    · exfalso
      obtain ⟨x0, x1, x2, x3, x4, x5, x6, x7⟩ := hm
      rcases hp with ⟨q, -⟩ | ⟨q, -⟩ | ⟨q, -⟩ | ⟨q, -⟩ | ⟨q, -⟩ | ⟨q, -⟩ | ⟨q, -⟩ | ⟨q, -⟩
      · exact x0 q
      · exact x1 q
      · exact x2 q
      · exact x3 q
      · exact x4 q
      · exact x5 q
      · exact x6 q
      · exact x7 q
theorem sumF_c {f g : Nat → Int64} : ∀ n : Nat, (∀ i, i < n → f i = g i) → sumF f n = sumF g n
  | 0, _ => rfl
  | n + 1, h => by
    show 31 * sumF f n + f n = 31 * sumF g n + g n
    rw [sumF_c n (fun i hi => h i (by omega)), h n (by omega)]
theorem r_sum {hk : Nat → Option Nat} {re : Nat → RE} {kn : Nat → Int32} {sh : Nat → Nat → Int32} {k : Int32} {on kd sz : Nat → Int32} {fr li : Nat → Int64} {st mi : Nat → Int32} (R : Rel (hk, re, kn, sh, k) (on, kd, sz, fr, li, st, mi)) {h0 : Int32} {fo : Nat → Int64} {r : Int32} {u : CS × (Nat → Int64)} (hc : (∃ E : String, (E = eA ∧ ¬ okH h0) ∧ ((E = eA ∧ r = 1)) ∧ u = ((hk, re, kn, sh, k), fo)) ∨ (r = 0 ∧ ∃ rr : Int64, (∃ j1 : Nat, j1 < 6 ∧ h0 = nI j1 ∧ rr = sOf re (hk j1) ∧ u.1 = (hk, re, kn, sh, k)) ∧ u.2 = vp_updL fo 0 rr)) {b : Int64} {v : MS} (hm : (¬ okH h0 ∧ v = (on, kd, sz, fr, li, st, miC mi 1)) ∨ (∃ j1 : Nat, j1 < 6 ∧ h0 = nI j1 ∧ ((¬ (1 ≤ mK on kd j1 ∧ mK on kd j1 ≤ 4) ∧ b = 7) ∨ ((1 ≤ mK on kd j1 ∧ mK on kd j1 ≤ 4) ∧ ∃ p1 z1 : Nat, p1 < 7 ∧ z1 ≤ 40 ∧ on j1 = nI p1 ∧ sz p1 = nI z1 ∧ b = sumF (fun t => fr (40 * p1 + t)) z1)) ∧ v = (on, kd, sz, fr, li, st, miC mi 0))) : v.2.2.2.2.2.2 8 = r ∧ (r = 0 → u.2 0 = b) ∧ Rel u.1 v := by
  obtain ⟨R1, R2, R3⟩ := R
  have R1 : RR hk re on kd sz fr := R1
  have R2 : RK kn k mi := R2
  have R3 : RSt sh k st := R3
  have cls : ∀ i, i < 6 → ((1 ≤ mK on kd i ∧ mK on kd i ≤ 4) ↔ ∃ r1, hk i = some r1 ∧ ¬ (re r1).1 = 5) := R1.cls (P := fun x => (1 ≤ x ∧ x ≤ 4)) (Q := fun x => ¬ x = 5) (show ¬ ((1 : Int32) ≤ 0 ∧ (0 : Int32) ≤ 4) by decide) (fun x h => k14 h)
  rcases hc with ⟨E, hX, hE, hu⟩ | ⟨hr, rr, ⟨j, hj, e1, err, hu⟩, ho⟩
  · subst hu
    have hX := hX.2
    have hE := hE.2
    rcases hm with ⟨hb, hv⟩ | ⟨j, hj, e1, hm⟩
    · subst hv
      exact ⟨hE.symm, fun z => absurd (hE.symm.trans z) (by decide), R1, R2.c 1, R3⟩
    · exact absurd ⟨j, hj, e1⟩ hX
  · subst hr
    rcases hm with ⟨hb, hv⟩ | ⟨j2, hj2, e2, hm, hv⟩
    · exact absurd ⟨j, hj, e1⟩ hb
    · have q := jj_eq hj hj2 (e1.symm.trans e2)
      subst q
      subst hv
      rw [hu]
      have hb : rr = b := by
        rw [err]
        cases e : hk j with
        | none =>
          rcases hm with ⟨hn, hb⟩ | ⟨hy, hm⟩
          · rw [hb]; rfl
          · obtain ⟨r1, h1, h2⟩ := (cls j hj).mp hy
            rw [e] at h1; cases h1
        | some r1 =>
          rcases hm with ⟨hn, hb⟩ | ⟨hy, p1, z1, hp1, hz1, o1, s1, hb⟩
          · have h5 : (re r1).1 = 5 := Decidable.of_not_not (fun q => hn ((cls j hj).mpr ⟨r1, e, q⟩))
            have hz := (R1.ok hj e).2.2.1 h5
            rw [hb]
            show sumF (re r1).2.2.2 (re r1).2.2.1 = 7
            rw [hz]
            rfl
          · obtain ⟨hR, ez⟩ := R1.pz hj e hp1 hz1 o1 s1
            subst ez
            rw [hb]
            exact sumF_c _ (fun i hi => (hR.2.2 i hi).symm)
      exact ⟨rfl, fun _ => by rw [ho, pk_uLs, hb], R1, R2.c 0, R3⟩
theorem mC_c {hk : Nat → Option Nat} {on : Nat → Int32} {j r : Nat} (h : ∀ i, i < 6 → (hk i = some r ↔ (¬ on j = -1 ∧ on i = on j))) : ∀ n, n ≤ 6 → cntH hk r n = mC on j n
  | 0, _ => rfl
  | n + 1, hn => by
    show cntH hk r n + (if hk n = some r then 1 else 0) = mC on j n + (if ¬ on j = -1 ∧ on n = on j then 1 else 0)
    rw [mC_c h n (by omega)]
    by_cases q : hk n = some r
    · rw [if_pos q, if_pos ((h n (by omega)).mp q)]
    · rw [if_neg q, if_neg (fun z => q ((h n (by omega)).mpr z))]
theorem mC_z {on : Nat → Int32} {j : Nat} (h : on j = -1) : ∀ n, mC on j n = 0
  | 0 => rfl
  | n + 1 => by
    show mC on j n + (if ¬ on j = -1 ∧ on n = on j then 1 else 0) = 0
    rw [mC_z h n, if_neg (fun z => z.1 h)]
theorem RR.holds {hk : Nat → Option Nat} {re : Nat → RE} {on kd sz : Nat → Int32} {fr : Nat → Int64} (h : RR hk re on kd sz fr) {j : Nat} (hj : j < 6) : hOf hk (hk j) = nI (mC on j 6) := by
  cases e : hk j with
  | none => rw [mC_z (h.no hj e)]; rfl
  | some r =>
    obtain ⟨p, hp, op, -⟩ := h.at hj e
    show nI (cntH hk r 6) = _
    rw [mC_c (j := j) (fun i hi => ?_) 6 (Nat.le_refl 6)]
    have h1 := h.2.1 i j hi hj
    rw [e] at h1
    exact ⟨fun q => ⟨by rw [op]; exact nI_nm hp, h1.mp q⟩, fun q => h1.mpr q.2⟩
theorem r_look {hk : Nat → Option Nat} {re : Nat → RE} {kn : Nat → Int32} {sh : Nat → Nat → Int32} {k : Int32} {on kd sz : Nat → Int32} {fr li : Nat → Int64} {st mi : Nat → Int32} (R : Rel (hk, re, kn, sh, k) (on, kd, sz, fr, li, st, mi)) {h0 w0 : Int32} {fo : Nat → Int64} {r : Int32} {u : CS × (Nat → Int64)} (hc : (∃ E : String, (E = eA ∧ ¬ (okH h0 ∧ (w0 = 0 ∨ w0 = 1 ∨ w0 = 2))) ∧ ((E = eA ∧ r = 1)) ∧ u = ((hk, re, kn, sh, k), fo)) ∨ (r = 0 ∧ ∃ rr : Int32, (∃ j1 : Nat, j1 < 6 ∧ h0 = nI j1 ∧ ((w0 = 0 ∧ rr = kOf re (hk j1)) ∨ (w0 = 1 ∧ rr = zOf re (hk j1)) ∨ (w0 = 2 ∧ rr = hOf hk (hk j1))) ∧ u.1 = (hk, re, kn, sh, k)) ∧ u.2 = vp_updL fo 0 rr.toInt64)) {b : Int32} {v : MS} (hm : (¬ (okH h0 ∧ (w0 = 0 ∨ w0 = 1 ∨ w0 = 2)) ∧ v = (on, kd, sz, fr, li, st, miC mi 1)) ∨ (∃ j1 : Nat, j1 < 6 ∧ h0 = nI j1 ∧ ((w0 = 0 ∧ b = mK on kd j1) ∨ (w0 = 1 ∧ (((1 ≤ mK on kd j1 ∧ mK on kd j1 ≤ 4) ∧ ∃ p1 z1 : Nat, p1 < 7 ∧ z1 ≤ 40 ∧ on j1 = nI p1 ∧ sz p1 = nI z1 ∧ b = nI z1) ∨ (¬ (1 ≤ mK on kd j1 ∧ mK on kd j1 ≤ 4) ∧ b = -1))) ∨ (w0 = 2 ∧ b = nI (mC on j1 6))) ∧ v = (on, kd, sz, fr, li, st, miC mi 0))) : v.2.2.2.2.2.2 8 = r ∧ (r = 0 → u.2 0 = b.toInt64) ∧ Rel u.1 v := by
  obtain ⟨R1, R2, R3⟩ := R
  have R1 : RR hk re on kd sz fr := R1
  have R2 : RK kn k mi := R2
  have R3 : RSt sh k st := R3
  have cls : ∀ i, i < 6 → ((1 ≤ mK on kd i ∧ mK on kd i ≤ 4) ↔ ∃ r1, hk i = some r1 ∧ ¬ (re r1).1 = 5) := R1.cls (P := fun x => (1 ≤ x ∧ x ≤ 4)) (Q := fun x => ¬ x = 5) (show ¬ ((1 : Int32) ≤ 0 ∧ (0 : Int32) ≤ 4) by decide) (fun x h => k14 h)
  rcases hc with ⟨E, hX, hE, hu⟩ | ⟨hr, rr, ⟨j, hj, e1, hp, hu⟩, ho⟩
  · subst hu
    have hX := hX.2
    have hE := hE.2
    rcases hm with ⟨hb, hv⟩ | ⟨j, hj, e1, hm, hv⟩
    · subst hv
      exact ⟨hE.symm, fun z => absurd (hE.symm.trans z) (by decide), R1, R2.c 1, R3⟩
    · exact absurd ⟨⟨j, hj, e1⟩, hm.elim (fun q => Or.inl q.1) (fun q => Or.inr (q.elim (fun q => Or.inl q.1) (fun q => Or.inr q.1)))⟩ hX
  · subst hr
    rcases hm with ⟨hb, hv⟩ | ⟨j2, hj2, e2, hm, hv⟩
    · exact absurd ⟨⟨j, hj, e1⟩, hp.elim (fun q => Or.inl q.1) (fun q => Or.inr (q.elim (fun q => Or.inl q.1) (fun q => Or.inr q.1)))⟩ hb
    · have q := jj_eq hj hj2 (e1.symm.trans e2)
      subst q
      subst hv
      rw [hu]
      have hb : rr = b := by
        rcases hp with ⟨w, err⟩ | ⟨w, err⟩ | ⟨w, err⟩
        · subst w
          rcases hm with ⟨w, hb⟩ | ⟨w, hb⟩ | ⟨w, hb⟩
          · rw [err, hb, R1.kind hj]
          · exact absurd w (by decide)
          · exact absurd w (by decide)
        · subst w
          rcases hm with ⟨w, hb⟩ | ⟨w, hm⟩ | ⟨w, hb⟩
          · exact absurd w (by decide)
          · rw [err]
            cases e : hk j with
            | none =>
              rcases hm with ⟨hy, hm⟩ | ⟨hn, hb⟩
              · obtain ⟨r1, h1, h2⟩ := (cls j hj).mp hy
                rw [e] at h1; cases h1
              · rw [hb]; rfl
            | some r1 =>
              rcases hm with ⟨hy, p1, z1, hp1, hz1, o1, s1, hb⟩ | ⟨hn, hb⟩
              · obtain ⟨r2, h1, h2⟩ := (cls j hj).mp hy
                rw [e] at h1
                cases h1
                obtain ⟨hR, ez⟩ := R1.pz hj e hp1 hz1 o1 s1
                subst ez
                rw [hb]
                exact if_neg h2
              · have h5 : (re r1).1 = 5 := Decidable.of_not_not (fun q => hn ((cls j hj).mpr ⟨r1, e, q⟩))
                rw [hb]
                exact if_pos h5
          · exact absurd w (by decide)
        · subst w
          rcases hm with ⟨w, hb⟩ | ⟨w, hb⟩ | ⟨w, hb⟩
          · exact absurd w (by decide)
          · exact absurd w (by decide)
          · rw [err, hb, R1.holds hj]
      exact ⟨rfl, fun _ => by rw [ho, pk_uLs, hb], R1, R2.c 0, R3⟩
section S5
variable {st : Nat → Int32} {n : Nat} {a b c d e : Int32}
theorem st5_0 : upd (upd (upd (upd (upd st (5 * n) a) (5 * n + 1) b) (5 * n + 2) c) (5 * n + 3) d) (5 * n + 4) e (5 * n) = a := by rw [pk_un (by omega), pk_un (by omega), pk_un (by omega), pk_un (by omega), pk_us]
theorem st5_1 : upd (upd (upd (upd (upd st (5 * n) a) (5 * n + 1) b) (5 * n + 2) c) (5 * n + 3) d) (5 * n + 4) e (5 * n + 1) = b := by rw [pk_un (by omega), pk_un (by omega), pk_un (by omega), pk_us]
theorem st5_2 : upd (upd (upd (upd (upd st (5 * n) a) (5 * n + 1) b) (5 * n + 2) c) (5 * n + 3) d) (5 * n + 4) e (5 * n + 2) = c := by rw [pk_un (by omega), pk_un (by omega), pk_us]
theorem st5_3 : upd (upd (upd (upd (upd st (5 * n) a) (5 * n + 1) b) (5 * n + 2) c) (5 * n + 3) d) (5 * n + 4) e (5 * n + 3) = d := by rw [pk_un (by omega), pk_us]
theorem st5_4 : upd (upd (upd (upd (upd st (5 * n) a) (5 * n + 1) b) (5 * n + 2) c) (5 * n + 3) d) (5 * n + 4) e (5 * n + 4) = e := pk_us
theorem st5_o {t : Nat} (h : t < 5 * n) : upd (upd (upd (upd (upd st (5 * n) a) (5 * n + 1) b) (5 * n + 2) c) (5 * n + 3) d) (5 * n + 4) e t = st t := by rw [pk_un (by omega), pk_un (by omega), pk_un (by omega), pk_un (by omega), pk_un (by omega)]
end S5
theorem r_step {hk : Nat → Option Nat} {re : Nat → RE} {kn : Nat → Int32} {sh : Nat → Nat → Int32} {k : Int32} {on kd sz : Nat → Int32} {fr li : Nat → Int64} {st mi : Nat → Int32} (R : Rel (hk, re, kn, sh, k) (on, kd, sz, fr, li, st, mi)) {h0 p0 o0 q0 n0 : Int32} {fo : Nat → Int64} {r : Int32} {u : CS × (Nat → Int64)} (hc : (∃ E : String, ((E = eA ∧ ¬ (okH h0 ∧ okH o0)) ∨ (E = eS ∧ okH h0 ∧ okH o0 ∧ ¬ k < 24)) ∧ ((E = eA ∧ r = 1) ∨ (E = eS ∧ r = 2)) ∧ u = ((hk, re, kn, sh, k), fo)) ∨ (r = 0 ∧ ∃ rr : Int32, (∃ j1 i1 : Nat, j1 < 6 ∧ i1 < 6 ∧ h0 = nI j1 ∧ o0 = nI i1 ∧ k < 24 ∧ rr = k + 1 ∧ ∃ n1 : Nat, n1 ≤ 24 ∧ k = nI n1 ∧ u.1 = (hk, re, kn, shUp sh n1 h0 p0 o0 q0 n0, k + 1)) ∧ u.2 = vp_updL fo 0 rr.toInt64)) {b : Int32} {v : MS} (hm : (¬ (okH h0 ∧ okH o0) ∧ b = 0 ∧ v = (on, kd, sz, fr, li, st, miC mi 1)) ∨ (∃ j1 i1 : Nat, j1 < 6 ∧ i1 < 6 ∧ h0 = nI j1 ∧ o0 = nI i1 ∧ ((mi 0 = 24 ∧ b = 0 ∧ v = (on, kd, sz, fr, li, st, miC mi 2)) ∨ (∃ n1 : Nat, n1 < 24 ∧ mi 0 = nI n1 ∧ b = mi 0 + 1 ∧ v = (on, kd, sz, fr, li, upd (upd (upd (upd (upd st (5 * n1) h0) (5 * n1 + 1) p0) (5 * n1 + 2) o0) (5 * n1 + 3) q0) (5 * n1 + 4) n0, mi9 (mi 0 + 1) (mi 1) (mi 2) (mi 3) (mi 4) (mi 5) (mi 6) (mi 7) 0))))) : v.2.2.2.2.2.2 8 = r ∧ (r = 0 → u.2 0 = b.toInt64) ∧ Rel u.1 v := by
  obtain ⟨R1, R2, R3⟩ := R
  have R1 : RR hk re on kd sz fr := R1
  have R2 : RK kn k mi := R2
  have R3 : RSt sh k st := R3
  obtain ⟨n, hn, ek, hst⟩ := id R3
  have r0 := R2.1
  rcases hc with ⟨E, hX, hE, hu⟩ | ⟨hr, rr, ⟨j, i, hj, hi, e1, e2, hk24, err, n1, hn1, ek1, hu⟩, ho⟩
  · subst hu
    have hE := c12 hE
    rcases hX with ⟨eE, hX⟩ | ⟨eE, ⟨j, hj, e1⟩, ⟨i, hi, e2⟩, hX⟩
    · have hE := hE.1 eE
      rcases hm with ⟨hb, hb0, hv⟩ | ⟨j, i, hj, hi, e1, e2, hm⟩
      · subst hv
        exact ⟨hE.symm, fun z => absurd (hE.symm.trans z) (by decide), R1, R2.c 1, R3⟩
      · exact absurd ⟨⟨j, hj, e1⟩, ⟨i, hi, e2⟩⟩ hX
    · have hE := hE.2 eE
      rcases hm with ⟨hb, hm⟩ | ⟨j2, i2, hj2, hi2, e3, e4, hm⟩
      · exact absurd ⟨⟨j, hj, e1⟩, ⟨i, hi, e2⟩⟩ hb
      · rcases hm with ⟨h24, hb0, hv⟩ | ⟨n1, hn1, en1, hm⟩
        · subst hv
          exact ⟨hE.symm, fun z => absurd (hE.symm.trans z) (by decide), R1, R2.c 2, R3⟩
        · exfalso
          rw [r0] at en1
          exact hX (by rw [en1]; exact nI_lt (b := 24) hn1 (by decide))
  · subst hr
    rcases hm with ⟨hb, hm⟩ | ⟨j2, i2, hj2, hi2, e3, e4, hm⟩
    · exact absurd ⟨⟨j, hj, e1⟩, ⟨i, hi, e2⟩⟩ hb
    · rcases hm with ⟨h24, hm⟩ | ⟨n2, hn2, en2, hb, hv⟩
      · exfalso
        rw [r0] at h24
        rw [h24] at hk24
        exact absurd hk24 (by decide)
      · have q2 : n2 = n := (nI_eq (by omega) (by omega)).mp (en2.symm.trans (r0.trans ek))
        subst q2
        have q1 : n1 = n2 := (nI_eq (by omega) (by omega)).mp (ek1.symm.trans ek)
        subst q1
        subst hv
        rw [hu]
        obtain ⟨r0, r1, r2, r3, r4, r5, r6, r7, r8⟩ := id R2
        refine ⟨rfl, fun _ => by rw [ho, pk_uLs, err, hb, r0], R1, ⟨?_, r1, r2, r3, r4, r5, r6, r7, r8⟩, n1 + 1, by omega, by rw [ek, nI_1], fun t ht => ?_⟩
        · show mi 0 + 1 = k + 1
          rw [r0]
        · show (upd (sh 0) n1 h0 t = _ ∧ upd (sh 1) n1 p0 t = _ ∧ upd (sh 2) n1 o0 t = _ ∧ upd (sh 3) n1 q0 t = _ ∧ upd (sh 4) n1 n0 t = _) ∧ (∃ j : Nat, j < 6 ∧ upd (sh 0) n1 h0 t = nI j) ∧ ∃ j : Nat, j < 6 ∧ upd (sh 2) n1 o0 t = nI j
          by_cases et : t = n1
          · subst et
            rw [pk_us, pk_us, pk_us, pk_us, pk_us]
            exact ⟨⟨st5_0.symm, st5_1.symm, st5_2.symm, st5_3.symm, st5_4.symm⟩, ⟨j, hj, e1⟩, ⟨i, hi, e2⟩⟩
          · obtain ⟨⟨s0, s1, s2, s3, s4⟩, s5, s6⟩ := hst t (by omega)
            rw [pk_un et, pk_un et, pk_un et, pk_un et, pk_un et]
            exact ⟨⟨s0.trans (st5_o (by omega)).symm, s1.trans (st5_o (by omega)).symm, s2.trans (st5_o (by omega)).symm, s3.trans (st5_o (by omega)).symm, s4.trans (st5_o (by omega)).symm⟩, s5, s6⟩
end CRel3
