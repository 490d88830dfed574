section CRel4
theorem lt3 {b : Nat} (hb : b ≤ 3) (h : ¬ (3 : Int32) ≤ nI b) : b < 3 := Nat.lt_of_not_le (fun q => h (nI_le (a := 3) q (by omega)))
theorem RK.jam {kn : Nat → Int32} {k : Int32} {mi : Nat → Int32} (h : RK kn k mi) (hb : ¬ 3 ≤ kn 3) {r : Int32} (hr : r < 0) {k1 : Nat} : RK (knUp kn k1 r) k (mi9 (mi 0) (mi 1) (mi 2 + nI k1) (mi 3 + 1) (mi 4 + 1) (nI k1) r (mi 7) (mi 8)) := by
  obtain ⟨r0, r1, r2, r3, r4, r5, r6, r7, b, hb3, eb⟩ := h
  rw [eb] at hb
  have h3 := lt3 hb3 hb
  refine ⟨r0, ?_, ?_, ?_, ?_, rfl, rfl, r7, b + 1, by omega, ?_⟩
  · show mi 1 = if r < 0 then kn 0 else kn 0 + 1
    rw [if_pos hr, r1]
  · show mi 2 + nI k1 = kn 1 + nI k1
    rw [r2]
  · show mi 3 + 1 = if r < 0 then kn 2 + 1 else kn 2
    rw [if_pos hr, r3]
  · show mi 4 + 1 = if r < 0 then kn 3 + 1 else 0
    rw [if_pos hr, r4]
  · show (if r < 0 then kn 3 + 1 else 0) = nI (b + 1)
    rw [if_pos hr, eb, nI_1]
theorem RK.good {kn : Nat → Int32} {k : Int32} {mi : Nat → Int32} (h : RK kn k mi) {r : Int32} (hr : ¬ r < 0) {k1 : Nat} : RK (knUp kn k1 r) k (mi9 (mi 0) (mi 1 + 1) (mi 2 + nI k1) (mi 3) 0 (nI k1) r (mi 7) (mi 8)) := by
  obtain ⟨r0, r1, r2, r3, r4, r5, r6, r7, b, hb3, eb⟩ := h
  refine ⟨r0, ?_, ?_, ?_, ?_, rfl, rfl, r7, 0, by omega, ?_⟩
  · show mi 1 + 1 = if r < 0 then kn 0 else kn 0 + 1
    rw [if_neg hr, r1]
  · show mi 2 + nI k1 = kn 1 + nI k1
    rw [r2]
  · show mi 3 = if r < 0 then kn 2 + 1 else kn 2
    rw [if_neg hr, r3]
  · show 0 = if r < 0 then kn 3 + 1 else 0
    rw [if_neg hr]
  · show (if r < 0 then kn 3 + 1 else 0) = nI 0
    rw [if_neg hr, nI_0]
theorem ag_iff {a b : Int32} (ha : 1 ≤ a ∧ a ≤ 5) (hb : 1 ≤ b ∧ b ≤ 5) : Ag2 a b ↔ ¬ kLike a b := by
  rcases k15 ha with rfl | rfl | rfl | rfl | rfl <;> rcases k15 hb with rfl | rfl | rfl | rfl | rfl <;> decide
theorem k_n0 {a : Int32} (ha : 1 ≤ a ∧ a ≤ 5) : ¬ a = 0 := by
  rcases k15 ha with rfl | rfl | rfl | rfl | rfl <;> decide
theorem like4 {a b : Int32} (h : kLike a b) (hb : b = 3 ∨ b = 4) : a = 3 ∨ a = 4 := by
  rcases h with h | ⟨h1, h2⟩
  · exact h.1
  · rw [h2]; exact hb
theorem tk_iff {k : Int32} {v : Int64} (h : k = 4 → -1 ≤ v ∧ v ≤ 1999) : kTake k v ↔ mTake k v := by
  by_cases e : k = 4
  · have h := h e
    have e1 : (-1 : Int64).toInt = -1 := by decide
    have e2 : (1999 : Int64).toInt = 1999 := by decide
    have e3 : (1000 : Int64).toInt = 1000 := by decide
    have e4 : (999 : Int32).toInt = 999 := by decide
    rw [Int64.le_iff_toInt_le, Int64.le_iff_toInt_le, e1, e2] at h
    have ev : v.toInt32.toInt = v.toInt := by
      rw [Int64.toInt_toInt32]
      exact Int.bmod_eq_of_le (by omega) (by omega)
    have hz : (0 ≤ v.toInt32 ∧ v.toInt32 ≤ 999) ↔ (0 ≤ v.toInt ∧ v.toInt ≤ 999) := by
      rw [Int32.le_iff_toInt_le, Int32.le_iff_toInt_le, ev, e4, Int32.toInt_zero]
    constructor
    · rintro (q | q | q) z
      · exact q e
      · have := hz.mp z.2
        rw [q, e1] at this
        omega
      · have := hz.mp z.2
        rw [Int64.le_iff_toInt_le, e3] at q
        omega
    · intro q
      by_cases z : v = -1
      · exact Or.inr (Or.inl z)
      · refine Or.inr (Or.inr ?_)
        have h1 : ¬ v.toInt = -1 := fun z9 => z (Int64.toInt_inj.mp (by rw [z9, e1]))
        have h2 : ¬ (0 ≤ v.toInt ∧ v.toInt ≤ 999) := fun z9 => q ⟨e, hz.mpr z9⟩
        rw [Int64.le_iff_toInt_le, e3]
        omega
  · exact ⟨fun _ z => e z.1, fun _ => Or.inl e⟩
theorem stp_u {P Q : Nat → Prop} {n k k2 : Nat} (h : ∀ t, t < n → (P t ↔ Q t)) (h1 : k ≤ n ∧ (∀ t, t < k → P t) ∧ (k < n → ¬ P k)) (h2 : k2 ≤ n ∧ (∀ t, t < k2 → Q t) ∧ (k2 < n → ¬ Q k2)) : k = k2 := by
  rcases Nat.lt_trichotomy k k2 with q | q | q
  · exact absurd ((h k (by omega)).mpr (h2.2.1 k q)) (h1.2.2 (by omega))
  · exact q
  · exact absurd ((h k2 (by omega)).mp (h1.2.1 k2 q)) (h2.2.2 (by omega))
theorem inFr_nI {i n z : Nat} (hi : i ≤ 40) (hn : n ≤ 40) (h : i + n ≤ z) : inFr (nI i) (nI n) z := by
  refine ⟨⟨?_, ?_⟩, ?_⟩
  · rw [nI_toInt (by omega)]; omega
  · rw [nI_toInt (by omega)]; omega
  · rw [nI_toInt (by omega), nI_toInt (by omega)]; omega
theorem ag_none {on kd sz : Nat → Int32} {fr li : Nat → Int64} {st mi : Nat → Int32} {j1 j2 : Nat} {p q n t : Int32} {u : MS} (h0 : mK on kd j1 = 0 ∨ mK on kd j2 = 0) (hm : MCut on kd sz fr li st mi j1 j2 p q n t u) : t = -1 ∧ u = (on, kd, sz, fr, li, st, mi9 (mi 0) (mi 1) (mi 2 + 0) (mi 3 + 1) (mi 4 + 1) 0 t (mi 7) (mi 8)) := by
  rcases hm with ⟨ha, -, hu⟩ | ⟨p1, p2, z1, z2, i1, i2, n1, k1, l1, hn, -⟩
  · rcases ha with ⟨-, ht⟩ | ⟨hn, -⟩ | ⟨hn, -⟩
    · exact ⟨ht, hu⟩
    · exact absurd h0 hn
    · exact absurd h0 hn
  · exact absurd h0 hn
section C
variable {hk : Nat → Option Nat} {re : Nat → RE} {kn : Nat → Int32} {k : Int32} {on kd sz : Nat → Int32} {fr li : Nat → Int64} {st mi : Nat → Int32}
theorem r_none (R1 : RR hk re on kd sz fr) (R2 : RK kn k mi) (hb : ¬ 3 ≤ kn 3) {j1 j2 : Nat} {p q n : Int32} {t : Int32} {u : MS} (h0 : mK on kd j1 = 0 ∨ mK on kd j2 = 0) (hm : MCut on kd sz fr li st mi j1 j2 p q n t u) : -1 = t ∧ ∃ (fr1 li1 : Nat → Int64) (mi1 : Nat → Int32), u = (on, kd, sz, fr1, li1, st, mi1) ∧ RR hk re on kd sz fr1 ∧ RK (knUp kn 0 (-1)) k mi1 ∧ mi1 8 = mi 8 := by
  obtain ⟨ht, hu⟩ := ag_none h0 hm
  subst ht
  have z := R2.jam hb (r := -1) (by decide) (k1 := 0)
  rw [nI_0] at z
  exact ⟨rfl, fr, li, _, hu, R1, z, rfl⟩
theorem r_lay (R1 : RR hk re on kd sz fr) (R2 : RK kn k mi) (hb : ¬ 3 ≤ kn 3) {j1 j2 a b : Nat} (h1 : j1 < 6) (h2 : j2 < 6) (ea : hk j1 = some a) (eb : hk j2 = some b) {p q n : Int32} {k1 : Nat} {r t : Int32} {u : MS} (hc : LayRel (re a).1 (re b).1 (re a).2.2.1 (re b).2.2.1 (re a).2.2.2 p q n k1 r) (hm : MCut on kd sz fr li st mi j1 j2 p q n t u) :
    r = t ∧ ∃ (fr1 li1 : Nat → Int64) (mi1 : Nat → Int32), u = (on, kd, sz, fr1, li1, st, mi1) ∧ RR hk (va_up re b ((re b).1, (re b).2.1, (re b).2.2.1, va_cpy (re a).2.2.2 (re b).2.2.2 p.toNatClampNeg q.toNatClampNeg k1)) on kd sz fr1 ∧ RK (knUp kn k1 r) k mi1 ∧ mi1 8 = mi 8 := by
  have Oa := R1.ok h1 ea
  have Ob := R1.ok h2 eb
  have ka := R1.kdE h1 ea
  have kb := R1.kdE h2 eb
  have hn0 : ¬ (mK on kd j1 = 0 ∨ mK on kd j2 = 0) := by
    rw [ka, kb]
    exact fun z => z.elim (k_n0 Oa.2.1) (k_n0 Ob.2.1)
  have hag := ag_iff Oa.2.1 Ob.2.1
  rw [← ka, ← kb] at hag
  have same : ∀ (P Q : Nat), RR hk (va_up re b ((re b).1, (re b).2.1, (re b).2.2.1, va_cpy (re a).2.2.2 (re b).2.2.2 P Q 0)) on kd sz fr := by
    intro P Q
    rw [cpy_0]
    obtain ⟨p2, hp2, o2, hR⟩ := R1.at h2 eb
    exact R1.row h2 eb hp2 o2 hR.2.2 (fun _ _ => rfl) Ob.2.2.2
  rcases hc with ⟨hl, hk1, hr⟩ | ⟨hl, hf, hk1, hr⟩ | ⟨hl, hf, hs, hr⟩
  · subst hk1
    subst hr
    rw [← ka, ← kb] at hl
    have hA := hag.mpr hl
    rcases hm with ⟨hm, hneg, hu⟩ | ⟨p1, p2, z1, z2, i1, i2, n1, k2, l1, -, hn, -⟩
    · rcases hm with ⟨hn, -⟩ | ⟨-, -, ht⟩ | ⟨-, hn, -⟩
      · exact absurd hn hn0
      · subst ht
        have z := R2.jam hb (r := -2) (by decide) (k1 := 0)
        rw [nI_0] at z
        exact ⟨rfl, fr, li, _, hu, same _ _, z, rfl⟩
      · exact absurd hA hn
    · exact absurd hA hn
  · subst hk1
    subst hr
    rw [← ka, ← kb] at hl
    have hA : ¬ Ag2 (mK on kd j1) (mK on kd j2) := fun z => hag.mp z hl
    rcases hm with ⟨hm, hneg, hu⟩ | ⟨p1, p2, z1, z2, i1, i2, n1, k2, l1, -, -, hp, hz, ho, hs, ⟨e1, e2, e3⟩, ⟨f1, f2⟩, -⟩
    · rcases hm with ⟨hn, -⟩ | ⟨-, hn, -⟩ | ⟨-, -, p1, p2, z1, z2, hp, hz, ho, hs, hm⟩
      · exact absurd hn hn0
      · exact absurd hn hA
      · obtain ⟨-, q1⟩ := R1.pz h1 ea hp.1 hz.1 ho.1 hs.1
        obtain ⟨-, q2⟩ := R1.pz h2 eb hp.2 hz.2 ho.2 hs.2
        subst q1
        subst q2
        rcases hm with ⟨-, ht⟩ | ⟨hin, -⟩
        · subst ht
          have z := R2.jam hb (r := -3) (by decide) (k1 := 0)
          rw [nI_0] at z
          exact ⟨rfl, fr, li, _, hu, same _ _, z, rfl⟩
        · exact absurd hin hf
    · exfalso
      obtain ⟨-, q1⟩ := R1.pz h1 ea hp.1 hz.1 ho.1 hs.1
      obtain ⟨-, q2⟩ := R1.pz h2 eb hp.2 hz.2 ho.2 hs.2
      subst q1
      subst q2
      rw [e1, e2, e3] at hf
      exact hf ⟨inFr_nI (by omega) (by omega) f1, inFr_nI (by omega) (by omega) f2⟩
  · rw [← ka, ← kb] at hl
    have hA : ¬ Ag2 (mK on kd j1) (mK on kd j2) := fun z => hag.mp z hl
    rw [ka, kb] at hl
    rcases hm with ⟨hm, hneg, hu⟩ | ⟨p1, p2, z1, z2, i1, i2, n1, k2, l1, -, -, hp, hz, ho, hsz, ⟨e1, e2, e3⟩, ⟨f1, f2⟩, hst, hm⟩
    · exfalso
      rcases hm with ⟨hn, -⟩ | ⟨-, hn, -⟩ | ⟨-, -, p1, p2, z1, z2, hp, hz, ho, hs, hm⟩
      · exact hn0 hn
      · exact hA hn
      · obtain ⟨-, q1⟩ := R1.pz h1 ea hp.1 hz.1 ho.1 hs.1
        obtain ⟨-, q2⟩ := R1.pz h2 eb hp.2 hz.2 ho.2 hs.2
        subst q1
        subst q2
        rcases hm with ⟨hin, -⟩ | ⟨-, ht⟩
        · exact hin hf
        · rw [ht] at hneg
          exact absurd hneg (by decide)
    · obtain ⟨Ra, q1⟩ := R1.pz h1 ea hp.1 hz.1 ho.1 hsz.1
      obtain ⟨Rb, q2⟩ := R1.pz h2 eb hp.2 hz.2 ho.2 hsz.2
      subst q1
      subst q2
      subst e1
      subst e2
      subst e3
      have ci : (nI i1).toNatClampNeg = i1 := nI_clamp (by omega)
      have cj : (nI i2).toNatClampNeg = i2 := nI_clamp (by omega)
      have cn : (nI n1).toNatClampNeg = n1 := nI_clamp (by omega)
      rw [ci, cn] at hs
      rw [cn] at hr
      rw [ci, cj]
      have hfa : ∀ t, t < n1 → fr (40 * p1 + i1 + t) = (re a).2.2.2 (i1 + t) := fun t ht => by
        rw [Nat.add_assoc]
        exact Ra.2.2 (i1 + t) (by omega)
      have hkk : k1 = k2 := stp_u (P := fun t => kTake (re b).1 ((re a).2.2.2 (i1 + t))) (Q := fun t => mTake (mK on kd j2) (fr (40 * p1 + i1 + t))) (fun t ht => by
        show kTake (re b).1 ((re a).2.2.2 (i1 + t)) ↔ mTake (mK on kd j2) (fr (40 * p1 + i1 + t))
        rw [kb, hfa t ht]
        exact tk_iff (fun e4 => Oa.2.2.2 (like4 hl (Or.inr e4)) (i1 + t) (by omega))) hs hst
      subst hkk
      have hk1 : k1 ≤ n1 := hs.1
      have R4 : RR hk (va_up re b ((re b).1, (re b).2.1, (re b).2.2.1, va_cpy (re a).2.2.2 (re b).2.2.2 i1 i2 k1)) on kd sz (va_cpy fr fr (40 * p1 + i1) (40 * p2 + i2) k1) := by
        refine R1.row h2 eb hp.2 ho.2 (fun i hi => ?_) (fun t ht => pk_cpy_out (by omega)) (fun hcd i hi => ?_)
        · by_cases hin : i2 ≤ i ∧ i < i2 + k1
          · rw [pk_cpy_in (by omega) (by omega), pk_cpy_in hin.1 hin.2, show 40 * p2 + i - (40 * p2 + i2) = i - i2 by omega]
            exact hfa (i - i2) (by omega)
          · rw [pk_cpy_out (by omega), pk_cpy_out (by omega)]
            exact Rb.2.2 i hi
        · by_cases hin : i2 ≤ i ∧ i < i2 + k1
          · rw [pk_cpy_in hin.1 hin.2]
            exact Oa.2.2.2 (like4 hl hcd) _ (by omega)
          · rw [pk_cpy_out (by omega)]
            exact Ob.2.2.2 hcd i hi
      rcases hm with ⟨hlt, ht, hu⟩ | ⟨hle, ht, hu⟩
      · rw [if_pos hlt] at hr
        subst hr
        subst ht
        exact ⟨rfl, _, _, _, hu, R4, R2.jam hb (by decide), rfl⟩
      · rw [if_neg (by omega)] at hr
        subst hr
        subst ht
        exact ⟨rfl, _, _, _, hu, R4, R2.good (nI_pos (by omega)), rfl⟩
theorem r_cut (R1 : RR hk re on kd sz fr) (R2 : RK kn k mi) (hb : ¬ 3 ≤ kn 3) {j1 j2 : Nat} (h1 : j1 < 6) (h2 : j2 < 6) {p q n : Int32} {k1 : Nat} {r t : Int32} {u : MS} (hc : CutRel re (hk j1) (hk j2) p q n k1 r) (hm : MCut on kd sz fr li st mi j1 j2 p q n t u) :
    r = t ∧ ∃ (fr1 li1 : Nat → Int64) (mi1 : Nat → Int32), u = (on, kd, sz, fr1, li1, st, mi1) ∧ RR hk (cutRe re (hk j1) (hk j2) p q k1) on kd sz fr1 ∧ RK (knUp kn k1 r) k mi1 ∧ mi1 8 = mi 8 := by
  cases ea : hk j1 with
  | none =>
    rw [ea] at hc
    have hc : k1 = 0 ∧ r = -1 := hc
    obtain ⟨hk1, hr⟩ := hc
    subst hk1
    subst hr
    exact r_none R1 R2 hb (Or.inl (by rw [R1.kind h1, ea]; rfl)) hm
  | some a =>
    cases eb : hk j2 with
    | none =>
      rw [ea, eb] at hc
      have hc : k1 = 0 ∧ r = -1 := hc
      obtain ⟨hk1, hr⟩ := hc
      subst hk1
      subst hr
      exact r_none R1 R2 hb (Or.inr (by rw [R1.kind h2, eb]; rfl)) hm
    | some b =>
      rw [ea, eb] at hc
      exact r_lay R1 R2 hb h1 h2 ea eb hc hm
theorem bl_iff (R2 : RK kn k mi) : 3 ≤ kn 3 ↔ mi 4 = 3 := by
  obtain ⟨r0, r1, r2, r3, r4, r5, r6, r7, b3, hb3, eb3⟩ := R2
  rw [r4, eb3]
  constructor
  · intro q
    have := (nI_leI (a := 3) (b := b3) (by decide) (by omega)).mp q
    rw [show b3 = 3 by omega]; rfl
  · intro q
    rw [q]; decide
theorem r_playL {sh : Nat → Nat → Int32} {n : Nat} {bw : Int32} (hst : ∀ i, i < n → (sh 0 i = st (5 * i) ∧ sh 1 i = st (5 * i + 1) ∧ sh 2 i = st (5 * i + 2) ∧ sh 3 i = st (5 * i + 3) ∧ sh 4 i = st (5 * i + 4)) ∧ (∃ j : Nat, j < 6 ∧ sh 0 i = nI j) ∧ ∃ j : Nat, j < 6 ∧ sh 2 i = nI j) {re1 : Nat → RE} {kn1 : Nat → Int32} {u : MS} {r t : Int32} :
    ∀ (g d : Nat) (re : Nat → RE) (kn : Nat → Int32) (fr li : Nat → Int64) (mi : Nat → Int32), RR hk re on kd sz fr → RK kn k mi → ¬ 3 ≤ kn 3 → PlayRel hk sh n bw g d re kn re1 kn1 r → MPlayRel on kd sz st n bw g d fr li mi u t →
      r = t ∧ ∃ (fr1 li1 : Nat → Int64) (mi1 : Nat → Int32), u = (on, kd, sz, fr1, li1, st, mi1) ∧ RR hk re1 on kd sz fr1 ∧ RK kn1 k mi1 ∧ mi1 8 = mi 8 := by
  intro g
  induction g with
  | zero => intro d re kn fr li mi R1 R2 hb hc hm; exact hc.elim
  | succ g ih =>
    intro d re kn fr li mi R1 R2 hb hc hm
    rcases hc with ⟨hd, er, ek, err⟩ | ⟨hd, j1, j2, k1, t1, p, q, h1, h2, hj, hcut, hc⟩
    · rcases hm with ⟨-, hu, ht⟩ | ⟨hd2, -⟩
      · subst er
        subst ek
        exact ⟨err.trans ht.symm, fr, li, mi, hu, R1, R2, rfl⟩
      · exact absurd hd2 (by omega)
    · rcases hm with ⟨hd2, -⟩ | ⟨-, j3, j4, t2, p2, q2, fr2, li2, mi2, h3, h4, hj2, hmc, hm⟩
      · exact absurd hd2 (by omega)
      · have hpl : plI bw n d < n := by unfold plI; split <;> omega
        obtain ⟨⟨s0, s1, s2, s3, s4⟩, -, -⟩ := hst _ hpl
        have key : j1 = j3 ∧ j2 = j4 ∧ p = p2 ∧ q = q2 := by
          rcases hj with ⟨w, a1, a2, a3, a4⟩ | ⟨w, a1, a2, a3, a4⟩
          · rcases hj2 with ⟨-, b1, b2, b3, b4⟩ | ⟨w2, -⟩
            · exact ⟨jj_eq h1 h3 (a1.symm.trans (s0.trans b1)), jj_eq h2 h4 (a2.symm.trans (s2.trans b2)), a3.trans (s1.trans b3.symm), a4.trans (s3.trans b4.symm)⟩
            · exact absurd w w2
          · rcases hj2 with ⟨w2, -⟩ | ⟨-, b1, b2, b3, b4⟩
            · exact absurd w2 w
            · exact ⟨jj_eq h1 h3 (a1.symm.trans (s2.trans b1)), jj_eq h2 h4 (a2.symm.trans (s0.trans b2)), a3.trans (s3.trans b3.symm), a4.trans (s1.trans b4.symm)⟩
        obtain ⟨g1, g2, g3, g4⟩ := key
        subst g1
        subst g2
        subst g3
        subst g4
        rw [← s4] at hmc
        obtain ⟨ett, fr3, li3, mi3, eu, R4, R5, e8⟩ := r_cut R1 R2 hb h1 h2 hcut hmc
        subst ett
        simp only [Prod.mk.injEq, true_and] at eu
        obtain ⟨y1, y2, y3⟩ := eu
        subst y1
        subst y2
        subst y3
        rcases hc with ⟨hneg, er, ek, err⟩ | ⟨hpos, hc⟩
        · rcases hm with ⟨-, hu, ht⟩ | ⟨hpos, -⟩
          · subst er
            subst ek
            exact ⟨err.trans ht.symm, _, _, _, hu, R4, R5, e8⟩
          · exact absurd hneg hpos
        · rcases hm with ⟨hneg, -⟩ | ⟨-, hm⟩
          · exact absurd hneg hpos
          · have hb2 : ¬ 3 ≤ knUp kn k1 t1 3 := by
              show ¬ 3 ≤ (if t1 < 0 then kn 3 + 1 else 0)
              rw [if_neg hpos]
              decide
            obtain ⟨w1, fr4, li4, mi4, w2, w3, w4, w5⟩ := ih (d + 1) _ _ _ _ _ R4 R5 hb2 hc hm
            exact ⟨w1, fr4, li4, mi4, w2, w3, w4, w5.trans e8⟩
end C
theorem r_splice {hk : Nat → Option Nat} {re : Nat → RE} {kn : Nat → Int32} {sh : Nat → Nat → Int32} {k : Int32} {on kd sz : Nat → Int32} {fr li : Nat → Int64} {st mi : Nat → Int32} (R : Rel (hk, re, kn, sh, k) (on, kd, sz, fr, li, st, mi)) {h0 p0 o0 q0 n0 : Int32} {fo : Nat → Int64} {r : Int32} {u : CS × (Nat → Int64)} (hc : (∃ E : String, ((E = eA ∧ ¬ (okH h0 ∧ okH o0)) ∨ (E = eS ∧ okH h0 ∧ okH o0 ∧ 3 ≤ kn 3)) ∧ ((E = eA ∧ r = 1) ∨ (E = eS ∧ r = 2)) ∧ u = ((hk, re, kn, sh, k), fo)) ∨ (r = 0 ∧ ∃ rr : Int32, (∃ j1 i1 : Nat, j1 < 6 ∧ i1 < 6 ∧ h0 = nI j1 ∧ o0 = nI i1 ∧ ¬ 3 ≤ kn 3 ∧ ∃ k1 : Nat, CutRel re (hk j1) (hk i1) p0 q0 n0 k1 rr ∧ u.1 = (hk, cutRe re (hk j1) (hk i1) p0 q0 k1, knUp kn k1 rr, sh, k)) ∧ u.2 = vp_updL fo 0 rr.toInt64)) {b : Int32} {v : MS} (hm : (¬ (okH h0 ∧ okH o0) ∧ b = 0 ∧ v = (on, kd, sz, fr, li, st, miC mi 1)) ∨ (∃ j1 i1 : Nat, j1 < 6 ∧ i1 < 6 ∧ h0 = nI j1 ∧ o0 = nI i1 ∧ ((mi 4 = 3 ∧ b = 0 ∧ v = (on, kd, sz, fr, li, st, miC mi 2)) ∨ (¬ mi 4 = 3 ∧ MCut on kd sz fr li st (miC mi 0) j1 i1 p0 q0 n0 b v)))) : v.2.2.2.2.2.2 8 = r ∧ (r = 0 → u.2 0 = b.toInt64) ∧ Rel u.1 v := by
  obtain ⟨R1, R2, R3⟩ := R
  have R1 : RR hk re on kd sz fr := R1
  have R2 : RK kn k mi := R2
  have R3 : RSt sh k st := R3
  have hbl := bl_iff R2
  rcases hc with ⟨E, hX, hE, hu⟩ | ⟨hr, rr, ⟨j, i, hj, hi, e1, e2, h3, k1, hcut, hu⟩, ho⟩
  · subst hu
    have hE := c12 hE
    rcases hX with ⟨eE, hX⟩ | ⟨eE, ⟨j, hj, e1⟩, ⟨i, hi, e2⟩, hX⟩
    · have hE := hE.1 eE
      rcases hm with ⟨hb, hb0, hv⟩ | ⟨j, i, hj, hi, e1, e2, hm⟩
      · subst hv
        exact ⟨hE.symm, fun z => absurd (hE.symm.trans z) (by decide), R1, R2.c 1, R3⟩
      · exact absurd ⟨⟨j, hj, e1⟩, ⟨i, hi, e2⟩⟩ hX
    · have hE := hE.2 eE
      rcases hm with ⟨hb, hm⟩ | ⟨j2, i2, hj2, hi2, e3, e4, hm⟩
      · exact absurd ⟨⟨j, hj, e1⟩, ⟨i, hi, e2⟩⟩ hb
      · rcases hm with ⟨h4, hb0, hv⟩ | ⟨h4, hm⟩
        · subst hv
          exact ⟨hE.symm, fun z => absurd (hE.symm.trans z) (by decide), R1, R2.c 2, R3⟩
        · exact absurd (hbl.mp hX) h4
  · subst hr
    rcases hm with ⟨hb, hm⟩ | ⟨j2, i2, hj2, hi2, e3, e4, hm⟩
    · exact absurd ⟨⟨j, hj, e1⟩, ⟨i, hi, e2⟩⟩ hb
    · have q1 := jj_eq hj hj2 (e1.symm.trans e3)
      have q2 := jj_eq hi hi2 (e2.symm.trans e4)
      subst q1
      subst q2
      rcases hm with ⟨h4, hm⟩ | ⟨h4, hm⟩
      · exact absurd (hbl.mpr h4) h3
      · obtain ⟨ett, fr3, li3, mi3, eu, R4, R5, e8⟩ := r_cut R1 (R2.c 0) h3 hj hi hcut hm
        subst eu
        rw [hu]
        exact ⟨e8, fun _ => by rw [ho, pk_uLs, ett], R4, R5, R3⟩
theorem r_play {hk : Nat → Option Nat} {re : Nat → RE} {kn : Nat → Int32} {sh : Nat → Nat → Int32} {k : Int32} {on kd sz : Nat → Int32} {fr li : Nat → Int64} {st mi : Nat → Int32} (R : Rel (hk, re, kn, sh, k) (on, kd, sz, fr, li, st, mi)) {w0 : Int32} {fo : Nat → Int64} {r : Int32} {u : CS × (Nat → Int64)} (hc : (∃ E : String, (E = eS ∧ 3 ≤ kn 3) ∧ ((E = eS ∧ r = 1)) ∧ u = ((hk, re, kn, sh, k), fo)) ∨ (r = 0 ∧ ∃ rr : Int32, (¬ 3 ≤ kn 3 ∧ ∃ n1 : Nat, n1 ≤ 24 ∧ k = nI n1 ∧ ∃ (re1 : Nat → RE) (kn1 : Nat → Int32), PlayRel hk sh n1 w0 (n1 + 1) 0 re kn re1 kn1 rr ∧ u.1 = (hk, re1, kn1, sh, k)) ∧ u.2 = vp_updL fo 0 rr.toInt64)) {b : Int32} {v : MS} (hm : (mi 4 = 3 ∧ b = 0 ∧ v = (on, kd, sz, fr, li, st, miC mi 1)) ∨ (¬ mi 4 = 3 ∧ ∃ n1 : Nat, n1 ≤ 24 ∧ mi 0 = nI n1 ∧ MPlayRel on kd sz st n1 w0 (n1 + 1) 0 fr li (miC mi 0) v b)) : v.2.2.2.2.2.2 8 = r ∧ (r = 0 → u.2 0 = b.toInt64) ∧ Rel u.1 v := by
  obtain ⟨R1, R2, R3⟩ := R
  have R1 : RR hk re on kd sz fr := R1
  have R2 : RK kn k mi := R2
  have R3 : RSt sh k st := R3
  have hbl := bl_iff R2
  obtain ⟨n, hn, ek, hst⟩ := id R3
  rcases hc with ⟨E, hX, hE, hu⟩ | ⟨hr, rr, ⟨h3, n1, hn1, en1, re1, kn1, hpl, hu⟩, ho⟩
  · subst hu
    have hE := hE.2
    have hX := hX.2
    rcases hm with ⟨h4, hb0, hv⟩ | ⟨h4, hm⟩
    · subst hv
      exact ⟨hE.symm, fun z => absurd (hE.symm.trans z) (by decide), R1, R2.c 1, R3⟩
    · exact absurd (hbl.mp hX) h4
  · subst hr
    rcases hm with ⟨h4, hm⟩ | ⟨h4, n2, hn2, en2, hm⟩
    · exact absurd (hbl.mpr h4) h3
    · have q1 : n1 = n := (nI_eq (by omega) (by omega)).mp (en1.symm.trans ek)
      have q2 : n2 = n := (nI_eq (by omega) (by omega)).mp (en2.symm.trans (R2.1.trans ek))
      subst q1
      subst q2
      obtain ⟨ett, fr3, li3, mi3, eu, R4, R5, e8⟩ := r_playL hst _ _ _ _ _ _ _ R1 (R2.c 0) h3 hpl hm
      subst eu
      rw [hu]
      exact ⟨e8, fun _ => by rw [ho, pk_uLs, ett], R4, R5, R3⟩
end CRel4
