section CRel
/-- what a place of the model holds of a reel -/
def ReAt (kd sz : Nat → Int32) (fr : Nat → Int64) (e : RE) (p : Nat) : Prop := kd p = e.1 ∧ sz p = nI e.2.2.1 ∧ ∀ i, i < e.2.2.1 → fr (40 * p + i) = e.2.2.2 i
/-- what a reel is -/
def ReOk (e : RE) : Prop := e.2.2.1 ≤ 40 ∧ (1 ≤ e.1 ∧ e.1 ≤ 5) ∧ (e.1 = 5 → e.2.2.1 = 0) ∧ ((e.1 = 3 ∨ e.1 = 4) → ∀ i, i < e.2.2.1 → -1 ≤ e.2.2.2 i ∧ e.2.2.2 i ≤ 1999)
/-- hooks, reels and places agree -/
def RR (hk : Nat → Option Nat) (re : Nat → RE) (on kd sz : Nat → Int32) (fr : Nat → Int64) : Prop :=
  (∀ j, j < 6 → (hk j = none ∧ on j = -1) ∨ ∃ r p : Nat, hk j = some r ∧ p < 7 ∧ on j = nI p ∧ ReAt kd sz fr (re r) p) ∧
  (∀ i j, i < 6 → j < 6 → (hk i = hk j ↔ on i = on j)) ∧ (∀ r, Live hk r → ReOk (re r)) ∧ SzOk sz
section L
variable {hk : Nat → Option Nat} {re : Nat → RE} {on kd sz : Nat → Int32} {fr : Nat → Int64}
theorem RR.at (h : RR hk re on kd sz fr) {j r : Nat} (hj : j < 6) (e : hk j = some r) : ∃ p : Nat, p < 7 ∧ on j = nI p ∧ ReAt kd sz fr (re r) p := by
  rcases h.1 j hj with ⟨h1, -⟩ | ⟨r', p, h1, h2⟩
  · rw [h1] at e; cases e
  · rw [h1] at e; cases e; exact ⟨p, h2⟩
theorem RR.no (h : RR hk re on kd sz fr) {j : Nat} (hj : j < 6) (e : hk j = none) : on j = -1 := by
  rcases h.1 j hj with ⟨-, h1⟩ | ⟨r', p, h1, h2⟩
  · exact h1
  · rw [h1] at e; cases e
theorem RR.okOn (h : RR hk re on kd sz fr) : OnOk on := fun j hj => (h.1 j hj).elim (fun z => Or.inl z.2) (fun ⟨_, p, _, h1, h2, _⟩ => Or.inr ⟨p, h1, h2⟩)
theorem RR.ok (h : RR hk re on kd sz fr) {j r : Nat} (hj : j < 6) (e : hk j = some r) : ReOk (re r) := h.2.2.1 r ⟨j, hj, e⟩
theorem RR.kind (h : RR hk re on kd sz fr) {j : Nat} (hj : j < 6) : mK on kd j = kOf re (hk j) := by
  cases e : hk j with
  | none => exact mK_z (h.no hj e)
  | some r =>
    obtain ⟨p, h1, h2, h3⟩ := h.at hj e
    rw [mK_p h1 h2]
    exact h3.1
theorem RR.same (h : RR hk re on kd sz fr) {i j p : Nat} {r r' : Nat} (hi : i < 6) (hj : j < 6) (ei : hk i = some r) (ej : hk j = some r') (oi : on i = nI p) (oj : on j = nI p) : r = r' := by
  have := (h.2.1 i j hi hj).mpr (by rw [oi, oj])
  rw [ei, ej] at this
  exact Option.some.inj this
theorem RR.place (h : RR hk re on kd sz fr) {i j p q : Nat} {r : Nat} (hi : i < 6) (hj : j < 6) (hp : p < 7) (hq : q < 7) (ei : hk i = some r) (ej : hk j = some r) (oi : on i = nI p) (oj : on j = nI q) : p = q := by
  have := (h.2.1 i j hi hj).mp (by rw [ei, ej])
  rw [oi, oj] at this
  exact (nI_eq (by omega) (by omega)).mp this
/-- a hook comes to hold what another one holds, or nothing -/
theorem RR.put (h : RR hk re on kd sz fr) {j : Nat} (hj : j < 6) {o : Option Nat} {v : Int32} (hv : (o = none ∧ v = -1) ∨ ∃ i, i < 6 ∧ o = hk i ∧ v = on i) : RR (va_up hk j o) re (upd on j v) kd sz fr := by
  have hoth : ∀ i, i < 6 → (o = hk i ↔ v = on i) := by
    intro i hi
    rcases hv with ⟨rfl, rfl⟩ | ⟨t, ht, rfl, rfl⟩
    · constructor
      · intro e; exact (h.no hi e.symm).symm
      · intro e
        cases e1 : hk i with
        | none => rfl
        | some r =>
          obtain ⟨p, h1, h2, -⟩ := h.at hi e1
          exact absurd (h2.symm.trans e.symm) (nI_nm h1)
    · exact h.2.1 t i ht hi
  refine ⟨fun i hi => ?_, fun a b ha hb => ?_, fun r hr => ?_, h.2.2.2⟩
  · by_cases e : i = j
    · subst e
      rw [va_up_self, pk_us]
      rcases hv with ⟨h1, h2⟩ | ⟨t, ht, h1, h2⟩
      · exact Or.inl ⟨h1, h2⟩
      · rw [h1, h2]; exact h.1 t ht
    · rw [va_up_ne _ _ e, pk_un e]; exact h.1 i hi
  · by_cases ea : a = j
    · by_cases eb : b = j
      · rw [ea, eb]; exact ⟨fun _ => rfl, fun _ => rfl⟩
      · rw [ea, va_up_self, pk_us, va_up_ne _ _ eb, pk_un eb]; exact hoth b hb
    · by_cases eb : b = j
      · rw [eb, va_up_self, pk_us, va_up_ne _ _ ea, pk_un ea]
        exact ⟨fun z => ((hoth a ha).mp z.symm).symm, fun z => ((hoth a ha).mpr z.symm).symm⟩
      · rw [va_up_ne _ _ ea, pk_un ea, va_up_ne _ _ eb, pk_un eb]; exact h.2.1 a b ha hb
  · refine h.2.2.1 r (Live_up (fun r' e => ?_) r hr)
    rcases hv with ⟨h1, -⟩ | ⟨t, ht, h1, -⟩
    · rw [h1] at e; cases e
    · exact ⟨t, ht, by rw [← h1, e]⟩
/-- a new reel comes to a hook, and to a place that no hook holds -/
theorem RR.new (h : RR hk re on kd sz fr) {j r p : Nat} (hj : j < 6) (hr : ∀ r2, Live hk r2 → r2 < r) (hp : p < 7) (hfree : ∀ i, i < 6 → ¬ on i = nI p) {e : RE} (he : ReOk e) {g : Nat → Int64} (hg : ∀ i, i < e.2.2.1 → g (40 * p + i) = e.2.2.2 i) (ho : ∀ t, (t < 40 * p ∨ 40 * p + 40 ≤ t) → g t = fr t) :
    RR (va_up hk j (some r)) (va_up re r e) (upd on j (nI p)) (upd kd p e.1) (upd sz p (nI e.2.2.1)) g := by
  have hne : ∀ i, i < 6 → ∀ r', hk i = some r' → r' ≠ r := fun i hi r' e1 e2 => by have := hr r' ⟨i, hi, e1⟩; omega
  refine ⟨fun i hi => ?_, fun a b ha hb => ?_, fun r' hr' => ?_, fun q hq => ?_⟩
  · by_cases ei : i = j
    · subst ei
      rw [va_up_self, pk_us]
      refine Or.inr ⟨r, p, rfl, hp, rfl, ?_⟩
      rw [va_up_self]
      exact ⟨pk_us, pk_us, hg⟩
    · rw [va_up_ne _ _ ei, pk_un ei]
      rcases h.1 i hi with h1 | ⟨r', q, h1, h2, h3, h4⟩
      · exact Or.inl h1
      · refine Or.inr ⟨r', q, h1, h2, h3, ?_⟩
        have hqp : q ≠ p := fun e1 => hfree i hi (by rw [h3, e1])
        rw [va_up_ne _ _ (hne i hi r' h1)]
        refine ⟨by rw [pk_un hqp]; exact h4.1, by rw [pk_un hqp]; exact h4.2.1, fun t ht => ?_⟩
        have := (h.ok hi h1).1
        rw [ho _ (by omega)]
        exact h4.2.2 t ht
  · have key : ∀ i, i < 6 → (some r = hk i ↔ nI p = on i) := fun i hi => ⟨fun e1 => absurd rfl (hne i hi r e1.symm), fun e1 => absurd e1.symm (hfree i hi)⟩
    by_cases ea : a = j
    · by_cases eb : b = j
      · rw [ea, eb]; exact ⟨fun _ => rfl, fun _ => rfl⟩
      · rw [ea, va_up_self, pk_us, va_up_ne _ _ eb, pk_un eb]; exact key b hb
    · by_cases eb : b = j
      · rw [eb, va_up_self, pk_us, va_up_ne _ _ ea, pk_un ea]
        exact ⟨fun z => ((key a ha).mp z.symm).symm, fun z => ((key a ha).mpr z.symm).symm⟩
      · rw [va_up_ne _ _ ea, pk_un ea, va_up_ne _ _ eb, pk_un eb]; exact h.2.1 a b ha hb
  · obtain ⟨i, hi, e1⟩ := hr'
    by_cases ei : i = j
    · rw [ei, va_up_self] at e1; cases e1; rw [va_up_self]; exact he
    · rw [va_up_ne _ _ ei] at e1
      rw [va_up_ne _ _ (hne i hi r' e1)]
      exact h.ok hi e1
  · by_cases eq : q = p
    · rw [eq, pk_us]; exact ⟨_, he.1, rfl⟩
    · rw [pk_un eq]; exact h.2.2.2 q hq
/-- a reel's frames are new, and so is its place -/
theorem RR.row (h : RR hk re on kd sz fr) {j r p : Nat} (hj : j < 6) (er : hk j = some r) (hp : p < 7) (ep : on j = nI p) {f : Nat → Int64} {g : Nat → Int64} (hg : ∀ i, i < (re r).2.2.1 → g (40 * p + i) = f i) (ho : ∀ t, (t < 40 * p ∨ 40 * p + (re r).2.2.1 ≤ t) → g t = fr t)
    (hc : ((re r).1 = 3 ∨ (re r).1 = 4) → ∀ i, i < (re r).2.2.1 → -1 ≤ f i ∧ f i ≤ 1999) : RR hk (va_up re r ((re r).1, (re r).2.1, (re r).2.2.1, f)) on kd sz g := by
  have hR := h.ok hj er
  refine ⟨fun i hi => ?_, h.2.1, fun r' hr' => ?_, h.2.2.2⟩
  · rcases h.1 i hi with h1 | ⟨r', q, h1, h2, h3, h4⟩
    · exact Or.inl h1
    · refine Or.inr ⟨r', q, h1, h2, h3, ?_⟩
      by_cases e1 : r' = r
      · subst e1
        have := h.place hi hj h2 hp h1 er h3 ep
        subst this
        rw [va_up_self]
        exact ⟨h4.1, h4.2.1, hg⟩
      · have hqp : q ≠ p := fun e2 => e1 (h.same hi hj h1 er h3 (by rw [ep, e2]))
        rw [va_up_ne _ _ e1]
        refine ⟨h4.1, h4.2.1, fun t ht => ?_⟩
        have h5 := (h.ok hi h1).1
        have h6 := hR.1
        rw [ho _ (by omega)]
        exact h4.2.2 t ht
  · obtain ⟨i, hi, e1⟩ := hr'
    by_cases e2 : r' = r
    · rw [e2, va_up_self]; exact ⟨hR.1, hR.2.1, hR.2.2.1, hc⟩
    · rw [va_up_ne _ _ e2]; exact h.ok hi e1
end L
/-- the numbers of the knife, and how many steps there are -/
def RK (kn : Nat → Int32) (k : Int32) (mi : Nat → Int32) : Prop := mi 0 = k ∧ mi 1 = kn 0 ∧ mi 2 = kn 1 ∧ mi 3 = kn 2 ∧ mi 4 = kn 3 ∧ mi 5 = kn 4 ∧ mi 6 = kn 5 ∧ mi 7 = kn 6 ∧ ∃ b : Nat, b ≤ 3 ∧ kn 3 = nI b
/-- the sheets agree -/
def RSt (sh : Nat → Nat → Int32) (k : Int32) (st : Nat → Int32) : Prop := ∃ n : Nat, n ≤ 24 ∧ k = nI n ∧ ∀ i, i < n → (sh 0 i = st (5 * i) ∧ sh 1 i = st (5 * i + 1) ∧ sh 2 i = st (5 * i + 2) ∧ sh 3 i = st (5 * i + 3) ∧ sh 4 i = st (5 * i + 4)) ∧ (∃ j : Nat, j < 6 ∧ sh 0 i = nI j) ∧ ∃ j : Nat, j < 6 ∧ sh 2 i = nI j
/-- the class and the model agree -/
def Rel (c : CS) (v : MS) : Prop := RR c.1 c.2.1 v.1 v.2.1 v.2.2.1 v.2.2.2.1 ∧ RK c.2.2.1 c.2.2.2.2 v.2.2.2.2.2.2 ∧ RSt c.2.2.2.1 c.2.2.2.2 v.2.2.2.2.2.1
end CRel
