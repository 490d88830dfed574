section CRoom
theorem Met.cons {l : Launch} {y : MethodName} {ws : List Cond} {rm : Room} {Pc : Array Value → State → Prop} {Qc Qc' : Array Value → State → Outcome → State → Prop} {mc ms : Nat} {free free' : Addr → Prop} (h : Met l y ws rm Pc Qc mc ms free)
    (hq : ∀ a st o t, Pc a st → Qc a st o t → Qc' a st o t) (hf : ∀ q, free q → free' q) : Met l y ws rm Pc Qc' mc ms free' := by
  intro p e ha hc hk s m args below h1 h2 h3 h4
  obtain ⟨n, o, k1, k2, k3, k4, L, k5, k6⟩ := h p e ha hc hk s m args below h1 h2 h3 h4
  exact ⟨n, o, k1, k2, k3, hq _ _ _ _ h3 k4, L, k5, fun q hq => hf _ (k6 q hq)⟩
def nT : Nat → Prop := fun _ => True
/-- cells apart, by their addresses -/
theorem D_of {A : Nat → Prop} {ws : va_W} (hn : (ws.map (·.1)).Nodup) (hA : ∀ q ∈ ws.map (·.1), A q) : va_D A ws := by
  have hm : ∀ {k : Nat} {q : Nat × va_E}, ws[k]? = some q → (ws.map (·.1))[k]? = some q.1 := fun h => by rw [List.getElem?_map, h]; rfl
  refine ⟨fun i j p q hi hj e => ?_, fun k q h => hA q.1 (List.mem_of_getElem? (hm h))⟩
  have h1 := hm hi
  have h2 := hm hj
  exact (List.getElem?_inj (List.getElem?_eq_some_iff.mp h1).1 hn).mp (by rw [h1, h2, e])
theorem P_cons {D : va_G} {cl : List vw_C} {q : Nat × va_E} {ws : va_W} {H : Heap} (h : va_at D cl q H) (hP : va_P D cl ws H) : va_P D cl (q :: ws) H := fun k z hk => by
  cases k with
  | zero => cases hk; exact h
  | succ k => exact hP k z hk
/-- what a reel is: its kind, its row's address, its length, its frames -/
abbrev RE : Type := Int32 × Nat × Nat × (Nat → Int64)
/-- the cells of the reel at r -/
abbrev reW (cL : ClassId) (re : Nat → RE) (r : Nat) : va_W := [(r, .inr (1, [.int (re r).1, .ref (re r).2.1])), ((re r).2.1, .inl (cL, (re r).2.2.1, .inr (.inl (re r).2.2.2)))]
/-- the room's own cells: the object, the hooks, the knife, the five rows of the sheet -/
abbrev w8 (cI cQ : ClassId) (x ah ak b0 b1 b2 b3 b4 : Nat) (hk : Nat → Option Nat) (kn : Nat → Int32) (sh : Nat → Nat → Int32) (k : Int32) : va_W := [(x, .inr (2, [.ref ah, .ref ak, .ref b0, .ref b1, .ref b2, .ref b3, .ref b4, .int k])), (ah, .inl (cQ, 6, .inr (.inr (.inr (.inr hk))))), (ak, .inr (0, [.int (kn 0), .int (kn 1), .int (kn 2), .int (kn 3), .int (kn 4), .int (kn 5), .int (kn 6)])), (b0, .inl (cI, 24, .inl (sh 0))), (b1, .inl (cI, 24, .inl (sh 1))), (b2, .inl (cI, 24, .inl (sh 2))), (b3, .inl (cI, 24, .inl (sh 3))), (b4, .inl (cI, 24, .inl (sh 4)))]
abbrev CS : Type := (Nat → Option Nat) × (Nat → RE) × (Nat → Int32) × (Nat → Nat → Int32) × Int32
def Live (hk : Nat → Option Nat) (r : Nat) : Prop := ∃ j, j < 6 ∧ hk j = some r
/-- the room at x in a heap: hooks hk, reels re, knife kn, sheet sh, steps k; all of it in F -/
def RSB (D : va_G) (cI cL cQ : ClassId) (x ah ak b0 b1 b2 b3 b4 : Nat) (F : Nat → Prop) (c : CS) (H : Heap) : Prop :=
  va_P D vwCl (w8 cI cQ x ah ak b0 b1 b2 b3 b4 c.1 c.2.2.1 c.2.2.2.1 c.2.2.2.2) H ∧ (∀ q ∈ [x, ah, ak, b0, b1, b2, b3, b4], F q) ∧ [x, ah, ak, b0, b1, b2, b3, b4].Nodup ∧
  ∀ r, Live c.1 r → va_P D vwCl (reW cL c.2.1 r) H ∧ (F r ∧ F (c.2.1 r).2.1) ∧ (r ∉ [x, ah, ak, b0, b1, b2, b3, b4] ∧ (c.2.1 r).2.1 ∉ [x, ah, ak, b0, b1, b2, b3, b4]) ∧ (c.2.1 r).2.2.1 ≤ 40 ∧ ∀ r', Live c.1 r' → r ≠ (c.2.1 r').2.1 ∧ ((c.2.1 r).2.1 = (c.2.1 r').2.1 → r = r')
section L
variable {D : va_G} {cI cL cQ : ClassId} {x ah ak b0 b1 b2 b3 b4 : Nat} {F : Nat → Prop} {hk : Nat → Option Nat} {re : Nat → RE} {kn : Nat → Int32} {sh : Nat → Nat → Int32} {k : Int32} {H : Heap}
theorem RSB.P8 (h : RSB D cI cL cQ x ah ak b0 b1 b2 b3 b4 F (hk, re, kn, sh, k) H) : va_P D vwCl (w8 cI cQ x ah ak b0 b1 b2 b3 b4 hk kn sh k) H := h.1
theorem RSB.D8 (h : RSB D cI cL cQ x ah ak b0 b1 b2 b3 b4 F (hk, re, kn, sh, k) H) : va_D nT (w8 cI cQ x ah ak b0 b1 b2 b3 b4 hk kn sh k) := D_of h.2.2.1 (fun _ _ => trivial)
theorem RSB.Pr (h : RSB D cI cL cQ x ah ak b0 b1 b2 b3 b4 F (hk, re, kn, sh, k) H) {r : Nat} (hr : Live hk r) : va_P D vwCl (reW cL re r) H := (h.2.2.2 r hr).1
theorem RSB.P10 (h : RSB D cI cL cQ x ah ak b0 b1 b2 b3 b4 F (hk, re, kn, sh, k) H) {r : Nat} (hr : Live hk r) : va_P D vwCl (w8 cI cQ x ah ak b0 b1 b2 b3 b4 hk kn sh k ++ reW cL re r) H := h.P8.app (h.Pr hr)
theorem nd2 {l : List Nat} {a b : Nat} (h : l.Nodup) (ha : a ∉ l) (hb : b ∉ l) (hab : a ≠ b) : (l ++ [a, b]).Nodup := by
  rw [List.nodup_append]
  refine ⟨h, by simp [hab], fun p hp q hq e => ?_⟩
  simp only [List.mem_cons, List.not_mem_nil, or_false] at hq
  rcases hq with rfl | rfl
  · exact ha (e ▸ hp)
  · exact hb (e ▸ hp)
theorem RSB.D10 (h : RSB D cI cL cQ x ah ak b0 b1 b2 b3 b4 F (hk, re, kn, sh, k) H) {r : Nat} (hr : Live hk r) : va_D nT (w8 cI cQ x ah ak b0 b1 b2 b3 b4 hk kn sh k ++ reW cL re r) := by
  obtain ⟨-, -, ⟨h1, h2⟩, -, h3⟩ := h.2.2.2 r hr
  exact D_of (nd2 h.2.2.1 h1 h2 (h3 r hr).1) (fun _ _ => trivial)
theorem RSB.P12 (h : RSB D cI cL cQ x ah ak b0 b1 b2 b3 b4 F (hk, re, kn, sh, k) H) {r r' : Nat} (hr : Live hk r) (hr' : Live hk r') : va_P D vwCl (w8 cI cQ x ah ak b0 b1 b2 b3 b4 hk kn sh k ++ reW cL re r ++ reW cL re r') H := (h.P10 hr).app (h.Pr hr')
theorem RSB.D12 (h : RSB D cI cL cQ x ah ak b0 b1 b2 b3 b4 F (hk, re, kn, sh, k) H) {r r' : Nat} (hr : Live hk r) (hr' : Live hk r') (hne : r ≠ r') : va_D nT (w8 cI cQ x ah ak b0 b1 b2 b3 b4 hk kn sh k ++ reW cL re r ++ reW cL re r') := by
  obtain ⟨-, -, ⟨h1, h2⟩, -, h3⟩ := h.2.2.2 r hr
  obtain ⟨-, -, ⟨h4, h5⟩, -, h6⟩ := h.2.2.2 r' hr'
  refine D_of (nd2 (nd2 h.2.2.1 h1 h2 (h3 r hr).1) ?_ ?_ (h6 r' hr').1) (fun _ _ => trivial)
  · intro q
    rcases List.mem_append.mp q with q | q
    · exact h4 q
    · simp only [List.mem_cons, List.not_mem_nil, or_false] at q
      rcases q with q | q
      · exact hne q.symm
      · exact (h6 r hr).1 q
  · intro q
    rcases List.mem_append.mp q with q | q
    · exact h5 q
    · simp only [List.mem_cons, List.not_mem_nil, or_false] at q
      rcases q with q | q
      · exact (h3 r' hr').1 q.symm
      · exact hne ((h3 r' hr').2 q.symm)
theorem P_in {D : va_G} {cl : List vw_C} {ws : va_W} {H H1 : Heap} {F : Nat → Prop} (h : va_P D cl ws H) (hF : ∀ q ∈ ws.map (·.1), F q) (hk : ∀ q : Nat, F q → q < H.size → H1[q]? = H[q]?) : va_P D cl ws H1 := fun k q hq =>
  (h k q hq).kept (hk q.1 (hF _ (List.mem_map_of_mem (List.mem_of_getElem? hq))) (h k q hq).lt)
theorem RSB.kept (h : RSB D cI cL cQ x ah ak b0 b1 b2 b3 b4 F (hk, re, kn, sh, k) H) {H1 : Heap} (hq : ∀ q : Nat, F q → q < H.size → H1[q]? = H[q]?) : RSB D cI cL cQ x ah ak b0 b1 b2 b3 b4 F (hk, re, kn, sh, k) H1 := by
  refine ⟨P_in h.1 h.2.1 hq, h.2.1, h.2.2.1, fun r hr => ?_⟩
  obtain ⟨h1, h2, h3⟩ := h.2.2.2 r hr
  refine ⟨P_in h1 (fun q hm => ?_) hq, h2, h3⟩
  simp only [List.map_cons, List.map_nil, List.mem_cons, List.not_mem_nil, or_false] at hm
  rcases hm with rfl | rfl
  · exact h2.1
  · exact h2.2
theorem RSB.mono (h : RSB D cI cL cQ x ah ak b0 b1 b2 b3 b4 F (hk, re, kn, sh, k) H) {F' : Nat → Prop} (hF : ∀ q, F q → F' q) : RSB D cI cL cQ x ah ak b0 b1 b2 b3 b4 F' (hk, re, kn, sh, k) H :=
  ⟨h.1, fun q hq => hF q (h.2.1 q hq), h.2.2.1, fun r hr => by
    obtain ⟨h1, h2, h3⟩ := h.2.2.2 r hr
    exact ⟨h1, ⟨hF _ h2.1, hF _ h2.2⟩, h3⟩⟩
theorem RSB.in8 (h : RSB D cI cL cQ x ah ak b0 b1 b2 b3 b4 F (hk, re, kn, sh, k) H) {sz q : Nat} (hq : va_A (w8 cI cQ x ah ak b0 b1 b2 b3 b4 hk kn sh k) sz q) : F q ∨ sz ≤ q := by
  rcases hq with ⟨i, e, hi⟩ | hq
  · exact Or.inl (h.2.1 q (List.mem_map_of_mem (f := fun z : Nat × va_E => z.1) (List.mem_of_getElem? hi)))
  · exact Or.inr hq
theorem RSB.in10 (h : RSB D cI cL cQ x ah ak b0 b1 b2 b3 b4 F (hk, re, kn, sh, k) H) {r : Nat} (hr : Live hk r) {sz q : Nat} (hq : va_A (w8 cI cQ x ah ak b0 b1 b2 b3 b4 hk kn sh k ++ reW cL re r) sz q) : F q ∨ sz ≤ q := by
  rcases hq with ⟨i, e, hi⟩ | hq
  · have hm := List.mem_of_getElem? hi
    rcases List.mem_append.mp hm with hm | hm
    · exact Or.inl (h.2.1 q (List.mem_map_of_mem (f := fun z : Nat × va_E => z.1) hm))
    · simp only [List.mem_cons, List.not_mem_nil, or_false] at hm
      rcases hm with hm | hm
      · cases hm; exact Or.inl (h.2.2.2 r hr).2.1.1
      · cases hm; exact Or.inl (h.2.2.2 r hr).2.1.2
  · exact Or.inr hq
/-- the room's own cells are new, its reels as before: the hooks hold no others than before -/
theorem RSB.put8 (h : RSB D cI cL cQ x ah ak b0 b1 b2 b3 b4 F (hk, re, kn, sh, k) H) {H1 : Heap} {hk' : Nat → Option Nat} {kn' : Nat → Int32} {sh' : Nat → Nat → Int32} {k' : Int32} (hP : va_P D vwCl (w8 cI cQ x ah ak b0 b1 b2 b3 b4 hk' kn' sh' k') H1) (hl : ∀ r, Live hk' r → Live hk r)
    (hq : ∀ q : Nat, q < H.size → q ∉ [x, ah, ak, b0, b1, b2, b3, b4] → H1[q]? = H[q]?) : RSB D cI cL cQ x ah ak b0 b1 b2 b3 b4 F (hk', re, kn', sh', k') H1 := by
  refine ⟨hP, h.2.1, h.2.2.1, fun r hr => ?_⟩
  obtain ⟨h1, h2, h3, h4, h5⟩ := h.2.2.2 r (hl r hr)
  refine ⟨fun i q hi => (h1 i q hi).kept (hq q.1 (h1 i q hi).lt ?_), h2, h3, h4, fun r' hr' => h5 r' (hl r' hr')⟩
  have hm := List.mem_of_getElem? hi
  simp only [List.mem_cons, List.not_mem_nil, or_false] at hm
  rcases hm with rfl | rfl
  · exact h3.1
  · exact h3.2
/-- the row of one reel is new, and the room's own cells may be -/
theorem RSB.putR (h : RSB D cI cL cQ x ah ak b0 b1 b2 b3 b4 F (hk, re, kn, sh, k) H) {H1 : Heap} {kn' : Nat → Int32} {sh' : Nat → Nat → Int32} {k' : Int32} {r : Nat} {f : Nat → Int64} (hP : va_P D vwCl (w8 cI cQ x ah ak b0 b1 b2 b3 b4 hk kn' sh' k') H1)
    (hPr : va_P D vwCl (reW cL (va_up re r ((re r).1, (re r).2.1, (re r).2.2.1, f)) r) H1) (hq : ∀ r', Live hk r' → r' ≠ r → va_P D vwCl (reW cL re r') H1) :
    RSB D cI cL cQ x ah ak b0 b1 b2 b3 b4 F (hk, va_up re r ((re r).1, (re r).2.1, (re r).2.2.1, f), kn', sh', k') H1 := by
  have hrow : ∀ q, (va_up re r ((re r).1, (re r).2.1, (re r).2.2.1, f) q).2.1 = (re q).2.1 := fun q => by
    by_cases e : q = r
    · rw [e, va_up_self]
    · rw [va_up_ne _ _ e]
  have hlen : ∀ q, (va_up re r ((re r).1, (re r).2.1, (re r).2.2.1, f) q).2.2.1 = (re q).2.2.1 := fun q => by
    by_cases e : q = r
    · rw [e, va_up_self]
    · rw [va_up_ne _ _ e]
  refine ⟨hP, h.2.1, h.2.2.1, fun r' hr' => ?_⟩
  obtain ⟨h1, h2, h3, h4, h5⟩ := h.2.2.2 r' hr'
  refine ⟨?_, by show F r' ∧ F _; rw [hrow]; exact h2, by show r' ∉ _ ∧ _ ∉ _; rw [hrow]; exact h3, by show _ ≤ 40; rw [hlen]; exact h4, fun r2 hr2 => by show r' ≠ _ ∧ (_ = _ → _); rw [hrow, hrow]; exact h5 r2 hr2⟩
  by_cases e : r' = r
  · subst e; exact hPr
  · show va_P D vwCl (reW cL (va_up re r _) r') H1
    have e2 : reW cL (va_up re r ((re r).1, (re r).2.1, (re r).2.2.1, f)) r' = reW cL re r' := by simp only [reW, va_up_ne _ _ e]
    rw [e2]
    exact hq r' hr' e
/-- a reel whose cells aren't among those that may have changed -/
theorem RSB.keepR (h : RSB D cI cL cQ x ah ak b0 b1 b2 b3 b4 F (hk, re, kn, sh, k) H) {H1 : Heap} {r' : Nat} (hr' : Live hk r') {A : Nat → Prop} (hA : ∀ q : Nat, q < H.size → ¬ A q → H1[q]? = H[q]?) (h1 : ¬ A r') (h2 : ¬ A (re r').2.1) : va_P D vwCl (reW cL re r') H1 := by
  have h0 := h.Pr hr'
  intro i q hi
  refine (h0 i q hi).kept (hA q.1 (h0 i q hi).lt ?_)
  have hm := List.mem_of_getElem? hi
  simp only [List.mem_cons, List.not_mem_nil, or_false] at hm
  rcases hm with rfl | rfl
  · exact h1
  · exact h2
/-- a new reel comes to a hook -/
theorem RSB.putN (h : RSB D cI cL cQ x ah ak b0 b1 b2 b3 b4 F (hk, re, kn, sh, k) H) {H1 : Heap} {j r w z : Nat} {kd : Int32} {f : Nat → Int64} (hP : va_P D vwCl (w8 cI cQ x ah ak b0 b1 b2 b3 b4 (va_up hk j (some r)) kn sh k) H1)
    (hPr : va_P D vwCl [(r, .inr (1, [.int kd, .ref w])), (w, .inl (cL, z, .inr (.inl f)))] H1) (hrs : H.size ≤ r) (hws : H.size ≤ w) (hrw : r ≠ w) (hz : z ≤ 40) (hq : ∀ q : Nat, q < H.size → q ∉ [x, ah, ak, b0, b1, b2, b3, b4] → H1[q]? = H[q]?) :
    RSB D cI cL cQ x ah ak b0 b1 b2 b3 b4 (fun q => F q ∨ H.size ≤ q) (va_up hk j (some r), va_up re r (kd, w, z, f), kn, sh, k) H1 := by
  have hfix : ∀ q, H.size ≤ q → q ∉ [x, ah, ak, b0, b1, b2, b3, b4] := by
    intro q hq hm
    obtain ⟨i, hi⟩ := List.mem_iff_getElem?.mp hm
    have hi8 : ((w8 cI cQ x ah ak b0 b1 b2 b3 b4 hk kn sh k).map (·.1))[i]? = some q := hi
    rw [List.getElem?_map] at hi8
    cases hc : (w8 cI cQ x ah ak b0 b1 b2 b3 b4 hk kn sh k)[i]? with
    | none => rw [hc] at hi8; cases hi8
    | some c =>
      rw [hc] at hi8
      have e1 : c.1 = q := Option.some.inj hi8
      have := (h.1 i c hc).lt
      omega
  have hold : ∀ r', Live (va_up hk j (some r)) r' → r' = r ∨ (r' ≠ r ∧ Live hk r') := by
    rintro r' ⟨i, hi, he⟩
    by_cases e : r' = r
    · exact Or.inl e
    · refine Or.inr ⟨e, i, hi, ?_⟩
      by_cases ei : i = j
      · rw [ei, va_up_self] at he; exact absurd (Option.some.inj he).symm e
      · rw [va_up_ne _ _ ei] at he; exact he
  have hlt : ∀ r', Live hk r' → r' < H.size ∧ (re r').2.1 < H.size := fun r' hr' => ⟨((h.2.2.2 r' hr').1 0 _ rfl).lt, ((h.2.2.2 r' hr').1 1 _ rfl).lt⟩
  have hnew : va_up re r (kd, w, z, f) r = (kd, w, z, f) := va_up_self _ _ _
  have hne : ∀ r', r' ≠ r → va_up re r (kd, w, z, f) r' = re r' := fun r' e => va_up_ne _ _ e
  refine ⟨hP, fun q hm => Or.inl (h.2.1 q hm), h.2.2.1, fun r' hr' => ?_⟩
  rcases hold r' hr' with rfl | ⟨e, hl⟩
  · refine ⟨?_, ⟨Or.inr hrs, ?_⟩, ⟨hfix _ hrs, ?_⟩, ?_, fun r2 hr2 => ?_⟩
    · show va_P D vwCl (reW cL (va_up re r' (kd, w, z, f)) r') H1
      simp only [reW, hnew]; exact hPr
    · show F _ ∨ H.size ≤ (va_up re r' (kd, w, z, f) r').2.1; rw [hnew]; exact Or.inr hws
    · show (va_up re r' (kd, w, z, f) r').2.1 ∉ _; rw [hnew]; exact hfix _ hws
    · show (va_up re r' (kd, w, z, f) r').2.2.1 ≤ 40; rw [hnew]; exact hz
    · show r' ≠ (va_up re r' (kd, w, z, f) r2).2.1 ∧ ((va_up re r' (kd, w, z, f) r').2.1 = (va_up re r' (kd, w, z, f) r2).2.1 → r' = r2)
      rcases hold r2 hr2 with rfl | ⟨e2, hl2⟩
      · rw [hnew]; exact ⟨hrw, fun _ => rfl⟩
      · rw [hnew, hne r2 e2]
        have := (hlt r2 hl2).2
        exact ⟨by omega, fun z => absurd z (by show ¬ w = _; omega)⟩
  · obtain ⟨h1, h2, h3, h4, h5⟩ := h.2.2.2 r' hl
    have hl1 := hlt r' hl
    refine ⟨?_, ⟨Or.inl h2.1, ?_⟩, ⟨h3.1, ?_⟩, ?_, fun r2 hr2 => ?_⟩
    · show va_P D vwCl (reW cL (va_up re r (kd, w, z, f)) r') H1
      simp only [reW, hne r' e]
      intro i q hi
      have hm := List.mem_of_getElem? hi
      simp only [List.mem_cons, List.not_mem_nil, or_false] at hm
      refine (h1 i q hi).kept (hq q.1 (h1 i q hi).lt ?_)
      rcases hm with rfl | rfl
      · exact h3.1
      · exact h3.2
    · show F (va_up re r (kd, w, z, f) r').2.1 ∨ _; rw [hne r' e]; exact Or.inl h2.2
    · show (va_up re r (kd, w, z, f) r').2.1 ∉ _; rw [hne r' e]; exact h3.2
    · show (va_up re r (kd, w, z, f) r').2.2.1 ≤ 40; rw [hne r' e]; exact h4
    · show r' ≠ (va_up re r (kd, w, z, f) r2).2.1 ∧ ((va_up re r (kd, w, z, f) r').2.1 = (va_up re r (kd, w, z, f) r2).2.1 → r' = r2)
      rcases hold r2 hr2 with rfl | ⟨e2, hl2⟩
      · rw [hnew, hne r' e]
        exact ⟨by show r' ≠ w; omega, fun z => absurd z (by show ¬ _ = w; omega)⟩
      · rw [hne r' e, hne r2 e2]; exact h5 r2 hl2
end L
end CRoom
