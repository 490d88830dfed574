section CAux
section L
variable {D : va_G} {cI cL cQ : ClassId} {x ah ak b0 b1 b2 b3 b4 : Nat} {F : Nat → Prop} {hk : Nat → Option Nat} {re : Nat → RE} {kn : Nat → Int32} {sh : Nat → Nat → Int32} {k : Int32} {H : Heap}
theorem RSB.nA8 (h : RSB D cI cL cQ x ah ak b0 b1 b2 b3 b4 F (hk, re, kn, sh, k) H) {r' : Nat} (lr' : Live hk r') : ¬ va_A (w8 cI cQ x ah ak b0 b1 b2 b3 b4 hk kn sh k) H.size r' ∧ ¬ va_A (w8 cI cQ x ah ak b0 b1 b2 b3 b4 hk kn sh k) H.size (re r').2.1 := by
  obtain ⟨h1, -, h3, -, -⟩ := h.2.2.2 r' lr'
  exact ⟨out1 (h1 0 _ rfl).lt h3.1, out1 (h1 1 _ rfl).lt h3.2⟩
theorem RSB.nA10 (h : RSB D cI cL cQ x ah ak b0 b1 b2 b3 b4 F (hk, re, kn, sh, k) H) {r r' : Nat} (lr : Live hk r) (lr' : Live hk r') (hne : r' ≠ r) : ¬ va_A (w8 cI cQ x ah ak b0 b1 b2 b3 b4 hk kn sh k ++ reW cL re r) H.size r' ∧ ¬ va_A (w8 cI cQ x ah ak b0 b1 b2 b3 b4 hk kn sh k ++ reW cL re r) H.size (re r').2.1 := by
  obtain ⟨h1, -, h3, -, h5⟩ := h.2.2.2 r' lr'
  obtain ⟨-, -, -, -, h6⟩ := h.2.2.2 r lr
  refine ⟨out1 (h1 0 _ rfl).lt (fun z => ?_), out1 (h1 1 _ rfl).lt (fun z => ?_)⟩
  · rw [List.map_append] at z
    rcases List.mem_append.mp z with z | z
    · exact h3.1 z
    · simp only [List.map_cons, List.map_nil, List.mem_cons, List.not_mem_nil, or_false] at z
      exact z.elim hne (h5 r lr).1
  · rw [List.map_append] at z
    rcases List.mem_append.mp z with z | z
    · exact h3.2 z
    · simp only [List.map_cons, List.map_nil, List.mem_cons, List.not_mem_nil, or_false] at z
      exact z.elim (fun e => (h6 r' lr').1 e.symm) (fun e => hne ((h5 r lr).2 e))
/-- the room's own cells are new -/
theorem RSB.put8g (h : RSB D cI cL cQ x ah ak b0 b1 b2 b3 b4 F (hk, re, kn, sh, k) H) {H1 : Heap} {hk' : Nat → Option Nat} {kn' : Nat → Int32} {sh' : Nat → Nat → Int32} {k' : Int32} (hP : va_P D vwCl (w8 cI cQ x ah ak b0 b1 b2 b3 b4 hk' kn' sh' k') H1) (hl : ∀ r, Live hk' r → Live hk r)
    (hq : ∀ r, Live hk' r → va_P D vwCl (reW cL re r) H1) : RSB D cI cL cQ x ah ak b0 b1 b2 b3 b4 (fun q => F q ∨ H.size ≤ q) (hk', re, kn', sh', k') H1 := by
  refine ⟨hP, fun q hm => Or.inl (h.2.1 q hm), h.2.2.1, fun r hr => ?_⟩
  obtain ⟨h1, h2, h3, h4, h5⟩ := h.2.2.2 r (hl r hr)
  exact ⟨hq r hr, ⟨Or.inl h2.1, Or.inl h2.2⟩, h3, h4, fun r' hr' => h5 r' (hl r' hr')⟩
theorem RSB.end8 (h : RSB D cI cL cQ x ah ak b0 b1 b2 b3 b4 F (hk, re, kn, sh, k) H) {H1 : Heap} {hk' : Nat → Option Nat} {kn' : Nat → Int32} {sh' : Nat → Nat → Int32} {k' : Int32} (hP : va_P D vwCl (w8 cI cQ x ah ak b0 b1 b2 b3 b4 hk' kn' sh' k') H1) (hl : ∀ r, Live hk' r → Live hk r)
    (hq : ∀ q : Nat, q < H.size → ¬ va_A (w8 cI cQ x ah ak b0 b1 b2 b3 b4 hk kn sh k) H.size q → H1[q]? = H[q]?) : RSB D cI cL cQ x ah ak b0 b1 b2 b3 b4 (fun q => F q ∨ H.size ≤ q) (hk', re, kn', sh', k') H1 :=
  h.put8g hP hl (fun r hr => h.keepR (hl r hr) hq (h.nA8 (hl r hr)).1 (h.nA8 (hl r hr)).2)
theorem RSB.end10 (h : RSB D cI cL cQ x ah ak b0 b1 b2 b3 b4 F (hk, re, kn, sh, k) H) {H1 : Heap} {r : Nat} (lr : Live hk r) {hk' : Nat → Option Nat} {kn' : Nat → Int32} {sh' : Nat → Nat → Int32} {k' : Int32} (hP : va_P D vwCl (w8 cI cQ x ah ak b0 b1 b2 b3 b4 hk' kn' sh' k' ++ reW cL re r) H1) (hl : ∀ r, Live hk' r → Live hk r)
    (hq : ∀ q : Nat, q < H.size → ¬ va_A (w8 cI cQ x ah ak b0 b1 b2 b3 b4 hk kn sh k ++ reW cL re r) H.size q → H1[q]? = H[q]?) : RSB D cI cL cQ x ah ak b0 b1 b2 b3 b4 (fun q => F q ∨ H.size ≤ q) (hk', re, kn', sh', k') H1 := by
  refine h.put8g (hP.sub [0, 1, 2, 3, 4, 5, 6, 7] rfl) hl (fun r' hr' => ?_)
  by_cases e : r' = r
  · subst e; exact hP.sub [8, 9] rfl
  · exact h.keepR (hl r' hr') hq (h.nA10 lr (hl r' hr') e).1 (h.nA10 lr (hl r' hr') e).2
/-- one frame, or all, of a reel is new -/
theorem RSB.endM (h : RSB D cI cL cQ x ah ak b0 b1 b2 b3 b4 F (hk, re, kn, sh, k) H) {H1 : Heap} {r : Nat} (lr : Live hk r) {f : Nat → Int64} (hP : va_P D vwCl (w8 cI cQ x ah ak b0 b1 b2 b3 b4 hk kn sh k ++ [(r, .inr (1, [.int (re r).1, .ref (re r).2.1])), ((re r).2.1, .inl (cL, (re r).2.2.1, .inr (.inl f)))]) H1)
    (hq : ∀ q : Nat, q < H.size → ¬ va_A (w8 cI cQ x ah ak b0 b1 b2 b3 b4 hk kn sh k ++ reW cL re r) H.size q → H1[q]? = H[q]?) : RSB D cI cL cQ x ah ak b0 b1 b2 b3 b4 (fun q => F q ∨ H.size ≤ q) (hk, va_up re r ((re r).1, (re r).2.1, (re r).2.2.1, f), kn, sh, k) H1 := by
  refine (h.putR (hP.sub [0, 1, 2, 3, 4, 5, 6, 7] rfl) ?_ (fun r' hr' e => h.keepR hr' hq (h.nA10 lr hr' e).1 (h.nA10 lr hr' e).2)).mono (fun _ z => Or.inl z)
  simp only [reW, va_up_self]
  exact hP.sub [8, 9] rfl
/-- what came new lies beyond the old heap -/
theorem D_new {ws ws2 : va_W} {sz : Nat} (hD : va_D (va_A ws sz) ws2) (hpre : (ws2.map (·.1)).take ws.length = ws.map (·.1)) {j q : Nat} {e : va_E} (hj : ws2[j]? = some (q, e)) (hn : ws.length ≤ j) : sz ≤ q := by
  rcases hD.2 j _ hj with ⟨i, e', hi⟩ | h
  · exfalso
    have hl : i < ws.length := (List.getElem?_eq_some_iff.mp hi).1
    have h1 : (ws.map (·.1))[i]? = some q := by rw [List.getElem?_map, hi]; rfl
    rw [← hpre, List.getElem?_take_of_lt hl, List.getElem?_map] at h1
    cases h2 : ws2[i]? with
    | none => rw [h2] at h1; cases h1
    | some z =>
      rw [h2] at h1
      have e1 : z.1 = q := Option.some.inj h1
      have := hD.1 i j z _ h2 hj e1
      omega
  · exact h
theorem RSB.putNg (h : RSB D cI cL cQ x ah ak b0 b1 b2 b3 b4 F (hk, re, kn, sh, k) H) {H1 : Heap} {j r w z : Nat} {kd : Int32} {f : Nat → Int64} (hP : va_P D vwCl (w8 cI cQ x ah ak b0 b1 b2 b3 b4 (va_up hk j (some r)) kn sh k) H1)
    (hPr : va_P D vwCl [(r, .inr (1, [.int kd, .ref w])), (w, .inl (cL, z, .inr (.inl f)))] H1) (hrs : H.size ≤ r) (hws : H.size ≤ w) (hrw : r ≠ w) (hz : z ≤ 40) (hq : ∀ r', Live hk r' → va_P D vwCl (reW cL re r') H1) :
    RSB D cI cL cQ x ah ak b0 b1 b2 b3 b4 (fun q => F q ∨ H.size ≤ q) (va_up hk j (some r), va_up re r (kd, w, z, f), kn, sh, k) H1 := by
  have hfix : ∀ q, H.size ≤ q → q ∉ [x, ah, ak, b0, b1, b2, b3, b4] := by
    intro q hq hm
    obtain ⟨i, hi⟩ := List.mem_iff_getElem?.mp hm
    have hi8 : ((w8 cI cQ x ah ak b0 b1 b2 b3 b4 hk kn sh k).map (·.1))[i]? = some q := hi
    rw [List.getElem?_map] at hi8
    cases hc : (w8 cI cQ x ah ak b0 b1 b2 b3 b4 hk kn sh k)[i]? with
    | none => rw [hc] at hi8; cases hi8
    | some c =>
      rw [hc] at hi8
      have e1 : c.1 = q := Option.some.inj hi8
      have := (h.1 i c hc).lt
      omega
  have hold : ∀ r', Live (va_up hk j (some r)) r' → r' = r ∨ (r' ≠ r ∧ Live hk r') := by
    rintro r' ⟨i, hi, he⟩
    by_cases e : r' = r
    · exact Or.inl e
    · refine Or.inr ⟨e, i, hi, ?_⟩
      by_cases ei : i = j
      · rw [ei, va_up_self] at he; exact absurd (Option.some.inj he).symm e
      · rw [va_up_ne _ _ ei] at he; exact he
  have hlt : ∀ r', Live hk r' → r' < H.size ∧ (re r').2.1 < H.size := fun r' hr' => ⟨((h.2.2.2 r' hr').1 0 _ rfl).lt, ((h.2.2.2 r' hr').1 1 _ rfl).lt⟩
  have hnew : va_up re r (kd, w, z, f) r = (kd, w, z, f) := va_up_self _ _ _
  have hne : ∀ r', r' ≠ r → va_up re r (kd, w, z, f) r' = re r' := fun r' e => va_up_ne _ _ e
  refine ⟨hP, fun q hm => Or.inl (h.2.1 q hm), h.2.2.1, fun r' hr' => ?_⟩
  rcases hold r' hr' with rfl | ⟨e, hl⟩
  · refine ⟨?_, ⟨Or.inr hrs, ?_⟩, ⟨hfix _ hrs, ?_⟩, ?_, fun r2 hr2 => ?_⟩
    · show va_P D vwCl (reW cL (va_up re r' (kd, w, z, f)) r') H1
      simp only [reW, hnew]; exact hPr
    · show F _ ∨ H.size ≤ (va_up re r' (kd, w, z, f) r').2.1; rw [hnew]; exact Or.inr hws
    · show (va_up re r' (kd, w, z, f) r').2.1 ∉ _; rw [hnew]; exact hfix _ hws
    · show (va_up re r' (kd, w, z, f) r').2.2.1 ≤ 40; rw [hnew]; exact hz
    · show r' ≠ (va_up re r' (kd, w, z, f) r2).2.1 ∧ ((va_up re r' (kd, w, z, f) r').2.1 = (va_up re r' (kd, w, z, f) r2).2.1 → r' = r2)
      rcases hold r2 hr2 with rfl | ⟨e2, hl2⟩
      · rw [hnew]; exact ⟨hrw, fun _ => rfl⟩
      · rw [hnew, hne r2 e2]
        have := (hlt r2 hl2).2
        exact ⟨by omega, fun z => absurd z (by show ¬ w = _; omega)⟩
  · obtain ⟨h1, h2, h3, h4, h5⟩ := h.2.2.2 r' hl
    have hl1 := hlt r' hl
    refine ⟨?_, ⟨Or.inl h2.1, ?_⟩, ⟨h3.1, ?_⟩, ?_, fun r2 hr2 => ?_⟩
    · show va_P D vwCl (reW cL (va_up re r (kd, w, z, f)) r') H1
      simp only [reW, hne r' e]
      exact hq r' hl
    · show F (va_up re r (kd, w, z, f) r').2.1 ∨ _; rw [hne r' e]; exact Or.inl h2.2
    · show (va_up re r (kd, w, z, f) r').2.1 ∉ _; rw [hne r' e]; exact h3.2
    · show (va_up re r (kd, w, z, f) r').2.2.1 ≤ 40; rw [hne r' e]; exact h4
    · show r' ≠ (va_up re r (kd, w, z, f) r2).2.1 ∧ ((va_up re r (kd, w, z, f) r').2.1 = (va_up re r (kd, w, z, f) r2).2.1 → r' = r2)
      rcases hold r2 hr2 with rfl | ⟨e2, hl2⟩
      · rw [hnew, hne r' e]
        exact ⟨by show r' ≠ w; omega, fun z => absurd z (by show ¬ _ = w; omega)⟩
      · rw [hne r' e, hne r2 e2]; exact h5 r2 hl2
theorem Live_up {hk : Nat → Option Nat} {j : Nat} {o : Option Nat} (ho : ∀ r, o = some r → Live hk r) : ∀ r, Live (va_up hk j o) r → Live hk r := by
  rintro r ⟨i, hi, he⟩
  by_cases ei : i = j
  · rw [ei, va_up_self] at he; exact ho r he
  · rw [va_up_ne _ _ ei] at he; exact ⟨i, hi, he⟩
end L
end CAux
