section CEntry
theorem law_CX {s : State} {args : Array Value} (hts : ∀ w ∈ lw_tbl, w.before args s = true) (hgv : (Jvm.Cond.and given_1 narrow_1).before args s = true) : ∃ (D : va_G) (cI cL cQ : ClassId) (sa : Nat → Nat), CX D cI cL cQ s.heap.size sa s := by
  have hs := flat_of_before _ hgv
  obtain ⟨c0, i0, k0⟩ := u_known (C := RX0) (T := TX0) (N := 7) (n := 7) hts li_X0 (hts _ lwm_n0)
  obtain ⟨c1, i1, k1⟩ := u_known (C := RX1) (T := TX1) (N := 2) (n := 2) hts li_X1 (hts _ lwm_n1)
  obtain ⟨c2, i2, k2⟩ := u_known (C := RX2) (T := TX2) (N := 8) (n := 8) hts li_X2 (hts _ lwm_n2)
  obtain ⟨c3, i3, k3⟩ := u_known (C := RX3) (T := TX3) (N := 15) (n := 15) hts li_X3 (hts _ lwm_n3)
  obtain ⟨D, hKc⟩ : ∃ D : va_G, ∀ (k : Nat) (q : vw_C), vwCl[k]? = some q → u_Kn s q.1 q.2.1 q.2.2 (D.1 k) (D.2 k) := by
    refine ⟨(fun k => if k = 0 then c0 else if k = 1 then c1 else if k = 2 then c2 else c3, fun k => if k = 0 then i0 else if k = 1 then i1 else if k = 2 then i2 else i3), ?_⟩
    intro k q hq
    match k, hq with
    | 0, hq => cases hq; exact k0
    | 1, hq => cases hq; exact k1
    | 2, hq => cases hq; exact k2
    | 3, hq => cases hq; exact k3
    | k + 4, hq => simp [vwCl] at hq
  obtain ⟨cI, kI, pI, f1, f2, f3⟩ := Cond.arrayClass_spec (args := args) (first := s) (o := none) (s := s) (idx := []) (type := .int) (hts _ lwm_aI)
  obtain ⟨cL, kL, pL, e1, e2, e3⟩ := Cond.arrayClass_spec (args := args) (first := s) (o := none) (s := s) (idx := []) (type := .long) (hts _ lwm_aL)
  obtain ⟨comp, cQ, kQ, g1, g2, g3, g4, g5⟩ := Cond.arrayOver_spec (args := args) (first := s) (o := none) (s := s) (idx := []) (n := RX1) (hts _ lwm_aO)
  have h0 : ∀ i : Nat, ∃ a : Nat, ∀ t, (i, t) ∈ cSL → (Term.string RX2 i).eval args s none [] s = some (.ref a) := by
    intro i
    by_cases h : ∃ t, (i, t) ∈ cSL
    · obtain ⟨t, ht⟩ := h
      obtain ⟨a, c, cA, kA, q1, -⟩ := Cond.exactly_spec (args := args) (first := s) (o := none) (s := s) (idx := []) (t := Term.string RX2 i) (cls := "java/lang/String") (hs _ (cSL_x _ ht))
      exact ⟨a, fun _ _ => q1⟩
    · exact ⟨0, fun t ht => absurd ⟨t, ht⟩ h⟩
  obtain ⟨sa, hsa⟩ := Classical.axiomOfChoice h0
  have hA : ∀ a : Nat, a < s.heap.size → ¬ s.heap.size ≤ a := fun a h => Nat.not_le_of_lt h
  refine ⟨D, cI, cL, cQ, sa, ⟨hKc, fun k q h => ?_⟩, va_AO.of (hts _ lwm_aO), fun w hw => va_Nw.of (cNF_ot w hw) (hts w (cNF_in w hw)), va_Nw.of rfl (hts _ lwm_mN), fun q hq => ?_, fun q hq => va_Nc.of (hs _ (cNC_x q hq)), fun w hw => va_Nw.of (cNW_ot w hw) (hts w (cNW_in w hw)), vx_Zqof (hts _ zU_l) (hts _ z_i) (hs _ zU_x) hA, vx_Zqof (hts _ zS_l) (hts _ z_i) (hs _ zS_x) hA, Nat.le_refl _⟩
  · match k, h with
    | 0, h => cases h; exact ⟨fun n z => ⟨fun k h => (by cases h), kI, f2, pI, f3⟩, f1⟩
    | 1, h => cases h; exact ⟨fun n z => ⟨fun k h => (by cases h), kL, e2, pL, e3⟩, e1⟩
    | 2, h => cases h; exact ⟨fun n z => ⟨fun k h => (by cases h), kQ, g3, comp, g4⟩, ⟨kQ, comp, g3, g4, g1, g5⟩⟩
    | k + 3, h => simp at h
  · obtain ⟨i, t⟩ := q
    exact vk_R.of (A := args) (hts _ (cSL_w _ hq)) (hsa i t hq)
theorem D_nd : ∀ {ws : va_W} {A : Nat → Prop}, va_D A ws → (ws.map (·.1)).Nodup := by
  intro ws
  induction ws with
  | nil => intro A _; simp
  | cons w ws ih =>
    intro A h
    rw [List.map_cons, List.nodup_cons]
    refine ⟨fun hm => ?_, ih (A := A) ⟨fun i j p q hi hj e => ?_, fun k q hk => h.2 (k + 1) q hk⟩⟩
    · obtain ⟨z, hz, e⟩ := List.mem_map.mp hm
      obtain ⟨j, hj⟩ := List.getElem?_of_mem hz
      have := h.1 (j + 1) 0 z w hj rfl e
      omega
    · have := h.1 (i + 1) (j + 1) p q hi hj e
      omega
theorem D_in {ws : va_W} {A : Nat → Prop} (h : va_D A ws) : ∀ q ∈ ws.map (·.1), A q := fun q hq => by
  obtain ⟨z, hz, rfl⟩ := List.mem_map.mp hq
  obtain ⟨i, hi⟩ := List.getElem?_of_mem hz
  exact h.2 i z hi
/-- the first state of the class -/
abbrev cs0 : CS := (fun _ => none, fun _ => (0, 0, 0, fun _ => 0), fun _ => 0, fun _ _ => 0, 0)
/-- .. and of the model -/
abbrev ms0 (on : Nat → Int32) : MS := (on, fun _ => 0, fun _ => 0, fun _ => 0, fun _ => 0, fun _ => 0, fun _ => 0)
theorem Rel0 {on : Nat → Int32} (h : ∀ t, t < 6 → on t = -1) : Rel cs0 (ms0 on) := by
  refine ⟨⟨fun j hj => Or.inl ⟨rfl, h j hj⟩, fun i j hi hj => ⟨fun _ => (h i hi).trans (h j hj).symm, fun _ => rfl⟩, fun r hr => ?_, fun p hp => ⟨0, by omega, rfl⟩⟩, ⟨rfl, rfl, rfl, rfl, rfl, rfl, rfl, rfl, 0, by omega, rfl⟩, ⟨0, by omega, rfl, fun i hi => absurd hi (Nat.not_lt_zero i)⟩⟩
  obtain ⟨j, -, e⟩ := hr
  cases e
theorem LI0 {D : va_G} {cI cL cQ : ClassId} {N0 x ah ak b0 b1 b2 b3 b4 m0 a0 a1 a2 a3 a4 a5 o : Nat} {on : Nat → Int32} {H : Heap} (hP : va_P D vwCl (w8 cI cQ x ah ak b0 b1 b2 b3 b4 (fun _ => none) (fun _ => 0) (fun _ _ => 0) 0 ++ (mW cI cL m0 a0 a1 a2 a3 a4 a5 (ms0 on) ++ [(o, .inl (cL, 1, .inr (.inl (fun _ => 0))))])) H)
    (hD : va_D (fun q => N0 ≤ q) (w8 cI cQ x ah ak b0 b1 b2 b3 b4 (fun _ => none) (fun _ => 0) (fun _ _ => 0) 0 ++ (mW cI cL m0 a0 a1 a2 a3 a4 a5 (ms0 on) ++ [(o, .inl (cL, 1, .inr (.inl (fun _ => 0))))]))) :
    LI D cI cL cQ N0 x ah ak b0 b1 b2 b3 b4 m0 a0 a1 a2 a3 a4 a5 o (fun q => q ∈ [x, ah, ak, b0, b1, b2, b3, b4]) cs0 (ms0 on) (fun _ => 0) H := by
  have nd : ([x, ah, ak, b0, b1, b2, b3, b4] ++ ([m0, a0, a1, a2, a3, a4, a5] ++ [o])).Nodup := D_nd hD
  have all : ∀ q ∈ ([x, ah, ak, b0, b1, b2, b3, b4] ++ ([m0, a0, a1, a2, a3, a4, a5] ++ [o])), N0 ≤ q := D_in hD
  obtain ⟨n1, n2, n3⟩ := List.nodup_append.mp nd
  obtain ⟨n4, n5, n6⟩ := List.nodup_append.mp n2
  refine ⟨⟨hP.sub [0, 1, 2, 3, 4, 5, 6, 7] rfl, fun q hq => hq, n1, fun r hr => ?_⟩, hP.sub [8, 9, 10, 11, 12, 13, 14] rfl, (hD.sub [8, 9, 10, 11, 12, 13, 14] (by decide) rfl).weaken (fun _ _ _ _ => trivial), hP.sub [15] rfl, fun q hq => all q (List.mem_append_left _ hq), fun q hq => ⟨fun hf => n3 q hf q (List.mem_append_left _ hq) rfl, n6 q hq o (List.mem_singleton.mpr rfl), all q (List.mem_append_right _ (List.mem_append_left _ hq))⟩, fun hf => n3 o hf o (List.mem_append_right _ (List.mem_singleton.mpr rfl)) rfl, all o (List.mem_append_right _ (List.mem_append_right _ (List.mem_singleton.mpr rfl)))⟩
  obtain ⟨j, -, e⟩ := hr
  cases e
theorem cmp6 {n L : Nat} (hn : 6 * n ≤ L) (hL : L ≤ 3072) (h : ¬ Int32.ofNat L - 6 < nI (6 * n)) : 6 * n + 6 ≤ L := by
  have h1 : (Int32.ofNat L - 6 : Int32).toInt = (L : Int) - ((6 : Nat) : Int) := pk_sub_toInt (a := L) (b := 6) (by omega) (by omega)
  rw [Int32.lt_iff_toInt_lt, h1, nI_toInt (by omega)] at h
  omega
end CEntry
