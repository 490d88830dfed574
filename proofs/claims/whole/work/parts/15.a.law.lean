section CLaw
/-- the model's cells -/
abbrev mW (cI cL : ClassId) (m0 a0 a1 a2 a3 a4 a5 : Nat) (v : MS) : va_W := [(m0, .inr (3, [.ref a0, .ref a1, .ref a2, .ref a3, .ref a4, .ref a5, .int (v.2.2.2.2.2.2 0), .int (v.2.2.2.2.2.2 1), .int (v.2.2.2.2.2.2 2), .int (v.2.2.2.2.2.2 3), .int (v.2.2.2.2.2.2 4), .int (v.2.2.2.2.2.2 5), .int (v.2.2.2.2.2.2 6), .int (v.2.2.2.2.2.2 7), .int (v.2.2.2.2.2.2 8)])), (a0, .inl (cI, 6, .inl v.1)), (a1, .inl (cI, 7, .inl v.2.1)), (a2, .inl (cI, 7, .inl v.2.2.1)), (a3, .inl (cL, 280, .inr (.inl v.2.2.2.1))), (a4, .inl (cL, 40, .inr (.inl v.2.2.2.2.1))), (a5, .inl (cI, 120, .inl v.2.2.2.2.2.1))]
/-- the room, the model and the answer's row in a heap, apart -/
def LI (D : va_G) (cI cL cQ : ClassId) (N0 x ah ak b0 b1 b2 b3 b4 m0 a0 a1 a2 a3 a4 a5 o : Nat) (F : Nat → Prop) (cs : CS) (v : MS) (fo : Nat → Int64) (H : Heap) : Prop :=
  RSB D cI cL cQ x ah ak b0 b1 b2 b3 b4 F cs H ∧ va_P D vwCl (mW cI cL m0 a0 a1 a2 a3 a4 a5 v) H ∧ va_D nT (mW cI cL m0 a0 a1 a2 a3 a4 a5 v) ∧ va_P D vwCl [(o, .inl (cL, 1, .inr (.inl fo)))] H ∧ (∀ q, F q → N0 ≤ q) ∧ (∀ q ∈ [m0, a0, a1, a2, a3, a4, a5], ¬ F q ∧ q ≠ o ∧ N0 ≤ q) ∧ ¬ F o ∧ N0 ≤ o
section L
variable {D : va_G} {cI cL cQ : ClassId} {N0 x ah ak b0 b1 b2 b3 b4 m0 a0 a1 a2 a3 a4 a5 o : Nat} {F : Nat → Prop} {cs cs1 : CS} {v v1 : MS} {fo fo1 : Nat → Int64} {H H1 : Heap}
theorem P_lt {cl : List vw_C} {ws : va_W} (h : va_P D cl ws H) : ∀ q ∈ ws.map (·.1), q < H.size := fun q hq => by
  obtain ⟨z, hz, rfl⟩ := List.mem_map.mp hq
  obtain ⟨i, hi⟩ := List.getElem?_of_mem hz
  exact (h i z hi).lt
theorem LI.lt (h : LI D cI cL cQ N0 x ah ak b0 b1 b2 b3 b4 m0 a0 a1 a2 a3 a4 a5 o F cs v fo H) : ∀ q ∈ [m0, a0, a1, a2, a3, a4, a5], q < H.size := P_lt h.2.1
theorem LI.olt (h : LI D cI cL cQ N0 x ah ak b0 b1 b2 b3 b4 m0 a0 a1 a2 a3 a4 a5 o F cs v fo H) : o < H.size := (h.2.2.2.1 0 _ rfl).lt
/-- behind a call of the class -/
theorem LI.cls (h : LI D cI cL cQ N0 x ah ak b0 b1 b2 b3 b4 m0 a0 a1 a2 a3 a4 a5 o F cs v fo H) (hN : N0 ≤ H.size) (hk : ∀ q : Nat, q < H.size → ¬ ((F q ∨ H.size ≤ q) ∨ q = o) → H1[q]? = H[q]?) (hB : RSB D cI cL cQ x ah ak b0 b1 b2 b3 b4 (fun q => F q ∨ H.size ≤ q) cs1 H1) (ho : va_P D vwCl [(o, .inl (cL, 1, .inr (.inl fo1)))] H1) : LI D cI cL cQ N0 x ah ak b0 b1 b2 b3 b4 m0 a0 a1 a2 a3 a4 a5 o (fun q => F q ∨ H.size ≤ q) cs1 v fo1 H1 := by
  have hlt := h.lt
  have hol := h.olt
  obtain ⟨h1, h2, h3, h4, h5, h6, h7, h8⟩ := h
  refine ⟨hB, P_in (F := fun q => q ∈ [m0, a0, a1, a2, a3, a4, a5]) h2 (fun _ hq => hq) (fun q hq hs => hk q hs (fun z => z.elim (fun z => z.elim (h6 q hq).1 (fun z => Nat.not_le_of_lt hs z)) (h6 q hq).2.1)), h3, ho, fun q z => z.elim (h5 q) (fun z => Nat.le_trans hN z), fun q hq => ⟨fun z => z.elim (h6 q hq).1 (fun z => Nat.not_le_of_lt (hlt q hq) z), (h6 q hq).2⟩, fun z => z.elim h7 (fun z => Nat.not_le_of_lt hol z), h8⟩
/-- behind a call of the class that doesn't see the answer's row -/
theorem LI.clsv (h : LI D cI cL cQ N0 x ah ak b0 b1 b2 b3 b4 m0 a0 a1 a2 a3 a4 a5 o F cs v fo H) (hN : N0 ≤ H.size) (hk : ∀ q : Nat, q < H.size → ¬ (F q ∨ H.size ≤ q) → H1[q]? = H[q]?) (hB : RSB D cI cL cQ x ah ak b0 b1 b2 b3 b4 (fun q => F q ∨ H.size ≤ q) cs1 H1) : LI D cI cL cQ N0 x ah ak b0 b1 b2 b3 b4 m0 a0 a1 a2 a3 a4 a5 o (fun q => F q ∨ H.size ≤ q) cs1 v fo H1 := by
  have hol := h.olt
  refine h.cls hN (fun q hs hn => hk q hs (fun z => hn (Or.inl z))) hB ?_
  obtain ⟨h1, h2, h3, h4, h5, h6, h7, h8⟩ := h
  refine P_in (F := fun q => q = o) h4 (fun q hq => by simpa using hq) (fun q hq hs => hk q hs (fun z => ?_))
  subst hq
  exact z.elim h7 (fun z => Nat.not_le_of_lt hs z)
/-- behind a call of the model -/
theorem LI.mod (h : LI D cI cL cQ N0 x ah ak b0 b1 b2 b3 b4 m0 a0 a1 a2 a3 a4 a5 o F cs v fo H) (hk : ∀ q : Nat, q < H.size → ¬ va_A (mW cI cL m0 a0 a1 a2 a3 a4 a5 v) H.size q → H1[q]? = H[q]?) (hP : va_P D vwCl (mW cI cL m0 a0 a1 a2 a3 a4 a5 v1) H1) (hD : va_D (va_A (mW cI cL m0 a0 a1 a2 a3 a4 a5 v) H.size) (mW cI cL m0 a0 a1 a2 a3 a4 a5 v1)) : LI D cI cL cQ N0 x ah ak b0 b1 b2 b3 b4 m0 a0 a1 a2 a3 a4 a5 o F cs v1 fo H1 := by
  obtain ⟨h1, h2, h3, h4, h5, h6, h7, h8⟩ := h
  obtain ⟨hk1, re, kn, sh, k⟩ := cs
  refine ⟨h1.kept (fun q hq hs => hk q hs (out1 hs (fun z => (h6 q z).1 hq))), hP, hD.weaken (fun _ _ _ _ => trivial), P_in (F := fun q => q = o) h4 (fun q hq => by simpa using hq) (fun q hq hs => hk q hs (out1 hs (fun z => (h6 q z).2.1 hq))), h5, h6, h7, h8⟩
theorem LI.A (h : LI D cI cL cQ N0 x ah ak b0 b1 b2 b3 b4 m0 a0 a1 a2 a3 a4 a5 o F cs v fo H) (hN : N0 ≤ H.size) : ∀ q, va_A (mW cI cL m0 a0 a1 a2 a3 a4 a5 v) H.size q → N0 ≤ q := fun q z => (in1 z).elim (fun z => (h.2.2.2.2.2.1 q z).2.2) (fun z => Nat.le_trans hN z)
theorem LI.NF (h : LI D cI cL cQ N0 x ah ak b0 b1 b2 b3 b4 m0 a0 a1 a2 a3 a4 a5 o F cs v fo H) (hN : N0 ≤ H.size) : ∀ q, F q ∨ H.size ≤ q → N0 ≤ q := fun q z => z.elim (h.2.2.2.2.1 q) (fun z => Nat.le_trans hN z)
theorem LI.NO (h : LI D cI cL cQ N0 x ah ak b0 b1 b2 b3 b4 m0 a0 a1 a2 a3 a4 a5 o F cs v fo H) (hN : N0 ≤ H.size) : ∀ q, ((F q ∨ H.size ≤ q) ∨ q = o) → N0 ≤ q := fun q z => z.elim (h.NF hN q) (fun e => e ▸ h.2.2.2.2.2.2.2)
end L
theorem vin {n L k : Nat} (hk : k < 6) (h : 6 * n + 6 ≤ L) (hL : L ≤ 3072) : vp_in (nI (6 * n) + nI k) L := by
  rw [nI_add]
  exact vp_in_nI (by omega) (by omega)
theorem vin0 {n L : Nat} (h : 6 * n + 6 ≤ L) (hL : L ≤ 3072) : vp_in (nI (6 * n)) L := vp_in_nI (by omega) (by omega)
theorem fit_c {a : Nat} (h : a ≤ 600000) : a ≤ room_1.cells := Nat.le_trans h (Nat.le_of_ble_eq_true rfl)
theorem fit_s {a : Nat} (h : a ≤ 7000000) : a ≤ room_1.slots := Nat.le_trans h (Nat.le_of_ble_eq_true rfl)
/-- what the law takes as given of the machine -/
def LC (p : Program) (l : Launch) (s : State) (m : MethodId) (args : Array Value) (c : Code) (D : va_G) (cI cL cQ : ClassId) (sa : Nat → Nat) (b L : Nat) (xs : Nat → Int32) : Prop :=
  p.tables.exec = Jvm.exec ∧ c.code = code ∧ c.maxLocals = 8 ∧ s.vm.findClass RL = some m.cls ∧ (∀ w ∈ wsL_law, w.before args s = true) ∧ CX D cI cL cQ s.heap.size sa s ∧ l.stackTraces = false ∧ va_X b L xs s s.heap ∧ b < s.heap.size ∧ L ≤ 3072
theorem Rel.kn {cs : CS} {v : MS} (h : Rel cs v) : ∃ n : Nat, n ≤ 24 ∧ cs.2.2.2.2 = nI n := by
  obtain ⟨n, h1, h2, -⟩ := h.2.2
  exact ⟨n, h1, h2⟩
theorem Rel.mk {cs : CS} {v : MS} (h : Rel cs v) : ∃ n : Nat, n ≤ 24 ∧ v.2.2.2.2.2.2 0 = nI n := by
  obtain ⟨n, h1, h2, -⟩ := h.2.2
  exact ⟨n, h1, h.2.1.1.trans h2⟩
theorem Rel.sh {cs : CS} {v : MS} (h : Rel cs v) : ∀ n : Nat, n ≤ 24 → cs.2.2.2.2 = nI n → ∀ i : Nat, i < n → (∃ j : Nat, j < 6 ∧ cs.2.2.2.1 0 i = nI j) ∧ ∃ j : Nat, j < 6 ∧ cs.2.2.2.1 2 i = nI j := by
  intro n hn e i hi
  obtain ⟨n2, h1, h2, h3⟩ := h.2.2
  have q : n2 = n := (nI_eq (by omega) (by omega)).mp (h2.symm.trans e)
  subst q
  exact (h3 i hi).2
theorem Rel.ms {cs : CS} {v : MS} (h : Rel cs v) : ∀ n : Nat, n ≤ 24 → v.2.2.2.2.2.2 0 = nI n → ∀ i : Nat, i < n → (∃ j : Nat, j < 6 ∧ v.2.2.2.2.2.1 (5 * i) = nI j) ∧ ∃ j : Nat, j < 6 ∧ v.2.2.2.2.2.1 (5 * i + 2) = nI j := by
  intro n hn e i hi
  obtain ⟨n2, h1, h2, h3⟩ := h.2.2
  have q : n2 = n := (nI_eq (by omega) (by omega)).mp (h2.symm.trans (h.2.1.1.symm.trans e))
  subst q
  obtain ⟨⟨s0, s1, s2, s3, s4⟩, ⟨j, hj, ej⟩, ⟨i2, hi2, ei⟩⟩ := h3 i hi
  exact ⟨⟨j, hj, s0.symm.trans ej⟩, ⟨i2, hi2, s2.symm.trans ei⟩⟩
end CLaw
