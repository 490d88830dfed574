section CStart
theorem lwm_c8 : Cond.classLink RL 8 RX2 ∈ lw_tbl := List.mem_of_getElem? (i := 29) (by decide +kernel)
theorem lwm_i2 : Cond.initialized RX2 ∈ lw_tbl := List.mem_of_getElem? (i := 18) (by decide +kernel)
theorem lwm_l2 : Cond.methodLink RL 68 yX2_init ∈ lw_tbl := List.mem_of_getElem? (i := 31) (by decide +kernel)
theorem lwm_m2 : Cond.instanceMethod yX2_init ∈ lw_tbl := List.mem_of_getElem? (i := 32) (by decide +kernel)
theorem lwm_c69 : Cond.classLink RL 69 RX3 ∈ lw_tbl := List.mem_of_getElem? (i := 409) (by decide +kernel)
theorem lwm_i3 : Cond.initialized RX3 ∈ lw_tbl := List.mem_of_getElem? (i := 20) (by decide +kernel)
theorem lwm_l3 : Cond.methodLink RL 71 yX3_init ∈ lw_tbl := List.mem_of_getElem? (i := 411) (by decide +kernel)
theorem lwm_m3 : Cond.instanceMethod yX3_init ∈ lw_tbl := List.mem_of_getElem? (i := 412) (by decide +kernel)
/-! THE CLAIM OUT OF ONE WALK OF THE LAW'S BODY. Your part is whole_start (and what it stands on); all else here is the same for every law, but numbers. -/
def R_law : String := "SpliceRoomLaw"
def lw_P (b : Addr) (xs : List Int32) (args : Array Value) (s : State) : Prop := args = #[.ref b] ∧ s.IntsAt b xs ∧ xs.length ≤ 3072 ∧ (Jvm.Cond.and given_1 narrow_1).before args s = true
def lw_Q (_ : Array Value) (s : State) (o : Outcome) (t : State) : Prop := o = .returned (some (.int 1)) ∧ Framed s o t [] room_1.cells room_1.slots
def lw_Z (below : List Frame) (a : Array Value) (s : State) : State → Prop := fun t => ∃ o, t.status = .running ∧ Ended t below o ∧ lw_Q a s o t
/-- the law's own end, with 1 on the stack, nothing written that was there before, its room as the claim has it -/
theorem lw_ret {p : Program} {l : Launch} {e : Env} {s : State} {m : MethodId} {below : List Frame} {meth : Method} {c : Code} {b : Nat} (hx : p.tables.exec = Jvm.exec) (hb : c.code = code) (hr : meth.sig.returnType = ret) (hlocks : meth.locks = false) {pc : Nat} {H : Heap} {ls : Array Slot} (hdg : decode code pc = .ok (.ireturn, 1)) : W p l e room_1 s m #[Value.ref b] below meth c H [] room_1.cells room_1.slots (lw_Z below #[Value.ref b] s) (F0 m pc ls [.int 1]) := by
  intro T hT X
  obtain ⟨fs, hret, hrun, hended, hW, hframe⟩ := X.leave (v := some (.int 1)) (hlocks := hlocks) (fun h => by rw [hr] at h; cases h)
  have hmeth' : T.vm.method? m = some meth := X.method'
  refine ⟨T.setFrames fs, ?_, .returned (some (.int 1)), hrun, hended, rfl, ⟨_, rfl⟩, hW, hframe⟩
  jvm_step X.here [X.here.top, hx, hb, hdg, hmeth', hr, ret, narrow_b1]
  (try refine ⟨rfl, ?_⟩); (try refine ⟨rfl, ?_⟩)
  first | (intro acts; rw [hret _ acts rfl rfl rfl]) | rw [hret _ _ rfl rfl rfl]
  exact Steps.refl _
/-- what holds at the law's entry: the machine, the code, the tables' words (any of lw_tbl by 'hts w (by decide +kernel)'), the script of L ints xs at the cell b, what the Statement gives of the start (any of its parts by flat_of_before) -/
def lw_At (p : Program) (s : State) (m : MethodId) (meth : Method) (c : Code) (b L : Nat) (xs : Nat → Int32) : Prop :=
  p.tables.exec = Jvm.exec ∧ c.code = code ∧ meth.sig.returnType = ret ∧ c.maxLocals = 8 ∧ s.vm.findClass R_law = some m.cls ∧ (∀ w ∈ lw_tbl, w.before #[Value.ref b] s = true) ∧ va_X b L xs s s.heap ∧ b < s.heap.size ∧ meth.locks = false ∧ (Jvm.Cond.and given_1 narrow_1).before #[Value.ref b] s = true
set_option maxHeartbeats 4000000 in
set_option maxRecDepth 100000 in
/-- from the entry, for every script, the law comes to its end with true -/
theorem whole_start {p : Program} {e : Env} {s : State} {m : MethodId} {below : List Frame} {meth : Method} {c : Code} (l : Launch) (hl0 : l.stackTraces = false) {b L : Nat} {xs : Nat → Int32} (hL : L ≤ 3072) (C0 : lw_At p s m meth c b L xs) : W p l e room_1 s m #[Value.ref b] below meth c s.heap [] 0 0 (lw_Z below #[Value.ref b] s) (entryFrame m ([Value.ref b] : List Value).toArray 8) := by
  obtain ⟨hx, hb, hr, hml, hown, hts0, hX, hbl, hlocks, hgv⟩ := id C0
  obtain ⟨D, cI, cL, cQ, sa, hC⟩ := law_CX hts0 hgv
  have hts : ∀ w ∈ wsL_law, w.before #[Value.ref b] s = true := fun w h => hts0 w (li_all w h)
  have hown : s.vm.findClass RL = some m.cls := hown
  have K0 : LC p l s m #[Value.ref b] c D cI cL cQ sa b L xs := ⟨hx, hb, hml, hown, hts, hC, hl0, hX, hbl, hL⟩
  have hK := hC.K
  obtain ⟨A, hAe⟩ : ∃ A : Nat → Prop, A = fun q => s.heap.size ≤ q := ⟨_, rfl⟩
  have hA : ∀ q : Nat, s.heap.size ≤ q → A q := by rw [hAe]; exact fun _ z => z
  have hN : ∀ q : Nat, A q → s.heap.size ≤ q := by rw [hAe]; exact fun _ z => z
  have hS : va_S A s.heap s.heap [] := va_S.rf
  have hP : va_P D vwCl [] s.heap := fun k q h => by simp at h
  have hD : va_D A [] := ⟨fun i j p q h => by simp at h, fun k q h => by simp at h⟩
  have hl := lv_entry ([.ref b]) (n := 8) (Nat.le_of_ble_eq_true rfl)
  rw [lg_entry_eq]
  generalize (lg_sl ([.ref b]) ++ List.replicate (8 - (lg_sl ([.ref b])).length) Slot.unset).toArray = ls at hl ⊢
  have hl : lv_has ls 8 [(0, .ref b)] := hl
  refine va_new (D := D) (ci := 2) (fs := [.null, .null, .null, .null, .null, .null, .null, .int 0]) (C := RX2) (T := TX2) (N := 8) hx hb hts0 li_X2 tyX2 tyX2_ok hown (hts0 _ lwm_c8) (hts0 _ lwm_n2) (hts0 _ lwm_i2) hK hP hD hS hA rfl (fun j9 h9 => by rcases (show j9 = 0 ∨ j9 = 1 ∨ j9 = 2 ∨ j9 = 3 ∨ j9 = 4 ∨ j9 = 5 ∨ j9 = 6 ∨ j9 = 7 by omega) with rfl | rfl | rfl | rfl | rfl | rfl | rfl | rfl <;> rfl) (Nat.le_of_ble_eq_true rfl) (Nat.le_of_ble_eq_true rfl) dL_law_0 (fun x H hP hD hS => ?_)
  have hP : va_P D vwCl [(x, .inr (2, [.null, .null, .null, .null, .null, .null, .null, .int 0]))] H := hP
  have hD : va_D A [(x, .inr (2, [.null, .null, .null, .null, .null, .null, .null, .int 0]))] := hD
  refine lv_dup hx hb dL_law_3 rfl ?_
  have hFc := va_free (wc := [(x, .inr (2, [.null, .null, .null, .null, .null, .null, .null, .int 0]))]) hD hS hA [0] rfl
  refine va_callv (va_runI (As := []) (rest := [.ref x]) ⟨hx, hb, hml, hown, hts⟩ (c_X2_init l (hP.sub (ws' := [(x, .inr (2, [.null, .null, .null, .null, .null, .null, .null, .int 0]))]) [0] rfl) ((hD.sub (ws' := [(x, .inr (2, [.null, .null, .null, .null, .null, .null, .null, .int 0]))]) [0] (by decide) rfl).weaken (fun _ _ _ _ => trivial)) (fun q h => hN q (hFc q h))) (cwI 0 hts gL_law_X2_init rfl rfl rfl (hts0 _ lwm_i2) (hts0 _ lwm_l2) (hts0 _ lwm_m2) rfl (by decide +kernel) ⟨Nat.le_of_ble_eq_true rfl, Nat.le_of_ble_eq_true rfl⟩) (Pq.S hC hS hN) rfl rfl hl.1 rfl (lv_room (Nat.le_of_ble_eq_true rfl)) dL_law_4 ⟨Nat.le_of_ble_eq_true rfl, Nat.le_of_ble_eq_true rfl⟩) hS (fun q _ h => hFc q h) hFc (fun u t H1 locs ht hvm hw hB hz1 hk1 hS => ?_)
  obtain ⟨ah, ak, b0, b1, b2, b3, b4⟩ := u
  obtain ⟨hP1, hD1⟩ := hB
  rw [ht] at hP1
  obtain ⟨hP, hD⟩ := va_join (wr := []) (w1 := [(x, .inr (2, [.ref ah, .ref ak, .ref b0, .ref b1, .ref b2, .ref b3, .ref b4, .int 0])), (ah, .inl (cQ, 6, .inr (.inr (.inr (.inr (fun _ => none)))))), (ak, .inr (0, [.int 0, .int 0, .int 0, .int 0, .int 0, .int 0, .int 0])), (b0, .inl (cI, 24, .inl (fun _ => 0))), (b1, .inl (cI, 24, .inl (fun _ => 0))), (b2, .inl (cI, 24, .inl (fun _ => 0))), (b3, .inl (cI, 24, .inl (fun _ => 0))), (b4, .inl (cI, 24, .inl (fun _ => 0)))]) hP hD [0] [] rfl rfl (by decide) (by decide) hk1 hFc hP1 hD1
  generalize H1 = H at hP hS ⊢
  have hP : va_P D vwCl [(x, .inr (2, [.ref ah, .ref ak, .ref b0, .ref b1, .ref b2, .ref b3, .ref b4, .int 0])), (ah, .inl (cQ, 6, .inr (.inr (.inr (.inr (fun _ => none)))))), (ak, .inr (0, [.int 0, .int 0, .int 0, .int 0, .int 0, .int 0, .int 0])), (b0, .inl (cI, 24, .inl (fun _ => 0))), (b1, .inl (cI, 24, .inl (fun _ => 0))), (b2, .inl (cI, 24, .inl (fun _ => 0))), (b3, .inl (cI, 24, .inl (fun _ => 0))), (b4, .inl (cI, 24, .inl (fun _ => 0)))] H := hP.sub [0, 1, 2, 3, 4, 5, 6, 7] rfl
  have hD : va_D A [(x, .inr (2, [.ref ah, .ref ak, .ref b0, .ref b1, .ref b2, .ref b3, .ref b4, .int 0])), (ah, .inl (cQ, 6, .inr (.inr (.inr (.inr (fun _ => none)))))), (ak, .inr (0, [.int 0, .int 0, .int 0, .int 0, .int 0, .int 0, .int 0])), (b0, .inl (cI, 24, .inl (fun _ => 0))), (b1, .inl (cI, 24, .inl (fun _ => 0))), (b2, .inl (cI, 24, .inl (fun _ => 0))), (b3, .inl (cI, 24, .inl (fun _ => 0))), (b4, .inl (cI, 24, .inl (fun _ => 0)))] := hD.sub [0, 1, 2, 3, 4, 5, 6, 7] (by decide) rfl
  refine lv_astore_n (lv' := [(1, .ref x), (0, .ref b)]) hx hb dL_law_7 rfl hl (by decide) rfl (fun ls hl => ?_)
  refine va_new (D := D) (ci := 3) (fs := [.null, .null, .null, .null, .null, .null, .int 0, .int 0, .int 0, .int 0, .int 0, .int 0, .int 0, .int 0, .int 0]) (C := RX3) (T := TX3) (N := 15) hx hb hts0 li_X3 tyX3 tyX3_ok hown (hts0 _ lwm_c69) (hts0 _ lwm_n3) (hts0 _ lwm_i3) hK hP hD hS hA rfl (fun j9 h9 => by rcases (show j9 = 0 ∨ j9 = 1 ∨ j9 = 2 ∨ j9 = 3 ∨ j9 = 4 ∨ j9 = 5 ∨ j9 = 6 ∨ j9 = 7 ∨ j9 = 8 ∨ j9 = 9 ∨ j9 = 10 ∨ j9 = 11 ∨ j9 = 12 ∨ j9 = 13 ∨ j9 = 14 by omega) with rfl | rfl | rfl | rfl | rfl | rfl | rfl | rfl | rfl | rfl | rfl | rfl | rfl | rfl | rfl <;> rfl) (Nat.le_of_ble_eq_true rfl) (Nat.le_of_ble_eq_true rfl) dL_law_8 (fun m0 H hP hD hS => ?_)
  have hP : va_P D vwCl [(x, .inr (2, [.ref ah, .ref ak, .ref b0, .ref b1, .ref b2, .ref b3, .ref b4, .int 0])), (ah, .inl (cQ, 6, .inr (.inr (.inr (.inr (fun _ => none)))))), (ak, .inr (0, [.int 0, .int 0, .int 0, .int 0, .int 0, .int 0, .int 0])), (b0, .inl (cI, 24, .inl (fun _ => 0))), (b1, .inl (cI, 24, .inl (fun _ => 0))), (b2, .inl (cI, 24, .inl (fun _ => 0))), (b3, .inl (cI, 24, .inl (fun _ => 0))), (b4, .inl (cI, 24, .inl (fun _ => 0))), (m0, .inr (3, [.null, .null, .null, .null, .null, .null, .int 0, .int 0, .int 0, .int 0, .int 0, .int 0, .int 0, .int 0, .int 0]))] H := hP
  have hD : va_D A [(x, .inr (2, [.ref ah, .ref ak, .ref b0, .ref b1, .ref b2, .ref b3, .ref b4, .int 0])), (ah, .inl (cQ, 6, .inr (.inr (.inr (.inr (fun _ => none)))))), (ak, .inr (0, [.int 0, .int 0, .int 0, .int 0, .int 0, .int 0, .int 0])), (b0, .inl (cI, 24, .inl (fun _ => 0))), (b1, .inl (cI, 24, .inl (fun _ => 0))), (b2, .inl (cI, 24, .inl (fun _ => 0))), (b3, .inl (cI, 24, .inl (fun _ => 0))), (b4, .inl (cI, 24, .inl (fun _ => 0))), (m0, .inr (3, [.null, .null, .null, .null, .null, .null, .int 0, .int 0, .int 0, .int 0, .int 0, .int 0, .int 0, .int 0, .int 0]))] := hD
  refine lv_dup hx hb dL_law_11 rfl ?_
  have hFc := va_free (wc := [(m0, .inr (3, [.null, .null, .null, .null, .null, .null, .int 0, .int 0, .int 0, .int 0, .int 0, .int 0, .int 0, .int 0, .int 0]))]) hD hS hA [8] rfl
  refine va_callv (va_runI (As := []) (rest := [.ref m0]) ⟨hx, hb, hml, hown, hts⟩ (c_X3_init l (hP.sub (ws' := [(m0, .inr (3, [.null, .null, .null, .null, .null, .null, .int 0, .int 0, .int 0, .int 0, .int 0, .int 0, .int 0, .int 0, .int 0]))]) [8] rfl) ((hD.sub (ws' := [(m0, .inr (3, [.null, .null, .null, .null, .null, .null, .int 0, .int 0, .int 0, .int 0, .int 0, .int 0, .int 0, .int 0, .int 0]))]) [8] (by decide) rfl).weaken (fun _ _ _ _ => trivial)) (fun q h => hN q (hFc q h))) (cwI 0 hts gL_law_X3_init rfl rfl rfl (hts0 _ lwm_i3) (hts0 _ lwm_l3) (hts0 _ lwm_m3) rfl (by decide +kernel) ⟨Nat.le_of_ble_eq_true rfl, Nat.le_of_ble_eq_true rfl⟩) (Pq.S hC hS hN) rfl rfl hl.1 rfl (lv_room (Nat.le_of_ble_eq_true rfl)) dL_law_12 ⟨Nat.le_of_ble_eq_true rfl, Nat.le_of_ble_eq_true rfl⟩) hS (fun q _ h => hFc q h) hFc (fun u t H1 locs ht hvm hw hB hz1 hk1 hS => ?_)
  obtain ⟨⟨a0, a1, a2, a3, a4, a5⟩, on⟩ := u
  obtain ⟨hP1, hD1⟩ := hB
  rw [ht] at hP1
  have hw : ∀ t, t < 6 → on t = -1 := hw
  obtain ⟨hP, hD⟩ := va_join (wr := [(x, .inr (2, [.ref ah, .ref ak, .ref b0, .ref b1, .ref b2, .ref b3, .ref b4, .int 0])), (ah, .inl (cQ, 6, .inr (.inr (.inr (.inr (fun _ => none)))))), (ak, .inr (0, [.int 0, .int 0, .int 0, .int 0, .int 0, .int 0, .int 0])), (b0, .inl (cI, 24, .inl (fun _ => 0))), (b1, .inl (cI, 24, .inl (fun _ => 0))), (b2, .inl (cI, 24, .inl (fun _ => 0))), (b3, .inl (cI, 24, .inl (fun _ => 0))), (b4, .inl (cI, 24, .inl (fun _ => 0)))]) (w1 := [(m0, .inr (3, [.ref a0, .ref a1, .ref a2, .ref a3, .ref a4, .ref a5, .int 0, .int 0, .int 0, .int 0, .int 0, .int 0, .int 0, .int 0, .int 0])), (a0, .inl (cI, 6, .inl on)), (a1, .inl (cI, 7, .inl (fun _ => 0))), (a2, .inl (cI, 7, .inl (fun _ => 0))), (a3, .inl (cL, 280, .inr (.inl (fun _ => 0)))), (a4, .inl (cL, 40, .inr (.inl (fun _ => 0)))), (a5, .inl (cI, 120, .inl (fun _ => 0)))]) hP hD [8] [0, 1, 2, 3, 4, 5, 6, 7] rfl rfl (by decide) (by decide) hk1 hFc hP1 hD1
  generalize H1 = H at hP hS ⊢
  have hP : va_P D vwCl [(x, .inr (2, [.ref ah, .ref ak, .ref b0, .ref b1, .ref b2, .ref b3, .ref b4, .int 0])), (ah, .inl (cQ, 6, .inr (.inr (.inr (.inr (fun _ => none)))))), (ak, .inr (0, [.int 0, .int 0, .int 0, .int 0, .int 0, .int 0, .int 0])), (b0, .inl (cI, 24, .inl (fun _ => 0))), (b1, .inl (cI, 24, .inl (fun _ => 0))), (b2, .inl (cI, 24, .inl (fun _ => 0))), (b3, .inl (cI, 24, .inl (fun _ => 0))), (b4, .inl (cI, 24, .inl (fun _ => 0))), (m0, .inr (3, [.ref a0, .ref a1, .ref a2, .ref a3, .ref a4, .ref a5, .int 0, .int 0, .int 0, .int 0, .int 0, .int 0, .int 0, .int 0, .int 0])), (a0, .inl (cI, 6, .inl on)), (a1, .inl (cI, 7, .inl (fun _ => 0))), (a2, .inl (cI, 7, .inl (fun _ => 0))), (a3, .inl (cL, 280, .inr (.inl (fun _ => 0)))), (a4, .inl (cL, 40, .inr (.inl (fun _ => 0)))), (a5, .inl (cI, 120, .inl (fun _ => 0)))] H := hP.sub [0, 1, 2, 3, 4, 5, 6, 7, 8, 9, 10, 11, 12, 13, 14] rfl
  have hD : va_D A [(x, .inr (2, [.ref ah, .ref ak, .ref b0, .ref b1, .ref b2, .ref b3, .ref b4, .int 0])), (ah, .inl (cQ, 6, .inr (.inr (.inr (.inr (fun _ => none)))))), (ak, .inr (0, [.int 0, .int 0, .int 0, .int 0, .int 0, .int 0, .int 0])), (b0, .inl (cI, 24, .inl (fun _ => 0))), (b1, .inl (cI, 24, .inl (fun _ => 0))), (b2, .inl (cI, 24, .inl (fun _ => 0))), (b3, .inl (cI, 24, .inl (fun _ => 0))), (b4, .inl (cI, 24, .inl (fun _ => 0))), (m0, .inr (3, [.ref a0, .ref a1, .ref a2, .ref a3, .ref a4, .ref a5, .int 0, .int 0, .int 0, .int 0, .int 0, .int 0, .int 0, .int 0, .int 0])), (a0, .inl (cI, 6, .inl on)), (a1, .inl (cI, 7, .inl (fun _ => 0))), (a2, .inl (cI, 7, .inl (fun _ => 0))), (a3, .inl (cL, 280, .inr (.inl (fun _ => 0)))), (a4, .inl (cL, 40, .inr (.inl (fun _ => 0)))), (a5, .inl (cI, 120, .inl (fun _ => 0)))] := hD.sub [0, 1, 2, 3, 4, 5, 6, 7, 8, 9, 10, 11, 12, 13, 14] (by decide) rfl
  have hon := hw
  refine lv_astore_n (lv' := [(2, .ref m0), (1, .ref x), (0, .ref b)]) hx hb dL_law_15 rfl hl (by decide) rfl (fun ls hl => ?_)
  refine lv_iconst (v := 1) hx hb dL_law_16 (by decide) ?_
  refine va_newa (D := D) (atype := .long) hx hb (hts0 _ lwm_aL) (ty := .long) rfl hK hP hD hS hA (N' := 1) (a0 := (1, .inr (.inl (fun _ => 0)))) (fun cA => rfl) (by decide) (by decide) (by decide) (Nat.le_of_ble_eq_true rfl) (Nat.le_of_ble_eq_true rfl) dL_law_17 (fun o cA H hK1 hP hD hS => ?_)
  have eK := K_idL hK hK1
  subst eK
  have hP : va_P D vwCl [(x, .inr (2, [.ref ah, .ref ak, .ref b0, .ref b1, .ref b2, .ref b3, .ref b4, .int 0])), (ah, .inl (cQ, 6, .inr (.inr (.inr (.inr (fun _ => none)))))), (ak, .inr (0, [.int 0, .int 0, .int 0, .int 0, .int 0, .int 0, .int 0])), (b0, .inl (cI, 24, .inl (fun _ => 0))), (b1, .inl (cI, 24, .inl (fun _ => 0))), (b2, .inl (cI, 24, .inl (fun _ => 0))), (b3, .inl (cI, 24, .inl (fun _ => 0))), (b4, .inl (cI, 24, .inl (fun _ => 0))), (m0, .inr (3, [.ref a0, .ref a1, .ref a2, .ref a3, .ref a4, .ref a5, .int 0, .int 0, .int 0, .int 0, .int 0, .int 0, .int 0, .int 0, .int 0])), (a0, .inl (cI, 6, .inl on)), (a1, .inl (cI, 7, .inl (fun _ => 0))), (a2, .inl (cI, 7, .inl (fun _ => 0))), (a3, .inl (cL, 280, .inr (.inl (fun _ => 0)))), (a4, .inl (cL, 40, .inr (.inl (fun _ => 0)))), (a5, .inl (cI, 120, .inl (fun _ => 0))), (o, .inl (cL, 1, .inr (.inl (fun _ => 0))))] H := hP
  have hD : va_D A [(x, .inr (2, [.ref ah, .ref ak, .ref b0, .ref b1, .ref b2, .ref b3, .ref b4, .int 0])), (ah, .inl (cQ, 6, .inr (.inr (.inr (.inr (fun _ => none)))))), (ak, .inr (0, [.int 0, .int 0, .int 0, .int 0, .int 0, .int 0, .int 0])), (b0, .inl (cI, 24, .inl (fun _ => 0))), (b1, .inl (cI, 24, .inl (fun _ => 0))), (b2, .inl (cI, 24, .inl (fun _ => 0))), (b3, .inl (cI, 24, .inl (fun _ => 0))), (b4, .inl (cI, 24, .inl (fun _ => 0))), (m0, .inr (3, [.ref a0, .ref a1, .ref a2, .ref a3, .ref a4, .ref a5, .int 0, .int 0, .int 0, .int 0, .int 0, .int 0, .int 0, .int 0, .int 0])), (a0, .inl (cI, 6, .inl on)), (a1, .inl (cI, 7, .inl (fun _ => 0))), (a2, .inl (cI, 7, .inl (fun _ => 0))), (a3, .inl (cL, 280, .inr (.inl (fun _ => 0)))), (a4, .inl (cL, 40, .inr (.inl (fun _ => 0)))), (a5, .inl (cI, 120, .inl (fun _ => 0))), (o, .inl (cL, 1, .inr (.inl (fun _ => 0))))] := hD
  refine lv_astore_n (lv' := [(3, .ref o), (2, .ref m0), (1, .ref x), (0, .ref b)]) hx hb dL_law_19 rfl hl (by decide) rfl (fun ls hl => ?_)
  refine lv_iconst (v := 0) hx hb dL_law_20 (by decide) ?_
  refine lv_istore (lv' := [(4, .int 0), (3, .ref o), (2, .ref m0), (1, .ref x), (0, .ref b)]) hx hb dL_law_21 hl (by decide) rfl (fun ls hl => ?_)
  subst hAe
  have hl : lv_has ls 8 [(4, .int (nI (6 * 0))), (3, .ref o), (2, .ref m0), (1, .ref x), (0, .ref b)] := hl
  refine W.widen (k := 20 + 4 * 0) (n := 1000 + 54 * 0) (Nat.le_of_ble_eq_true rfl) (Nat.le_of_ble_eq_true rfl) ?_
  refine law_loop K0 (fun n H locs ls hn hS => ?_) L 0 (by omega) (by omega) cs0 (ms0 on) _ _ H _ ls (LI0 hP hD) (Rel0 hon) hS hl
  refine lv_iconst (v := 1) hx hb dL_law_1203 (by decide) ?_
  refine va_forget hS.2.2 ?_
  refine W.widen (k := room_1.cells) (n := room_1.slots) (fit_c (by omega)) (fit_s (by omega)) ?_
  exact lw_ret hx hb hr hlocks dL_law_1204
end CStart
