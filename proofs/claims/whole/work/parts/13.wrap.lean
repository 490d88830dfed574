section CWrap
theorem in01 : vp_in 0 1 := show ¬ ((0 : Int32) < 0 ∨ 1 ≤ (0 : Int32).toNatClampNeg) by decide
section L
variable {p : Program} {l : Launch} {e : Env} {R : Room} {s : State} {m : MethodId} {args : Array Value} {below : List Frame} {meth : Method} {c : Code} {H : Heap} {locs : List Loc} {cells slots : Nat} {Q : State → Prop}
variable {cc : ByteArray} {pc : Nat} {ls : Array Slot} {rest : List Value} {D : va_G} {cl : List vw_C} {A : Nat → Prop} {a : Nat} {tys : List (ClassId × FieldType)} {H0 : Heap}
/-- a store into a row of longs: nothing else changes -/
theorem ox_last (hexec : p.tables.exec = Jvm.exec) (hb : c.code = cc) (hK : va_K D cl tys s) {cA : ClassId} {n : Nat} {f : Nat → Int64} (hP : va_P D cl [(a, .inl (cA, n, .inr (.inl f)))] H) (hS : va_S A H0 H locs) (hAa : A a) (t0 : Nat) (ht : tys[t0]? = some (cA, .long)) {i : Int32} {x : Int64} (hin : vp_in i n) (hdg : decode cc pc = .ok (.lastore, 1))
    (kk : ∀ (H1 : Heap) (locs1 : List Loc), va_P D cl [(a, .inl (cA, n, .inr (.inl (vp_updL f i.toNatClampNeg x))))] H1 → (∀ q : Nat, q ≠ a → H1[q]? = H[q]?) → H1.size = H.size → va_S A H0 H1 locs1 → W p l e R s m args below meth c H1 locs1 cells slots Q (F0 m (pc + 1) ls rest)) : W p l e R s m args below meth c H locs cells slots Q (F0 m pc ls (.long x :: .int i :: .ref a :: rest)) := by
  have hD : va_D A [(a, .inl (cA, n, .inr (.inl f)))] := D_of (by simp) (fun q hq => by simp only [List.map_cons, List.map_nil, List.mem_cons, List.not_mem_nil, or_false] at hq; rw [hq]; exact hAa)
  refine W.last hexec hb (hP 0 _ rfl) ((hK.2 t0 _ ht).1 n (fun j => .long (f j))) (fun q => by cases q) (by show ¬ (i < 0 ∨ (arrV _ _ _).slots.size ≤ _); rw [arrV_size]; exact hin) rfl rfl hdg fun H1 e z oq => ?_
  refine kk H1 _ (hP.set hD (p := 0) rfl ?_ oq) oq z (hS.put z oq hAa)
  show H1[a]? = some (vp_cell _ _)
  rw [e]
  rw [vp_cell_l, vp_cell_l, arrV_store]
  congr 2
  funext q
  by_cases hq : q = i.toNatClampNeg
  · subst hq
    simp [updV, vp_updL]
  · simp [updV, vp_updL, hq]
end L
theorem lk_L_wind_Cond_classLink_RL_13_eA : Cond.classLink RL 13 eA ∈ wsL_wind := by decide +kernel
theorem lk_L_wind_cw : Cond.codeWith yL_wind cL_wind 6 (some .int) [(0, 12, 15, 13)] ∈ wsL_wind := by decide +kernel
set_option maxHeartbeats 4000000 in
set_option maxRecDepth 100000 in
theorem c_L_wind (l : Launch) {D : va_G} {cI cL cQ : ClassId} {N0 : Nat} {sa : Nat → Nat} {Hc : Heap} (hl0 : l.stackTraces = false) {x ah ak b0 b1 b2 b3 b4 : Nat} {F : Nat → Prop} {hk : Nat → Option Nat} {re : Nat → RE} {kn : Nat → Int32} {sh : Nat → Nat → Int32} {k : Int32} (h : RSB D cI cL cQ x ah ak b0 b1 b2 b3 b4 F (hk, re, kn, sh, k) Hc) (hNF : ∀ q, F q ∨ Hc.size ≤ q → N0 ≤ q) {o : Nat} {fo : Nat → Int64} (ho : va_P D vwCl [(o, .inl (cL, 1, .inr (.inl fo)))] Hc) (hoF : ¬ F o) (hoN : N0 ≤ o) {h0 k0 f0 : Int32} : Met l yL_wind wsL_wind ({ frames := 8, cells := 3, slots := 48, locals := 133 }) (Pq D cI cL cQ N0 sa [.ref x, .int h0, .int k0, .int f0, .ref o] Hc) (va_Qi (fun (r : Int32) (u : CS × (Nat → Int64)) => (∃ E : String, (E = eA ∧ ¬ (okH h0 ∧ ¬ k0 < 0 ∧ k0 ≤ 5 ∧ (k0 = 0 ∨ k0 = 5 ∨ (¬ f0 < 0 ∧ f0 ≤ 40)))) ∧ ((E = eA ∧ r = 1)) ∧ u = ((hk, re, kn, sh, k), fo)) ∨ (r = 0 ∧ ∃ rr : Int32, (∃ j1 : Nat, j1 < 6 ∧ h0 = nI j1 ∧ ¬ k0 < 0 ∧ k0 ≤ 5 ∧ rr = k0 ∧ ((k0 = 0 ∧ u.1 = (va_up hk j1 none, re, kn, sh, k)) ∨ (¬ k0 = 0 ∧ ∃ (r1 w1 z1 : Nat) (f1 : Nat → Int64), (∀ r2, Live hk r2 → r2 < r1) ∧ ((k0 = 5 ∧ z1 = 0) ∨ (¬ k0 = 5 ∧ f0 = nI z1 ∧ z1 ≤ 40)) ∧ (∀ i1, i1 < z1 → f1 i1 = fr0 k0) ∧ u.1 = (va_up hk j1 (some r1), va_up re r1 (k0, w1, z1, f1), kn, sh, k)))) ∧ u.2 = vp_updL fo 0 rr.toInt64)) (fun u t => RSB D cI cL cQ x ah ak b0 b1 b2 b3 b4 (fun q => F q ∨ Hc.size ≤ q) u.1 t.heap ∧ va_P D vwCl [(o, .inl (cL, 1, .inr (.inl u.2)))] t.heap) (fun q => (F q ∨ Hc.size ≤ q) ∨ q = o)) 3 48 (fun q => (F q ∨ Hc.size ≤ q) ∨ q = o) := by
  refine va_MetW (cc := cL_wind) (maxL := 6) (ret := (some .int)) (by decide) rfl ?_
  intro p e s m args below meth c s₁ B hml hv
  obtain ⟨rfl, hH, hC⟩ := hv
  have hx := B.exec
  have hb := B.bytes
  have hr := B.returns
  have hts := atoms_spec (ws := wsL_wind) B.pre
  have hown : s.vm.findClass RL = some m.cls := findClass_of_methodNamed B.named
  have hlocks := B.notSynchronized
  subst hH
  have hK := hC.K
  have htab := vx_table (x := yL_wind) B (hts _ lk_L_wind_cw)
  have hl := lv_entry ([.ref x, .int h0, .int k0, .int f0, .ref o]) (n := 6) (Nat.le_of_ble_eq_true rfl)
  rw [lg_entry_eq]
  generalize (lg_sl ([.ref x, .int h0, .int k0, .int f0, .ref o]) ++ List.replicate (6 - (lg_sl ([.ref x, .int h0, .int k0, .int f0, .ref o])).length) Slot.unset).toArray = ls at hl ⊢
  have hl : lv_has ls 6 [(0, .ref x), (1, .int h0), (2, .int k0), (3, .int f0), (4, .ref o)] := hl
  have hS : va_S (fun q => (F q ∨ s.heap.size ≤ q) ∨ q = o) s.heap s.heap [] := va_S.rf
  have hN : ∀ q, (fun q => (F q ∨ s.heap.size ≤ q) ∨ q = o) q → N0 ≤ q := fun q z => z.elim (hNF q) (fun e9 => e9 ▸ hoN)
  have hos : o < s.heap.size := (ho 0 _ rfl).lt
  have hP8 := h.P8
  refine lv_aload hx hb dL_wind_0 (lv_at hl 4 rfl) ?_
  refine lv_iconst (v := 0) hx hb dL_wind_2 (by decide) ?_
  refine lv_aload_n hx hb dL_wind_3 rfl (lv_at hl 0 rfl) ?_
  refine lv_iload_n hx hb dL_wind_4 rfl (lv_at hl 1 rfl) ?_
  refine lv_iload_n hx hb dL_wind_5 rfl (lv_at hl 2 rfl) ?_
  refine lv_iload_n hx hb dL_wind_6 rfl (lv_at hl 3 rfl) ?_
  refine vx_calli (vx_runV (As := [.int h0, .int k0, .int f0]) (rest := [.int 0, .ref o]) ⟨hx, hb, hml, hown, hts⟩ (c_X2_wind l hl0 h hNF) (cwV 3 hts gL_wind_X2_wind rfl rfl rfl (by decide +kernel) ⟨Nat.le_of_ble_eq_true rfl, Nat.le_of_ble_eq_true rfl⟩) (Pq.V hC hS hN (va_recv hK hP8 (ci := 2) (q0 := 0) rfl rfl)) rfl rfl hl.1 rfl (lv_room (Nat.le_of_ble_eq_true rfl)) dL_wind_7 ⟨Nat.le_of_ble_eq_true rfl, Nat.le_of_ble_eq_true rfl⟩) hS (fun q _ z => Or.inl z) (fun q z => Or.inl z) (fun q _ z => Or.inl z) (fun E ce q9 u t H locs ht hvm hp9 hB hz9 hk9 hS hcell hv9 hcl => ?_) (fun rr u t H locs ht hvm hw hB hz9 hk9 hS => ?_)
  · obtain ⟨hX, hB⟩ := hB
    rw [ht] at hB
    have ho1 : va_P D vwCl [(o, .inl (cL, 1, .inr (.inl fo)))] H := fun i9 q9 h9 => (ho i9 q9 h9).kept (hk9 q9.1 (ho i9 q9 h9).lt (by cases i9 with | zero => cases h9; exact fun z9 => z9.elim hoF (fun z9 => absurd hos (Nat.not_lt.mpr z9)) | succ i9 => simp at h9))
    have hE : E = eA := by
      rcases hX with ⟨e9, _⟩
      · exact e9
    rcases hE with rfl
    · refine vx_catch (E := eA) (name := eA) hown [] ({ startPc := 0, endPc := 12, handlerPc := 15, catchType := 13 } : ExceptionTableEntry) [] htab (fun z9 h9 => by cases h9) (by decide) (by decide) (hts _ lk_L_wind_Cond_classLink_RL_13_eA) (hC.word (by decide +kernel) rfl) hcell hv9 hcl ?_
      refine lv_astore (lv' := [(5, .ref q9), (0, .ref x), (1, .int h0), (2, .int k0), (3, .int f0), (4, .ref o)]) hx hb dL_wind_15 hl (by decide) rfl (fun ls hl => ?_)
      refine lv_iconst (v := 1) hx hb dL_wind_17 (by decide) ?_
      exact W.iret (v := 1) hx hb hr (fun t ht hW => ⟨⟨_, ((hk, re, kn, sh, k), fo), rfl, Or.inl ⟨eA, hX, ⟨rfl, rfl⟩, rfl⟩, by dsimp only; rw [ht]; exact ⟨hB, ho1⟩⟩, hS.F ht⟩) hS.2.2 dL_wind_18
  · rw [ht] at hB
    have ho1 : va_P D vwCl [(o, .inl (cL, 1, .inr (.inl fo)))] H := fun i9 q9 h9 => (ho i9 q9 h9).kept (hk9 q9.1 (ho i9 q9 h9).lt (by cases i9 with | zero => cases h9; exact fun z9 => z9.elim hoF (fun z9 => absurd hos (Nat.not_lt.mpr z9)) | succ i9 => simp at h9))
    refine lv_i2l hx hb dL_wind_10 rfl ?_
    refine ox_last (D := D) hx hb hK ho1 hS (Or.inr rfl) 1 rfl in01 dL_wind_11 (fun H2 locs ho2 hq2 hz2 hS => ?_)
    have hB2 : RSB D cI cL cQ x ah ak b0 b1 b2 b3 b4 (fun q => F q ∨ s.heap.size ≤ q) u H2 := by obtain ⟨u1, u2, u3, u4, u5⟩ := u; exact hB.kept (fun q9 h9 _ => hq2 q9 (fun e9 => by subst e9; exact h9.elim hoF (fun z9 => absurd hos (Nat.not_lt.mpr z9))))
    rw [sb_cl0] at ho2
    refine lv_goto (tgt := 19) hx hb dL_wind_12 (by decide) ?_
    refine lv_iconst (v := 0) hx hb dL_wind_19 (by decide) ?_
    exact W.iret (v := 0) hx hb hr (fun t ht hW => ⟨⟨_, (u, vp_updL fo 0 rr.toInt64), rfl, Or.inr ⟨rfl, rr, hw, rfl⟩, by dsimp only; rw [ht]; exact ⟨hB2, ho2⟩⟩, hS.F ht⟩) hS.2.2 dL_wind_20
theorem lk_L_hang_Cond_classLink_RL_13_eA : Cond.classLink RL 13 eA ∈ wsL_hang := by decide +kernel
theorem lk_L_hang_cw : Cond.codeWith yL_hang cL_hang 5 (some .int) [(0, 10, 13, 13)] ∈ wsL_hang := by decide +kernel
set_option maxHeartbeats 4000000 in
set_option maxRecDepth 100000 in
theorem c_L_hang (l : Launch) {D : va_G} {cI cL cQ : ClassId} {N0 : Nat} {sa : Nat → Nat} {Hc : Heap} (hl0 : l.stackTraces = false) {x ah ak b0 b1 b2 b3 b4 : Nat} {F : Nat → Prop} {hk : Nat → Option Nat} {re : Nat → RE} {kn : Nat → Int32} {sh : Nat → Nat → Int32} {k : Int32} (h : RSB D cI cL cQ x ah ak b0 b1 b2 b3 b4 F (hk, re, kn, sh, k) Hc) (hNF : ∀ q, F q ∨ Hc.size ≤ q → N0 ≤ q) {o : Nat} {fo : Nat → Int64} (ho : va_P D vwCl [(o, .inl (cL, 1, .inr (.inl fo)))] Hc) (hoF : ¬ F o) (hoN : N0 ≤ o) {h0 o0 : Int32} : Met l yL_hang wsL_hang ({ frames := 8, cells := 2, slots := 12, locals := 132 }) (Pq D cI cL cQ N0 sa [.ref x, .int h0, .int o0, .ref o] Hc) (va_Qi (fun (r : Int32) (u : CS × (Nat → Int64)) => (∃ E : String, (E = eA ∧ ¬ (okH h0 ∧ okH o0)) ∧ ((E = eA ∧ r = 1)) ∧ u = ((hk, re, kn, sh, k), fo)) ∨ (r = 0 ∧ ∃ rr : Int32, (∃ j1 i1 : Nat, j1 < 6 ∧ i1 < 6 ∧ h0 = nI j1 ∧ o0 = nI i1 ∧ rr = kOf re (hk i1) ∧ u.1 = (va_up hk j1 (hk i1), re, kn, sh, k)) ∧ u.2 = vp_updL fo 0 rr.toInt64)) (fun u t => RSB D cI cL cQ x ah ak b0 b1 b2 b3 b4 (fun q => F q ∨ Hc.size ≤ q) u.1 t.heap ∧ va_P D vwCl [(o, .inl (cL, 1, .inr (.inl u.2)))] t.heap) (fun q => (F q ∨ Hc.size ≤ q) ∨ q = o)) 2 12 (fun q => (F q ∨ Hc.size ≤ q) ∨ q = o) := by
  refine va_MetW (cc := cL_hang) (maxL := 5) (ret := (some .int)) (by decide) rfl ?_
  intro p e s m args below meth c s₁ B hml hv
  obtain ⟨rfl, hH, hC⟩ := hv
  have hx := B.exec
  have hb := B.bytes
  have hr := B.returns
  have hts := atoms_spec (ws := wsL_hang) B.pre
  have hown : s.vm.findClass RL = some m.cls := findClass_of_methodNamed B.named
  have hlocks := B.notSynchronized
  subst hH
  have hK := hC.K
  have htab := vx_table (x := yL_hang) B (hts _ lk_L_hang_cw)
  have hl := lv_entry ([.ref x, .int h0, .int o0, .ref o]) (n := 5) (Nat.le_of_ble_eq_true rfl)
  rw [lg_entry_eq]
  generalize (lg_sl ([.ref x, .int h0, .int o0, .ref o]) ++ List.replicate (5 - (lg_sl ([.ref x, .int h0, .int o0, .ref o])).length) Slot.unset).toArray = ls at hl ⊢
  have hl : lv_has ls 5 [(0, .ref x), (1, .int h0), (2, .int o0), (3, .ref o)] := hl
  have hS : va_S (fun q => (F q ∨ s.heap.size ≤ q) ∨ q = o) s.heap s.heap [] := va_S.rf
  have hN : ∀ q, (fun q => (F q ∨ s.heap.size ≤ q) ∨ q = o) q → N0 ≤ q := fun q z => z.elim (hNF q) (fun e9 => e9 ▸ hoN)
  have hos : o < s.heap.size := (ho 0 _ rfl).lt
  have hP8 := h.P8
  refine lv_aload_n hx hb dL_hang_0 rfl (lv_at hl 3 rfl) ?_
  refine lv_iconst (v := 0) hx hb dL_hang_1 (by decide) ?_
  refine lv_aload_n hx hb dL_hang_2 rfl (lv_at hl 0 rfl) ?_
  refine lv_iload_n hx hb dL_hang_3 rfl (lv_at hl 1 rfl) ?_
  refine lv_iload_n hx hb dL_hang_4 rfl (lv_at hl 2 rfl) ?_
  refine vx_calli (vx_runV (As := [.int h0, .int o0]) (rest := [.int 0, .ref o]) ⟨hx, hb, hml, hown, hts⟩ (c_X2_hang l hl0 h hNF) (cwV 2 hts gL_hang_X2_hang rfl rfl rfl (by decide +kernel) ⟨Nat.le_of_ble_eq_true rfl, Nat.le_of_ble_eq_true rfl⟩) (Pq.V hC hS hN (va_recv hK hP8 (ci := 2) (q0 := 0) rfl rfl)) rfl rfl hl.1 rfl (lv_room (Nat.le_of_ble_eq_true rfl)) dL_hang_5 ⟨Nat.le_of_ble_eq_true rfl, Nat.le_of_ble_eq_true rfl⟩) hS (fun q _ z => Or.inl z) (fun q z => Or.inl z) (fun q _ z => Or.inl z) (fun E ce q9 u t H locs ht hvm hp9 hB hz9 hk9 hS hcell hv9 hcl => ?_) (fun rr u t H locs ht hvm hw hB hz9 hk9 hS => ?_)
  · obtain ⟨hX, hB⟩ := hB
    rw [ht] at hB
    have ho1 : va_P D vwCl [(o, .inl (cL, 1, .inr (.inl fo)))] H := fun i9 q9 h9 => (ho i9 q9 h9).kept (hk9 q9.1 (ho i9 q9 h9).lt (by cases i9 with | zero => cases h9; exact fun z9 => z9.elim hoF (fun z9 => absurd hos (Nat.not_lt.mpr z9)) | succ i9 => simp at h9))
    have hE : E = eA := by
      rcases hX with ⟨e9, _⟩
      · exact e9
    rcases hE with rfl
    · refine vx_catch (E := eA) (name := eA) hown [] ({ startPc := 0, endPc := 10, handlerPc := 13, catchType := 13 } : ExceptionTableEntry) [] htab (fun z9 h9 => by cases h9) (by decide) (by decide) (hts _ lk_L_hang_Cond_classLink_RL_13_eA) (hC.word (by decide +kernel) rfl) hcell hv9 hcl ?_
      refine lv_astore (lv' := [(4, .ref q9), (0, .ref x), (1, .int h0), (2, .int o0), (3, .ref o)]) hx hb dL_hang_13 hl (by decide) rfl (fun ls hl => ?_)
      refine lv_iconst (v := 1) hx hb dL_hang_15 (by decide) ?_
      exact W.iret (v := 1) hx hb hr (fun t ht hW => ⟨⟨_, ((hk, re, kn, sh, k), fo), rfl, Or.inl ⟨eA, hX, ⟨rfl, rfl⟩, rfl⟩, by dsimp only; rw [ht]; exact ⟨hB, ho1⟩⟩, hS.F ht⟩) hS.2.2 dL_hang_16
  · rw [ht] at hB
    have ho1 : va_P D vwCl [(o, .inl (cL, 1, .inr (.inl fo)))] H := fun i9 q9 h9 => (ho i9 q9 h9).kept (hk9 q9.1 (ho i9 q9 h9).lt (by cases i9 with | zero => cases h9; exact fun z9 => z9.elim hoF (fun z9 => absurd hos (Nat.not_lt.mpr z9)) | succ i9 => simp at h9))
    refine lv_i2l hx hb dL_hang_8 rfl ?_
    refine ox_last (D := D) hx hb hK ho1 hS (Or.inr rfl) 1 rfl in01 dL_hang_9 (fun H2 locs ho2 hq2 hz2 hS => ?_)
    have hB2 : RSB D cI cL cQ x ah ak b0 b1 b2 b3 b4 (fun q => F q ∨ s.heap.size ≤ q) u H2 := by obtain ⟨u1, u2, u3, u4, u5⟩ := u; exact hB.kept (fun q9 h9 _ => hq2 q9 (fun e9 => by subst e9; exact h9.elim hoF (fun z9 => absurd hos (Nat.not_lt.mpr z9))))
    rw [sb_cl0] at ho2
    refine lv_goto (tgt := 17) hx hb dL_hang_10 (by decide) ?_
    refine lv_iconst (v := 0) hx hb dL_hang_17 (by decide) ?_
    exact W.iret (v := 0) hx hb hr (fun t ht hW => ⟨⟨_, (u, vp_updL fo 0 rr.toInt64), rfl, Or.inr ⟨rfl, rr, hw, rfl⟩, by dsimp only; rw [ht]; exact ⟨hB2, ho2⟩⟩, hS.F ht⟩) hS.2.2 dL_hang_18
theorem lk_L_twin_Cond_classLink_RL_13_eA : Cond.classLink RL 13 eA ∈ wsL_twin := by decide +kernel
theorem lk_L_twin_Cond_classLink_RL_22_eS : Cond.classLink RL 22 eS ∈ wsL_twin := by decide +kernel
theorem lk_L_twin_cw : Cond.codeWith yL_twin cL_twin 5 (some .int) [(0, 10, 13, 13), (0, 10, 17, 22)] ∈ wsL_twin := by decide +kernel
set_option maxHeartbeats 4000000 in
set_option maxRecDepth 100000 in
theorem c_L_twin (l : Launch) {D : va_G} {cI cL cQ : ClassId} {N0 : Nat} {sa : Nat → Nat} {Hc : Heap} (hl0 : l.stackTraces = false) {x ah ak b0 b1 b2 b3 b4 : Nat} {F : Nat → Prop} {hk : Nat → Option Nat} {re : Nat → RE} {kn : Nat → Int32} {sh : Nat → Nat → Int32} {k : Int32} (h : RSB D cI cL cQ x ah ak b0 b1 b2 b3 b4 F (hk, re, kn, sh, k) Hc) (hNF : ∀ q, F q ∨ Hc.size ≤ q → N0 ≤ q) {o : Nat} {fo : Nat → Int64} (ho : va_P D vwCl [(o, .inl (cL, 1, .inr (.inl fo)))] Hc) (hoF : ¬ F o) (hoN : N0 ≤ o) {h0 o0 : Int32} : Met l yL_twin wsL_twin ({ frames := 8, cells := 4, slots := 54, locals := 134 }) (Pq D cI cL cQ N0 sa [.ref x, .int h0, .int o0, .ref o] Hc) (va_Qi (fun (r : Int32) (u : CS × (Nat → Int64)) => (∃ E : String, ((E = eA ∧ ¬ (okH h0 ∧ okH o0)) ∨ (E = eS ∧ ∃ j1 i1 : Nat, j1 < 6 ∧ i1 < 6 ∧ h0 = nI j1 ∧ o0 = nI i1 ∧ (hk i1 = none ∨ ∃ r1 : Nat, hk i1 = some r1 ∧ (re r1).1 = 5))) ∧ ((E = eA ∧ r = 1) ∨ (E = eS ∧ r = 2)) ∧ u = ((hk, re, kn, sh, k), fo)) ∨ (r = 0 ∧ ∃ rr : Int32, (∃ j1 i1 r1 : Nat, j1 < 6 ∧ i1 < 6 ∧ h0 = nI j1 ∧ o0 = nI i1 ∧ hk i1 = some r1 ∧ ¬ (re r1).1 = 5 ∧ rr = (re r1).1 ∧ ∃ (q1 w1 : Nat) (f1 : Nat → Int64), (∀ r2, Live hk r2 → r2 < q1) ∧ (∀ t1, t1 < (re r1).2.2.1 → f1 t1 = (re r1).2.2.2 t1) ∧ u.1 = (va_up hk j1 (some q1), va_up re q1 ((re r1).1, w1, (re r1).2.2.1, f1), kn, sh, k)) ∧ u.2 = vp_updL fo 0 rr.toInt64)) (fun u t => RSB D cI cL cQ x ah ak b0 b1 b2 b3 b4 (fun q => F q ∨ Hc.size ≤ q) u.1 t.heap ∧ va_P D vwCl [(o, .inl (cL, 1, .inr (.inl u.2)))] t.heap) (fun q => (F q ∨ Hc.size ≤ q) ∨ q = o)) 4 54 (fun q => (F q ∨ Hc.size ≤ q) ∨ q = o) := by
  refine va_MetW (cc := cL_twin) (maxL := 5) (ret := (some .int)) (by decide) rfl ?_
  intro p e s m args below meth c s₁ B hml hv
  obtain ⟨rfl, hH, hC⟩ := hv
  have hx := B.exec
  have hb := B.bytes
  have hr := B.returns
  have hts := atoms_spec (ws := wsL_twin) B.pre
  have hown : s.vm.findClass RL = some m.cls := findClass_of_methodNamed B.named
  have hlocks := B.notSynchronized
  subst hH
  have hK := hC.K
  have htab := vx_table (x := yL_twin) B (hts _ lk_L_twin_cw)
  have hl := lv_entry ([.ref x, .int h0, .int o0, .ref o]) (n := 5) (Nat.le_of_ble_eq_true rfl)
  rw [lg_entry_eq]
  generalize (lg_sl ([.ref x, .int h0, .int o0, .ref o]) ++ List.replicate (5 - (lg_sl ([.ref x, .int h0, .int o0, .ref o])).length) Slot.unset).toArray = ls at hl ⊢
  have hl : lv_has ls 5 [(0, .ref x), (1, .int h0), (2, .int o0), (3, .ref o)] := hl
  have hS : va_S (fun q => (F q ∨ s.heap.size ≤ q) ∨ q = o) s.heap s.heap [] := va_S.rf
  have hN : ∀ q, (fun q => (F q ∨ s.heap.size ≤ q) ∨ q = o) q → N0 ≤ q := fun q z => z.elim (hNF q) (fun e9 => e9 ▸ hoN)
  have hos : o < s.heap.size := (ho 0 _ rfl).lt
  have hP8 := h.P8
  refine lv_aload_n hx hb dL_twin_0 rfl (lv_at hl 3 rfl) ?_
  refine lv_iconst (v := 0) hx hb dL_twin_1 (by decide) ?_
  refine lv_aload_n hx hb dL_twin_2 rfl (lv_at hl 0 rfl) ?_
  refine lv_iload_n hx hb dL_twin_3 rfl (lv_at hl 1 rfl) ?_
  refine lv_iload_n hx hb dL_twin_4 rfl (lv_at hl 2 rfl) ?_
  refine vx_calli (vx_runV (As := [.int h0, .int o0]) (rest := [.int 0, .ref o]) ⟨hx, hb, hml, hown, hts⟩ (c_X2_twin l hl0 h hNF) (cwV 2 hts gL_twin_X2_twin rfl rfl rfl (by decide +kernel) ⟨Nat.le_of_ble_eq_true rfl, Nat.le_of_ble_eq_true rfl⟩) (Pq.V hC hS hN (va_recv hK hP8 (ci := 2) (q0 := 0) rfl rfl)) rfl rfl hl.1 rfl (lv_room (Nat.le_of_ble_eq_true rfl)) dL_twin_5 ⟨Nat.le_of_ble_eq_true rfl, Nat.le_of_ble_eq_true rfl⟩) hS (fun q _ z => Or.inl z) (fun q z => Or.inl z) (fun q _ z => Or.inl z) (fun E ce q9 u t H locs ht hvm hp9 hB hz9 hk9 hS hcell hv9 hcl => ?_) (fun rr u t H locs ht hvm hw hB hz9 hk9 hS => ?_)
  · obtain ⟨hX, hB⟩ := hB
    rw [ht] at hB
    have ho1 : va_P D vwCl [(o, .inl (cL, 1, .inr (.inl fo)))] H := fun i9 q9 h9 => (ho i9 q9 h9).kept (hk9 q9.1 (ho i9 q9 h9).lt (by cases i9 with | zero => cases h9; exact fun z9 => z9.elim hoF (fun z9 => absurd hos (Nat.not_lt.mpr z9)) | succ i9 => simp at h9))
    have hE : E = eA ∨ E = eS := by
      rcases hX with ⟨e9, _⟩ | ⟨e9, _⟩
      · exact Or.inl e9
      · exact Or.inr e9
    rcases hE with rfl | rfl
    · refine vx_catch (E := eA) (name := eA) hown [] ({ startPc := 0, endPc := 10, handlerPc := 13, catchType := 13 } : ExceptionTableEntry) [({ startPc := 0, endPc := 10, handlerPc := 17, catchType := 22 } : ExceptionTableEntry)] htab (fun z9 h9 => by cases h9) (by decide) (by decide) (hts _ lk_L_twin_Cond_classLink_RL_13_eA) (hC.word (by decide +kernel) rfl) hcell hv9 hcl ?_
      refine lv_astore (lv' := [(4, .ref q9), (0, .ref x), (1, .int h0), (2, .int o0), (3, .ref o)]) hx hb dL_twin_13 hl (by decide) rfl (fun ls hl => ?_)
      refine lv_iconst (v := 1) hx hb dL_twin_15 (by decide) ?_
      exact W.iret (v := 1) hx hb hr (fun t ht hW => ⟨⟨_, ((hk, re, kn, sh, k), fo), rfl, Or.inl ⟨eA, hX, Or.inl ⟨rfl, rfl⟩, rfl⟩, by dsimp only; rw [ht]; exact ⟨hB, ho1⟩⟩, hS.F ht⟩) hS.2.2 dL_twin_16
    · refine vx_catch (E := eS) (name := eS) hown [({ startPc := 0, endPc := 10, handlerPc := 13, catchType := 13 } : ExceptionTableEntry)] ({ startPc := 0, endPc := 10, handlerPc := 17, catchType := 22 } : ExceptionTableEntry) [] htab (fun z9 h9 => by
          simp only [List.mem_cons, List.not_mem_nil, or_false] at h9
          rcases h9 with rfl
          · exact Or.inr ⟨by decide, eA, (hts _ lk_L_twin_Cond_classLink_RL_13_eA), hC.ncast (by decide +kernel)⟩) (by decide) (by decide) (hts _ lk_L_twin_Cond_classLink_RL_22_eS) (hC.word (by decide +kernel) rfl) hcell hv9 hcl ?_
      refine lv_astore (lv' := [(4, .ref q9), (0, .ref x), (1, .int h0), (2, .int o0), (3, .ref o)]) hx hb dL_twin_17 hl (by decide) rfl (fun ls hl => ?_)
      refine lv_iconst (v := 2) hx hb dL_twin_19 (by decide) ?_
      exact W.iret (v := 2) hx hb hr (fun t ht hW => ⟨⟨_, ((hk, re, kn, sh, k), fo), rfl, Or.inl ⟨eS, hX, Or.inr (⟨rfl, rfl⟩), rfl⟩, by dsimp only; rw [ht]; exact ⟨hB, ho1⟩⟩, hS.F ht⟩) hS.2.2 dL_twin_20
  · rw [ht] at hB
    have ho1 : va_P D vwCl [(o, .inl (cL, 1, .inr (.inl fo)))] H := fun i9 q9 h9 => (ho i9 q9 h9).kept (hk9 q9.1 (ho i9 q9 h9).lt (by cases i9 with | zero => cases h9; exact fun z9 => z9.elim hoF (fun z9 => absurd hos (Nat.not_lt.mpr z9)) | succ i9 => simp at h9))
    refine lv_i2l hx hb dL_twin_8 rfl ?_
    refine ox_last (D := D) hx hb hK ho1 hS (Or.inr rfl) 1 rfl in01 dL_twin_9 (fun H2 locs ho2 hq2 hz2 hS => ?_)
    have hB2 : RSB D cI cL cQ x ah ak b0 b1 b2 b3 b4 (fun q => F q ∨ s.heap.size ≤ q) u H2 := by obtain ⟨u1, u2, u3, u4, u5⟩ := u; exact hB.kept (fun q9 h9 _ => hq2 q9 (fun e9 => by subst e9; exact h9.elim hoF (fun z9 => absurd hos (Nat.not_lt.mpr z9))))
    rw [sb_cl0] at ho2
    refine lv_goto (tgt := 21) hx hb dL_twin_10 (by decide) ?_
    refine lv_iconst (v := 0) hx hb dL_twin_21 (by decide) ?_
    exact W.iret (v := 0) hx hb hr (fun t ht hW => ⟨⟨_, (u, vp_updL fo 0 rr.toInt64), rfl, Or.inr ⟨rfl, rr, hw, rfl⟩, by dsimp only; rw [ht]; exact ⟨hB2, ho2⟩⟩, hS.F ht⟩) hS.2.2 dL_twin_22
theorem lk_L_mark_Cond_classLink_RL_13_eA : Cond.classLink RL 13 eA ∈ wsL_mark := by decide +kernel
theorem lk_L_mark_Cond_classLink_RL_22_eS : Cond.classLink RL 22 eS ∈ wsL_mark := by decide +kernel
theorem lk_L_mark_Cond_classLink_RL_28_eI : Cond.classLink RL 28 eI ∈ wsL_mark := by decide +kernel
theorem lk_L_mark_cw : Cond.codeWith yL_mark cL_mark 6 (some .int) [(0, 7, 10, 13), (0, 7, 14, 22), (0, 7, 18, 28)] ∈ wsL_mark := by decide +kernel
set_option maxHeartbeats 4000000 in
set_option maxRecDepth 100000 in
theorem c_L_mark (l : Launch) {D : va_G} {cI cL cQ : ClassId} {N0 : Nat} {sa : Nat → Nat} {Hc : Heap} (hl0 : l.stackTraces = false) {x ah ak b0 b1 b2 b3 b4 : Nat} {F : Nat → Prop} {hk : Nat → Option Nat} {re : Nat → RE} {kn : Nat → Int32} {sh : Nat → Nat → Int32} {k : Int32} (h : RSB D cI cL cQ x ah ak b0 b1 b2 b3 b4 F (hk, re, kn, sh, k) Hc) (hNF : ∀ q, F q ∨ Hc.size ≤ q → N0 ≤ q) {fo : Nat → Int64} {h0 i0 : Int32} {v0 : Int64} : Met l yL_mark wsL_mark ({ frames := 8, cells := 3, slots := 18, locals := 135 }) (Pq D cI cL cQ N0 sa [.ref x, .int h0, .int i0, .long v0] Hc) (va_Qi (fun (r : Int32) (u : CS × (Nat → Int64)) => (∃ E : String, ((E = eA ∧ ¬ okH h0) ∨ (∃ j1 : Nat, j1 < 6 ∧ h0 = nI j1 ∧ ((E = eS ∧ (hk j1 = none ∨ ∃ r1 : Nat, hk j1 = some r1 ∧ ¬ ((re r1).1 = 1 ∨ (re r1).1 = 2))) ∨ (E = eI ∧ ∃ r1 : Nat, hk j1 = some r1 ∧ ((re r1).1 = 1 ∨ (re r1).1 = 2) ∧ ¬ okF i0 (re r1).2.2.1)))) ∧ ((E = eA ∧ r = 1) ∨ (E = eS ∧ r = 2) ∨ (E = eI ∧ r = 3)) ∧ u = ((hk, re, kn, sh, k), fo)) ∨ (r = 0 ∧ (∃ j1 r1 i1 : Nat, j1 < 6 ∧ h0 = nI j1 ∧ hk j1 = some r1 ∧ ((re r1).1 = 1 ∨ (re r1).1 = 2) ∧ i1 < (re r1).2.2.1 ∧ i0 = nI i1 ∧ u.1 = (hk, va_up re r1 ((re r1).1, (re r1).2.1, (re r1).2.2.1, vp_updL (re r1).2.2.2 i1 (mkV (re r1).1 v0)), kn, sh, k)) ∧ u.2 = fo)) (fun u t => RSB D cI cL cQ x ah ak b0 b1 b2 b3 b4 (fun q => F q ∨ Hc.size ≤ q) u.1 t.heap ∧ u.2 = fo) (fun q => F q ∨ Hc.size ≤ q)) 3 18 (fun q => F q ∨ Hc.size ≤ q) := by
  refine va_MetW (cc := cL_mark) (maxL := 6) (ret := (some .int)) (by decide) rfl ?_
  intro p e s m args below meth c s₁ B hml hv
  obtain ⟨rfl, hH, hC⟩ := hv
  have hx := B.exec
  have hb := B.bytes
  have hr := B.returns
  have hts := atoms_spec (ws := wsL_mark) B.pre
  have hown : s.vm.findClass RL = some m.cls := findClass_of_methodNamed B.named
  have hlocks := B.notSynchronized
  subst hH
  have hK := hC.K
  have htab := vx_table (x := yL_mark) B (hts _ lk_L_mark_cw)
  have hl := lv_entry ([.ref x, .int h0, .int i0, .long v0]) (n := 6) (Nat.le_of_ble_eq_true rfl)
  rw [lg_entry_eq]
  generalize (lg_sl ([.ref x, .int h0, .int i0, .long v0]) ++ List.replicate (6 - (lg_sl ([.ref x, .int h0, .int i0, .long v0])).length) Slot.unset).toArray = ls at hl ⊢
  have hl : lv_has ls 6 [(0, .ref x), (1, .int h0), (2, .int i0), (3, .long v0)] := hl
  have hS : va_S (fun q => F q ∨ s.heap.size ≤ q) s.heap s.heap [] := va_S.rf
  have hN : ∀ q, (fun q => F q ∨ s.heap.size ≤ q) q → N0 ≤ q := hNF
  have hP8 := h.P8
  refine lv_aload_n hx hb dL_mark_0 rfl (lv_at hl 0 rfl) ?_
  refine lv_iload_n hx hb dL_mark_1 rfl (lv_at hl 1 rfl) ?_
  refine lv_iload_n hx hb dL_mark_2 rfl (lv_at hl 2 rfl) ?_
  refine lv_lload_n hx hb dL_mark_3 rfl (lv_at hl 3 rfl) ?_
  refine vx_callv (vx_runV (As := [.int h0, .int i0, .long v0]) (rest := []) ⟨hx, hb, hml, hown, hts⟩ (c_X2_mark l hl0 h hNF) (cwV 3 hts gL_mark_X2_mark rfl rfl rfl (by decide +kernel) ⟨Nat.le_of_ble_eq_true rfl, Nat.le_of_ble_eq_true rfl⟩) (Pq.V hC hS hN (va_recv hK hP8 (ci := 2) (q0 := 0) rfl rfl)) rfl rfl hl.1 rfl (lv_room (Nat.le_of_ble_eq_true rfl)) dL_mark_4 ⟨Nat.le_of_ble_eq_true rfl, Nat.le_of_ble_eq_true rfl⟩) hS (fun q _ z => z) (fun q z => z) (fun q _ z => z) (fun E ce q9 u t H locs ht hvm hp9 hB hz9 hk9 hS hcell hv9 hcl => ?_) (fun u t H locs ht hvm hw hB hz9 hk9 hS => ?_)
  · obtain ⟨hX, hB⟩ := hB
    rw [ht] at hB
    have hE : E = eA ∨ E = eS ∨ E = eI := by
      rcases hX with ⟨e9, _⟩ | ⟨_, _, _, ⟨e9, _⟩ | ⟨e9, _⟩⟩
      · exact Or.inl e9
      · exact Or.inr (Or.inl e9)
      · exact Or.inr (Or.inr e9)
    rcases hE with rfl | rfl | rfl
    · refine vx_catch (E := eA) (name := eA) hown [] ({ startPc := 0, endPc := 7, handlerPc := 10, catchType := 13 } : ExceptionTableEntry) [({ startPc := 0, endPc := 7, handlerPc := 14, catchType := 22 } : ExceptionTableEntry), ({ startPc := 0, endPc := 7, handlerPc := 18, catchType := 28 } : ExceptionTableEntry)] htab (fun z9 h9 => by cases h9) (by decide) (by decide) (hts _ lk_L_mark_Cond_classLink_RL_13_eA) (hC.word (by decide +kernel) rfl) hcell hv9 hcl ?_
      refine lv_astore (lv' := [(5, .ref q9), (0, .ref x), (1, .int h0), (2, .int i0), (3, .long v0)]) hx hb dL_mark_10 hl (by decide) rfl (fun ls hl => ?_)
      refine lv_iconst (v := 1) hx hb dL_mark_12 (by decide) ?_
      exact W.iret (v := 1) hx hb hr (fun t ht hW => ⟨⟨_, ((hk, re, kn, sh, k), fo), rfl, Or.inl ⟨eA, hX, Or.inl ⟨rfl, rfl⟩, rfl⟩, by dsimp only; rw [ht]; exact ⟨hB, rfl⟩⟩, hS.F ht⟩) hS.2.2 dL_mark_13
    · refine vx_catch (E := eS) (name := eS) hown [({ startPc := 0, endPc := 7, handlerPc := 10, catchType := 13 } : ExceptionTableEntry)] ({ startPc := 0, endPc := 7, handlerPc := 14, catchType := 22 } : ExceptionTableEntry) [({ startPc := 0, endPc := 7, handlerPc := 18, catchType := 28 } : ExceptionTableEntry)] htab (fun z9 h9 => by
          simp only [List.mem_cons, List.not_mem_nil, or_false] at h9
          rcases h9 with rfl
          · exact Or.inr ⟨by decide, eA, (hts _ lk_L_mark_Cond_classLink_RL_13_eA), hC.ncast (by decide +kernel)⟩) (by decide) (by decide) (hts _ lk_L_mark_Cond_classLink_RL_22_eS) (hC.word (by decide +kernel) rfl) hcell hv9 hcl ?_
      refine lv_astore (lv' := [(5, .ref q9), (0, .ref x), (1, .int h0), (2, .int i0), (3, .long v0)]) hx hb dL_mark_14 hl (by decide) rfl (fun ls hl => ?_)
      refine lv_iconst (v := 2) hx hb dL_mark_16 (by decide) ?_
      exact W.iret (v := 2) hx hb hr (fun t ht hW => ⟨⟨_, ((hk, re, kn, sh, k), fo), rfl, Or.inl ⟨eS, hX, Or.inr (Or.inl ⟨rfl, rfl⟩), rfl⟩, by dsimp only; rw [ht]; exact ⟨hB, rfl⟩⟩, hS.F ht⟩) hS.2.2 dL_mark_17
    · refine vx_catch (E := eI) (name := eI) hown [({ startPc := 0, endPc := 7, handlerPc := 10, catchType := 13 } : ExceptionTableEntry), ({ startPc := 0, endPc := 7, handlerPc := 14, catchType := 22 } : ExceptionTableEntry)] ({ startPc := 0, endPc := 7, handlerPc := 18, catchType := 28 } : ExceptionTableEntry) [] htab (fun z9 h9 => by
          simp only [List.mem_cons, List.not_mem_nil, or_false] at h9
          rcases h9 with rfl | rfl
          · exact Or.inr ⟨by decide, eA, (hts _ lk_L_mark_Cond_classLink_RL_13_eA), hC.ncast (by decide +kernel)⟩
          · exact Or.inr ⟨by decide, eS, (hts _ lk_L_mark_Cond_classLink_RL_22_eS), hC.ncast (by decide +kernel)⟩) (by decide) (by decide) (hts _ lk_L_mark_Cond_classLink_RL_28_eI) (hC.word (by decide +kernel) rfl) hcell hv9 hcl ?_
      refine lv_astore (lv' := [(5, .ref q9), (0, .ref x), (1, .int h0), (2, .int i0), (3, .long v0)]) hx hb dL_mark_18 hl (by decide) rfl (fun ls hl => ?_)
      refine lv_iconst (v := 3) hx hb dL_mark_20 (by decide) ?_
      exact W.iret (v := 3) hx hb hr (fun t ht hW => ⟨⟨_, ((hk, re, kn, sh, k), fo), rfl, Or.inl ⟨eI, hX, Or.inr (Or.inr (⟨rfl, rfl⟩)), rfl⟩, by dsimp only; rw [ht]; exact ⟨hB, rfl⟩⟩, hS.F ht⟩) hS.2.2 dL_mark_21
  · rw [ht] at hB
    refine lv_goto (tgt := 22) hx hb dL_mark_7 (by decide) ?_
    refine lv_iconst (v := 0) hx hb dL_mark_22 (by decide) ?_
    exact W.iret (v := 0) hx hb hr (fun t ht hW => ⟨⟨_, (u, fo), rfl, Or.inr ⟨rfl, hw, rfl⟩, by dsimp only; rw [ht]; exact ⟨hB, rfl⟩⟩, hS.F ht⟩) hS.2.2 dL_mark_23
theorem lk_L_paste_Cond_classLink_RL_13_eA : Cond.classLink RL 13 eA ∈ wsL_paste := by decide +kernel
theorem lk_L_paste_Cond_classLink_RL_22_eS : Cond.classLink RL 22 eS ∈ wsL_paste := by decide +kernel
theorem lk_L_paste_Cond_classLink_RL_28_eI : Cond.classLink RL 28 eI ∈ wsL_paste := by decide +kernel
theorem lk_L_paste_cw : Cond.codeWith yL_paste cL_paste 7 (some .int) [(0, 21, 24, 13), (0, 21, 28, 22), (0, 21, 32, 28)] ∈ wsL_paste := by decide +kernel
set_option maxHeartbeats 4000000 in
set_option maxRecDepth 100000 in
theorem c_L_paste (l : Launch) {D : va_G} {cI cL cQ : ClassId} {N0 : Nat} {sa : Nat → Nat} {Hc : Heap} (hl0 : l.stackTraces = false) {x ah ak b0 b1 b2 b3 b4 : Nat} {F : Nat → Prop} {hk : Nat → Option Nat} {re : Nat → RE} {kn : Nat → Int32} {sh : Nat → Nat → Int32} {k : Int32} (h : RSB D cI cL cQ x ah ak b0 b1 b2 b3 b4 F (hk, re, kn, sh, k) Hc) (hNF : ∀ q, F q ∨ Hc.size ≤ q → N0 ≤ q) {o : Nat} {fo : Nat → Int64} (ho : va_P D vwCl [(o, .inl (cL, 1, .inr (.inl fo)))] Hc) (hoF : ¬ F o) (hoN : N0 ≤ o) {h0 i0 n0 s0 : Int32} : Met l yL_paste wsL_paste ({ frames := 8, cells := 3, slots := 18, locals := 137 }) (Pq D cI cL cQ N0 sa [.ref x, .int h0, .int i0, .int n0, .int s0, .ref o] Hc) (va_Qi (fun (r : Int32) (u : CS × (Nat → Int64)) => (∃ E : String, ((E = eA ∧ ¬ (okH h0 ∧ ¬ n0 < 0 ∧ n0 < 1000)) ∨ (∃ j1 : Nat, j1 < 6 ∧ h0 = nI j1 ∧ (¬ n0 < 0 ∧ n0 < 1000) ∧ ((E = eS ∧ (hk j1 = none ∨ ∃ r1 : Nat, hk j1 = some r1 ∧ ¬ ((re r1).1 = 3 ∨ (re r1).1 = 4))) ∨ (E = eI ∧ ∃ r1 : Nat, hk j1 = some r1 ∧ ((re r1).1 = 3 ∨ (re r1).1 = 4) ∧ ¬ okF i0 (re r1).2.2.1)))) ∧ ((E = eA ∧ r = 1) ∨ (E = eS ∧ r = 2) ∨ (E = eI ∧ r = 3)) ∧ u = ((hk, re, kn, sh, k), fo)) ∨ (r = 0 ∧ ∃ rr : Int32, (∃ j1 r1 i1 : Nat, j1 < 6 ∧ h0 = nI j1 ∧ ¬ n0 < 0 ∧ n0 < 1000 ∧ hk j1 = some r1 ∧ ((re r1).1 = 3 ∨ (re r1).1 = 4) ∧ i1 < (re r1).2.2.1 ∧ i0 = nI i1 ∧ ((kTake (re r1).1 (cdV n0 s0) ∧ rr = 1 ∧ u.1 = (hk, va_up re r1 ((re r1).1, (re r1).2.1, (re r1).2.2.1, vp_updL (re r1).2.2.2 i1 (cdV n0 s0)), kn, sh, k)) ∨ (¬ kTake (re r1).1 (cdV n0 s0) ∧ rr = 0 ∧ u.1 = (hk, re, kn, sh, k)))) ∧ u.2 = vp_updL fo 0 (if rr = 0 then 0 else 1))) (fun u t => RSB D cI cL cQ x ah ak b0 b1 b2 b3 b4 (fun q => F q ∨ Hc.size ≤ q) u.1 t.heap ∧ va_P D vwCl [(o, .inl (cL, 1, .inr (.inl u.2)))] t.heap) (fun q => (F q ∨ Hc.size ≤ q) ∨ q = o)) 3 18 (fun q => (F q ∨ Hc.size ≤ q) ∨ q = o) := by
  refine va_MetW (cc := cL_paste) (maxL := 7) (ret := (some .int)) (by decide) rfl ?_
  intro p e s m args below meth c s₁ B hml hv
  obtain ⟨rfl, hH, hC⟩ := hv
  have hx := B.exec
  have hb := B.bytes
  have hr := B.returns
  have hts := atoms_spec (ws := wsL_paste) B.pre
  have hown : s.vm.findClass RL = some m.cls := findClass_of_methodNamed B.named
  have hlocks := B.notSynchronized
  subst hH
  have hK := hC.K
  have htab := vx_table (x := yL_paste) B (hts _ lk_L_paste_cw)
  have hl := lv_entry ([.ref x, .int h0, .int i0, .int n0, .int s0, .ref o]) (n := 7) (Nat.le_of_ble_eq_true rfl)
  rw [lg_entry_eq]
  generalize (lg_sl ([.ref x, .int h0, .int i0, .int n0, .int s0, .ref o]) ++ List.replicate (7 - (lg_sl ([.ref x, .int h0, .int i0, .int n0, .int s0, .ref o])).length) Slot.unset).toArray = ls at hl ⊢
  have hl : lv_has ls 7 [(0, .ref x), (1, .int h0), (2, .int i0), (3, .int n0), (4, .int s0), (5, .ref o)] := hl
  have hS : va_S (fun q => (F q ∨ s.heap.size ≤ q) ∨ q = o) s.heap s.heap [] := va_S.rf
  have hN : ∀ q, (fun q => (F q ∨ s.heap.size ≤ q) ∨ q = o) q → N0 ≤ q := fun q z => z.elim (hNF q) (fun e9 => e9 ▸ hoN)
  have hos : o < s.heap.size := (ho 0 _ rfl).lt
  have hP8 := h.P8
  refine lv_aload hx hb dL_paste_0 (lv_at hl 5 rfl) ?_
  refine lv_iconst (v := 0) hx hb dL_paste_2 (by decide) ?_
  refine lv_aload_n hx hb dL_paste_3 rfl (lv_at hl 0 rfl) ?_
  refine lv_iload_n hx hb dL_paste_4 rfl (lv_at hl 1 rfl) ?_
  refine lv_iload_n hx hb dL_paste_5 rfl (lv_at hl 2 rfl) ?_
  refine lv_iload_n hx hb dL_paste_6 rfl (lv_at hl 3 rfl) ?_
  refine lv_iload hx hb dL_paste_7 (lv_at hl 4 rfl) ?_
  refine vx_calli (vx_runV (As := [.int h0, .int i0, .int n0, .int s0]) (rest := [.int 0, .ref o]) ⟨hx, hb, hml, hown, hts⟩ (c_X2_paste l hl0 h hNF) (cwV 4 hts gL_paste_X2_paste rfl rfl rfl (by decide +kernel) ⟨Nat.le_of_ble_eq_true rfl, Nat.le_of_ble_eq_true rfl⟩) (Pq.V hC hS hN (va_recv hK hP8 (ci := 2) (q0 := 0) rfl rfl)) rfl rfl hl.1 rfl (lv_room (Nat.le_of_ble_eq_true rfl)) dL_paste_9 ⟨Nat.le_of_ble_eq_true rfl, Nat.le_of_ble_eq_true rfl⟩) hS (fun q _ z => Or.inl z) (fun q z => Or.inl z) (fun q _ z => Or.inl z) (fun E ce q9 u t H locs ht hvm hp9 hB hz9 hk9 hS hcell hv9 hcl => ?_) (fun rr u t H locs ht hvm hw hB hz9 hk9 hS => ?_)
  · obtain ⟨hX, hB⟩ := hB
    rw [ht] at hB
    have ho1 : va_P D vwCl [(o, .inl (cL, 1, .inr (.inl fo)))] H := fun i9 q9 h9 => (ho i9 q9 h9).kept (hk9 q9.1 (ho i9 q9 h9).lt (by cases i9 with | zero => cases h9; exact fun z9 => z9.elim hoF (fun z9 => absurd hos (Nat.not_lt.mpr z9)) | succ i9 => simp at h9))
    have hE : E = eA ∨ E = eS ∨ E = eI := by
      rcases hX with ⟨e9, _⟩ | ⟨_, _, _, _, ⟨e9, _⟩ | ⟨e9, _⟩⟩
      · exact Or.inl e9
      · exact Or.inr (Or.inl e9)
      · exact Or.inr (Or.inr e9)
    rcases hE with rfl | rfl | rfl
    · refine vx_catch (E := eA) (name := eA) hown [] ({ startPc := 0, endPc := 21, handlerPc := 24, catchType := 13 } : ExceptionTableEntry) [({ startPc := 0, endPc := 21, handlerPc := 28, catchType := 22 } : ExceptionTableEntry), ({ startPc := 0, endPc := 21, handlerPc := 32, catchType := 28 } : ExceptionTableEntry)] htab (fun z9 h9 => by cases h9) (by decide) (by decide) (hts _ lk_L_paste_Cond_classLink_RL_13_eA) (hC.word (by decide +kernel) rfl) hcell hv9 hcl ?_
      refine lv_astore (lv' := [(6, .ref q9), (0, .ref x), (1, .int h0), (2, .int i0), (3, .int n0), (4, .int s0), (5, .ref o)]) hx hb dL_paste_24 hl (by decide) rfl (fun ls hl => ?_)
      refine lv_iconst (v := 1) hx hb dL_paste_26 (by decide) ?_
      exact W.iret (v := 1) hx hb hr (fun t ht hW => ⟨⟨_, ((hk, re, kn, sh, k), fo), rfl, Or.inl ⟨eA, hX, Or.inl ⟨rfl, rfl⟩, rfl⟩, by dsimp only; rw [ht]; exact ⟨hB, ho1⟩⟩, hS.F ht⟩) hS.2.2 dL_paste_27
    · refine vx_catch (E := eS) (name := eS) hown [({ startPc := 0, endPc := 21, handlerPc := 24, catchType := 13 } : ExceptionTableEntry)] ({ startPc := 0, endPc := 21, handlerPc := 28, catchType := 22 } : ExceptionTableEntry) [({ startPc := 0, endPc := 21, handlerPc := 32, catchType := 28 } : ExceptionTableEntry)] htab (fun z9 h9 => by
          simp only [List.mem_cons, List.not_mem_nil, or_false] at h9
          rcases h9 with rfl
          · exact Or.inr ⟨by decide, eA, (hts _ lk_L_paste_Cond_classLink_RL_13_eA), hC.ncast (by decide +kernel)⟩) (by decide) (by decide) (hts _ lk_L_paste_Cond_classLink_RL_22_eS) (hC.word (by decide +kernel) rfl) hcell hv9 hcl ?_
      refine lv_astore (lv' := [(6, .ref q9), (0, .ref x), (1, .int h0), (2, .int i0), (3, .int n0), (4, .int s0), (5, .ref o)]) hx hb dL_paste_28 hl (by decide) rfl (fun ls hl => ?_)
      refine lv_iconst (v := 2) hx hb dL_paste_30 (by decide) ?_
      exact W.iret (v := 2) hx hb hr (fun t ht hW => ⟨⟨_, ((hk, re, kn, sh, k), fo), rfl, Or.inl ⟨eS, hX, Or.inr (Or.inl ⟨rfl, rfl⟩), rfl⟩, by dsimp only; rw [ht]; exact ⟨hB, ho1⟩⟩, hS.F ht⟩) hS.2.2 dL_paste_31
    · refine vx_catch (E := eI) (name := eI) hown [({ startPc := 0, endPc := 21, handlerPc := 24, catchType := 13 } : ExceptionTableEntry), ({ startPc := 0, endPc := 21, handlerPc := 28, catchType := 22 } : ExceptionTableEntry)] ({ startPc := 0, endPc := 21, handlerPc := 32, catchType := 28 } : ExceptionTableEntry) [] htab (fun z9 h9 => by
          simp only [List.mem_cons, List.not_mem_nil, or_false] at h9
          rcases h9 with rfl | rfl
          · exact Or.inr ⟨by decide, eA, (hts _ lk_L_paste_Cond_classLink_RL_13_eA), hC.ncast (by decide +kernel)⟩
          · exact Or.inr ⟨by decide, eS, (hts _ lk_L_paste_Cond_classLink_RL_22_eS), hC.ncast (by decide +kernel)⟩) (by decide) (by decide) (hts _ lk_L_paste_Cond_classLink_RL_28_eI) (hC.word (by decide +kernel) rfl) hcell hv9 hcl ?_
      refine lv_astore (lv' := [(6, .ref q9), (0, .ref x), (1, .int h0), (2, .int i0), (3, .int n0), (4, .int s0), (5, .ref o)]) hx hb dL_paste_32 hl (by decide) rfl (fun ls hl => ?_)
      refine lv_iconst (v := 3) hx hb dL_paste_34 (by decide) ?_
      exact W.iret (v := 3) hx hb hr (fun t ht hW => ⟨⟨_, ((hk, re, kn, sh, k), fo), rfl, Or.inl ⟨eI, hX, Or.inr (Or.inr (⟨rfl, rfl⟩)), rfl⟩, by dsimp only; rw [ht]; exact ⟨hB, ho1⟩⟩, hS.F ht⟩) hS.2.2 dL_paste_35
  · rw [ht] at hB
    have ho1 : va_P D vwCl [(o, .inl (cL, 1, .inr (.inl fo)))] H := fun i9 q9 h9 => (ho i9 q9 h9).kept (hk9 q9.1 (ho i9 q9 h9).lt (by cases i9 with | zero => cases h9; exact fun z9 => z9.elim hoF (fun z9 => absurd hos (Nat.not_lt.mpr z9)) | succ i9 => simp at h9))
    refine lv_if_eq (tgt := 19) hx hb dL_paste_12 (by decide) (fun c_12 => ?_) (fun c_12 => ?_)
    · refine lv_lconst (v := 0) hx hb dL_paste_19 (by decide) ?_
      refine ox_last (D := D) hx hb hK ho1 hS (Or.inr rfl) 1 rfl in01 dL_paste_20 (fun H2 locs ho2 hq2 hz2 hS => ?_)
      have hB2 : RSB D cI cL cQ x ah ak b0 b1 b2 b3 b4 (fun q => F q ∨ s.heap.size ≤ q) u H2 := by obtain ⟨u1, u2, u3, u4, u5⟩ := u; exact hB.kept (fun q9 h9 _ => hq2 q9 (fun e9 => by subst e9; exact h9.elim hoF (fun z9 => absurd hos (Nat.not_lt.mpr z9))))
      rw [sb_cl0] at ho2
      refine lv_goto (tgt := 36) hx hb dL_paste_21 (by decide) ?_
      refine lv_iconst (v := 0) hx hb dL_paste_36 (by decide) ?_
      exact W.iret (v := 0) hx hb hr (fun t ht hW => ⟨⟨_, (u, vp_updL fo 0 0), rfl, Or.inr ⟨rfl, rr, hw, by rw [if_pos c_12]⟩, by dsimp only; rw [ht]; exact ⟨hB2, ho2⟩⟩, hS.F ht⟩) hS.2.2 dL_paste_37
    · refine lv_lconst (v := 1) hx hb dL_paste_15 (by decide) ?_
      refine lv_goto (tgt := 20) hx hb dL_paste_16 (by decide) ?_
      refine ox_last (D := D) hx hb hK ho1 hS (Or.inr rfl) 1 rfl in01 dL_paste_20 (fun H2 locs ho2 hq2 hz2 hS => ?_)
      have hB2 : RSB D cI cL cQ x ah ak b0 b1 b2 b3 b4 (fun q => F q ∨ s.heap.size ≤ q) u H2 := by obtain ⟨u1, u2, u3, u4, u5⟩ := u; exact hB.kept (fun q9 h9 _ => hq2 q9 (fun e9 => by subst e9; exact h9.elim hoF (fun z9 => absurd hos (Nat.not_lt.mpr z9))))
      rw [sb_cl0] at ho2
      refine lv_goto (tgt := 36) hx hb dL_paste_21 (by decide) ?_
      refine lv_iconst (v := 0) hx hb dL_paste_36 (by decide) ?_
      exact W.iret (v := 0) hx hb hr (fun t ht hW => ⟨⟨_, (u, vp_updL fo 0 1), rfl, Or.inr ⟨rfl, rr, hw, by rw [if_neg c_12]⟩, by dsimp only; rw [ht]; exact ⟨hB2, ho2⟩⟩, hS.F ht⟩) hS.2.2 dL_paste_37
theorem lk_L_pull_Cond_classLink_RL_13_eA : Cond.classLink RL 13 eA ∈ wsL_pull := by decide +kernel
theorem lk_L_pull_Cond_classLink_RL_22_eS : Cond.classLink RL 22 eS ∈ wsL_pull := by decide +kernel
theorem lk_L_pull_Cond_classLink_RL_28_eI : Cond.classLink RL 28 eI ∈ wsL_pull := by decide +kernel
theorem lk_L_pull_cw : Cond.codeWith yL_pull cL_pull 5 (some .int) [(0, 17, 20, 13), (0, 17, 24, 22), (0, 17, 28, 28)] ∈ wsL_pull := by decide +kernel
set_option maxHeartbeats 4000000 in
set_option maxRecDepth 100000 in
theorem c_L_pull (l : Launch) {D : va_G} {cI cL cQ : ClassId} {N0 : Nat} {sa : Nat → Nat} {Hc : Heap} (hl0 : l.stackTraces = false) {x ah ak b0 b1 b2 b3 b4 : Nat} {F : Nat → Prop} {hk : Nat → Option Nat} {re : Nat → RE} {kn : Nat → Int32} {sh : Nat → Nat → Int32} {k : Int32} (h : RSB D cI cL cQ x ah ak b0 b1 b2 b3 b4 F (hk, re, kn, sh, k) Hc) (hNF : ∀ q, F q ∨ Hc.size ≤ q → N0 ≤ q) {o : Nat} {fo : Nat → Int64} (ho : va_P D vwCl [(o, .inl (cL, 1, .inr (.inl fo)))] Hc) (hoF : ¬ F o) (hoN : N0 ≤ o) {h0 i0 : Int32} : Met l yL_pull wsL_pull ({ frames := 8, cells := 3, slots := 18, locals := 134 }) (Pq D cI cL cQ N0 sa [.ref x, .int h0, .int i0, .ref o] Hc) (va_Qi (fun (r : Int32) (u : CS × (Nat → Int64)) => (∃ E : String, ((E = eA ∧ ¬ okH h0) ∨ (∃ j1 : Nat, j1 < 6 ∧ h0 = nI j1 ∧ ((E = eS ∧ (hk j1 = none ∨ ∃ r1 : Nat, hk j1 = some r1 ∧ ¬ ((re r1).1 = 3 ∨ (re r1).1 = 4))) ∨ (E = eI ∧ ∃ r1 : Nat, hk j1 = some r1 ∧ ((re r1).1 = 3 ∨ (re r1).1 = 4) ∧ ¬ okF i0 (re r1).2.2.1)))) ∧ ((E = eA ∧ r = 1) ∨ (E = eS ∧ r = 2) ∨ (E = eI ∧ r = 3)) ∧ u = ((hk, re, kn, sh, k), fo)) ∨ (r = 0 ∧ ∃ rr : Int32, (∃ j1 r1 i1 : Nat, j1 < 6 ∧ h0 = nI j1 ∧ hk j1 = some r1 ∧ ((re r1).1 = 3 ∨ (re r1).1 = 4) ∧ i1 < (re r1).2.2.1 ∧ i0 = nI i1 ∧ rr = tB (¬ (re r1).2.2.2 i1 = -1) ∧ u.1 = (hk, va_up re r1 ((re r1).1, (re r1).2.1, (re r1).2.2.1, vp_updL (re r1).2.2.2 i1 (-1)), kn, sh, k)) ∧ u.2 = vp_updL fo 0 (if rr = 0 then 0 else 1))) (fun u t => RSB D cI cL cQ x ah ak b0 b1 b2 b3 b4 (fun q => F q ∨ Hc.size ≤ q) u.1 t.heap ∧ va_P D vwCl [(o, .inl (cL, 1, .inr (.inl u.2)))] t.heap) (fun q => (F q ∨ Hc.size ≤ q) ∨ q = o)) 3 18 (fun q => (F q ∨ Hc.size ≤ q) ∨ q = o) := by
  refine va_MetW (cc := cL_pull) (maxL := 5) (ret := (some .int)) (by decide) rfl ?_
  intro p e s m args below meth c s₁ B hml hv
  obtain ⟨rfl, hH, hC⟩ := hv
  have hx := B.exec
  have hb := B.bytes
  have hr := B.returns
  have hts := atoms_spec (ws := wsL_pull) B.pre
  have hown : s.vm.findClass RL = some m.cls := findClass_of_methodNamed B.named
  have hlocks := B.notSynchronized
  subst hH
  have hK := hC.K
  have htab := vx_table (x := yL_pull) B (hts _ lk_L_pull_cw)
  have hl := lv_entry ([.ref x, .int h0, .int i0, .ref o]) (n := 5) (Nat.le_of_ble_eq_true rfl)
  rw [lg_entry_eq]
  generalize (lg_sl ([.ref x, .int h0, .int i0, .ref o]) ++ List.replicate (5 - (lg_sl ([.ref x, .int h0, .int i0, .ref o])).length) Slot.unset).toArray = ls at hl ⊢
  have hl : lv_has ls 5 [(0, .ref x), (1, .int h0), (2, .int i0), (3, .ref o)] := hl
  have hS : va_S (fun q => (F q ∨ s.heap.size ≤ q) ∨ q = o) s.heap s.heap [] := va_S.rf
  have hN : ∀ q, (fun q => (F q ∨ s.heap.size ≤ q) ∨ q = o) q → N0 ≤ q := fun q z => z.elim (hNF q) (fun e9 => e9 ▸ hoN)
  have hos : o < s.heap.size := (ho 0 _ rfl).lt
  have hP8 := h.P8
  refine lv_aload_n hx hb dL_pull_0 rfl (lv_at hl 3 rfl) ?_
  refine lv_iconst (v := 0) hx hb dL_pull_1 (by decide) ?_
  refine lv_aload_n hx hb dL_pull_2 rfl (lv_at hl 0 rfl) ?_
  refine lv_iload_n hx hb dL_pull_3 rfl (lv_at hl 1 rfl) ?_
  refine lv_iload_n hx hb dL_pull_4 rfl (lv_at hl 2 rfl) ?_
  refine vx_calli (vx_runV (As := [.int h0, .int i0]) (rest := [.int 0, .ref o]) ⟨hx, hb, hml, hown, hts⟩ (c_X2_pull l hl0 h hNF) (cwV 2 hts gL_pull_X2_pull rfl rfl rfl (by decide +kernel) ⟨Nat.le_of_ble_eq_true rfl, Nat.le_of_ble_eq_true rfl⟩) (Pq.V hC hS hN (va_recv hK hP8 (ci := 2) (q0 := 0) rfl rfl)) rfl rfl hl.1 rfl (lv_room (Nat.le_of_ble_eq_true rfl)) dL_pull_5 ⟨Nat.le_of_ble_eq_true rfl, Nat.le_of_ble_eq_true rfl⟩) hS (fun q _ z => Or.inl z) (fun q z => Or.inl z) (fun q _ z => Or.inl z) (fun E ce q9 u t H locs ht hvm hp9 hB hz9 hk9 hS hcell hv9 hcl => ?_) (fun rr u t H locs ht hvm hw hB hz9 hk9 hS => ?_)
  · obtain ⟨hX, hB⟩ := hB
    rw [ht] at hB
    have ho1 : va_P D vwCl [(o, .inl (cL, 1, .inr (.inl fo)))] H := fun i9 q9 h9 => (ho i9 q9 h9).kept (hk9 q9.1 (ho i9 q9 h9).lt (by cases i9 with | zero => cases h9; exact fun z9 => z9.elim hoF (fun z9 => absurd hos (Nat.not_lt.mpr z9)) | succ i9 => simp at h9))
    have hE : E = eA ∨ E = eS ∨ E = eI := by
      rcases hX with ⟨e9, _⟩ | ⟨_, _, _, ⟨e9, _⟩ | ⟨e9, _⟩⟩
      · exact Or.inl e9
      · exact Or.inr (Or.inl e9)
      · exact Or.inr (Or.inr e9)
    rcases hE with rfl | rfl | rfl
    · refine vx_catch (E := eA) (name := eA) hown [] ({ startPc := 0, endPc := 17, handlerPc := 20, catchType := 13 } : ExceptionTableEntry) [({ startPc := 0, endPc := 17, handlerPc := 24, catchType := 22 } : ExceptionTableEntry), ({ startPc := 0, endPc := 17, handlerPc := 28, catchType := 28 } : ExceptionTableEntry)] htab (fun z9 h9 => by cases h9) (by decide) (by decide) (hts _ lk_L_pull_Cond_classLink_RL_13_eA) (hC.word (by decide +kernel) rfl) hcell hv9 hcl ?_
      refine lv_astore (lv' := [(4, .ref q9), (0, .ref x), (1, .int h0), (2, .int i0), (3, .ref o)]) hx hb dL_pull_20 hl (by decide) rfl (fun ls hl => ?_)
      refine lv_iconst (v := 1) hx hb dL_pull_22 (by decide) ?_
      exact W.iret (v := 1) hx hb hr (fun t ht hW => ⟨⟨_, ((hk, re, kn, sh, k), fo), rfl, Or.inl ⟨eA, hX, Or.inl ⟨rfl, rfl⟩, rfl⟩, by dsimp only; rw [ht]; exact ⟨hB, ho1⟩⟩, hS.F ht⟩) hS.2.2 dL_pull_23
    · refine vx_catch (E := eS) (name := eS) hown [({ startPc := 0, endPc := 17, handlerPc := 20, catchType := 13 } : ExceptionTableEntry)] ({ startPc := 0, endPc := 17, handlerPc := 24, catchType := 22 } : ExceptionTableEntry) [({ startPc := 0, endPc := 17, handlerPc := 28, catchType := 28 } : ExceptionTableEntry)] htab (fun z9 h9 => by
          simp only [List.mem_cons, List.not_mem_nil, or_false] at h9
          rcases h9 with rfl
          · exact Or.inr ⟨by decide, eA, (hts _ lk_L_pull_Cond_classLink_RL_13_eA), hC.ncast (by decide +kernel)⟩) (by decide) (by decide) (hts _ lk_L_pull_Cond_classLink_RL_22_eS) (hC.word (by decide +kernel) rfl) hcell hv9 hcl ?_
      refine lv_astore (lv' := [(4, .ref q9), (0, .ref x), (1, .int h0), (2, .int i0), (3, .ref o)]) hx hb dL_pull_24 hl (by decide) rfl (fun ls hl => ?_)
      refine lv_iconst (v := 2) hx hb dL_pull_26 (by decide) ?_
      exact W.iret (v := 2) hx hb hr (fun t ht hW => ⟨⟨_, ((hk, re, kn, sh, k), fo), rfl, Or.inl ⟨eS, hX, Or.inr (Or.inl ⟨rfl, rfl⟩), rfl⟩, by dsimp only; rw [ht]; exact ⟨hB, ho1⟩⟩, hS.F ht⟩) hS.2.2 dL_pull_27
    · refine vx_catch (E := eI) (name := eI) hown [({ startPc := 0, endPc := 17, handlerPc := 20, catchType := 13 } : ExceptionTableEntry), ({ startPc := 0, endPc := 17, handlerPc := 24, catchType := 22 } : ExceptionTableEntry)] ({ startPc := 0, endPc := 17, handlerPc := 28, catchType := 28 } : ExceptionTableEntry) [] htab (fun z9 h9 => by
          simp only [List.mem_cons, List.not_mem_nil, or_false] at h9
          rcases h9 with rfl | rfl
          · exact Or.inr ⟨by decide, eA, (hts _ lk_L_pull_Cond_classLink_RL_13_eA), hC.ncast (by decide +kernel)⟩
          · exact Or.inr ⟨by decide, eS, (hts _ lk_L_pull_Cond_classLink_RL_22_eS), hC.ncast (by decide +kernel)⟩) (by decide) (by decide) (hts _ lk_L_pull_Cond_classLink_RL_28_eI) (hC.word (by decide +kernel) rfl) hcell hv9 hcl ?_
      refine lv_astore (lv' := [(4, .ref q9), (0, .ref x), (1, .int h0), (2, .int i0), (3, .ref o)]) hx hb dL_pull_28 hl (by decide) rfl (fun ls hl => ?_)
      refine lv_iconst (v := 3) hx hb dL_pull_30 (by decide) ?_
      exact W.iret (v := 3) hx hb hr (fun t ht hW => ⟨⟨_, ((hk, re, kn, sh, k), fo), rfl, Or.inl ⟨eI, hX, Or.inr (Or.inr (⟨rfl, rfl⟩)), rfl⟩, by dsimp only; rw [ht]; exact ⟨hB, ho1⟩⟩, hS.F ht⟩) hS.2.2 dL_pull_31
  · rw [ht] at hB
    have ho1 : va_P D vwCl [(o, .inl (cL, 1, .inr (.inl fo)))] H := fun i9 q9 h9 => (ho i9 q9 h9).kept (hk9 q9.1 (ho i9 q9 h9).lt (by cases i9 with | zero => cases h9; exact fun z9 => z9.elim hoF (fun z9 => absurd hos (Nat.not_lt.mpr z9)) | succ i9 => simp at h9))
    refine lv_if_eq (tgt := 15) hx hb dL_pull_8 (by decide) (fun c_8 => ?_) (fun c_8 => ?_)
    · refine lv_lconst (v := 0) hx hb dL_pull_15 (by decide) ?_
      refine ox_last (D := D) hx hb hK ho1 hS (Or.inr rfl) 1 rfl in01 dL_pull_16 (fun H2 locs ho2 hq2 hz2 hS => ?_)
      have hB2 : RSB D cI cL cQ x ah ak b0 b1 b2 b3 b4 (fun q => F q ∨ s.heap.size ≤ q) u H2 := by obtain ⟨u1, u2, u3, u4, u5⟩ := u; exact hB.kept (fun q9 h9 _ => hq2 q9 (fun e9 => by subst e9; exact h9.elim hoF (fun z9 => absurd hos (Nat.not_lt.mpr z9))))
      rw [sb_cl0] at ho2
      refine lv_goto (tgt := 32) hx hb dL_pull_17 (by decide) ?_
      refine lv_iconst (v := 0) hx hb dL_pull_32 (by decide) ?_
      exact W.iret (v := 0) hx hb hr (fun t ht hW => ⟨⟨_, (u, vp_updL fo 0 0), rfl, Or.inr ⟨rfl, rr, hw, by rw [if_pos c_8]⟩, by dsimp only; rw [ht]; exact ⟨hB2, ho2⟩⟩, hS.F ht⟩) hS.2.2 dL_pull_33
    · refine lv_lconst (v := 1) hx hb dL_pull_11 (by decide) ?_
      refine lv_goto (tgt := 16) hx hb dL_pull_12 (by decide) ?_
      refine ox_last (D := D) hx hb hK ho1 hS (Or.inr rfl) 1 rfl in01 dL_pull_16 (fun H2 locs ho2 hq2 hz2 hS => ?_)
      have hB2 : RSB D cI cL cQ x ah ak b0 b1 b2 b3 b4 (fun q => F q ∨ s.heap.size ≤ q) u H2 := by obtain ⟨u1, u2, u3, u4, u5⟩ := u; exact hB.kept (fun q9 h9 _ => hq2 q9 (fun e9 => by subst e9; exact h9.elim hoF (fun z9 => absurd hos (Nat.not_lt.mpr z9))))
      rw [sb_cl0] at ho2
      refine lv_goto (tgt := 32) hx hb dL_pull_17 (by decide) ?_
      refine lv_iconst (v := 0) hx hb dL_pull_32 (by decide) ?_
      exact W.iret (v := 0) hx hb hr (fun t ht hW => ⟨⟨_, (u, vp_updL fo 0 1), rfl, Or.inr ⟨rfl, rr, hw, by rw [if_neg c_8]⟩, by dsimp only; rw [ht]; exact ⟨hB2, ho2⟩⟩, hS.F ht⟩) hS.2.2 dL_pull_33
theorem lk_L_splice_Cond_classLink_RL_13_eA : Cond.classLink RL 13 eA ∈ wsL_splice := by decide +kernel
theorem lk_L_splice_Cond_classLink_RL_22_eS : Cond.classLink RL 22 eS ∈ wsL_splice := by decide +kernel
theorem lk_L_splice_cw : Cond.codeWith yL_splice cL_splice 8 (some .int) [(0, 16, 19, 13), (0, 16, 23, 22)] ∈ wsL_splice := by decide +kernel
set_option maxHeartbeats 4000000 in
set_option maxRecDepth 100000 in
theorem c_L_splice (l : Launch) {D : va_G} {cI cL cQ : ClassId} {N0 : Nat} {sa : Nat → Nat} {Hc : Heap} (hl0 : l.stackTraces = false) {x ah ak b0 b1 b2 b3 b4 : Nat} {F : Nat → Prop} {hk : Nat → Option Nat} {re : Nat → RE} {kn : Nat → Int32} {sh : Nat → Nat → Int32} {k : Int32} (h : RSB D cI cL cQ x ah ak b0 b1 b2 b3 b4 F (hk, re, kn, sh, k) Hc) (hNF : ∀ q, F q ∨ Hc.size ≤ q → N0 ≤ q) {o : Nat} {fo : Nat → Int64} (ho : va_P D vwCl [(o, .inl (cL, 1, .inr (.inl fo)))] Hc) (hoF : ¬ F o) (hoN : N0 ≤ o) {h0 p0 o0 q0 n0 : Int32} : Met l yL_splice wsL_splice ({ frames := 8, cells := 3, slots := 18, locals := 150 }) (Pq D cI cL cQ N0 sa [.ref x, .int h0, .int p0, .int o0, .int q0, .int n0, .ref o] Hc) (va_Qi (fun (r : Int32) (u : CS × (Nat → Int64)) => (∃ E : String, ((E = eA ∧ ¬ (okH h0 ∧ okH o0)) ∨ (E = eS ∧ okH h0 ∧ okH o0 ∧ 3 ≤ kn 3)) ∧ ((E = eA ∧ r = 1) ∨ (E = eS ∧ r = 2)) ∧ u = ((hk, re, kn, sh, k), fo)) ∨ (r = 0 ∧ ∃ rr : Int32, (∃ j1 i1 : Nat, j1 < 6 ∧ i1 < 6 ∧ h0 = nI j1 ∧ o0 = nI i1 ∧ ¬ 3 ≤ kn 3 ∧ ∃ k1 : Nat, CutRel re (hk j1) (hk i1) p0 q0 n0 k1 rr ∧ u.1 = (hk, cutRe re (hk j1) (hk i1) p0 q0 k1, knUp kn k1 rr, sh, k)) ∧ u.2 = vp_updL fo 0 rr.toInt64)) (fun u t => RSB D cI cL cQ x ah ak b0 b1 b2 b3 b4 (fun q => F q ∨ Hc.size ≤ q) u.1 t.heap ∧ va_P D vwCl [(o, .inl (cL, 1, .inr (.inl u.2)))] t.heap) (fun q => (F q ∨ Hc.size ≤ q) ∨ q = o)) 3 18 (fun q => (F q ∨ Hc.size ≤ q) ∨ q = o) := by
  refine va_MetW (cc := cL_splice) (maxL := 8) (ret := (some .int)) (by decide) rfl ?_
  intro p e s m args below meth c s₁ B hml hv
  obtain ⟨rfl, hH, hC⟩ := hv
  have hx := B.exec
  have hb := B.bytes
  have hr := B.returns
  have hts := atoms_spec (ws := wsL_splice) B.pre
  have hown : s.vm.findClass RL = some m.cls := findClass_of_methodNamed B.named
  have hlocks := B.notSynchronized
  subst hH
  have hK := hC.K
  have htab := vx_table (x := yL_splice) B (hts _ lk_L_splice_cw)
  have hl := lv_entry ([.ref x, .int h0, .int p0, .int o0, .int q0, .int n0, .ref o]) (n := 8) (Nat.le_of_ble_eq_true rfl)
  rw [lg_entry_eq]
  generalize (lg_sl ([.ref x, .int h0, .int p0, .int o0, .int q0, .int n0, .ref o]) ++ List.replicate (8 - (lg_sl ([.ref x, .int h0, .int p0, .int o0, .int q0, .int n0, .ref o])).length) Slot.unset).toArray = ls at hl ⊢
  have hl : lv_has ls 8 [(0, .ref x), (1, .int h0), (2, .int p0), (3, .int o0), (4, .int q0), (5, .int n0), (6, .ref o)] := hl
  have hS : va_S (fun q => (F q ∨ s.heap.size ≤ q) ∨ q = o) s.heap s.heap [] := va_S.rf
  have hN : ∀ q, (fun q => (F q ∨ s.heap.size ≤ q) ∨ q = o) q → N0 ≤ q := fun q z => z.elim (hNF q) (fun e9 => e9 ▸ hoN)
  have hos : o < s.heap.size := (ho 0 _ rfl).lt
  have hP8 := h.P8
  refine lv_aload hx hb dL_splice_0 (lv_at hl 6 rfl) ?_
  refine lv_iconst (v := 0) hx hb dL_splice_2 (by decide) ?_
  refine lv_aload_n hx hb dL_splice_3 rfl (lv_at hl 0 rfl) ?_
  refine lv_iload_n hx hb dL_splice_4 rfl (lv_at hl 1 rfl) ?_
  refine lv_iload_n hx hb dL_splice_5 rfl (lv_at hl 2 rfl) ?_
  refine lv_iload_n hx hb dL_splice_6 rfl (lv_at hl 3 rfl) ?_
  refine lv_iload hx hb dL_splice_7 (lv_at hl 4 rfl) ?_
  refine lv_iload hx hb dL_splice_9 (lv_at hl 5 rfl) ?_
  refine vx_calli (vx_runV (As := [.int h0, .int p0, .int o0, .int q0, .int n0]) (rest := [.int 0, .ref o]) ⟨hx, hb, hml, hown, hts⟩ (c_X2_splice l hl0 h hNF) (cwV 5 hts gL_splice_X2_splice rfl rfl rfl (by decide +kernel) ⟨Nat.le_of_ble_eq_true rfl, Nat.le_of_ble_eq_true rfl⟩) (Pq.V hC hS hN (va_recv hK hP8 (ci := 2) (q0 := 0) rfl rfl)) rfl rfl hl.1 rfl (lv_room (Nat.le_of_ble_eq_true rfl)) dL_splice_11 ⟨Nat.le_of_ble_eq_true rfl, Nat.le_of_ble_eq_true rfl⟩) hS (fun q _ z => Or.inl z) (fun q z => Or.inl z) (fun q _ z => Or.inl z) (fun E ce q9 u t H locs ht hvm hp9 hB hz9 hk9 hS hcell hv9 hcl => ?_) (fun rr u t H locs ht hvm hw hB hz9 hk9 hS => ?_)
  · obtain ⟨hX, hB⟩ := hB
    rw [ht] at hB
    have ho1 : va_P D vwCl [(o, .inl (cL, 1, .inr (.inl fo)))] H := fun i9 q9 h9 => (ho i9 q9 h9).kept (hk9 q9.1 (ho i9 q9 h9).lt (by cases i9 with | zero => cases h9; exact fun z9 => z9.elim hoF (fun z9 => absurd hos (Nat.not_lt.mpr z9)) | succ i9 => simp at h9))
    have hE : E = eA ∨ E = eS := by
      rcases hX with ⟨e9, _⟩ | ⟨e9, _⟩
      · exact Or.inl e9
      · exact Or.inr e9
    rcases hE with rfl | rfl
    · refine vx_catch (E := eA) (name := eA) hown [] ({ startPc := 0, endPc := 16, handlerPc := 19, catchType := 13 } : ExceptionTableEntry) [({ startPc := 0, endPc := 16, handlerPc := 23, catchType := 22 } : ExceptionTableEntry)] htab (fun z9 h9 => by cases h9) (by decide) (by decide) (hts _ lk_L_splice_Cond_classLink_RL_13_eA) (hC.word (by decide +kernel) rfl) hcell hv9 hcl ?_
      refine lv_astore (lv' := [(7, .ref q9), (0, .ref x), (1, .int h0), (2, .int p0), (3, .int o0), (4, .int q0), (5, .int n0), (6, .ref o)]) hx hb dL_splice_19 hl (by decide) rfl (fun ls hl => ?_)
      refine lv_iconst (v := 1) hx hb dL_splice_21 (by decide) ?_
      exact W.iret (v := 1) hx hb hr (fun t ht hW => ⟨⟨_, ((hk, re, kn, sh, k), fo), rfl, Or.inl ⟨eA, hX, Or.inl ⟨rfl, rfl⟩, rfl⟩, by dsimp only; rw [ht]; exact ⟨hB, ho1⟩⟩, hS.F ht⟩) hS.2.2 dL_splice_22
    · refine vx_catch (E := eS) (name := eS) hown [({ startPc := 0, endPc := 16, handlerPc := 19, catchType := 13 } : ExceptionTableEntry)] ({ startPc := 0, endPc := 16, handlerPc := 23, catchType := 22 } : ExceptionTableEntry) [] htab (fun z9 h9 => by
          simp only [List.mem_cons, List.not_mem_nil, or_false] at h9
          rcases h9 with rfl
          · exact Or.inr ⟨by decide, eA, (hts _ lk_L_splice_Cond_classLink_RL_13_eA), hC.ncast (by decide +kernel)⟩) (by decide) (by decide) (hts _ lk_L_splice_Cond_classLink_RL_22_eS) (hC.word (by decide +kernel) rfl) hcell hv9 hcl ?_
      refine lv_astore (lv' := [(7, .ref q9), (0, .ref x), (1, .int h0), (2, .int p0), (3, .int o0), (4, .int q0), (5, .int n0), (6, .ref o)]) hx hb dL_splice_23 hl (by decide) rfl (fun ls hl => ?_)
      refine lv_iconst (v := 2) hx hb dL_splice_25 (by decide) ?_
      exact W.iret (v := 2) hx hb hr (fun t ht hW => ⟨⟨_, ((hk, re, kn, sh, k), fo), rfl, Or.inl ⟨eS, hX, Or.inr (⟨rfl, rfl⟩), rfl⟩, by dsimp only; rw [ht]; exact ⟨hB, ho1⟩⟩, hS.F ht⟩) hS.2.2 dL_splice_26
  · rw [ht] at hB
    have ho1 : va_P D vwCl [(o, .inl (cL, 1, .inr (.inl fo)))] H := fun i9 q9 h9 => (ho i9 q9 h9).kept (hk9 q9.1 (ho i9 q9 h9).lt (by cases i9 with | zero => cases h9; exact fun z9 => z9.elim hoF (fun z9 => absurd hos (Nat.not_lt.mpr z9)) | succ i9 => simp at h9))
    refine lv_i2l hx hb dL_splice_14 rfl ?_
    refine ox_last (D := D) hx hb hK ho1 hS (Or.inr rfl) 1 rfl in01 dL_splice_15 (fun H2 locs ho2 hq2 hz2 hS => ?_)
    have hB2 : RSB D cI cL cQ x ah ak b0 b1 b2 b3 b4 (fun q => F q ∨ s.heap.size ≤ q) u H2 := by obtain ⟨u1, u2, u3, u4, u5⟩ := u; exact hB.kept (fun q9 h9 _ => hq2 q9 (fun e9 => by subst e9; exact h9.elim hoF (fun z9 => absurd hos (Nat.not_lt.mpr z9))))
    rw [sb_cl0] at ho2
    refine lv_goto (tgt := 27) hx hb dL_splice_16 (by decide) ?_
    refine lv_iconst (v := 0) hx hb dL_splice_27 (by decide) ?_
    exact W.iret (v := 0) hx hb hr (fun t ht hW => ⟨⟨_, (u, vp_updL fo 0 rr.toInt64), rfl, Or.inr ⟨rfl, rr, hw, rfl⟩, by dsimp only; rw [ht]; exact ⟨hB2, ho2⟩⟩, hS.F ht⟩) hS.2.2 dL_splice_28
theorem lk_L_step_Cond_classLink_RL_13_eA : Cond.classLink RL 13 eA ∈ wsL_step := by decide +kernel
theorem lk_L_step_Cond_classLink_RL_22_eS : Cond.classLink RL 22 eS ∈ wsL_step := by decide +kernel
theorem lk_L_step_cw : Cond.codeWith yL_step cL_step 8 (some .int) [(0, 16, 19, 13), (0, 16, 23, 22)] ∈ wsL_step := by decide +kernel
set_option maxHeartbeats 4000000 in
set_option maxRecDepth 100000 in
theorem c_L_step (l : Launch) {D : va_G} {cI cL cQ : ClassId} {N0 : Nat} {sa : Nat → Nat} {Hc : Heap} (hl0 : l.stackTraces = false) {x ah ak b0 b1 b2 b3 b4 : Nat} {F : Nat → Prop} {hk : Nat → Option Nat} {re : Nat → RE} {kn : Nat → Int32} {sh : Nat → Nat → Int32} {k : Int32} (h : RSB D cI cL cQ x ah ak b0 b1 b2 b3 b4 F (hk, re, kn, sh, k) Hc) (hNF : ∀ q, F q ∨ Hc.size ≤ q → N0 ≤ q) {o : Nat} {fo : Nat → Int64} (ho : va_P D vwCl [(o, .inl (cL, 1, .inr (.inl fo)))] Hc) (hoF : ¬ F o) (hoN : N0 ≤ o) {h0 p0 o0 q0 n0 : Int32} (hkn : ∃ n : Nat, n ≤ 24 ∧ k = nI n) : Met l yL_step wsL_step ({ frames := 8, cells := 3, slots := 18, locals := 135 }) (Pq D cI cL cQ N0 sa [.ref x, .int h0, .int p0, .int o0, .int q0, .int n0, .ref o] Hc) (va_Qi (fun (r : Int32) (u : CS × (Nat → Int64)) => (∃ E : String, ((E = eA ∧ ¬ (okH h0 ∧ okH o0)) ∨ (E = eS ∧ okH h0 ∧ okH o0 ∧ ¬ k < 24)) ∧ ((E = eA ∧ r = 1) ∨ (E = eS ∧ r = 2)) ∧ u = ((hk, re, kn, sh, k), fo)) ∨ (r = 0 ∧ ∃ rr : Int32, (∃ j1 i1 : Nat, j1 < 6 ∧ i1 < 6 ∧ h0 = nI j1 ∧ o0 = nI i1 ∧ k < 24 ∧ rr = k + 1 ∧ ∃ n1 : Nat, n1 ≤ 24 ∧ k = nI n1 ∧ u.1 = (hk, re, kn, shUp sh n1 h0 p0 o0 q0 n0, k + 1)) ∧ u.2 = vp_updL fo 0 rr.toInt64)) (fun u t => RSB D cI cL cQ x ah ak b0 b1 b2 b3 b4 (fun q => F q ∨ Hc.size ≤ q) u.1 t.heap ∧ va_P D vwCl [(o, .inl (cL, 1, .inr (.inl u.2)))] t.heap) (fun q => (F q ∨ Hc.size ≤ q) ∨ q = o)) 3 18 (fun q => (F q ∨ Hc.size ≤ q) ∨ q = o) := by
  refine va_MetW (cc := cL_step) (maxL := 8) (ret := (some .int)) (by decide) rfl ?_
  intro p e s m args below meth c s₁ B hml hv
  obtain ⟨rfl, hH, hC⟩ := hv
  have hx := B.exec
  have hb := B.bytes
  have hr := B.returns
  have hts := atoms_spec (ws := wsL_step) B.pre
  have hown : s.vm.findClass RL = some m.cls := findClass_of_methodNamed B.named
  have hlocks := B.notSynchronized
  subst hH
  have hK := hC.K
  have htab := vx_table (x := yL_step) B (hts _ lk_L_step_cw)
  have hl := lv_entry ([.ref x, .int h0, .int p0, .int o0, .int q0, .int n0, .ref o]) (n := 8) (Nat.le_of_ble_eq_true rfl)
  rw [lg_entry_eq]
  generalize (lg_sl ([.ref x, .int h0, .int p0, .int o0, .int q0, .int n0, .ref o]) ++ List.replicate (8 - (lg_sl ([.ref x, .int h0, .int p0, .int o0, .int q0, .int n0, .ref o])).length) Slot.unset).toArray = ls at hl ⊢
  have hl : lv_has ls 8 [(0, .ref x), (1, .int h0), (2, .int p0), (3, .int o0), (4, .int q0), (5, .int n0), (6, .ref o)] := hl
  have hS : va_S (fun q => (F q ∨ s.heap.size ≤ q) ∨ q = o) s.heap s.heap [] := va_S.rf
  have hN : ∀ q, (fun q => (F q ∨ s.heap.size ≤ q) ∨ q = o) q → N0 ≤ q := fun q z => z.elim (hNF q) (fun e9 => e9 ▸ hoN)
  have hos : o < s.heap.size := (ho 0 _ rfl).lt
  have hP8 := h.P8
  refine lv_aload hx hb dL_step_0 (lv_at hl 6 rfl) ?_
  refine lv_iconst (v := 0) hx hb dL_step_2 (by decide) ?_
  refine lv_aload_n hx hb dL_step_3 rfl (lv_at hl 0 rfl) ?_
  refine lv_iload_n hx hb dL_step_4 rfl (lv_at hl 1 rfl) ?_
  refine lv_iload_n hx hb dL_step_5 rfl (lv_at hl 2 rfl) ?_
  refine lv_iload_n hx hb dL_step_6 rfl (lv_at hl 3 rfl) ?_
  refine lv_iload hx hb dL_step_7 (lv_at hl 4 rfl) ?_
  refine lv_iload hx hb dL_step_9 (lv_at hl 5 rfl) ?_
  refine vx_calli (vx_runV (As := [.int h0, .int p0, .int o0, .int q0, .int n0]) (rest := [.int 0, .ref o]) ⟨hx, hb, hml, hown, hts⟩ (c_X2_step l hl0 h hNF hkn) (cwV 5 hts gL_step_X2_step rfl rfl rfl (by decide +kernel) ⟨Nat.le_of_ble_eq_true rfl, Nat.le_of_ble_eq_true rfl⟩) (Pq.V hC hS hN (va_recv hK hP8 (ci := 2) (q0 := 0) rfl rfl)) rfl rfl hl.1 rfl (lv_room (Nat.le_of_ble_eq_true rfl)) dL_step_11 ⟨Nat.le_of_ble_eq_true rfl, Nat.le_of_ble_eq_true rfl⟩) hS (fun q _ z => Or.inl z) (fun q z => Or.inl z) (fun q _ z => Or.inl z) (fun E ce q9 u t H locs ht hvm hp9 hB hz9 hk9 hS hcell hv9 hcl => ?_) (fun rr u t H locs ht hvm hw hB hz9 hk9 hS => ?_)
  · obtain ⟨hX, hB⟩ := hB
    rw [ht] at hB
    have ho1 : va_P D vwCl [(o, .inl (cL, 1, .inr (.inl fo)))] H := fun i9 q9 h9 => (ho i9 q9 h9).kept (hk9 q9.1 (ho i9 q9 h9).lt (by cases i9 with | zero => cases h9; exact fun z9 => z9.elim hoF (fun z9 => absurd hos (Nat.not_lt.mpr z9)) | succ i9 => simp at h9))
    have hE : E = eA ∨ E = eS := by
      rcases hX with ⟨e9, _⟩ | ⟨e9, _⟩
      · exact Or.inl e9
      · exact Or.inr e9
    rcases hE with rfl | rfl
    · refine vx_catch (E := eA) (name := eA) hown [] ({ startPc := 0, endPc := 16, handlerPc := 19, catchType := 13 } : ExceptionTableEntry) [({ startPc := 0, endPc := 16, handlerPc := 23, catchType := 22 } : ExceptionTableEntry)] htab (fun z9 h9 => by cases h9) (by decide) (by decide) (hts _ lk_L_step_Cond_classLink_RL_13_eA) (hC.word (by decide +kernel) rfl) hcell hv9 hcl ?_
      refine lv_astore (lv' := [(7, .ref q9), (0, .ref x), (1, .int h0), (2, .int p0), (3, .int o0), (4, .int q0), (5, .int n0), (6, .ref o)]) hx hb dL_step_19 hl (by decide) rfl (fun ls hl => ?_)
      refine lv_iconst (v := 1) hx hb dL_step_21 (by decide) ?_
      exact W.iret (v := 1) hx hb hr (fun t ht hW => ⟨⟨_, ((hk, re, kn, sh, k), fo), rfl, Or.inl ⟨eA, hX, Or.inl ⟨rfl, rfl⟩, rfl⟩, by dsimp only; rw [ht]; exact ⟨hB, ho1⟩⟩, hS.F ht⟩) hS.2.2 dL_step_22
    · refine vx_catch (E := eS) (name := eS) hown [({ startPc := 0, endPc := 16, handlerPc := 19, catchType := 13 } : ExceptionTableEntry)] ({ startPc := 0, endPc := 16, handlerPc := 23, catchType := 22 } : ExceptionTableEntry) [] htab (fun z9 h9 => by
          simp only [List.mem_cons, List.not_mem_nil, or_false] at h9
          rcases h9 with rfl
          · exact Or.inr ⟨by decide, eA, (hts _ lk_L_step_Cond_classLink_RL_13_eA), hC.ncast (by decide +kernel)⟩) (by decide) (by decide) (hts _ lk_L_step_Cond_classLink_RL_22_eS) (hC.word (by decide +kernel) rfl) hcell hv9 hcl ?_
      refine lv_astore (lv' := [(7, .ref q9), (0, .ref x), (1, .int h0), (2, .int p0), (3, .int o0), (4, .int q0), (5, .int n0), (6, .ref o)]) hx hb dL_step_23 hl (by decide) rfl (fun ls hl => ?_)
      refine lv_iconst (v := 2) hx hb dL_step_25 (by decide) ?_
      exact W.iret (v := 2) hx hb hr (fun t ht hW => ⟨⟨_, ((hk, re, kn, sh, k), fo), rfl, Or.inl ⟨eS, hX, Or.inr (⟨rfl, rfl⟩), rfl⟩, by dsimp only; rw [ht]; exact ⟨hB, ho1⟩⟩, hS.F ht⟩) hS.2.2 dL_step_26
  · rw [ht] at hB
    have ho1 : va_P D vwCl [(o, .inl (cL, 1, .inr (.inl fo)))] H := fun i9 q9 h9 => (ho i9 q9 h9).kept (hk9 q9.1 (ho i9 q9 h9).lt (by cases i9 with | zero => cases h9; exact fun z9 => z9.elim hoF (fun z9 => absurd hos (Nat.not_lt.mpr z9)) | succ i9 => simp at h9))
    refine lv_i2l hx hb dL_step_14 rfl ?_
    refine ox_last (D := D) hx hb hK ho1 hS (Or.inr rfl) 1 rfl in01 dL_step_15 (fun H2 locs ho2 hq2 hz2 hS => ?_)
    have hB2 : RSB D cI cL cQ x ah ak b0 b1 b2 b3 b4 (fun q => F q ∨ s.heap.size ≤ q) u H2 := by obtain ⟨u1, u2, u3, u4, u5⟩ := u; exact hB.kept (fun q9 h9 _ => hq2 q9 (fun e9 => by subst e9; exact h9.elim hoF (fun z9 => absurd hos (Nat.not_lt.mpr z9))))
    rw [sb_cl0] at ho2
    refine lv_goto (tgt := 27) hx hb dL_step_16 (by decide) ?_
    refine lv_iconst (v := 0) hx hb dL_step_27 (by decide) ?_
    exact W.iret (v := 0) hx hb hr (fun t ht hW => ⟨⟨_, (u, vp_updL fo 0 rr.toInt64), rfl, Or.inr ⟨rfl, rr, hw, rfl⟩, by dsimp only; rw [ht]; exact ⟨hB2, ho2⟩⟩, hS.F ht⟩) hS.2.2 dL_step_28
theorem lk_L_play_Cond_classLink_RL_22_eS : Cond.classLink RL 22 eS ∈ wsL_play := by decide +kernel
theorem lk_L_play_cw : Cond.codeWith yL_play cL_play 4 (some .int) [(0, 9, 12, 22)] ∈ wsL_play := by decide +kernel
set_option maxHeartbeats 4000000 in
set_option maxRecDepth 100000 in
theorem c_L_play (l : Launch) {D : va_G} {cI cL cQ : ClassId} {N0 : Nat} {sa : Nat → Nat} {Hc : Heap} (hl0 : l.stackTraces = false) {x ah ak b0 b1 b2 b3 b4 : Nat} {F : Nat → Prop} {hk : Nat → Option Nat} {re : Nat → RE} {kn : Nat → Int32} {sh : Nat → Nat → Int32} {k : Int32} (h : RSB D cI cL cQ x ah ak b0 b1 b2 b3 b4 F (hk, re, kn, sh, k) Hc) (hNF : ∀ q, F q ∨ Hc.size ≤ q → N0 ≤ q) {o : Nat} {fo : Nat → Int64} (ho : va_P D vwCl [(o, .inl (cL, 1, .inr (.inl fo)))] Hc) (hoF : ¬ F o) (hoN : N0 ≤ o) {w0 : Int32} (hkn : ∃ n : Nat, n ≤ 24 ∧ k = nI n) (hsh : ∀ n : Nat, n ≤ 24 → k = nI n → ∀ i : Nat, i < n → (∃ j : Nat, j < 6 ∧ sh 0 i = nI j) ∧ ∃ j : Nat, j < 6 ∧ sh 2 i = nI j) : Met l yL_play wsL_play ({ frames := 8, cells := 1, slots := 6, locals := 168 }) (Pq D cI cL cQ N0 sa [.ref x, .int w0, .ref o] Hc) (va_Qi (fun (r : Int32) (u : CS × (Nat → Int64)) => (∃ E : String, (E = eS ∧ 3 ≤ kn 3) ∧ ((E = eS ∧ r = 1)) ∧ u = ((hk, re, kn, sh, k), fo)) ∨ (r = 0 ∧ ∃ rr : Int32, (¬ 3 ≤ kn 3 ∧ ∃ n1 : Nat, n1 ≤ 24 ∧ k = nI n1 ∧ ∃ (re1 : Nat → RE) (kn1 : Nat → Int32), PlayRel hk sh n1 w0 (n1 + 1) 0 re kn re1 kn1 rr ∧ u.1 = (hk, re1, kn1, sh, k)) ∧ u.2 = vp_updL fo 0 rr.toInt64)) (fun u t => RSB D cI cL cQ x ah ak b0 b1 b2 b3 b4 (fun q => F q ∨ Hc.size ≤ q) u.1 t.heap ∧ va_P D vwCl [(o, .inl (cL, 1, .inr (.inl u.2)))] t.heap) (fun q => (F q ∨ Hc.size ≤ q) ∨ q = o)) 1 6 (fun q => (F q ∨ Hc.size ≤ q) ∨ q = o) := by
  refine va_MetW (cc := cL_play) (maxL := 4) (ret := (some .int)) (by decide) rfl ?_
  intro p e s m args below meth c s₁ B hml hv
  obtain ⟨rfl, hH, hC⟩ := hv
  have hx := B.exec
  have hb := B.bytes
  have hr := B.returns
  have hts := atoms_spec (ws := wsL_play) B.pre
  have hown : s.vm.findClass RL = some m.cls := findClass_of_methodNamed B.named
  have hlocks := B.notSynchronized
  subst hH
  have hK := hC.K
  have htab := vx_table (x := yL_play) B (hts _ lk_L_play_cw)
  have hl := lv_entry ([.ref x, .int w0, .ref o]) (n := 4) (Nat.le_of_ble_eq_true rfl)
  rw [lg_entry_eq]
  generalize (lg_sl ([.ref x, .int w0, .ref o]) ++ List.replicate (4 - (lg_sl ([.ref x, .int w0, .ref o])).length) Slot.unset).toArray = ls at hl ⊢
  have hl : lv_has ls 4 [(0, .ref x), (1, .int w0), (2, .ref o)] := hl
  have hS : va_S (fun q => (F q ∨ s.heap.size ≤ q) ∨ q = o) s.heap s.heap [] := va_S.rf
  have hN : ∀ q, (fun q => (F q ∨ s.heap.size ≤ q) ∨ q = o) q → N0 ≤ q := fun q z => z.elim (hNF q) (fun e9 => e9 ▸ hoN)
  have hos : o < s.heap.size := (ho 0 _ rfl).lt
  have hP8 := h.P8
  refine lv_aload_n hx hb dL_play_0 rfl (lv_at hl 2 rfl) ?_
  refine lv_iconst (v := 0) hx hb dL_play_1 (by decide) ?_
  refine lv_aload_n hx hb dL_play_2 rfl (lv_at hl 0 rfl) ?_
  refine lv_iload_n hx hb dL_play_3 rfl (lv_at hl 1 rfl) ?_
  refine vx_calli (vx_runV (As := [.int w0]) (rest := [.int 0, .ref o]) ⟨hx, hb, hml, hown, hts⟩ (c_X2_play l hl0 h hNF hkn hsh) (cwV 1 hts gL_play_X2_play rfl rfl rfl (by decide +kernel) ⟨Nat.le_of_ble_eq_true rfl, Nat.le_of_ble_eq_true rfl⟩) (Pq.V hC hS hN (va_recv hK hP8 (ci := 2) (q0 := 0) rfl rfl)) rfl rfl hl.1 rfl (lv_room (Nat.le_of_ble_eq_true rfl)) dL_play_4 ⟨Nat.le_of_ble_eq_true rfl, Nat.le_of_ble_eq_true rfl⟩) hS (fun q _ z => Or.inl z) (fun q z => Or.inl z) (fun q _ z => Or.inl z) (fun E ce q9 u t H locs ht hvm hp9 hB hz9 hk9 hS hcell hv9 hcl => ?_) (fun rr u t H locs ht hvm hw hB hz9 hk9 hS => ?_)
  · obtain ⟨hX, hB⟩ := hB
    rw [ht] at hB
    have ho1 : va_P D vwCl [(o, .inl (cL, 1, .inr (.inl fo)))] H := fun i9 q9 h9 => (ho i9 q9 h9).kept (hk9 q9.1 (ho i9 q9 h9).lt (by cases i9 with | zero => cases h9; exact fun z9 => z9.elim hoF (fun z9 => absurd hos (Nat.not_lt.mpr z9)) | succ i9 => simp at h9))
    have hE : E = eS := by
      rcases hX with ⟨e9, _⟩
      · exact e9
    rcases hE with rfl
    · refine vx_catch (E := eS) (name := eS) hown [] ({ startPc := 0, endPc := 9, handlerPc := 12, catchType := 22 } : ExceptionTableEntry) [] htab (fun z9 h9 => by cases h9) (by decide) (by decide) (hts _ lk_L_play_Cond_classLink_RL_22_eS) (hC.word (by decide +kernel) rfl) hcell hv9 hcl ?_
      refine lv_astore_n (lv' := [(3, .ref q9), (0, .ref x), (1, .int w0), (2, .ref o)]) hx hb dL_play_12 rfl hl (by decide) rfl (fun ls hl => ?_)
      refine lv_iconst (v := 1) hx hb dL_play_13 (by decide) ?_
      exact W.iret (v := 1) hx hb hr (fun t ht hW => ⟨⟨_, ((hk, re, kn, sh, k), fo), rfl, Or.inl ⟨eS, hX, ⟨rfl, rfl⟩, rfl⟩, by dsimp only; rw [ht]; exact ⟨hB, ho1⟩⟩, hS.F ht⟩) hS.2.2 dL_play_14
  · rw [ht] at hB
    have ho1 : va_P D vwCl [(o, .inl (cL, 1, .inr (.inl fo)))] H := fun i9 q9 h9 => (ho i9 q9 h9).kept (hk9 q9.1 (ho i9 q9 h9).lt (by cases i9 with | zero => cases h9; exact fun z9 => z9.elim hoF (fun z9 => absurd hos (Nat.not_lt.mpr z9)) | succ i9 => simp at h9))
    refine lv_i2l hx hb dL_play_7 rfl ?_
    refine ox_last (D := D) hx hb hK ho1 hS (Or.inr rfl) 1 rfl in01 dL_play_8 (fun H2 locs ho2 hq2 hz2 hS => ?_)
    have hB2 : RSB D cI cL cQ x ah ak b0 b1 b2 b3 b4 (fun q => F q ∨ s.heap.size ≤ q) u H2 := by obtain ⟨u1, u2, u3, u4, u5⟩ := u; exact hB.kept (fun q9 h9 _ => hq2 q9 (fun e9 => by subst e9; exact h9.elim hoF (fun z9 => absurd hos (Nat.not_lt.mpr z9))))
    rw [sb_cl0] at ho2
    refine lv_goto (tgt := 15) hx hb dL_play_9 (by decide) ?_
    refine lv_iconst (v := 0) hx hb dL_play_15 (by decide) ?_
    exact W.iret (v := 0) hx hb hr (fun t ht hW => ⟨⟨_, (u, vp_updL fo 0 rr.toInt64), rfl, Or.inr ⟨rfl, rr, hw, rfl⟩, by dsimp only; rw [ht]; exact ⟨hB2, ho2⟩⟩, hS.F ht⟩) hS.2.2 dL_play_16
theorem lk_L_grind_Cond_classLink_RL_22_eS : Cond.classLink RL 22 eS ∈ wsL_grind := by decide +kernel
theorem lk_L_grind_cw : Cond.codeWith yL_grind cL_grind 3 (some .int) [(0, 8, 11, 22)] ∈ wsL_grind := by decide +kernel
set_option maxHeartbeats 4000000 in
set_option maxRecDepth 100000 in
theorem c_L_grind (l : Launch) {D : va_G} {cI cL cQ : ClassId} {N0 : Nat} {sa : Nat → Nat} {Hc : Heap} (hl0 : l.stackTraces = false) {x ah ak b0 b1 b2 b3 b4 : Nat} {F : Nat → Prop} {hk : Nat → Option Nat} {re : Nat → RE} {kn : Nat → Int32} {sh : Nat → Nat → Int32} {k : Int32} (h : RSB D cI cL cQ x ah ak b0 b1 b2 b3 b4 F (hk, re, kn, sh, k) Hc) (hNF : ∀ q, F q ∨ Hc.size ≤ q → N0 ≤ q) {o : Nat} {fo : Nat → Int64} (ho : va_P D vwCl [(o, .inl (cL, 1, .inr (.inl fo)))] Hc) (hoF : ¬ F o) (hoN : N0 ≤ o)  : Met l yL_grind wsL_grind ({ frames := 7, cells := 1, slots := 6, locals := 102 }) (Pq D cI cL cQ N0 sa [.ref x, .ref o] Hc) (va_Qi (fun (r : Int32) (u : CS × (Nat → Int64)) => (∃ E : String, (E = eS ∧ ¬ 3 ≤ kn 3) ∧ ((E = eS ∧ r = 1)) ∧ u = ((hk, re, kn, sh, k), fo)) ∨ (r = 0 ∧ ∃ rr : Int32, (3 ≤ kn 3 ∧ rr = kn 6 + 1 ∧ u.1 = (hk, re, knGr kn, sh, k)) ∧ u.2 = vp_updL fo 0 rr.toInt64)) (fun u t => RSB D cI cL cQ x ah ak b0 b1 b2 b3 b4 (fun q => F q ∨ Hc.size ≤ q) u.1 t.heap ∧ va_P D vwCl [(o, .inl (cL, 1, .inr (.inl u.2)))] t.heap) (fun q => (F q ∨ Hc.size ≤ q) ∨ q = o)) 1 6 (fun q => (F q ∨ Hc.size ≤ q) ∨ q = o) := by
  refine va_MetW (cc := cL_grind) (maxL := 3) (ret := (some .int)) (by decide) rfl ?_
  intro p e s m args below meth c s₁ B hml hv
  obtain ⟨rfl, hH, hC⟩ := hv
  have hx := B.exec
  have hb := B.bytes
  have hr := B.returns
  have hts := atoms_spec (ws := wsL_grind) B.pre
  have hown : s.vm.findClass RL = some m.cls := findClass_of_methodNamed B.named
  have hlocks := B.notSynchronized
  subst hH
  have hK := hC.K
  have htab := vx_table (x := yL_grind) B (hts _ lk_L_grind_cw)
  have hl := lv_entry ([.ref x, .ref o]) (n := 3) (Nat.le_of_ble_eq_true rfl)
  rw [lg_entry_eq]
  generalize (lg_sl ([.ref x, .ref o]) ++ List.replicate (3 - (lg_sl ([.ref x, .ref o])).length) Slot.unset).toArray = ls at hl ⊢
  have hl : lv_has ls 3 [(0, .ref x), (1, .ref o)] := hl
  have hS : va_S (fun q => (F q ∨ s.heap.size ≤ q) ∨ q = o) s.heap s.heap [] := va_S.rf
  have hN : ∀ q, (fun q => (F q ∨ s.heap.size ≤ q) ∨ q = o) q → N0 ≤ q := fun q z => z.elim (hNF q) (fun e9 => e9 ▸ hoN)
  have hos : o < s.heap.size := (ho 0 _ rfl).lt
  have hP8 := h.P8
  refine lv_aload_n hx hb dL_grind_0 rfl (lv_at hl 1 rfl) ?_
  refine lv_iconst (v := 0) hx hb dL_grind_1 (by decide) ?_
  refine lv_aload_n hx hb dL_grind_2 rfl (lv_at hl 0 rfl) ?_
  refine vx_calli (vx_runV (As := []) (rest := [.int 0, .ref o]) ⟨hx, hb, hml, hown, hts⟩ (c_X2_grind l hl0 h hNF) (cwV 0 hts gL_grind_X2_grind rfl rfl rfl (by decide +kernel) ⟨Nat.le_of_ble_eq_true rfl, Nat.le_of_ble_eq_true rfl⟩) (Pq.V hC hS hN (va_recv hK hP8 (ci := 2) (q0 := 0) rfl rfl)) rfl rfl hl.1 rfl (lv_room (Nat.le_of_ble_eq_true rfl)) dL_grind_3 ⟨Nat.le_of_ble_eq_true rfl, Nat.le_of_ble_eq_true rfl⟩) hS (fun q _ z => Or.inl z) (fun q z => Or.inl z) (fun q _ z => Or.inl z) (fun E ce q9 u t H locs ht hvm hp9 hB hz9 hk9 hS hcell hv9 hcl => ?_) (fun rr u t H locs ht hvm hw hB hz9 hk9 hS => ?_)
  · obtain ⟨hX, hB⟩ := hB
    rw [ht] at hB
    have ho1 : va_P D vwCl [(o, .inl (cL, 1, .inr (.inl fo)))] H := fun i9 q9 h9 => (ho i9 q9 h9).kept (hk9 q9.1 (ho i9 q9 h9).lt (by cases i9 with | zero => cases h9; exact fun z9 => z9.elim hoF (fun z9 => absurd hos (Nat.not_lt.mpr z9)) | succ i9 => simp at h9))
    have hE : E = eS := by
      rcases hX with ⟨e9, _⟩
      · exact e9
    rcases hE with rfl
    · refine vx_catch (E := eS) (name := eS) hown [] ({ startPc := 0, endPc := 8, handlerPc := 11, catchType := 22 } : ExceptionTableEntry) [] htab (fun z9 h9 => by cases h9) (by decide) (by decide) (hts _ lk_L_grind_Cond_classLink_RL_22_eS) (hC.word (by decide +kernel) rfl) hcell hv9 hcl ?_
      refine lv_astore_n (lv' := [(2, .ref q9), (0, .ref x), (1, .ref o)]) hx hb dL_grind_11 rfl hl (by decide) rfl (fun ls hl => ?_)
      refine lv_iconst (v := 1) hx hb dL_grind_12 (by decide) ?_
      exact W.iret (v := 1) hx hb hr (fun t ht hW => ⟨⟨_, ((hk, re, kn, sh, k), fo), rfl, Or.inl ⟨eS, hX, ⟨rfl, rfl⟩, rfl⟩, by dsimp only; rw [ht]; exact ⟨hB, ho1⟩⟩, hS.F ht⟩) hS.2.2 dL_grind_13
  · rw [ht] at hB
    have ho1 : va_P D vwCl [(o, .inl (cL, 1, .inr (.inl fo)))] H := fun i9 q9 h9 => (ho i9 q9 h9).kept (hk9 q9.1 (ho i9 q9 h9).lt (by cases i9 with | zero => cases h9; exact fun z9 => z9.elim hoF (fun z9 => absurd hos (Nat.not_lt.mpr z9)) | succ i9 => simp at h9))
    refine lv_i2l hx hb dL_grind_6 rfl ?_
    refine ox_last (D := D) hx hb hK ho1 hS (Or.inr rfl) 1 rfl in01 dL_grind_7 (fun H2 locs ho2 hq2 hz2 hS => ?_)
    have hB2 : RSB D cI cL cQ x ah ak b0 b1 b2 b3 b4 (fun q => F q ∨ s.heap.size ≤ q) u H2 := by obtain ⟨u1, u2, u3, u4, u5⟩ := u; exact hB.kept (fun q9 h9 _ => hq2 q9 (fun e9 => by subst e9; exact h9.elim hoF (fun z9 => absurd hos (Nat.not_lt.mpr z9))))
    rw [sb_cl0] at ho2
    refine lv_goto (tgt := 14) hx hb dL_grind_8 (by decide) ?_
    refine lv_iconst (v := 0) hx hb dL_grind_14 (by decide) ?_
    exact W.iret (v := 0) hx hb hr (fun t ht hW => ⟨⟨_, (u, vp_updL fo 0 rr.toInt64), rfl, Or.inr ⟨rfl, rr, hw, rfl⟩, by dsimp only; rw [ht]; exact ⟨hB2, ho2⟩⟩, hS.F ht⟩) hS.2.2 dL_grind_15
theorem lk_L_frame_Cond_classLink_RL_13_eA : Cond.classLink RL 13 eA ∈ wsL_frame := by decide +kernel
theorem lk_L_frame_Cond_classLink_RL_22_eS : Cond.classLink RL 22 eS ∈ wsL_frame := by decide +kernel
theorem lk_L_frame_Cond_classLink_RL_28_eI : Cond.classLink RL 28 eI ∈ wsL_frame := by decide +kernel
theorem lk_L_frame_cw : Cond.codeWith yL_frame cL_frame 5 (some .int) [(0, 9, 12, 13), (0, 9, 16, 22), (0, 9, 20, 28)] ∈ wsL_frame := by decide +kernel
set_option maxHeartbeats 4000000 in
set_option maxRecDepth 100000 in
theorem c_L_frame (l : Launch) {D : va_G} {cI cL cQ : ClassId} {N0 : Nat} {sa : Nat → Nat} {Hc : Heap} (hl0 : l.stackTraces = false) {x ah ak b0 b1 b2 b3 b4 : Nat} {F : Nat → Prop} {hk : Nat → Option Nat} {re : Nat → RE} {kn : Nat → Int32} {sh : Nat → Nat → Int32} {k : Int32} (h : RSB D cI cL cQ x ah ak b0 b1 b2 b3 b4 F (hk, re, kn, sh, k) Hc) (hNF : ∀ q, F q ∨ Hc.size ≤ q → N0 ≤ q) {o : Nat} {fo : Nat → Int64} (ho : va_P D vwCl [(o, .inl (cL, 1, .inr (.inl fo)))] Hc) (hoF : ¬ F o) (hoN : N0 ≤ o) {h0 i0 : Int32} : Met l yL_frame wsL_frame ({ frames := 8, cells := 3, slots := 18, locals := 133 }) (Pq D cI cL cQ N0 sa [.ref x, .int h0, .int i0, .ref o] Hc) (va_Qi (fun (r : Int32) (u : CS × (Nat → Int64)) => (∃ E : String, ((E = eA ∧ ¬ okH h0) ∨ (∃ j1 : Nat, j1 < 6 ∧ h0 = nI j1 ∧ ((E = eS ∧ (hk j1 = none ∨ ∃ r1 : Nat, hk j1 = some r1 ∧ (re r1).1 = 5)) ∨ (E = eI ∧ ∃ r1 : Nat, hk j1 = some r1 ∧ ¬ (re r1).1 = 5 ∧ ¬ okF i0 (re r1).2.2.1)))) ∧ ((E = eA ∧ r = 1) ∨ (E = eS ∧ r = 2) ∨ (E = eI ∧ r = 3)) ∧ u = ((hk, re, kn, sh, k), fo)) ∨ (r = 0 ∧ ∃ rr : Int64, (∃ j1 r1 i1 : Nat, j1 < 6 ∧ h0 = nI j1 ∧ hk j1 = some r1 ∧ ¬ (re r1).1 = 5 ∧ i1 < (re r1).2.2.1 ∧ i0 = nI i1 ∧ rr = (re r1).2.2.2 i1 ∧ u.1 = (hk, re, kn, sh, k)) ∧ u.2 = vp_updL fo 0 rr)) (fun u t => RSB D cI cL cQ x ah ak b0 b1 b2 b3 b4 (fun q => F q ∨ Hc.size ≤ q) u.1 t.heap ∧ va_P D vwCl [(o, .inl (cL, 1, .inr (.inl u.2)))] t.heap) (fun q => (F q ∨ Hc.size ≤ q) ∨ q = o)) 3 18 (fun q => (F q ∨ Hc.size ≤ q) ∨ q = o) := by
  refine va_MetW (cc := cL_frame) (maxL := 5) (ret := (some .int)) (by decide) rfl ?_
  intro p e s m args below meth c s₁ B hml hv
  obtain ⟨rfl, hH, hC⟩ := hv
  have hx := B.exec
  have hb := B.bytes
  have hr := B.returns
  have hts := atoms_spec (ws := wsL_frame) B.pre
  have hown : s.vm.findClass RL = some m.cls := findClass_of_methodNamed B.named
  have hlocks := B.notSynchronized
  subst hH
  have hK := hC.K
  have htab := vx_table (x := yL_frame) B (hts _ lk_L_frame_cw)
  have hl := lv_entry ([.ref x, .int h0, .int i0, .ref o]) (n := 5) (Nat.le_of_ble_eq_true rfl)
  rw [lg_entry_eq]
  generalize (lg_sl ([.ref x, .int h0, .int i0, .ref o]) ++ List.replicate (5 - (lg_sl ([.ref x, .int h0, .int i0, .ref o])).length) Slot.unset).toArray = ls at hl ⊢
  have hl : lv_has ls 5 [(0, .ref x), (1, .int h0), (2, .int i0), (3, .ref o)] := hl
  have hS : va_S (fun q => (F q ∨ s.heap.size ≤ q) ∨ q = o) s.heap s.heap [] := va_S.rf
  have hN : ∀ q, (fun q => (F q ∨ s.heap.size ≤ q) ∨ q = o) q → N0 ≤ q := fun q z => z.elim (hNF q) (fun e9 => e9 ▸ hoN)
  have hos : o < s.heap.size := (ho 0 _ rfl).lt
  have hP8 := h.P8
  refine lv_aload_n hx hb dL_frame_0 rfl (lv_at hl 3 rfl) ?_
  refine lv_iconst (v := 0) hx hb dL_frame_1 (by decide) ?_
  refine lv_aload_n hx hb dL_frame_2 rfl (lv_at hl 0 rfl) ?_
  refine lv_iload_n hx hb dL_frame_3 rfl (lv_at hl 1 rfl) ?_
  refine lv_iload_n hx hb dL_frame_4 rfl (lv_at hl 2 rfl) ?_
  refine vx_calll (vx_runV (As := [.int h0, .int i0]) (rest := [.int 0, .ref o]) ⟨hx, hb, hml, hown, hts⟩ (c_X2_frame l hl0 h hNF) (cwV 2 hts gL_frame_X2_frame rfl rfl rfl (by decide +kernel) ⟨Nat.le_of_ble_eq_true rfl, Nat.le_of_ble_eq_true rfl⟩) (Pq.V hC hS hN (va_recv hK hP8 (ci := 2) (q0 := 0) rfl rfl)) rfl rfl hl.1 rfl (lv_room (Nat.le_of_ble_eq_true rfl)) dL_frame_5 ⟨Nat.le_of_ble_eq_true rfl, Nat.le_of_ble_eq_true rfl⟩) hS (fun q _ z => Or.inl z) (fun q z => Or.inl z) (fun q _ z => Or.inl z) (fun E ce q9 u t H locs ht hvm hp9 hB hz9 hk9 hS hcell hv9 hcl => ?_) (fun rr u t H locs ht hvm hw hB hz9 hk9 hS => ?_)
  · obtain ⟨hX, hB⟩ := hB
    rw [ht] at hB
    have ho1 : va_P D vwCl [(o, .inl (cL, 1, .inr (.inl fo)))] H := fun i9 q9 h9 => (ho i9 q9 h9).kept (hk9 q9.1 (ho i9 q9 h9).lt (by cases i9 with | zero => cases h9; exact fun z9 => z9.elim hoF (fun z9 => absurd hos (Nat.not_lt.mpr z9)) | succ i9 => simp at h9))
    have hE : E = eA ∨ E = eS ∨ E = eI := by
      rcases hX with ⟨e9, _⟩ | ⟨_, _, _, ⟨e9, _⟩ | ⟨e9, _⟩⟩
      · exact Or.inl e9
      · exact Or.inr (Or.inl e9)
      · exact Or.inr (Or.inr e9)
    rcases hE with rfl | rfl | rfl
    · refine vx_catch (E := eA) (name := eA) hown [] ({ startPc := 0, endPc := 9, handlerPc := 12, catchType := 13 } : ExceptionTableEntry) [({ startPc := 0, endPc := 9, handlerPc := 16, catchType := 22 } : ExceptionTableEntry), ({ startPc := 0, endPc := 9, handlerPc := 20, catchType := 28 } : ExceptionTableEntry)] htab (fun z9 h9 => by cases h9) (by decide) (by decide) (hts _ lk_L_frame_Cond_classLink_RL_13_eA) (hC.word (by decide +kernel) rfl) hcell hv9 hcl ?_
      refine lv_astore (lv' := [(4, .ref q9), (0, .ref x), (1, .int h0), (2, .int i0), (3, .ref o)]) hx hb dL_frame_12 hl (by decide) rfl (fun ls hl => ?_)
      refine lv_iconst (v := 1) hx hb dL_frame_14 (by decide) ?_
      exact W.iret (v := 1) hx hb hr (fun t ht hW => ⟨⟨_, ((hk, re, kn, sh, k), fo), rfl, Or.inl ⟨eA, hX, Or.inl ⟨rfl, rfl⟩, rfl⟩, by dsimp only; rw [ht]; exact ⟨hB, ho1⟩⟩, hS.F ht⟩) hS.2.2 dL_frame_15
    · refine vx_catch (E := eS) (name := eS) hown [({ startPc := 0, endPc := 9, handlerPc := 12, catchType := 13 } : ExceptionTableEntry)] ({ startPc := 0, endPc := 9, handlerPc := 16, catchType := 22 } : ExceptionTableEntry) [({ startPc := 0, endPc := 9, handlerPc := 20, catchType := 28 } : ExceptionTableEntry)] htab (fun z9 h9 => by
          simp only [List.mem_cons, List.not_mem_nil, or_false] at h9
          rcases h9 with rfl
          · exact Or.inr ⟨by decide, eA, (hts _ lk_L_frame_Cond_classLink_RL_13_eA), hC.ncast (by decide +kernel)⟩) (by decide) (by decide) (hts _ lk_L_frame_Cond_classLink_RL_22_eS) (hC.word (by decide +kernel) rfl) hcell hv9 hcl ?_
      refine lv_astore (lv' := [(4, .ref q9), (0, .ref x), (1, .int h0), (2, .int i0), (3, .ref o)]) hx hb dL_frame_16 hl (by decide) rfl (fun ls hl => ?_)
      refine lv_iconst (v := 2) hx hb dL_frame_18 (by decide) ?_
      exact W.iret (v := 2) hx hb hr (fun t ht hW => ⟨⟨_, ((hk, re, kn, sh, k), fo), rfl, Or.inl ⟨eS, hX, Or.inr (Or.inl ⟨rfl, rfl⟩), rfl⟩, by dsimp only; rw [ht]; exact ⟨hB, ho1⟩⟩, hS.F ht⟩) hS.2.2 dL_frame_19
    · refine vx_catch (E := eI) (name := eI) hown [({ startPc := 0, endPc := 9, handlerPc := 12, catchType := 13 } : ExceptionTableEntry), ({ startPc := 0, endPc := 9, handlerPc := 16, catchType := 22 } : ExceptionTableEntry)] ({ startPc := 0, endPc := 9, handlerPc := 20, catchType := 28 } : ExceptionTableEntry) [] htab (fun z9 h9 => by
          simp only [List.mem_cons, List.not_mem_nil, or_false] at h9
          rcases h9 with rfl | rfl
          · exact Or.inr ⟨by decide, eA, (hts _ lk_L_frame_Cond_classLink_RL_13_eA), hC.ncast (by decide +kernel)⟩
          · exact Or.inr ⟨by decide, eS, (hts _ lk_L_frame_Cond_classLink_RL_22_eS), hC.ncast (by decide +kernel)⟩) (by decide) (by decide) (hts _ lk_L_frame_Cond_classLink_RL_28_eI) (hC.word (by decide +kernel) rfl) hcell hv9 hcl ?_
      refine lv_astore (lv' := [(4, .ref q9), (0, .ref x), (1, .int h0), (2, .int i0), (3, .ref o)]) hx hb dL_frame_20 hl (by decide) rfl (fun ls hl => ?_)
      refine lv_iconst (v := 3) hx hb dL_frame_22 (by decide) ?_
      exact W.iret (v := 3) hx hb hr (fun t ht hW => ⟨⟨_, ((hk, re, kn, sh, k), fo), rfl, Or.inl ⟨eI, hX, Or.inr (Or.inr (⟨rfl, rfl⟩)), rfl⟩, by dsimp only; rw [ht]; exact ⟨hB, ho1⟩⟩, hS.F ht⟩) hS.2.2 dL_frame_23
  · rw [ht] at hB
    have ho1 : va_P D vwCl [(o, .inl (cL, 1, .inr (.inl fo)))] H := fun i9 q9 h9 => (ho i9 q9 h9).kept (hk9 q9.1 (ho i9 q9 h9).lt (by cases i9 with | zero => cases h9; exact fun z9 => z9.elim hoF (fun z9 => absurd hos (Nat.not_lt.mpr z9)) | succ i9 => simp at h9))
    refine ox_last (D := D) hx hb hK ho1 hS (Or.inr rfl) 1 rfl in01 dL_frame_8 (fun H2 locs ho2 hq2 hz2 hS => ?_)
    have hB2 : RSB D cI cL cQ x ah ak b0 b1 b2 b3 b4 (fun q => F q ∨ s.heap.size ≤ q) u H2 := by obtain ⟨u1, u2, u3, u4, u5⟩ := u; exact hB.kept (fun q9 h9 _ => hq2 q9 (fun e9 => by subst e9; exact h9.elim hoF (fun z9 => absurd hos (Nat.not_lt.mpr z9))))
    rw [sb_cl0] at ho2
    refine lv_goto (tgt := 24) hx hb dL_frame_9 (by decide) ?_
    refine lv_iconst (v := 0) hx hb dL_frame_24 (by decide) ?_
    exact W.iret (v := 0) hx hb hr (fun t ht hW => ⟨⟨_, (u, vp_updL fo 0 rr), rfl, Or.inr ⟨rfl, rr, hw, rfl⟩, by dsimp only; rw [ht]; exact ⟨hB2, ho2⟩⟩, hS.F ht⟩) hS.2.2 dL_frame_25
theorem lk_L_look_Cond_classLink_RL_13_eA : Cond.classLink RL 13 eA ∈ wsL_look := by decide +kernel
theorem lk_L_look_cw : Cond.codeWith yL_look cL_look 5 (some .int) [(0, 10, 13, 13)] ∈ wsL_look := by decide +kernel
set_option maxHeartbeats 4000000 in
set_option maxRecDepth 100000 in
theorem c_L_look (l : Launch) {D : va_G} {cI cL cQ : ClassId} {N0 : Nat} {sa : Nat → Nat} {Hc : Heap} (hl0 : l.stackTraces = false) {x ah ak b0 b1 b2 b3 b4 : Nat} {F : Nat → Prop} {hk : Nat → Option Nat} {re : Nat → RE} {kn : Nat → Int32} {sh : Nat → Nat → Int32} {k : Int32} (h : RSB D cI cL cQ x ah ak b0 b1 b2 b3 b4 F (hk, re, kn, sh, k) Hc) (hNF : ∀ q, F q ∨ Hc.size ≤ q → N0 ≤ q) {o : Nat} {fo : Nat → Int64} (ho : va_P D vwCl [(o, .inl (cL, 1, .inr (.inl fo)))] Hc) (hoF : ¬ F o) (hoN : N0 ≤ o) {h0 w0 : Int32} : Met l yL_look wsL_look ({ frames := 8, cells := 2, slots := 12, locals := 132 }) (Pq D cI cL cQ N0 sa [.ref x, .int h0, .int w0, .ref o] Hc) (va_Qi (fun (r : Int32) (u : CS × (Nat → Int64)) => (∃ E : String, (E = eA ∧ ¬ (okH h0 ∧ (w0 = 0 ∨ w0 = 1 ∨ w0 = 2))) ∧ ((E = eA ∧ r = 1)) ∧ u = ((hk, re, kn, sh, k), fo)) ∨ (r = 0 ∧ ∃ rr : Int32, (∃ j1 : Nat, j1 < 6 ∧ h0 = nI j1 ∧ ((w0 = 0 ∧ rr = kOf re (hk j1)) ∨ (w0 = 1 ∧ rr = zOf re (hk j1)) ∨ (w0 = 2 ∧ rr = hOf hk (hk j1))) ∧ u.1 = (hk, re, kn, sh, k)) ∧ u.2 = vp_updL fo 0 rr.toInt64)) (fun u t => RSB D cI cL cQ x ah ak b0 b1 b2 b3 b4 (fun q => F q ∨ Hc.size ≤ q) u.1 t.heap ∧ va_P D vwCl [(o, .inl (cL, 1, .inr (.inl u.2)))] t.heap) (fun q => (F q ∨ Hc.size ≤ q) ∨ q = o)) 2 12 (fun q => (F q ∨ Hc.size ≤ q) ∨ q = o) := by
  refine va_MetW (cc := cL_look) (maxL := 5) (ret := (some .int)) (by decide) rfl ?_
  intro p e s m args below meth c s₁ B hml hv
  obtain ⟨rfl, hH, hC⟩ := hv
  have hx := B.exec
  have hb := B.bytes
  have hr := B.returns
  have hts := atoms_spec (ws := wsL_look) B.pre
  have hown : s.vm.findClass RL = some m.cls := findClass_of_methodNamed B.named
  have hlocks := B.notSynchronized
  subst hH
  have hK := hC.K
  have htab := vx_table (x := yL_look) B (hts _ lk_L_look_cw)
  have hl := lv_entry ([.ref x, .int h0, .int w0, .ref o]) (n := 5) (Nat.le_of_ble_eq_true rfl)
  rw [lg_entry_eq]
  generalize (lg_sl ([.ref x, .int h0, .int w0, .ref o]) ++ List.replicate (5 - (lg_sl ([.ref x, .int h0, .int w0, .ref o])).length) Slot.unset).toArray = ls at hl ⊢
  have hl : lv_has ls 5 [(0, .ref x), (1, .int h0), (2, .int w0), (3, .ref o)] := hl
  have hS : va_S (fun q => (F q ∨ s.heap.size ≤ q) ∨ q = o) s.heap s.heap [] := va_S.rf
  have hN : ∀ q, (fun q => (F q ∨ s.heap.size ≤ q) ∨ q = o) q → N0 ≤ q := fun q z => z.elim (hNF q) (fun e9 => e9 ▸ hoN)
  have hos : o < s.heap.size := (ho 0 _ rfl).lt
  have hP8 := h.P8
  refine lv_aload_n hx hb dL_look_0 rfl (lv_at hl 3 rfl) ?_
  refine lv_iconst (v := 0) hx hb dL_look_1 (by decide) ?_
  refine lv_aload_n hx hb dL_look_2 rfl (lv_at hl 0 rfl) ?_
  refine lv_iload_n hx hb dL_look_3 rfl (lv_at hl 1 rfl) ?_
  refine lv_iload_n hx hb dL_look_4 rfl (lv_at hl 2 rfl) ?_
  refine vx_calli (vx_runV (As := [.int h0, .int w0]) (rest := [.int 0, .ref o]) ⟨hx, hb, hml, hown, hts⟩ (c_X2_look l hl0 h hNF) (cwV 2 hts gL_look_X2_look rfl rfl rfl (by decide +kernel) ⟨Nat.le_of_ble_eq_true rfl, Nat.le_of_ble_eq_true rfl⟩) (Pq.V hC hS hN (va_recv hK hP8 (ci := 2) (q0 := 0) rfl rfl)) rfl rfl hl.1 rfl (lv_room (Nat.le_of_ble_eq_true rfl)) dL_look_5 ⟨Nat.le_of_ble_eq_true rfl, Nat.le_of_ble_eq_true rfl⟩) hS (fun q _ z => Or.inl z) (fun q z => Or.inl z) (fun q _ z => Or.inl z) (fun E ce q9 u t H locs ht hvm hp9 hB hz9 hk9 hS hcell hv9 hcl => ?_) (fun rr u t H locs ht hvm hw hB hz9 hk9 hS => ?_)
  · obtain ⟨hX, hB⟩ := hB
    rw [ht] at hB
    have ho1 : va_P D vwCl [(o, .inl (cL, 1, .inr (.inl fo)))] H := fun i9 q9 h9 => (ho i9 q9 h9).kept (hk9 q9.1 (ho i9 q9 h9).lt (by cases i9 with | zero => cases h9; exact fun z9 => z9.elim hoF (fun z9 => absurd hos (Nat.not_lt.mpr z9)) | succ i9 => simp at h9))
    have hE : E = eA := by
      rcases hX with ⟨e9, _⟩
      · exact e9
    rcases hE with rfl
    · refine vx_catch (E := eA) (name := eA) hown [] ({ startPc := 0, endPc := 10, handlerPc := 13, catchType := 13 } : ExceptionTableEntry) [] htab (fun z9 h9 => by cases h9) (by decide) (by decide) (hts _ lk_L_look_Cond_classLink_RL_13_eA) (hC.word (by decide +kernel) rfl) hcell hv9 hcl ?_
      refine lv_astore (lv' := [(4, .ref q9), (0, .ref x), (1, .int h0), (2, .int w0), (3, .ref o)]) hx hb dL_look_13 hl (by decide) rfl (fun ls hl => ?_)
      refine lv_iconst (v := 1) hx hb dL_look_15 (by decide) ?_
      exact W.iret (v := 1) hx hb hr (fun t ht hW => ⟨⟨_, ((hk, re, kn, sh, k), fo), rfl, Or.inl ⟨eA, hX, ⟨rfl, rfl⟩, rfl⟩, by dsimp only; rw [ht]; exact ⟨hB, ho1⟩⟩, hS.F ht⟩) hS.2.2 dL_look_16
  · rw [ht] at hB
    have ho1 : va_P D vwCl [(o, .inl (cL, 1, .inr (.inl fo)))] H := fun i9 q9 h9 => (ho i9 q9 h9).kept (hk9 q9.1 (ho i9 q9 h9).lt (by cases i9 with | zero => cases h9; exact fun z9 => z9.elim hoF (fun z9 => absurd hos (Nat.not_lt.mpr z9)) | succ i9 => simp at h9))
    refine lv_i2l hx hb dL_look_8 rfl ?_
    refine ox_last (D := D) hx hb hK ho1 hS (Or.inr rfl) 1 rfl in01 dL_look_9 (fun H2 locs ho2 hq2 hz2 hS => ?_)
    have hB2 : RSB D cI cL cQ x ah ak b0 b1 b2 b3 b4 (fun q => F q ∨ s.heap.size ≤ q) u H2 := by obtain ⟨u1, u2, u3, u4, u5⟩ := u; exact hB.kept (fun q9 h9 _ => hq2 q9 (fun e9 => by subst e9; exact h9.elim hoF (fun z9 => absurd hos (Nat.not_lt.mpr z9))))
    rw [sb_cl0] at ho2
    refine lv_goto (tgt := 17) hx hb dL_look_10 (by decide) ?_
    refine lv_iconst (v := 0) hx hb dL_look_17 (by decide) ?_
    exact W.iret (v := 0) hx hb hr (fun t ht hW => ⟨⟨_, (u, vp_updL fo 0 rr.toInt64), rfl, Or.inr ⟨rfl, rr, hw, rfl⟩, by dsimp only; rw [ht]; exact ⟨hB2, ho2⟩⟩, hS.F ht⟩) hS.2.2 dL_look_18
theorem lk_L_sum_Cond_classLink_RL_13_eA : Cond.classLink RL 13 eA ∈ wsL_sum := by decide +kernel
theorem lk_L_sum_cw : Cond.codeWith yL_sum cL_sum 4 (some .int) [(0, 8, 11, 13)] ∈ wsL_sum := by decide +kernel
set_option maxHeartbeats 4000000 in
set_option maxRecDepth 100000 in
theorem c_L_sum (l : Launch) {D : va_G} {cI cL cQ : ClassId} {N0 : Nat} {sa : Nat → Nat} {Hc : Heap} (hl0 : l.stackTraces = false) {x ah ak b0 b1 b2 b3 b4 : Nat} {F : Nat → Prop} {hk : Nat → Option Nat} {re : Nat → RE} {kn : Nat → Int32} {sh : Nat → Nat → Int32} {k : Int32} (h : RSB D cI cL cQ x ah ak b0 b1 b2 b3 b4 F (hk, re, kn, sh, k) Hc) (hNF : ∀ q, F q ∨ Hc.size ≤ q → N0 ≤ q) {o : Nat} {fo : Nat → Int64} (ho : va_P D vwCl [(o, .inl (cL, 1, .inr (.inl fo)))] Hc) (hoF : ¬ F o) (hoN : N0 ≤ o) {h0 : Int32} : Met l yL_sum wsL_sum ({ frames := 8, cells := 1, slots := 6, locals := 135 }) (Pq D cI cL cQ N0 sa [.ref x, .int h0, .ref o] Hc) (va_Qi (fun (r : Int32) (u : CS × (Nat → Int64)) => (∃ E : String, (E = eA ∧ ¬ okH h0) ∧ ((E = eA ∧ r = 1)) ∧ u = ((hk, re, kn, sh, k), fo)) ∨ (r = 0 ∧ ∃ rr : Int64, (∃ j1 : Nat, j1 < 6 ∧ h0 = nI j1 ∧ rr = sOf re (hk j1) ∧ u.1 = (hk, re, kn, sh, k)) ∧ u.2 = vp_updL fo 0 rr)) (fun u t => RSB D cI cL cQ x ah ak b0 b1 b2 b3 b4 (fun q => F q ∨ Hc.size ≤ q) u.1 t.heap ∧ va_P D vwCl [(o, .inl (cL, 1, .inr (.inl u.2)))] t.heap) (fun q => (F q ∨ Hc.size ≤ q) ∨ q = o)) 1 6 (fun q => (F q ∨ Hc.size ≤ q) ∨ q = o) := by
  refine va_MetW (cc := cL_sum) (maxL := 4) (ret := (some .int)) (by decide) rfl ?_
  intro p e s m args below meth c s₁ B hml hv
  obtain ⟨rfl, hH, hC⟩ := hv
  have hx := B.exec
  have hb := B.bytes
  have hr := B.returns
  have hts := atoms_spec (ws := wsL_sum) B.pre
  have hown : s.vm.findClass RL = some m.cls := findClass_of_methodNamed B.named
  have hlocks := B.notSynchronized
  subst hH
  have hK := hC.K
  have htab := vx_table (x := yL_sum) B (hts _ lk_L_sum_cw)
  have hl := lv_entry ([.ref x, .int h0, .ref o]) (n := 4) (Nat.le_of_ble_eq_true rfl)
  rw [lg_entry_eq]
  generalize (lg_sl ([.ref x, .int h0, .ref o]) ++ List.replicate (4 - (lg_sl ([.ref x, .int h0, .ref o])).length) Slot.unset).toArray = ls at hl ⊢
  have hl : lv_has ls 4 [(0, .ref x), (1, .int h0), (2, .ref o)] := hl
  have hS : va_S (fun q => (F q ∨ s.heap.size ≤ q) ∨ q = o) s.heap s.heap [] := va_S.rf
  have hN : ∀ q, (fun q => (F q ∨ s.heap.size ≤ q) ∨ q = o) q → N0 ≤ q := fun q z => z.elim (hNF q) (fun e9 => e9 ▸ hoN)
  have hos : o < s.heap.size := (ho 0 _ rfl).lt
  have hP8 := h.P8
  refine lv_aload_n hx hb dL_sum_0 rfl (lv_at hl 2 rfl) ?_
  refine lv_iconst (v := 0) hx hb dL_sum_1 (by decide) ?_
  refine lv_aload_n hx hb dL_sum_2 rfl (lv_at hl 0 rfl) ?_
  refine lv_iload_n hx hb dL_sum_3 rfl (lv_at hl 1 rfl) ?_
  refine vx_calll (vx_runV (As := [.int h0]) (rest := [.int 0, .ref o]) ⟨hx, hb, hml, hown, hts⟩ (c_X2_sum l hl0 h hNF) (cwV 1 hts gL_sum_X2_sum rfl rfl rfl (by decide +kernel) ⟨Nat.le_of_ble_eq_true rfl, Nat.le_of_ble_eq_true rfl⟩) (Pq.V hC hS hN (va_recv hK hP8 (ci := 2) (q0 := 0) rfl rfl)) rfl rfl hl.1 rfl (lv_room (Nat.le_of_ble_eq_true rfl)) dL_sum_4 ⟨Nat.le_of_ble_eq_true rfl, Nat.le_of_ble_eq_true rfl⟩) hS (fun q _ z => Or.inl z) (fun q z => Or.inl z) (fun q _ z => Or.inl z) (fun E ce q9 u t H locs ht hvm hp9 hB hz9 hk9 hS hcell hv9 hcl => ?_) (fun rr u t H locs ht hvm hw hB hz9 hk9 hS => ?_)
  · obtain ⟨hX, hB⟩ := hB
    rw [ht] at hB
    have ho1 : va_P D vwCl [(o, .inl (cL, 1, .inr (.inl fo)))] H := fun i9 q9 h9 => (ho i9 q9 h9).kept (hk9 q9.1 (ho i9 q9 h9).lt (by cases i9 with | zero => cases h9; exact fun z9 => z9.elim hoF (fun z9 => absurd hos (Nat.not_lt.mpr z9)) | succ i9 => simp at h9))
    have hE : E = eA := by
      rcases hX with ⟨e9, _⟩
      · exact e9
    rcases hE with rfl
    · refine vx_catch (E := eA) (name := eA) hown [] ({ startPc := 0, endPc := 8, handlerPc := 11, catchType := 13 } : ExceptionTableEntry) [] htab (fun z9 h9 => by cases h9) (by decide) (by decide) (hts _ lk_L_sum_Cond_classLink_RL_13_eA) (hC.word (by decide +kernel) rfl) hcell hv9 hcl ?_
      refine lv_astore_n (lv' := [(3, .ref q9), (0, .ref x), (1, .int h0), (2, .ref o)]) hx hb dL_sum_11 rfl hl (by decide) rfl (fun ls hl => ?_)
      refine lv_iconst (v := 1) hx hb dL_sum_12 (by decide) ?_
      exact W.iret (v := 1) hx hb hr (fun t ht hW => ⟨⟨_, ((hk, re, kn, sh, k), fo), rfl, Or.inl ⟨eA, hX, ⟨rfl, rfl⟩, rfl⟩, by dsimp only; rw [ht]; exact ⟨hB, ho1⟩⟩, hS.F ht⟩) hS.2.2 dL_sum_13
  · rw [ht] at hB
    have ho1 : va_P D vwCl [(o, .inl (cL, 1, .inr (.inl fo)))] H := fun i9 q9 h9 => (ho i9 q9 h9).kept (hk9 q9.1 (ho i9 q9 h9).lt (by cases i9 with | zero => cases h9; exact fun z9 => z9.elim hoF (fun z9 => absurd hos (Nat.not_lt.mpr z9)) | succ i9 => simp at h9))
    refine ox_last (D := D) hx hb hK ho1 hS (Or.inr rfl) 1 rfl in01 dL_sum_7 (fun H2 locs ho2 hq2 hz2 hS => ?_)
    have hB2 : RSB D cI cL cQ x ah ak b0 b1 b2 b3 b4 (fun q => F q ∨ s.heap.size ≤ q) u H2 := by obtain ⟨u1, u2, u3, u4, u5⟩ := u; exact hB.kept (fun q9 h9 _ => hq2 q9 (fun e9 => by subst e9; exact h9.elim hoF (fun z9 => absurd hos (Nat.not_lt.mpr z9))))
    rw [sb_cl0] at ho2
    refine lv_goto (tgt := 14) hx hb dL_sum_8 (by decide) ?_
    refine lv_iconst (v := 0) hx hb dL_sum_14 (by decide) ?_
    exact W.iret (v := 0) hx hb hr (fun t ht hW => ⟨⟨_, (u, vp_updL fo 0 rr), rfl, Or.inr ⟨rfl, rr, hw, rfl⟩, by dsimp only; rw [ht]; exact ⟨hB2, ho2⟩⟩, hS.F ht⟩) hS.2.2 dL_sum_15
theorem lk_L_count_Cond_classLink_RL_13_eA : Cond.classLink RL 13 eA ∈ wsL_count := by decide +kernel
theorem lk_L_count_cw : Cond.codeWith yL_count cL_count 4 (some .int) [(0, 9, 12, 13)] ∈ wsL_count := by decide +kernel
set_option maxHeartbeats 4000000 in
set_option maxRecDepth 100000 in
theorem c_L_count (l : Launch) {D : va_G} {cI cL cQ : ClassId} {N0 : Nat} {sa : Nat → Nat} {Hc : Heap} (hl0 : l.stackTraces = false) {x ah ak b0 b1 b2 b3 b4 : Nat} {F : Nat → Prop} {hk : Nat → Option Nat} {re : Nat → RE} {kn : Nat → Int32} {sh : Nat → Nat → Int32} {k : Int32} (h : RSB D cI cL cQ x ah ak b0 b1 b2 b3 b4 F (hk, re, kn, sh, k) Hc) (hNF : ∀ q, F q ∨ Hc.size ≤ q → N0 ≤ q) {o : Nat} {fo : Nat → Int64} (ho : va_P D vwCl [(o, .inl (cL, 1, .inr (.inl fo)))] Hc) (hoF : ¬ F o) (hoN : N0 ≤ o) {w0 : Int32} : Met l yL_count wsL_count ({ frames := 7, cells := 1, slots := 6, locals := 103 }) (Pq D cI cL cQ N0 sa [.ref x, .int w0, .ref o] Hc) (va_Qi (fun (r : Int32) (u : CS × (Nat → Int64)) => (∃ E : String, (E = eA ∧ ¬ w0 = 0 ∧ ¬ w0 = 1 ∧ ¬ w0 = 2 ∧ ¬ w0 = 3 ∧ ¬ w0 = 4 ∧ ¬ w0 = 5 ∧ ¬ w0 = 6 ∧ ¬ w0 = 7) ∧ ((E = eA ∧ r = 1)) ∧ u = ((hk, re, kn, sh, k), fo)) ∨ (r = 0 ∧ ∃ rr : Int32, (((w0 = 0 ∧ rr = kn 0) ∨ (w0 = 1 ∧ rr = kn 1) ∨ (w0 = 2 ∧ rr = kn 2) ∨ (w0 = 3 ∧ rr = kn 3) ∨ (w0 = 4 ∧ rr = k) ∨ (w0 = 5 ∧ rr = kn 4) ∨ (w0 = 6 ∧ rr = kn 5) ∨ (w0 = 7 ∧ rr = kn 6)) ∧ u.1 = (hk, re, kn, sh, k)) ∧ u.2 = vp_updL fo 0 rr.toInt64)) (fun u t => RSB D cI cL cQ x ah ak b0 b1 b2 b3 b4 (fun q => F q ∨ Hc.size ≤ q) u.1 t.heap ∧ va_P D vwCl [(o, .inl (cL, 1, .inr (.inl u.2)))] t.heap) (fun q => (F q ∨ Hc.size ≤ q) ∨ q = o)) 1 6 (fun q => (F q ∨ Hc.size ≤ q) ∨ q = o) := by
  refine va_MetW (cc := cL_count) (maxL := 4) (ret := (some .int)) (by decide) rfl ?_
  intro p e s m args below meth c s₁ B hml hv
  obtain ⟨rfl, hH, hC⟩ := hv
  have hx := B.exec
  have hb := B.bytes
  have hr := B.returns
  have hts := atoms_spec (ws := wsL_count) B.pre
  have hown : s.vm.findClass RL = some m.cls := findClass_of_methodNamed B.named
  have hlocks := B.notSynchronized
  subst hH
  have hK := hC.K
  have htab := vx_table (x := yL_count) B (hts _ lk_L_count_cw)
  have hl := lv_entry ([.ref x, .int w0, .ref o]) (n := 4) (Nat.le_of_ble_eq_true rfl)
  rw [lg_entry_eq]
  generalize (lg_sl ([.ref x, .int w0, .ref o]) ++ List.replicate (4 - (lg_sl ([.ref x, .int w0, .ref o])).length) Slot.unset).toArray = ls at hl ⊢
  have hl : lv_has ls 4 [(0, .ref x), (1, .int w0), (2, .ref o)] := hl
  have hS : va_S (fun q => (F q ∨ s.heap.size ≤ q) ∨ q = o) s.heap s.heap [] := va_S.rf
  have hN : ∀ q, (fun q => (F q ∨ s.heap.size ≤ q) ∨ q = o) q → N0 ≤ q := fun q z => z.elim (hNF q) (fun e9 => e9 ▸ hoN)
  have hos : o < s.heap.size := (ho 0 _ rfl).lt
  have hP8 := h.P8
  refine lv_aload_n hx hb dL_count_0 rfl (lv_at hl 2 rfl) ?_
  refine lv_iconst (v := 0) hx hb dL_count_1 (by decide) ?_
  refine lv_aload_n hx hb dL_count_2 rfl (lv_at hl 0 rfl) ?_
  refine lv_iload_n hx hb dL_count_3 rfl (lv_at hl 1 rfl) ?_
  refine vx_calli (vx_runV (As := [.int w0]) (rest := [.int 0, .ref o]) ⟨hx, hb, hml, hown, hts⟩ (c_X2_count l hl0 h hNF) (cwV 1 hts gL_count_X2_count rfl rfl rfl (by decide +kernel) ⟨Nat.le_of_ble_eq_true rfl, Nat.le_of_ble_eq_true rfl⟩) (Pq.V hC hS hN (va_recv hK hP8 (ci := 2) (q0 := 0) rfl rfl)) rfl rfl hl.1 rfl (lv_room (Nat.le_of_ble_eq_true rfl)) dL_count_4 ⟨Nat.le_of_ble_eq_true rfl, Nat.le_of_ble_eq_true rfl⟩) hS (fun q _ z => Or.inl z) (fun q z => Or.inl z) (fun q _ z => Or.inl z) (fun E ce q9 u t H locs ht hvm hp9 hB hz9 hk9 hS hcell hv9 hcl => ?_) (fun rr u t H locs ht hvm hw hB hz9 hk9 hS => ?_)
  · obtain ⟨hX, hB⟩ := hB
    rw [ht] at hB
    have ho1 : va_P D vwCl [(o, .inl (cL, 1, .inr (.inl fo)))] H := fun i9 q9 h9 => (ho i9 q9 h9).kept (hk9 q9.1 (ho i9 q9 h9).lt (by cases i9 with | zero => cases h9; exact fun z9 => z9.elim hoF (fun z9 => absurd hos (Nat.not_lt.mpr z9)) | succ i9 => simp at h9))
    have hE : E = eA := by
      rcases hX with ⟨e9, _⟩
      · exact e9
    rcases hE with rfl
    · refine vx_catch (E := eA) (name := eA) hown [] ({ startPc := 0, endPc := 9, handlerPc := 12, catchType := 13 } : ExceptionTableEntry) [] htab (fun z9 h9 => by cases h9) (by decide) (by decide) (hts _ lk_L_count_Cond_classLink_RL_13_eA) (hC.word (by decide +kernel) rfl) hcell hv9 hcl ?_
      refine lv_astore_n (lv' := [(3, .ref q9), (0, .ref x), (1, .int w0), (2, .ref o)]) hx hb dL_count_12 rfl hl (by decide) rfl (fun ls hl => ?_)
      refine lv_iconst (v := 1) hx hb dL_count_13 (by decide) ?_
      exact W.iret (v := 1) hx hb hr (fun t ht hW => ⟨⟨_, ((hk, re, kn, sh, k), fo), rfl, Or.inl ⟨eA, hX, ⟨rfl, rfl⟩, rfl⟩, by dsimp only; rw [ht]; exact ⟨hB, ho1⟩⟩, hS.F ht⟩) hS.2.2 dL_count_14
  · rw [ht] at hB
    have ho1 : va_P D vwCl [(o, .inl (cL, 1, .inr (.inl fo)))] H := fun i9 q9 h9 => (ho i9 q9 h9).kept (hk9 q9.1 (ho i9 q9 h9).lt (by cases i9 with | zero => cases h9; exact fun z9 => z9.elim hoF (fun z9 => absurd hos (Nat.not_lt.mpr z9)) | succ i9 => simp at h9))
    refine lv_i2l hx hb dL_count_7 rfl ?_
    refine ox_last (D := D) hx hb hK ho1 hS (Or.inr rfl) 1 rfl in01 dL_count_8 (fun H2 locs ho2 hq2 hz2 hS => ?_)
    have hB2 : RSB D cI cL cQ x ah ak b0 b1 b2 b3 b4 (fun q => F q ∨ s.heap.size ≤ q) u H2 := by obtain ⟨u1, u2, u3, u4, u5⟩ := u; exact hB.kept (fun q9 h9 _ => hq2 q9 (fun e9 => by subst e9; exact h9.elim hoF (fun z9 => absurd hos (Nat.not_lt.mpr z9))))
    rw [sb_cl0] at ho2
    refine lv_goto (tgt := 15) hx hb dL_count_9 (by decide) ?_
    refine lv_iconst (v := 0) hx hb dL_count_15 (by decide) ?_
    exact W.iret (v := 0) hx hb hr (fun t ht hW => ⟨⟨_, (u, vp_updL fo 0 rr.toInt64), rfl, Or.inr ⟨rfl, rr, hw, rfl⟩, by dsimp only; rw [ht]; exact ⟨hB2, ho2⟩⟩, hS.F ht⟩) hS.2.2 dL_count_16
end CWrap
