section CModel2
theorem iw_X3_hang_X3 : ∀ w ∈ wsX30, w ∈ wsX3_hang := by decide +kernel
theorem lk_X3_hang_Cond_fieldLink_RX3_29_SpliceRoomModel_code_I_ : Cond.fieldLink RX3 29 "SpliceRoomModel" "code" "I" ∈ wsX3_hang := by decide +kernel
theorem lk_X3_hang_Cond_fieldLink_RX3_7_SpliceRoomModel_on_I_ : Cond.fieldLink RX3 7 "SpliceRoomModel" "on" "[I" ∈ wsX3_hang := by decide +kernel
set_option maxHeartbeats 4000000 in
set_option maxRecDepth 100000 in
theorem c_X3_hang (l : Launch) {D : va_G} {cI cL cQ : ClassId} {N0 : Nat} {sa : Nat → Nat} {Hc : Heap} {m0 a0 a1 a2 a3 a4 a5 : Nat} {on kd sz : Nat → Int32} {fr li : Nat → Int64} {st : Nat → Int32} {mi : Nat → Int32} {h0 o0 : Int32} (hP : va_P D vwCl [(m0, .inr (3, [.ref a0, .ref a1, .ref a2, .ref a3, .ref a4, .ref a5, .int (mi 0), .int (mi 1), .int (mi 2), .int (mi 3), .int (mi 4), .int (mi 5), .int (mi 6), .int (mi 7), .int (mi 8)])), (a0, .inl (cI, 6, .inl on)), (a1, .inl (cI, 7, .inl kd)), (a2, .inl (cI, 7, .inl sz)), (a3, .inl (cL, 280, .inr (.inl fr))), (a4, .inl (cL, 40, .inr (.inl li))), (a5, .inl (cI, 120, .inl st))] Hc) (hD0 : va_D nT [(m0, .inr (3, [.ref a0, .ref a1, .ref a2, .ref a3, .ref a4, .ref a5, .int (mi 0), .int (mi 1), .int (mi 2), .int (mi 3), .int (mi 4), .int (mi 5), .int (mi 6), .int (mi 7), .int (mi 8)])), (a0, .inl (cI, 6, .inl on)), (a1, .inl (cI, 7, .inl kd)), (a2, .inl (cI, 7, .inl sz)), (a3, .inl (cL, 280, .inr (.inl fr))), (a4, .inl (cL, 40, .inr (.inl li))), (a5, .inl (cI, 120, .inl st))]) (hN : ∀ q, va_A [(m0, .inr (3, [.ref a0, .ref a1, .ref a2, .ref a3, .ref a4, .ref a5, .int (mi 0), .int (mi 1), .int (mi 2), .int (mi 3), .int (mi 4), .int (mi 5), .int (mi 6), .int (mi 7), .int (mi 8)])), (a0, .inl (cI, 6, .inl on)), (a1, .inl (cI, 7, .inl kd)), (a2, .inl (cI, 7, .inl sz)), (a3, .inl (cL, 280, .inr (.inl fr))), (a4, .inl (cL, 40, .inr (.inl li))), (a5, .inl (cI, 120, .inl st))] Hc.size q → N0 ≤ q) (hO : OnOk on) : Met l yX3_hang wsX3_hang ({ frames := 2, cells := 0, slots := 0, locals := 60 }) (Pq D cI cL cQ N0 sa [.ref m0, .int h0, .int o0] Hc) (va_Qi (fun (r : Int32) (u : MS) => (¬ (okH h0 ∧ okH o0) ∧ r = 0 ∧ u = (on, kd, sz, fr, li, st, miC mi 1)) ∨ (∃ j1 i1 : Nat, j1 < 6 ∧ i1 < 6 ∧ h0 = nI j1 ∧ o0 = nI i1 ∧ r = mK (upd on j1 (on i1)) kd j1 ∧ u = (upd on j1 (on i1), kd, sz, fr, li, st, miC mi 0))) (fun (u : MS) (t : State) => va_P D vwCl [(m0, .inr (3, [.ref a0, .ref a1, .ref a2, .ref a3, .ref a4, .ref a5, .int (u.2.2.2.2.2.2 0), .int (u.2.2.2.2.2.2 1), .int (u.2.2.2.2.2.2 2), .int (u.2.2.2.2.2.2 3), .int (u.2.2.2.2.2.2 4), .int (u.2.2.2.2.2.2 5), .int (u.2.2.2.2.2.2 6), .int (u.2.2.2.2.2.2 7), .int (u.2.2.2.2.2.2 8)])), (a0, .inl (cI, 6, .inl u.1)), (a1, .inl (cI, 7, .inl u.2.1)), (a2, .inl (cI, 7, .inl u.2.2.1)), (a3, .inl (cL, 280, .inr (.inl u.2.2.2.1))), (a4, .inl (cL, 40, .inr (.inl u.2.2.2.2.1))), (a5, .inl (cI, 120, .inl u.2.2.2.2.2.1))] t.heap ∧ va_D (va_A [(m0, .inr (3, [.ref a0, .ref a1, .ref a2, .ref a3, .ref a4, .ref a5, .int (mi 0), .int (mi 1), .int (mi 2), .int (mi 3), .int (mi 4), .int (mi 5), .int (mi 6), .int (mi 7), .int (mi 8)])), (a0, .inl (cI, 6, .inl on)), (a1, .inl (cI, 7, .inl kd)), (a2, .inl (cI, 7, .inl sz)), (a3, .inl (cL, 280, .inr (.inl fr))), (a4, .inl (cL, 40, .inr (.inl li))), (a5, .inl (cI, 120, .inl st))] Hc.size) [(m0, .inr (3, [.ref a0, .ref a1, .ref a2, .ref a3, .ref a4, .ref a5, .int (u.2.2.2.2.2.2 0), .int (u.2.2.2.2.2.2 1), .int (u.2.2.2.2.2.2 2), .int (u.2.2.2.2.2.2 3), .int (u.2.2.2.2.2.2 4), .int (u.2.2.2.2.2.2 5), .int (u.2.2.2.2.2.2 6), .int (u.2.2.2.2.2.2 7), .int (u.2.2.2.2.2.2 8)])), (a0, .inl (cI, 6, .inl u.1)), (a1, .inl (cI, 7, .inl u.2.1)), (a2, .inl (cI, 7, .inl u.2.2.1)), (a3, .inl (cL, 280, .inr (.inl u.2.2.2.1))), (a4, .inl (cL, 40, .inr (.inl u.2.2.2.2.1))), (a5, .inl (cI, 120, .inl u.2.2.2.2.2.1))]) (va_A [(m0, .inr (3, [.ref a0, .ref a1, .ref a2, .ref a3, .ref a4, .ref a5, .int (mi 0), .int (mi 1), .int (mi 2), .int (mi 3), .int (mi 4), .int (mi 5), .int (mi 6), .int (mi 7), .int (mi 8)])), (a0, .inl (cI, 6, .inl on)), (a1, .inl (cI, 7, .inl kd)), (a2, .inl (cI, 7, .inl sz)), (a3, .inl (cL, 280, .inr (.inl fr))), (a4, .inl (cL, 40, .inr (.inl li))), (a5, .inl (cI, 120, .inl st))] Hc.size)) 0 0 (va_A [(m0, .inr (3, [.ref a0, .ref a1, .ref a2, .ref a3, .ref a4, .ref a5, .int (mi 0), .int (mi 1), .int (mi 2), .int (mi 3), .int (mi 4), .int (mi 5), .int (mi 6), .int (mi 7), .int (mi 8)])), (a0, .inl (cI, 6, .inl on)), (a1, .inl (cI, 7, .inl kd)), (a2, .inl (cI, 7, .inl sz)), (a3, .inl (cL, 280, .inr (.inl fr))), (a4, .inl (cL, 40, .inr (.inl li))), (a5, .inl (cI, 120, .inl st))] Hc.size) := by
  refine Met.ofW (cc := cX3_hang) (maxL := 3) (ret := (some .int)) (by decide) rfl ?_
  intro p e s m args below meth c s₁ B hml hv
  obtain ⟨rfl, hH, hC⟩ := hv
  have hx := B.exec
  have hb := B.bytes
  have hr := B.returns
  have hts := atoms_spec (ws := wsX3_hang) B.pre
  have hown : s.vm.findClass RX3 = some m.cls := findClass_of_methodNamed B.named
  have hlocks := B.notSynchronized
  subst hH
  have hK := hC.K
  have hl := lv_entry ([.ref m0, .int h0, .int o0]) (n := 3) (Nat.le_of_ble_eq_true rfl)
  rw [lg_entry_eq]
  generalize (lg_sl ([.ref m0, .int h0, .int o0]) ++ List.replicate (3 - (lg_sl ([.ref m0, .int h0, .int o0])).length) Slot.unset).toArray = ls at hl ⊢
  have hl : lv_has ls 3 [(0, .ref m0), (1, .int h0), (2, .int o0)] := hl
  have hP : va_P D vwCl [(m0, .inr (3, [.ref a0, .ref a1, .ref a2, .ref a3, .ref a4, .ref a5, .int (mi 0), .int (mi 1), .int (mi 2), .int (mi 3), .int (mi 4), .int (mi 5), .int (mi 6), .int (mi 7), .int (mi 8)])), (a0, .inl (cI, 6, .inl on)), (a1, .inl (cI, 7, .inl kd)), (a2, .inl (cI, 7, .inl sz)), (a3, .inl (cL, 280, .inr (.inl fr))), (a4, .inl (cL, 40, .inr (.inl li))), (a5, .inl (cI, 120, .inl st))] s.heap := hP
  have hD := hD0.self (sz := s.heap.size)
  generalize hAe : va_A [(m0, .inr (3, [.ref a0, .ref a1, .ref a2, .ref a3, .ref a4, .ref a5, .int (mi 0), .int (mi 1), .int (mi 2), .int (mi 3), .int (mi 4), .int (mi 5), .int (mi 6), .int (mi 7), .int (mi 8)])), (a0, .inl (cI, 6, .inl on)), (a1, .inl (cI, 7, .inl kd)), (a2, .inl (cI, 7, .inl sz)), (a3, .inl (cL, 280, .inr (.inl fr))), (a4, .inl (cL, 40, .inr (.inl li))), (a5, .inl (cI, 120, .inl st))] s.heap.size = A at hD hN ⊢
  have hA : ∀ q : Nat, s.heap.size ≤ q → A q := fun q h => by rw [← hAe]; exact Or.inr h
  have hS : va_S A s.heap s.heap [] := va_S.rf
  refine lv_aload_n hx hb dX3_hang_0 rfl (lv_at hl 0 rfl) ?_
  refine lv_iload_n hx hb dX3_hang_1 rfl (lv_at hl 1 rfl) ?_
  refine ro_i (va_runS (As := [.int h0]) (rest := [.ref m0]) ⟨hx, hb, hml, hown, hts⟩ (c_X3_isHook l (v0 := h0)) (va_cwS 1 hts gX3_hang_X3_isHook rfl rfl rfl (by decide +kernel) ⟨Nat.le_of_ble_eq_true rfl, Nat.le_of_ble_eq_true rfl⟩) (Pq.S hC hS hN) rfl rfl hl.1 rfl (lv_room (Nat.le_of_ble_eq_true rfl)) dX3_hang_2 ⟨Nat.le_of_ble_eq_true rfl, Nat.le_of_ble_eq_true rfl⟩) hS (fun r_1 locs hw hS => ?_)
  have hw : r_1 = tB (0 ≤ h0 ∧ h0 ≤ 5) := hw
  subst hw
  refine lv_if_eq (tgt := 19) hx hb dX3_hang_5 (by decide) (fun c_5 => ?_) (fun c_5 => ?_)
  · have c_5 := tB_0.mp c_5
    refine lv_iconst (v := 1) hx hb dX3_hang_19 (by decide) ?_
    refine va_put (D := D) (ci := 3) (v := .int 1) (ty := .int) (C := RX3) (T := TX3) (N := 15) hx hb hts iw_X3_hang_X3 tyX3 tyX3_ok nmX3 hown hK hP hD hS 0 rfl rfl 14 (by decide) (hts _ lk_X3_hang_Cond_fieldLink_RX3_29_SpliceRoomModel_code_I_) (fun _ h9 => h9) rfl (by decide +kernel) rfl rfl (Nat.le_of_ble_eq_true rfl) dX3_hang_20 (fun H locs hP hD hS => ?_)
    have hP : va_P D vwCl [(m0, .inr (3, [.ref a0, .ref a1, .ref a2, .ref a3, .ref a4, .ref a5, .int (mi 0), .int (mi 1), .int (mi 2), .int (mi 3), .int (mi 4), .int (mi 5), .int (mi 6), .int (mi 7), .int 1])), (a0, .inl (cI, 6, .inl on)), (a1, .inl (cI, 7, .inl kd)), (a2, .inl (cI, 7, .inl sz)), (a3, .inl (cL, 280, .inr (.inl fr))), (a4, .inl (cL, 40, .inr (.inl li))), (a5, .inl (cI, 120, .inl st))] H := hP
    have hD : va_D A [(m0, .inr (3, [.ref a0, .ref a1, .ref a2, .ref a3, .ref a4, .ref a5, .int (mi 0), .int (mi 1), .int (mi 2), .int (mi 3), .int (mi 4), .int (mi 5), .int (mi 6), .int (mi 7), .int 1])), (a0, .inl (cI, 6, .inl on)), (a1, .inl (cI, 7, .inl kd)), (a2, .inl (cI, 7, .inl sz)), (a3, .inl (cL, 280, .inr (.inl fr))), (a4, .inl (cL, 40, .inr (.inl li))), (a5, .inl (cI, 120, .inl st))] := hD
    refine lv_aload_n hx hb dX3_hang_23 rfl (lv_at hl 0 rfl) ?_
    refine va_get (D := D) (ci := 3) (v := .int 1) (C := RX3) (T := TX3) (N := 15) hx hb hts iw_X3_hang_X3 hown hK hP 0 rfl rfl 14 (by decide) (hts _ lk_X3_hang_Cond_fieldLink_RX3_29_SpliceRoomModel_code_I_) (fun _ h9 => h9) rfl dX3_hang_24 ?_
    refine lv_if_le (tgt := 32) hx hb dX3_hang_27 (by decide) (fun c9 => absurd c9 (by decide)) (fun _ => ?_)
    refine lv_iconst (v := 0) hx hb dX3_hang_30 (by decide) ?_
    exact W.iret (v := 0) hx hb hr (fun t ht hW => ⟨⟨_, (on, kd, sz, fr, li, st, mi9 (mi 0) (mi 1) (mi 2) (mi 3) (mi 4) (mi 5) (mi 6) (mi 7) 1), rfl, Or.inl ⟨fun h9 => c_5 (okH_iff.mpr h9.1), rfl, rfl⟩, ⟨by rw [ht]; exact hP, hD⟩⟩, hS.F ht⟩) hS.2.2 dX3_hang_31
  · have c_5 := tB_n.mp c_5
    obtain ⟨j, hj, rfl⟩ := okH_iff.mp c_5
    refine lv_iload_n hx hb dX3_hang_8 rfl (lv_at hl 2 rfl) ?_
    refine ro_i (va_runS (As := [.int o0]) (rest := [.ref m0]) ⟨hx, hb, hml, hown, hts⟩ (c_X3_isHook l (v0 := o0)) (va_cwS 1 hts gX3_hang_X3_isHook rfl rfl rfl (by decide +kernel) ⟨Nat.le_of_ble_eq_true rfl, Nat.le_of_ble_eq_true rfl⟩) (Pq.S hC hS hN) rfl rfl hl.1 rfl (lv_room (Nat.le_of_ble_eq_true rfl)) dX3_hang_9 ⟨Nat.le_of_ble_eq_true rfl, Nat.le_of_ble_eq_true rfl⟩) hS (fun r_2 locs hw hS => ?_)
    have hw : r_2 = tB (0 ≤ o0 ∧ o0 ≤ 5) := hw
    subst hw
    refine lv_if_eq (tgt := 19) hx hb dX3_hang_12 (by decide) (fun c_12 => ?_) (fun c_12 => ?_)
    · have c_12 := tB_0.mp c_12
      refine lv_iconst (v := 1) hx hb dX3_hang_19 (by decide) ?_
      refine va_put (D := D) (ci := 3) (v := .int 1) (ty := .int) (C := RX3) (T := TX3) (N := 15) hx hb hts iw_X3_hang_X3 tyX3 tyX3_ok nmX3 hown hK hP hD hS 0 rfl rfl 14 (by decide) (hts _ lk_X3_hang_Cond_fieldLink_RX3_29_SpliceRoomModel_code_I_) (fun _ h9 => h9) rfl (by decide +kernel) rfl rfl (Nat.le_of_ble_eq_true rfl) dX3_hang_20 (fun H locs hP hD hS => ?_)
      have hP : va_P D vwCl [(m0, .inr (3, [.ref a0, .ref a1, .ref a2, .ref a3, .ref a4, .ref a5, .int (mi 0), .int (mi 1), .int (mi 2), .int (mi 3), .int (mi 4), .int (mi 5), .int (mi 6), .int (mi 7), .int 1])), (a0, .inl (cI, 6, .inl on)), (a1, .inl (cI, 7, .inl kd)), (a2, .inl (cI, 7, .inl sz)), (a3, .inl (cL, 280, .inr (.inl fr))), (a4, .inl (cL, 40, .inr (.inl li))), (a5, .inl (cI, 120, .inl st))] H := hP
      have hD : va_D A [(m0, .inr (3, [.ref a0, .ref a1, .ref a2, .ref a3, .ref a4, .ref a5, .int (mi 0), .int (mi 1), .int (mi 2), .int (mi 3), .int (mi 4), .int (mi 5), .int (mi 6), .int (mi 7), .int 1])), (a0, .inl (cI, 6, .inl on)), (a1, .inl (cI, 7, .inl kd)), (a2, .inl (cI, 7, .inl sz)), (a3, .inl (cL, 280, .inr (.inl fr))), (a4, .inl (cL, 40, .inr (.inl li))), (a5, .inl (cI, 120, .inl st))] := hD
      refine lv_aload_n hx hb dX3_hang_23 rfl (lv_at hl 0 rfl) ?_
      refine va_get (D := D) (ci := 3) (v := .int 1) (C := RX3) (T := TX3) (N := 15) hx hb hts iw_X3_hang_X3 hown hK hP 0 rfl rfl 14 (by decide) (hts _ lk_X3_hang_Cond_fieldLink_RX3_29_SpliceRoomModel_code_I_) (fun _ h9 => h9) rfl dX3_hang_24 ?_
      refine lv_if_le (tgt := 32) hx hb dX3_hang_27 (by decide) (fun c9 => absurd c9 (by decide)) (fun _ => ?_)
      refine lv_iconst (v := 0) hx hb dX3_hang_30 (by decide) ?_
      exact W.iret (v := 0) hx hb hr (fun t ht hW => ⟨⟨_, (on, kd, sz, fr, li, st, mi9 (mi 0) (mi 1) (mi 2) (mi 3) (mi 4) (mi 5) (mi 6) (mi 7) 1), rfl, Or.inl ⟨fun h9 => c_12 (okH_iff.mpr h9.2), rfl, rfl⟩, ⟨by rw [ht]; exact hP, hD⟩⟩, hS.F ht⟩) hS.2.2 dX3_hang_31
    · have c_12 := tB_n.mp c_12
      obtain ⟨i, hi, rfl⟩ := okH_iff.mp c_12
      refine lv_iconst (v := 0) hx hb dX3_hang_15 (by decide) ?_
      refine lv_goto (tgt := 20) hx hb dX3_hang_16 (by decide) ?_
      refine va_put (D := D) (ci := 3) (v := .int 0) (ty := .int) (C := RX3) (T := TX3) (N := 15) hx hb hts iw_X3_hang_X3 tyX3 tyX3_ok nmX3 hown hK hP hD hS 0 rfl rfl 14 (by decide) (hts _ lk_X3_hang_Cond_fieldLink_RX3_29_SpliceRoomModel_code_I_) (fun _ h9 => h9) rfl (by decide +kernel) rfl rfl (Nat.le_of_ble_eq_true rfl) dX3_hang_20 (fun H locs hP hD hS => ?_)
      have hP : va_P D vwCl [(m0, .inr (3, [.ref a0, .ref a1, .ref a2, .ref a3, .ref a4, .ref a5, .int (mi 0), .int (mi 1), .int (mi 2), .int (mi 3), .int (mi 4), .int (mi 5), .int (mi 6), .int (mi 7), .int 0])), (a0, .inl (cI, 6, .inl on)), (a1, .inl (cI, 7, .inl kd)), (a2, .inl (cI, 7, .inl sz)), (a3, .inl (cL, 280, .inr (.inl fr))), (a4, .inl (cL, 40, .inr (.inl li))), (a5, .inl (cI, 120, .inl st))] H := hP
      have hD : va_D A [(m0, .inr (3, [.ref a0, .ref a1, .ref a2, .ref a3, .ref a4, .ref a5, .int (mi 0), .int (mi 1), .int (mi 2), .int (mi 3), .int (mi 4), .int (mi 5), .int (mi 6), .int (mi 7), .int 0])), (a0, .inl (cI, 6, .inl on)), (a1, .inl (cI, 7, .inl kd)), (a2, .inl (cI, 7, .inl sz)), (a3, .inl (cL, 280, .inr (.inl fr))), (a4, .inl (cL, 40, .inr (.inl li))), (a5, .inl (cI, 120, .inl st))] := hD
      refine lv_aload_n hx hb dX3_hang_23 rfl (lv_at hl 0 rfl) ?_
      refine va_get (D := D) (ci := 3) (v := .int 0) (C := RX3) (T := TX3) (N := 15) hx hb hts iw_X3_hang_X3 hown hK hP 0 rfl rfl 14 (by decide) (hts _ lk_X3_hang_Cond_fieldLink_RX3_29_SpliceRoomModel_code_I_) (fun _ h9 => h9) rfl dX3_hang_24 ?_
      refine lv_if_le (tgt := 32) hx hb dX3_hang_27 (by decide) (fun _ => ?_) (fun c9 => absurd (by decide) c9)
      refine lv_aload_n hx hb dX3_hang_32 rfl (lv_at hl 0 rfl) ?_
      refine va_get (D := D) (ci := 3) (v := .ref a0) (C := RX3) (T := TX3) (N := 15) hx hb hts iw_X3_hang_X3 hown hK hP 0 rfl rfl 0 (by decide) (hts _ lk_X3_hang_Cond_fieldLink_RX3_7_SpliceRoomModel_on_I_) (fun _ h9 => h9) rfl dX3_hang_33 ?_
      refine lv_iload_n hx hb dX3_hang_36 rfl (lv_at hl 1 rfl) ?_
      refine lv_aload_n hx hb dX3_hang_37 rfl (lv_at hl 0 rfl) ?_
      refine va_get (D := D) (ci := 3) (v := .ref a0) (C := RX3) (T := TX3) (N := 15) hx hb hts iw_X3_hang_X3 hown hK hP 0 rfl rfl 0 (by decide) (hts _ lk_X3_hang_Cond_fieldLink_RX3_7_SpliceRoomModel_on_I_) (fun _ h9 => h9) rfl dX3_hang_38 ?_
      refine lv_iload_n hx hb dX3_hang_41 rfl (lv_at hl 2 rfl) ?_
      refine va_iald (D := D) hx hb hK hP 1 0 rfl rfl (vp_in_nI hi (by decide)) dX3_hang_42 ?_
      refine lv_topi (fun y_3 e9 => ?_)
      have e9 : y_3 = on i := e9.trans (by rw [nI_clamp (by omega)])
      subst e9
      refine va_iast (D := D) hx hb hK hP hD hS 1 0 rfl rfl (vp_in_nI hj (by decide)) dX3_hang_43 (fun H locs hP hD hS => ?_)
      have hP : va_P D vwCl [(m0, .inr (3, [.ref a0, .ref a1, .ref a2, .ref a3, .ref a4, .ref a5, .int (mi 0), .int (mi 1), .int (mi 2), .int (mi 3), .int (mi 4), .int (mi 5), .int (mi 6), .int (mi 7), .int 0])), (a0, .inl (cI, 6, .inl (upd on ((nI j).toNatClampNeg) (on i)))), (a1, .inl (cI, 7, .inl kd)), (a2, .inl (cI, 7, .inl sz)), (a3, .inl (cL, 280, .inr (.inl fr))), (a4, .inl (cL, 40, .inr (.inl li))), (a5, .inl (cI, 120, .inl st))] H := hP
      have hD : va_D A [(m0, .inr (3, [.ref a0, .ref a1, .ref a2, .ref a3, .ref a4, .ref a5, .int (mi 0), .int (mi 1), .int (mi 2), .int (mi 3), .int (mi 4), .int (mi 5), .int (mi 6), .int (mi 7), .int 0])), (a0, .inl (cI, 6, .inl (upd on ((nI j).toNatClampNeg) (on i)))), (a1, .inl (cI, 7, .inl kd)), (a2, .inl (cI, 7, .inl sz)), (a3, .inl (cL, 280, .inr (.inl fr))), (a4, .inl (cL, 40, .inr (.inl li))), (a5, .inl (cI, 120, .inl st))] := hD
      rw [nI_clamp (show j < 2 ^ 31 by omega)] at hP hD
      have hO2 : OnOk (upd on j (on i)) := fun a ha => by
        by_cases e9 : a = j
        · rw [e9, pk_us]; exact hO i hi
        · rw [pk_un e9]; exact hO a ha
      refine lv_aload_n hx hb dX3_hang_44 rfl (lv_at hl 0 rfl) ?_
      refine lv_iload_n hx hb dX3_hang_45 rfl (lv_at hl 1 rfl) ?_
      refine ro_i (va_runV (As := [.int (nI j)]) (rest := []) ⟨hx, hb, hml, hown, hts⟩ (c_X3_kindAt l (j := j) (mi := mi9 (mi 0) (mi 1) (mi 2) (mi 3) (mi 4) (mi 5) (mi 6) (mi 7) 0) (hP.sub [0, 1, 2, 3, 4, 5, 6] rfl) hO2 hj) (cwV 1 hts gX3_hang_X3_kindAt rfl rfl rfl (by decide +kernel) ⟨Nat.le_of_ble_eq_true rfl, Nat.le_of_ble_eq_true rfl⟩) (Pq.V hC hS hN (va_recv hK hP (ci := 3) (q0 := 0) rfl rfl)) rfl rfl hl.1 rfl (lv_room (Nat.le_of_ble_eq_true rfl)) dX3_hang_46 ⟨Nat.le_of_ble_eq_true rfl, Nat.le_of_ble_eq_true rfl⟩) hS (fun r_4 locs hw hS => ?_)
      have hw : r_4 = mK (upd on j (on i)) kd j := hw
      subst hw
      exact W.iret (v := mK (upd on j (on i)) kd j) hx hb hr (fun t ht hW => ⟨⟨_, (upd on j (on i), kd, sz, fr, li, st, mi9 (mi 0) (mi 1) (mi 2) (mi 3) (mi 4) (mi 5) (mi 6) (mi 7) 0), rfl, Or.inr ⟨j, i, hj, hi, rfl, rfl, rfl, rfl⟩, ⟨by rw [ht]; exact hP, hD⟩⟩, hS.F ht⟩) hS.2.2 dX3_hang_49
theorem iw_X3_mark_X3 : ∀ w ∈ wsX30, w ∈ wsX3_mark := by decide +kernel
theorem lk_X3_mark_Cond_fieldLink_RX3_19_SpliceRoomModel_frames_J_ : Cond.fieldLink RX3 19 "SpliceRoomModel" "frames" "[J" ∈ wsX3_mark := by decide +kernel
theorem lk_X3_mark_Cond_fieldLink_RX3_29_SpliceRoomModel_code_I_ : Cond.fieldLink RX3 29 "SpliceRoomModel" "code" "I" ∈ wsX3_mark := by decide +kernel
theorem lk_X3_mark_Cond_fieldLink_RX3_7_SpliceRoomModel_on_I_ : Cond.fieldLink RX3 7 "SpliceRoomModel" "on" "[I" ∈ wsX3_mark := by decide +kernel
set_option maxHeartbeats 4000000 in
set_option maxRecDepth 100000 in
theorem c_X3_mark (l : Launch) {D : va_G} {cI cL cQ : ClassId} {N0 : Nat} {sa : Nat → Nat} {Hc : Heap} {m0 a0 a1 a2 a3 a4 a5 : Nat} {on kd sz : Nat → Int32} {fr li : Nat → Int64} {st : Nat → Int32} {mi : Nat → Int32} {h0 i0 : Int32} {v0 : Int64} (hP : va_P D vwCl [(m0, .inr (3, [.ref a0, .ref a1, .ref a2, .ref a3, .ref a4, .ref a5, .int (mi 0), .int (mi 1), .int (mi 2), .int (mi 3), .int (mi 4), .int (mi 5), .int (mi 6), .int (mi 7), .int (mi 8)])), (a0, .inl (cI, 6, .inl on)), (a1, .inl (cI, 7, .inl kd)), (a2, .inl (cI, 7, .inl sz)), (a3, .inl (cL, 280, .inr (.inl fr))), (a4, .inl (cL, 40, .inr (.inl li))), (a5, .inl (cI, 120, .inl st))] Hc) (hD0 : va_D nT [(m0, .inr (3, [.ref a0, .ref a1, .ref a2, .ref a3, .ref a4, .ref a5, .int (mi 0), .int (mi 1), .int (mi 2), .int (mi 3), .int (mi 4), .int (mi 5), .int (mi 6), .int (mi 7), .int (mi 8)])), (a0, .inl (cI, 6, .inl on)), (a1, .inl (cI, 7, .inl kd)), (a2, .inl (cI, 7, .inl sz)), (a3, .inl (cL, 280, .inr (.inl fr))), (a4, .inl (cL, 40, .inr (.inl li))), (a5, .inl (cI, 120, .inl st))]) (hN : ∀ q, va_A [(m0, .inr (3, [.ref a0, .ref a1, .ref a2, .ref a3, .ref a4, .ref a5, .int (mi 0), .int (mi 1), .int (mi 2), .int (mi 3), .int (mi 4), .int (mi 5), .int (mi 6), .int (mi 7), .int (mi 8)])), (a0, .inl (cI, 6, .inl on)), (a1, .inl (cI, 7, .inl kd)), (a2, .inl (cI, 7, .inl sz)), (a3, .inl (cL, 280, .inr (.inl fr))), (a4, .inl (cL, 40, .inr (.inl li))), (a5, .inl (cI, 120, .inl st))] Hc.size q → N0 ≤ q) (hO : OnOk on) (hZ : SzOk sz) : Met l yX3_mark wsX3_mark ({ frames := 2, cells := 0, slots := 0, locals := 60 }) (Pq D cI cL cQ N0 sa [.ref m0, .int h0, .int i0, .long v0] Hc) (va_Qv (fun (u : MS) => (¬ okH h0 ∧ u = (on, kd, sz, fr, li, st, miC mi 1)) ∨ (∃ j1 : Nat, j1 < 6 ∧ h0 = nI j1 ∧ ((¬ (1 ≤ mK on kd j1 ∧ mK on kd j1 ≤ 2) ∧ u = (on, kd, sz, fr, li, st, miC mi 2)) ∨ ((1 ≤ mK on kd j1 ∧ mK on kd j1 ≤ 2) ∧ ∃ p1 z1 : Nat, p1 < 7 ∧ z1 ≤ 40 ∧ on j1 = nI p1 ∧ sz p1 = nI z1 ∧ ((¬ okF i0 z1 ∧ u = (on, kd, sz, fr, li, st, miC mi 3)) ∨ (∃ i1 : Nat, i1 < z1 ∧ i0 = nI i1 ∧ u = (on, kd, sz, vp_updL fr (40 * p1 + i1) (mkV (mK on kd j1) v0), li, st, miC mi 0))))))) (fun (u : MS) (t : State) => va_P D vwCl [(m0, .inr (3, [.ref a0, .ref a1, .ref a2, .ref a3, .ref a4, .ref a5, .int (u.2.2.2.2.2.2 0), .int (u.2.2.2.2.2.2 1), .int (u.2.2.2.2.2.2 2), .int (u.2.2.2.2.2.2 3), .int (u.2.2.2.2.2.2 4), .int (u.2.2.2.2.2.2 5), .int (u.2.2.2.2.2.2 6), .int (u.2.2.2.2.2.2 7), .int (u.2.2.2.2.2.2 8)])), (a0, .inl (cI, 6, .inl u.1)), (a1, .inl (cI, 7, .inl u.2.1)), (a2, .inl (cI, 7, .inl u.2.2.1)), (a3, .inl (cL, 280, .inr (.inl u.2.2.2.1))), (a4, .inl (cL, 40, .inr (.inl u.2.2.2.2.1))), (a5, .inl (cI, 120, .inl u.2.2.2.2.2.1))] t.heap ∧ va_D (va_A [(m0, .inr (3, [.ref a0, .ref a1, .ref a2, .ref a3, .ref a4, .ref a5, .int (mi 0), .int (mi 1), .int (mi 2), .int (mi 3), .int (mi 4), .int (mi 5), .int (mi 6), .int (mi 7), .int (mi 8)])), (a0, .inl (cI, 6, .inl on)), (a1, .inl (cI, 7, .inl kd)), (a2, .inl (cI, 7, .inl sz)), (a3, .inl (cL, 280, .inr (.inl fr))), (a4, .inl (cL, 40, .inr (.inl li))), (a5, .inl (cI, 120, .inl st))] Hc.size) [(m0, .inr (3, [.ref a0, .ref a1, .ref a2, .ref a3, .ref a4, .ref a5, .int (u.2.2.2.2.2.2 0), .int (u.2.2.2.2.2.2 1), .int (u.2.2.2.2.2.2 2), .int (u.2.2.2.2.2.2 3), .int (u.2.2.2.2.2.2 4), .int (u.2.2.2.2.2.2 5), .int (u.2.2.2.2.2.2 6), .int (u.2.2.2.2.2.2 7), .int (u.2.2.2.2.2.2 8)])), (a0, .inl (cI, 6, .inl u.1)), (a1, .inl (cI, 7, .inl u.2.1)), (a2, .inl (cI, 7, .inl u.2.2.1)), (a3, .inl (cL, 280, .inr (.inl u.2.2.2.1))), (a4, .inl (cL, 40, .inr (.inl u.2.2.2.2.1))), (a5, .inl (cI, 120, .inl u.2.2.2.2.2.1))]) (va_A [(m0, .inr (3, [.ref a0, .ref a1, .ref a2, .ref a3, .ref a4, .ref a5, .int (mi 0), .int (mi 1), .int (mi 2), .int (mi 3), .int (mi 4), .int (mi 5), .int (mi 6), .int (mi 7), .int (mi 8)])), (a0, .inl (cI, 6, .inl on)), (a1, .inl (cI, 7, .inl kd)), (a2, .inl (cI, 7, .inl sz)), (a3, .inl (cL, 280, .inr (.inl fr))), (a4, .inl (cL, 40, .inr (.inl li))), (a5, .inl (cI, 120, .inl st))] Hc.size)) 0 0 (va_A [(m0, .inr (3, [.ref a0, .ref a1, .ref a2, .ref a3, .ref a4, .ref a5, .int (mi 0), .int (mi 1), .int (mi 2), .int (mi 3), .int (mi 4), .int (mi 5), .int (mi 6), .int (mi 7), .int (mi 8)])), (a0, .inl (cI, 6, .inl on)), (a1, .inl (cI, 7, .inl kd)), (a2, .inl (cI, 7, .inl sz)), (a3, .inl (cL, 280, .inr (.inl fr))), (a4, .inl (cL, 40, .inr (.inl li))), (a5, .inl (cI, 120, .inl st))] Hc.size) := by
  refine Met.ofW (cc := cX3_mark) (maxL := 5) (ret := none) (by decide) rfl ?_
  intro p e s m args below meth c s₁ B hml hv
  obtain ⟨rfl, hH, hC⟩ := hv
  have hx := B.exec
  have hb := B.bytes
  have hr := B.returns
  have hts := atoms_spec (ws := wsX3_mark) B.pre
  have hown : s.vm.findClass RX3 = some m.cls := findClass_of_methodNamed B.named
  have hlocks := B.notSynchronized
  subst hH
  have hK := hC.K
  have hl := lv_entry ([.ref m0, .int h0, .int i0, .long v0]) (n := 5) (Nat.le_of_ble_eq_true rfl)
  rw [lg_entry_eq]
  generalize (lg_sl ([.ref m0, .int h0, .int i0, .long v0]) ++ List.replicate (5 - (lg_sl ([.ref m0, .int h0, .int i0, .long v0])).length) Slot.unset).toArray = ls at hl ⊢
  have hl : lv_has ls 5 [(0, .ref m0), (1, .int h0), (2, .int i0), (3, .long v0)] := hl
  have hP : va_P D vwCl [(m0, .inr (3, [.ref a0, .ref a1, .ref a2, .ref a3, .ref a4, .ref a5, .int (mi 0), .int (mi 1), .int (mi 2), .int (mi 3), .int (mi 4), .int (mi 5), .int (mi 6), .int (mi 7), .int (mi 8)])), (a0, .inl (cI, 6, .inl on)), (a1, .inl (cI, 7, .inl kd)), (a2, .inl (cI, 7, .inl sz)), (a3, .inl (cL, 280, .inr (.inl fr))), (a4, .inl (cL, 40, .inr (.inl li))), (a5, .inl (cI, 120, .inl st))] s.heap := hP
  have hD := hD0.self (sz := s.heap.size)
  generalize hAe : va_A [(m0, .inr (3, [.ref a0, .ref a1, .ref a2, .ref a3, .ref a4, .ref a5, .int (mi 0), .int (mi 1), .int (mi 2), .int (mi 3), .int (mi 4), .int (mi 5), .int (mi 6), .int (mi 7), .int (mi 8)])), (a0, .inl (cI, 6, .inl on)), (a1, .inl (cI, 7, .inl kd)), (a2, .inl (cI, 7, .inl sz)), (a3, .inl (cL, 280, .inr (.inl fr))), (a4, .inl (cL, 40, .inr (.inl li))), (a5, .inl (cI, 120, .inl st))] s.heap.size = A at hD hN ⊢
  have hA : ∀ q : Nat, s.heap.size ≤ q → A q := fun q h => by rw [← hAe]; exact Or.inr h
  have hS : va_S A s.heap s.heap [] := va_S.rf
  refine lv_aload_n hx hb dX3_mark_0 rfl (lv_at hl 0 rfl) ?_
  refine lv_iload_n hx hb dX3_mark_1 rfl (lv_at hl 1 rfl) ?_
  refine ro_i (va_runS (As := [.int h0]) (rest := [.ref m0]) ⟨hx, hb, hml, hown, hts⟩ (c_X3_isHook l (v0 := h0)) (va_cwS 1 hts gX3_mark_X3_isHook rfl rfl rfl (by decide +kernel) ⟨Nat.le_of_ble_eq_true rfl, Nat.le_of_ble_eq_true rfl⟩) (Pq.S hC hS hN) rfl rfl hl.1 rfl (lv_room (Nat.le_of_ble_eq_true rfl)) dX3_mark_2 ⟨Nat.le_of_ble_eq_true rfl, Nat.le_of_ble_eq_true rfl⟩) hS (fun r_1 locs hw hS => ?_)
  have hw : r_1 = tB (0 ≤ h0 ∧ h0 ≤ 5) := hw
  subst hw
  refine lv_if_ne (tgt := 12) hx hb dX3_mark_5 (by decide) (fun c_5 => ?_) (fun c_5 => ?_)
  · have c_5 := tB_n.mp c_5
    obtain ⟨j, hj, rfl⟩ := okH_iff.mp c_5
    refine lv_aload_n hx hb dX3_mark_12 rfl (lv_at hl 0 rfl) ?_
    refine lv_iload_n hx hb dX3_mark_13 rfl (lv_at hl 1 rfl) ?_
    refine ro_i (va_runV (As := [.int (nI j)]) (rest := [.ref m0]) ⟨hx, hb, hml, hown, hts⟩ (c_X3_kindAt l (j := j) (hP.sub [0, 1, 2, 3, 4, 5, 6] rfl) hO hj) (cwV 1 hts gX3_mark_X3_kindAt rfl rfl rfl (by decide +kernel) ⟨Nat.le_of_ble_eq_true rfl, Nat.le_of_ble_eq_true rfl⟩) (Pq.V hC hS hN (va_recv hK hP (ci := 3) (q0 := 0) rfl rfl)) rfl rfl hl.1 rfl (lv_room (Nat.le_of_ble_eq_true rfl)) dX3_mark_14 ⟨Nat.le_of_ble_eq_true rfl, Nat.le_of_ble_eq_true rfl⟩) hS (fun r_2 locs hw hS => ?_)
    have hw : r_2 = mK on kd j := hw
    subst hw
    refine lv_iconst (v := 1) hx hb dX3_mark_17 (by decide) ?_
    refine lv_iconst (v := 2) hx hb dX3_mark_18 (by decide) ?_
    refine ro_i (va_runS (As := [.int (mK on kd j), .int 1, .int 2]) (rest := [.ref m0]) ⟨hx, hb, hml, hown, hts⟩ (c_X3_in l (v0 := mK on kd j) (l0 := 1) (u0 := 2)) (va_cwS 3 hts gX3_mark_X3_in rfl rfl rfl (by decide +kernel) ⟨Nat.le_of_ble_eq_true rfl, Nat.le_of_ble_eq_true rfl⟩) (Pq.S hC hS hN) rfl rfl hl.1 rfl (lv_room (Nat.le_of_ble_eq_true rfl)) dX3_mark_19 ⟨Nat.le_of_ble_eq_true rfl, Nat.le_of_ble_eq_true rfl⟩) hS (fun r_3 locs hw hS => ?_)
    have hw : r_3 = tB (1 ≤ (mK on kd j) ∧ (mK on kd j) ≤ 2) := hw
    subst hw
    refine lv_if_ne (tgt := 29) hx hb dX3_mark_22 (by decide) (fun c_22 => ?_) (fun c_22 => ?_)
    · have c_22 := tB_n.mp c_22
      obtain ⟨pp, hp, ep⟩ := mK_n hO hj (kd := kd) (fun e9 => by rw [e9] at c_22; exact absurd c_22.1 (by decide))
      obtain ⟨z, hz, ez⟩ := hZ pp hp
      have ek : mK on kd j = kd pp := mK_p hp ep
      refine lv_iload_n hx hb dX3_mark_29 rfl (lv_at hl 2 rfl) ?_
      refine lv_iconst (v := 0) hx hb dX3_mark_30 (by decide) ?_
      refine lv_aload_n hx hb dX3_mark_31 rfl (lv_at hl 0 rfl) ?_
      refine lv_iload_n hx hb dX3_mark_32 rfl (lv_at hl 1 rfl) ?_
      refine ro_i (va_runV (As := [.int (nI j)]) (rest := [.int 0, .int i0, .ref m0]) ⟨hx, hb, hml, hown, hts⟩ (c_X3_sizeAt l (j := j) (hP.sub [0, 1, 2, 3, 4, 5, 6] rfl) hj hp ep) (cwV 1 hts gX3_mark_X3_sizeAt rfl rfl rfl (by decide +kernel) ⟨Nat.le_of_ble_eq_true rfl, Nat.le_of_ble_eq_true rfl⟩) (Pq.V hC hS hN (va_recv hK hP (ci := 3) (q0 := 0) rfl rfl)) rfl rfl hl.1 rfl (lv_room (Nat.le_of_ble_eq_true rfl)) dX3_mark_33 ⟨Nat.le_of_ble_eq_true rfl, Nat.le_of_ble_eq_true rfl⟩) hS (fun r_4 locs hw hS => ?_)
      have hw : r_4 = sz pp := hw
      subst hw
      refine lv_iconst (v := 1) hx hb dX3_mark_36 (by decide) ?_
      refine lv_isub hx hb dX3_mark_37 ?_
      refine ro_i (va_runS (As := [.int i0, .int 0, .int ((sz pp) - 1)]) (rest := [.ref m0]) ⟨hx, hb, hml, hown, hts⟩ (c_X3_in l (v0 := i0) (l0 := 0) (u0 := (sz pp) - 1)) (va_cwS 3 hts gX3_mark_X3_in rfl rfl rfl (by decide +kernel) ⟨Nat.le_of_ble_eq_true rfl, Nat.le_of_ble_eq_true rfl⟩) (Pq.S hC hS hN) rfl rfl hl.1 rfl (lv_room (Nat.le_of_ble_eq_true rfl)) dX3_mark_38 ⟨Nat.le_of_ble_eq_true rfl, Nat.le_of_ble_eq_true rfl⟩) hS (fun r_5 locs hw hS => ?_)
      have hw : r_5 = tB (0 ≤ i0 ∧ i0 ≤ ((sz pp) - 1)) := hw
      subst hw
      refine lv_if_ne (tgt := 48) hx hb dX3_mark_41 (by decide) (fun c_41 => ?_) (fun c_41 => ?_)
      · have c_41 := tB_n.mp c_41
        rw [ez] at c_41
        obtain ⟨i, hi, rfl⟩ := (okF_iff hz).mp c_41
        refine lv_iconst (v := 0) hx hb dX3_mark_48 (by decide) ?_
        refine va_put (D := D) (ci := 3) (v := .int 0) (ty := .int) (C := RX3) (T := TX3) (N := 15) hx hb hts iw_X3_mark_X3 tyX3 tyX3_ok nmX3 hown hK hP hD hS 0 rfl rfl 14 (by decide) (hts _ lk_X3_mark_Cond_fieldLink_RX3_29_SpliceRoomModel_code_I_) (fun _ h9 => h9) rfl (by decide +kernel) rfl rfl (Nat.le_of_ble_eq_true rfl) dX3_mark_49 (fun H locs hP hD hS => ?_)
        have hP : va_P D vwCl [(m0, .inr (3, [.ref a0, .ref a1, .ref a2, .ref a3, .ref a4, .ref a5, .int (mi 0), .int (mi 1), .int (mi 2), .int (mi 3), .int (mi 4), .int (mi 5), .int (mi 6), .int (mi 7), .int 0])), (a0, .inl (cI, 6, .inl on)), (a1, .inl (cI, 7, .inl kd)), (a2, .inl (cI, 7, .inl sz)), (a3, .inl (cL, 280, .inr (.inl fr))), (a4, .inl (cL, 40, .inr (.inl li))), (a5, .inl (cI, 120, .inl st))] H := hP
        have hD : va_D A [(m0, .inr (3, [.ref a0, .ref a1, .ref a2, .ref a3, .ref a4, .ref a5, .int (mi 0), .int (mi 1), .int (mi 2), .int (mi 3), .int (mi 4), .int (mi 5), .int (mi 6), .int (mi 7), .int 0])), (a0, .inl (cI, 6, .inl on)), (a1, .inl (cI, 7, .inl kd)), (a2, .inl (cI, 7, .inl sz)), (a3, .inl (cL, 280, .inr (.inl fr))), (a4, .inl (cL, 40, .inr (.inl li))), (a5, .inl (cI, 120, .inl st))] := hD
        refine lv_aload_n hx hb dX3_mark_52 rfl (lv_at hl 0 rfl) ?_
        refine va_get (D := D) (ci := 3) (v := .int 0) (C := RX3) (T := TX3) (N := 15) hx hb hts iw_X3_mark_X3 hown hK hP 0 rfl rfl 14 (by decide) (hts _ lk_X3_mark_Cond_fieldLink_RX3_29_SpliceRoomModel_code_I_) (fun _ h9 => h9) rfl dX3_mark_53 ?_
        refine lv_if_ne (tgt := 91) hx hb dX3_mark_56 (by decide) (fun c9 => absurd (by decide) c9) (fun _ => ?_)
        refine lv_aload_n hx hb dX3_mark_59 rfl (lv_at hl 0 rfl) ?_
        refine va_get (D := D) (ci := 3) (v := .ref a3) (C := RX3) (T := TX3) (N := 15) hx hb hts iw_X3_mark_X3 hown hK hP 0 rfl rfl 3 (by decide) (hts _ lk_X3_mark_Cond_fieldLink_RX3_19_SpliceRoomModel_frames_J_) (fun _ h9 => h9) rfl dX3_mark_60 ?_
        refine lv_bipush (v := 40) hx hb dX3_mark_63 (by decide) ?_
        refine lv_aload_n hx hb dX3_mark_65 rfl (lv_at hl 0 rfl) ?_
        refine va_get (D := D) (ci := 3) (v := .ref a0) (C := RX3) (T := TX3) (N := 15) hx hb hts iw_X3_mark_X3 hown hK hP 0 rfl rfl 0 (by decide) (hts _ lk_X3_mark_Cond_fieldLink_RX3_7_SpliceRoomModel_on_I_) (fun _ h9 => h9) rfl dX3_mark_66 ?_
        refine lv_iload_n hx hb dX3_mark_69 rfl (lv_at hl 1 rfl) ?_
        refine va_iald (D := D) hx hb hK hP 1 0 rfl rfl (vp_in_nI hj (by decide)) dX3_mark_70 ?_
        refine lv_topi (fun y_6 e9 => ?_)
        have e9 : y_6 = nI pp := e9.trans (by rw [nI_clamp (by omega)]; exact ep)
        subst e9
        refine lv_imul hx hb dX3_mark_71 ?_
        refine lv_iload_n hx hb dX3_mark_72 rfl (lv_at hl 2 rfl) ?_
        refine lv_iadd hx hb dX3_mark_73 ?_
        refine lv_aload_n hx hb dX3_mark_74 rfl (lv_at hl 0 rfl) ?_
        refine lv_iload_n hx hb dX3_mark_75 rfl (lv_at hl 1 rfl) ?_
        refine ro_i (va_runV (As := [.int (nI j)]) (rest := [.int ((40 * (nI pp)) + (nI i)), .ref a3]) ⟨hx, hb, hml, hown, hts⟩ (c_X3_kindAt l (j := j) (mi := mi9 (mi 0) (mi 1) (mi 2) (mi 3) (mi 4) (mi 5) (mi 6) (mi 7) 0) (hP.sub [0, 1, 2, 3, 4, 5, 6] rfl) hO hj) (cwV 1 hts gX3_mark_X3_kindAt rfl rfl rfl (by decide +kernel) ⟨Nat.le_of_ble_eq_true rfl, Nat.le_of_ble_eq_true rfl⟩) (Pq.V hC hS hN (va_recv hK hP (ci := 3) (q0 := 0) rfl rfl)) rfl rfl hl.1 rfl (lv_room (Nat.le_of_ble_eq_true rfl)) dX3_mark_76 ⟨Nat.le_of_ble_eq_true rfl, Nat.le_of_ble_eq_true rfl⟩) hS (fun r_7 locs hw hS => ?_)
        have hw : r_7 = mK on kd j := hw
        subst hw
        refine lv_iconst (v := 1) hx hb dX3_mark_79 (by decide) ?_
        refine lv_icmp_ne (tgt := 89) hx hb dX3_mark_80 (by decide) (fun c_80 => ?_) (fun c_80 => ?_)
        · refine lv_lload_n hx hb dX3_mark_89 rfl (lv_at hl 3 rfl) ?_
          refine va_last (D := D) hx hb hK hP hD hS 4 1 rfl rfl (by rw [idx40]; exact vp_in_nI (show 40 * pp + i < 280 by omega) (by decide)) dX3_mark_90 (fun H locs hP hD hS => ?_)
          have hP : va_P D vwCl [(m0, .inr (3, [.ref a0, .ref a1, .ref a2, .ref a3, .ref a4, .ref a5, .int (mi 0), .int (mi 1), .int (mi 2), .int (mi 3), .int (mi 4), .int (mi 5), .int (mi 6), .int (mi 7), .int 0])), (a0, .inl (cI, 6, .inl on)), (a1, .inl (cI, 7, .inl kd)), (a2, .inl (cI, 7, .inl sz)), (a3, .inl (cL, 280, .inr (.inl (vp_updL fr (((40 * (nI pp)) + (nI i)).toNatClampNeg) v0)))), (a4, .inl (cL, 40, .inr (.inl li))), (a5, .inl (cI, 120, .inl st))] H := hP
          have hD : va_D A [(m0, .inr (3, [.ref a0, .ref a1, .ref a2, .ref a3, .ref a4, .ref a5, .int (mi 0), .int (mi 1), .int (mi 2), .int (mi 3), .int (mi 4), .int (mi 5), .int (mi 6), .int (mi 7), .int 0])), (a0, .inl (cI, 6, .inl on)), (a1, .inl (cI, 7, .inl kd)), (a2, .inl (cI, 7, .inl sz)), (a3, .inl (cL, 280, .inr (.inl (vp_updL fr (((40 * (nI pp)) + (nI i)).toNatClampNeg) v0)))), (a4, .inl (cL, 40, .inr (.inl li))), (a5, .inl (cI, 120, .inl st))] := hD
          rw [idx40, nI_clamp (show 40 * pp + i < 2 ^ 31 by omega)] at hP hD
          exact W.vret hx hb hr (fun t ht hW => ⟨⟨(on, kd, sz, vp_updL fr (40 * pp + i) (v0), li, st, mi9 (mi 0) (mi 1) (mi 2) (mi 3) (mi 4) (mi 5) (mi 6) (mi 7) 0), rfl, Or.inr ⟨j, hj, rfl, Or.inr ⟨c_22, pp, z, hp, hz, ep, ez, Or.inr ⟨i, hi, rfl, by rw [mkV, if_neg c_80]⟩⟩⟩, ⟨by rw [ht]; exact hP, hD⟩⟩, hS.F ht⟩) hS.2.2 dX3_mark_91
        · refine lv_lload_n hx hb dX3_mark_83 rfl (lv_at hl 3 rfl) ?_
          refine lv_l2i hx hb dX3_mark_84 rfl ?_
          refine lv_i2l hx hb dX3_mark_85 rfl ?_
          refine lv_goto (tgt := 90) hx hb dX3_mark_86 (by decide) ?_
          refine va_last (D := D) hx hb hK hP hD hS 4 1 rfl rfl (by rw [idx40]; exact vp_in_nI (show 40 * pp + i < 280 by omega) (by decide)) dX3_mark_90 (fun H locs hP hD hS => ?_)
          have hP : va_P D vwCl [(m0, .inr (3, [.ref a0, .ref a1, .ref a2, .ref a3, .ref a4, .ref a5, .int (mi 0), .int (mi 1), .int (mi 2), .int (mi 3), .int (mi 4), .int (mi 5), .int (mi 6), .int (mi 7), .int 0])), (a0, .inl (cI, 6, .inl on)), (a1, .inl (cI, 7, .inl kd)), (a2, .inl (cI, 7, .inl sz)), (a3, .inl (cL, 280, .inr (.inl (vp_updL fr (((40 * (nI pp)) + (nI i)).toNatClampNeg) v0.toInt32.toInt64)))), (a4, .inl (cL, 40, .inr (.inl li))), (a5, .inl (cI, 120, .inl st))] H := hP
          have hD : va_D A [(m0, .inr (3, [.ref a0, .ref a1, .ref a2, .ref a3, .ref a4, .ref a5, .int (mi 0), .int (mi 1), .int (mi 2), .int (mi 3), .int (mi 4), .int (mi 5), .int (mi 6), .int (mi 7), .int 0])), (a0, .inl (cI, 6, .inl on)), (a1, .inl (cI, 7, .inl kd)), (a2, .inl (cI, 7, .inl sz)), (a3, .inl (cL, 280, .inr (.inl (vp_updL fr (((40 * (nI pp)) + (nI i)).toNatClampNeg) v0.toInt32.toInt64)))), (a4, .inl (cL, 40, .inr (.inl li))), (a5, .inl (cI, 120, .inl st))] := hD
          rw [idx40, nI_clamp (show 40 * pp + i < 2 ^ 31 by omega)] at hP hD
          exact W.vret hx hb hr (fun t ht hW => ⟨⟨(on, kd, sz, vp_updL fr (40 * pp + i) (v0.toInt32.toInt64), li, st, mi9 (mi 0) (mi 1) (mi 2) (mi 3) (mi 4) (mi 5) (mi 6) (mi 7) 0), rfl, Or.inr ⟨j, hj, rfl, Or.inr ⟨c_22, pp, z, hp, hz, ep, ez, Or.inr ⟨i, hi, rfl, by rw [mkV, if_pos c_80]⟩⟩⟩, ⟨by rw [ht]; exact hP, hD⟩⟩, hS.F ht⟩) hS.2.2 dX3_mark_91
      · have c_41 := tB_0.mp c_41
        rw [ez] at c_41
        have c_41 := fun z9 => c_41 ((okF_iff hz).mpr z9)
        refine lv_iconst (v := 3) hx hb dX3_mark_44 (by decide) ?_
        refine lv_goto (tgt := 49) hx hb dX3_mark_45 (by decide) ?_
        refine va_put (D := D) (ci := 3) (v := .int 3) (ty := .int) (C := RX3) (T := TX3) (N := 15) hx hb hts iw_X3_mark_X3 tyX3 tyX3_ok nmX3 hown hK hP hD hS 0 rfl rfl 14 (by decide) (hts _ lk_X3_mark_Cond_fieldLink_RX3_29_SpliceRoomModel_code_I_) (fun _ h9 => h9) rfl (by decide +kernel) rfl rfl (Nat.le_of_ble_eq_true rfl) dX3_mark_49 (fun H locs hP hD hS => ?_)
        have hP : va_P D vwCl [(m0, .inr (3, [.ref a0, .ref a1, .ref a2, .ref a3, .ref a4, .ref a5, .int (mi 0), .int (mi 1), .int (mi 2), .int (mi 3), .int (mi 4), .int (mi 5), .int (mi 6), .int (mi 7), .int 3])), (a0, .inl (cI, 6, .inl on)), (a1, .inl (cI, 7, .inl kd)), (a2, .inl (cI, 7, .inl sz)), (a3, .inl (cL, 280, .inr (.inl fr))), (a4, .inl (cL, 40, .inr (.inl li))), (a5, .inl (cI, 120, .inl st))] H := hP
        have hD : va_D A [(m0, .inr (3, [.ref a0, .ref a1, .ref a2, .ref a3, .ref a4, .ref a5, .int (mi 0), .int (mi 1), .int (mi 2), .int (mi 3), .int (mi 4), .int (mi 5), .int (mi 6), .int (mi 7), .int 3])), (a0, .inl (cI, 6, .inl on)), (a1, .inl (cI, 7, .inl kd)), (a2, .inl (cI, 7, .inl sz)), (a3, .inl (cL, 280, .inr (.inl fr))), (a4, .inl (cL, 40, .inr (.inl li))), (a5, .inl (cI, 120, .inl st))] := hD
        refine lv_aload_n hx hb dX3_mark_52 rfl (lv_at hl 0 rfl) ?_
        refine va_get (D := D) (ci := 3) (v := .int 3) (C := RX3) (T := TX3) (N := 15) hx hb hts iw_X3_mark_X3 hown hK hP 0 rfl rfl 14 (by decide) (hts _ lk_X3_mark_Cond_fieldLink_RX3_29_SpliceRoomModel_code_I_) (fun _ h9 => h9) rfl dX3_mark_53 ?_
        refine lv_if_ne (tgt := 91) hx hb dX3_mark_56 (by decide) (fun _ => ?_) (fun c9 => absurd c9 (by decide))
        exact W.vret hx hb hr (fun t ht hW => ⟨⟨(on, kd, sz, fr, li, st, mi9 (mi 0) (mi 1) (mi 2) (mi 3) (mi 4) (mi 5) (mi 6) (mi 7) 3), rfl, Or.inr ⟨j, hj, rfl, Or.inr ⟨c_22, pp, z, hp, hz, ep, ez, Or.inl ⟨c_41, rfl⟩⟩⟩, ⟨by rw [ht]; exact hP, hD⟩⟩, hS.F ht⟩) hS.2.2 dX3_mark_91
    · have c_22 := tB_0.mp c_22
      refine lv_iconst (v := 2) hx hb dX3_mark_25 (by decide) ?_
      refine lv_goto (tgt := 49) hx hb dX3_mark_26 (by decide) ?_
      refine va_put (D := D) (ci := 3) (v := .int 2) (ty := .int) (C := RX3) (T := TX3) (N := 15) hx hb hts iw_X3_mark_X3 tyX3 tyX3_ok nmX3 hown hK hP hD hS 0 rfl rfl 14 (by decide) (hts _ lk_X3_mark_Cond_fieldLink_RX3_29_SpliceRoomModel_code_I_) (fun _ h9 => h9) rfl (by decide +kernel) rfl rfl (Nat.le_of_ble_eq_true rfl) dX3_mark_49 (fun H locs hP hD hS => ?_)
      have hP : va_P D vwCl [(m0, .inr (3, [.ref a0, .ref a1, .ref a2, .ref a3, .ref a4, .ref a5, .int (mi 0), .int (mi 1), .int (mi 2), .int (mi 3), .int (mi 4), .int (mi 5), .int (mi 6), .int (mi 7), .int 2])), (a0, .inl (cI, 6, .inl on)), (a1, .inl (cI, 7, .inl kd)), (a2, .inl (cI, 7, .inl sz)), (a3, .inl (cL, 280, .inr (.inl fr))), (a4, .inl (cL, 40, .inr (.inl li))), (a5, .inl (cI, 120, .inl st))] H := hP
      have hD : va_D A [(m0, .inr (3, [.ref a0, .ref a1, .ref a2, .ref a3, .ref a4, .ref a5, .int (mi 0), .int (mi 1), .int (mi 2), .int (mi 3), .int (mi 4), .int (mi 5), .int (mi 6), .int (mi 7), .int 2])), (a0, .inl (cI, 6, .inl on)), (a1, .inl (cI, 7, .inl kd)), (a2, .inl (cI, 7, .inl sz)), (a3, .inl (cL, 280, .inr (.inl fr))), (a4, .inl (cL, 40, .inr (.inl li))), (a5, .inl (cI, 120, .inl st))] := hD
      refine lv_aload_n hx hb dX3_mark_52 rfl (lv_at hl 0 rfl) ?_
      refine va_get (D := D) (ci := 3) (v := .int 2) (C := RX3) (T := TX3) (N := 15) hx hb hts iw_X3_mark_X3 hown hK hP 0 rfl rfl 14 (by decide) (hts _ lk_X3_mark_Cond_fieldLink_RX3_29_SpliceRoomModel_code_I_) (fun _ h9 => h9) rfl dX3_mark_53 ?_
      refine lv_if_ne (tgt := 91) hx hb dX3_mark_56 (by decide) (fun _ => ?_) (fun c9 => absurd c9 (by decide))
      exact W.vret hx hb hr (fun t ht hW => ⟨⟨(on, kd, sz, fr, li, st, mi9 (mi 0) (mi 1) (mi 2) (mi 3) (mi 4) (mi 5) (mi 6) (mi 7) 2), rfl, Or.inr ⟨j, hj, rfl, Or.inl ⟨c_22, rfl⟩⟩, ⟨by rw [ht]; exact hP, hD⟩⟩, hS.F ht⟩) hS.2.2 dX3_mark_91
  · have c_5 := tB_0.mp c_5
    refine lv_iconst (v := 1) hx hb dX3_mark_8 (by decide) ?_
    refine lv_goto (tgt := 49) hx hb dX3_mark_9 (by decide) ?_
    refine va_put (D := D) (ci := 3) (v := .int 1) (ty := .int) (C := RX3) (T := TX3) (N := 15) hx hb hts iw_X3_mark_X3 tyX3 tyX3_ok nmX3 hown hK hP hD hS 0 rfl rfl 14 (by decide) (hts _ lk_X3_mark_Cond_fieldLink_RX3_29_SpliceRoomModel_code_I_) (fun _ h9 => h9) rfl (by decide +kernel) rfl rfl (Nat.le_of_ble_eq_true rfl) dX3_mark_49 (fun H locs hP hD hS => ?_)
    have hP : va_P D vwCl [(m0, .inr (3, [.ref a0, .ref a1, .ref a2, .ref a3, .ref a4, .ref a5, .int (mi 0), .int (mi 1), .int (mi 2), .int (mi 3), .int (mi 4), .int (mi 5), .int (mi 6), .int (mi 7), .int 1])), (a0, .inl (cI, 6, .inl on)), (a1, .inl (cI, 7, .inl kd)), (a2, .inl (cI, 7, .inl sz)), (a3, .inl (cL, 280, .inr (.inl fr))), (a4, .inl (cL, 40, .inr (.inl li))), (a5, .inl (cI, 120, .inl st))] H := hP
    have hD : va_D A [(m0, .inr (3, [.ref a0, .ref a1, .ref a2, .ref a3, .ref a4, .ref a5, .int (mi 0), .int (mi 1), .int (mi 2), .int (mi 3), .int (mi 4), .int (mi 5), .int (mi 6), .int (mi 7), .int 1])), (a0, .inl (cI, 6, .inl on)), (a1, .inl (cI, 7, .inl kd)), (a2, .inl (cI, 7, .inl sz)), (a3, .inl (cL, 280, .inr (.inl fr))), (a4, .inl (cL, 40, .inr (.inl li))), (a5, .inl (cI, 120, .inl st))] := hD
    refine lv_aload_n hx hb dX3_mark_52 rfl (lv_at hl 0 rfl) ?_
    refine va_get (D := D) (ci := 3) (v := .int 1) (C := RX3) (T := TX3) (N := 15) hx hb hts iw_X3_mark_X3 hown hK hP 0 rfl rfl 14 (by decide) (hts _ lk_X3_mark_Cond_fieldLink_RX3_29_SpliceRoomModel_code_I_) (fun _ h9 => h9) rfl dX3_mark_53 ?_
    refine lv_if_ne (tgt := 91) hx hb dX3_mark_56 (by decide) (fun _ => ?_) (fun c9 => absurd c9 (by decide))
    exact W.vret hx hb hr (fun t ht hW => ⟨⟨(on, kd, sz, fr, li, st, mi9 (mi 0) (mi 1) (mi 2) (mi 3) (mi 4) (mi 5) (mi 6) (mi 7) 1), rfl, Or.inl ⟨fun h9 => c_5 (okH_iff.mpr h9), rfl⟩, ⟨by rw [ht]; exact hP, hD⟩⟩, hS.F ht⟩) hS.2.2 dX3_mark_91
theorem iw_X3_frame_X3 : ∀ w ∈ wsX30, w ∈ wsX3_frame := by decide +kernel
theorem lk_X3_frame_Cond_fieldLink_RX3_19_SpliceRoomModel_frames_J_ : Cond.fieldLink RX3 19 "SpliceRoomModel" "frames" "[J" ∈ wsX3_frame := by decide +kernel
theorem lk_X3_frame_Cond_fieldLink_RX3_29_SpliceRoomModel_code_I_ : Cond.fieldLink RX3 29 "SpliceRoomModel" "code" "I" ∈ wsX3_frame := by decide +kernel
theorem lk_X3_frame_Cond_fieldLink_RX3_7_SpliceRoomModel_on_I_ : Cond.fieldLink RX3 7 "SpliceRoomModel" "on" "[I" ∈ wsX3_frame := by decide +kernel
set_option maxHeartbeats 4000000 in
set_option maxRecDepth 100000 in
theorem c_X3_frame (l : Launch) {D : va_G} {cI cL cQ : ClassId} {N0 : Nat} {sa : Nat → Nat} {Hc : Heap} {m0 a0 a1 a2 a3 a4 a5 : Nat} {on kd sz : Nat → Int32} {fr li : Nat → Int64} {st : Nat → Int32} {mi : Nat → Int32} {h0 i0 : Int32} (hP : va_P D vwCl [(m0, .inr (3, [.ref a0, .ref a1, .ref a2, .ref a3, .ref a4, .ref a5, .int (mi 0), .int (mi 1), .int (mi 2), .int (mi 3), .int (mi 4), .int (mi 5), .int (mi 6), .int (mi 7), .int (mi 8)])), (a0, .inl (cI, 6, .inl on)), (a1, .inl (cI, 7, .inl kd)), (a2, .inl (cI, 7, .inl sz)), (a3, .inl (cL, 280, .inr (.inl fr))), (a4, .inl (cL, 40, .inr (.inl li))), (a5, .inl (cI, 120, .inl st))] Hc) (hD0 : va_D nT [(m0, .inr (3, [.ref a0, .ref a1, .ref a2, .ref a3, .ref a4, .ref a5, .int (mi 0), .int (mi 1), .int (mi 2), .int (mi 3), .int (mi 4), .int (mi 5), .int (mi 6), .int (mi 7), .int (mi 8)])), (a0, .inl (cI, 6, .inl on)), (a1, .inl (cI, 7, .inl kd)), (a2, .inl (cI, 7, .inl sz)), (a3, .inl (cL, 280, .inr (.inl fr))), (a4, .inl (cL, 40, .inr (.inl li))), (a5, .inl (cI, 120, .inl st))]) (hN : ∀ q, va_A [(m0, .inr (3, [.ref a0, .ref a1, .ref a2, .ref a3, .ref a4, .ref a5, .int (mi 0), .int (mi 1), .int (mi 2), .int (mi 3), .int (mi 4), .int (mi 5), .int (mi 6), .int (mi 7), .int (mi 8)])), (a0, .inl (cI, 6, .inl on)), (a1, .inl (cI, 7, .inl kd)), (a2, .inl (cI, 7, .inl sz)), (a3, .inl (cL, 280, .inr (.inl fr))), (a4, .inl (cL, 40, .inr (.inl li))), (a5, .inl (cI, 120, .inl st))] Hc.size q → N0 ≤ q) (hO : OnOk on) (hZ : SzOk sz) : Met l yX3_frame wsX3_frame ({ frames := 2, cells := 0, slots := 0, locals := 60 }) (Pq D cI cL cQ N0 sa [.ref m0, .int h0, .int i0] Hc) (va_Ql (fun (r : Int64) (u : MS) => (¬ okH h0 ∧ u = (on, kd, sz, fr, li, st, miC mi 1)) ∨ (∃ j1 : Nat, j1 < 6 ∧ h0 = nI j1 ∧ ((¬ (1 ≤ mK on kd j1 ∧ mK on kd j1 ≤ 4) ∧ u = (on, kd, sz, fr, li, st, miC mi 2)) ∨ ((1 ≤ mK on kd j1 ∧ mK on kd j1 ≤ 4) ∧ ∃ p1 z1 : Nat, p1 < 7 ∧ z1 ≤ 40 ∧ on j1 = nI p1 ∧ sz p1 = nI z1 ∧ ((¬ okF i0 z1 ∧ u = (on, kd, sz, fr, li, st, miC mi 3)) ∨ (∃ i1 : Nat, i1 < z1 ∧ i0 = nI i1 ∧ r = fr (40 * p1 + i1) ∧ u = (on, kd, sz, fr, li, st, miC mi 0))))))) (fun (u : MS) (t : State) => va_P D vwCl [(m0, .inr (3, [.ref a0, .ref a1, .ref a2, .ref a3, .ref a4, .ref a5, .int (u.2.2.2.2.2.2 0), .int (u.2.2.2.2.2.2 1), .int (u.2.2.2.2.2.2 2), .int (u.2.2.2.2.2.2 3), .int (u.2.2.2.2.2.2 4), .int (u.2.2.2.2.2.2 5), .int (u.2.2.2.2.2.2 6), .int (u.2.2.2.2.2.2 7), .int (u.2.2.2.2.2.2 8)])), (a0, .inl (cI, 6, .inl u.1)), (a1, .inl (cI, 7, .inl u.2.1)), (a2, .inl (cI, 7, .inl u.2.2.1)), (a3, .inl (cL, 280, .inr (.inl u.2.2.2.1))), (a4, .inl (cL, 40, .inr (.inl u.2.2.2.2.1))), (a5, .inl (cI, 120, .inl u.2.2.2.2.2.1))] t.heap ∧ va_D (va_A [(m0, .inr (3, [.ref a0, .ref a1, .ref a2, .ref a3, .ref a4, .ref a5, .int (mi 0), .int (mi 1), .int (mi 2), .int (mi 3), .int (mi 4), .int (mi 5), .int (mi 6), .int (mi 7), .int (mi 8)])), (a0, .inl (cI, 6, .inl on)), (a1, .inl (cI, 7, .inl kd)), (a2, .inl (cI, 7, .inl sz)), (a3, .inl (cL, 280, .inr (.inl fr))), (a4, .inl (cL, 40, .inr (.inl li))), (a5, .inl (cI, 120, .inl st))] Hc.size) [(m0, .inr (3, [.ref a0, .ref a1, .ref a2, .ref a3, .ref a4, .ref a5, .int (u.2.2.2.2.2.2 0), .int (u.2.2.2.2.2.2 1), .int (u.2.2.2.2.2.2 2), .int (u.2.2.2.2.2.2 3), .int (u.2.2.2.2.2.2 4), .int (u.2.2.2.2.2.2 5), .int (u.2.2.2.2.2.2 6), .int (u.2.2.2.2.2.2 7), .int (u.2.2.2.2.2.2 8)])), (a0, .inl (cI, 6, .inl u.1)), (a1, .inl (cI, 7, .inl u.2.1)), (a2, .inl (cI, 7, .inl u.2.2.1)), (a3, .inl (cL, 280, .inr (.inl u.2.2.2.1))), (a4, .inl (cL, 40, .inr (.inl u.2.2.2.2.1))), (a5, .inl (cI, 120, .inl u.2.2.2.2.2.1))]) (va_A [(m0, .inr (3, [.ref a0, .ref a1, .ref a2, .ref a3, .ref a4, .ref a5, .int (mi 0), .int (mi 1), .int (mi 2), .int (mi 3), .int (mi 4), .int (mi 5), .int (mi 6), .int (mi 7), .int (mi 8)])), (a0, .inl (cI, 6, .inl on)), (a1, .inl (cI, 7, .inl kd)), (a2, .inl (cI, 7, .inl sz)), (a3, .inl (cL, 280, .inr (.inl fr))), (a4, .inl (cL, 40, .inr (.inl li))), (a5, .inl (cI, 120, .inl st))] Hc.size)) 0 0 (va_A [(m0, .inr (3, [.ref a0, .ref a1, .ref a2, .ref a3, .ref a4, .ref a5, .int (mi 0), .int (mi 1), .int (mi 2), .int (mi 3), .int (mi 4), .int (mi 5), .int (mi 6), .int (mi 7), .int (mi 8)])), (a0, .inl (cI, 6, .inl on)), (a1, .inl (cI, 7, .inl kd)), (a2, .inl (cI, 7, .inl sz)), (a3, .inl (cL, 280, .inr (.inl fr))), (a4, .inl (cL, 40, .inr (.inl li))), (a5, .inl (cI, 120, .inl st))] Hc.size) := by
  refine Met.ofW (cc := cX3_frame) (maxL := 3) (ret := (some .long)) (by decide) rfl ?_
  intro p e s m args below meth c s₁ B hml hv
  obtain ⟨rfl, hH, hC⟩ := hv
  have hx := B.exec
  have hb := B.bytes
  have hr := B.returns
  have hts := atoms_spec (ws := wsX3_frame) B.pre
  have hown : s.vm.findClass RX3 = some m.cls := findClass_of_methodNamed B.named
  have hlocks := B.notSynchronized
  subst hH
  have hK := hC.K
  have hl := lv_entry ([.ref m0, .int h0, .int i0]) (n := 3) (Nat.le_of_ble_eq_true rfl)
  rw [lg_entry_eq]
  generalize (lg_sl ([.ref m0, .int h0, .int i0]) ++ List.replicate (3 - (lg_sl ([.ref m0, .int h0, .int i0])).length) Slot.unset).toArray = ls at hl ⊢
  have hl : lv_has ls 3 [(0, .ref m0), (1, .int h0), (2, .int i0)] := hl
  have hP : va_P D vwCl [(m0, .inr (3, [.ref a0, .ref a1, .ref a2, .ref a3, .ref a4, .ref a5, .int (mi 0), .int (mi 1), .int (mi 2), .int (mi 3), .int (mi 4), .int (mi 5), .int (mi 6), .int (mi 7), .int (mi 8)])), (a0, .inl (cI, 6, .inl on)), (a1, .inl (cI, 7, .inl kd)), (a2, .inl (cI, 7, .inl sz)), (a3, .inl (cL, 280, .inr (.inl fr))), (a4, .inl (cL, 40, .inr (.inl li))), (a5, .inl (cI, 120, .inl st))] s.heap := hP
  have hD := hD0.self (sz := s.heap.size)
  generalize hAe : va_A [(m0, .inr (3, [.ref a0, .ref a1, .ref a2, .ref a3, .ref a4, .ref a5, .int (mi 0), .int (mi 1), .int (mi 2), .int (mi 3), .int (mi 4), .int (mi 5), .int (mi 6), .int (mi 7), .int (mi 8)])), (a0, .inl (cI, 6, .inl on)), (a1, .inl (cI, 7, .inl kd)), (a2, .inl (cI, 7, .inl sz)), (a3, .inl (cL, 280, .inr (.inl fr))), (a4, .inl (cL, 40, .inr (.inl li))), (a5, .inl (cI, 120, .inl st))] s.heap.size = A at hD hN ⊢
  have hA : ∀ q : Nat, s.heap.size ≤ q → A q := fun q h => by rw [← hAe]; exact Or.inr h
  have hS : va_S A s.heap s.heap [] := va_S.rf
  refine lv_aload_n hx hb dX3_frame_0 rfl (lv_at hl 0 rfl) ?_
  refine lv_iload_n hx hb dX3_frame_1 rfl (lv_at hl 1 rfl) ?_
  refine ro_i (va_runS (As := [.int h0]) (rest := [.ref m0]) ⟨hx, hb, hml, hown, hts⟩ (c_X3_isHook l (v0 := h0)) (va_cwS 1 hts gX3_frame_X3_isHook rfl rfl rfl (by decide +kernel) ⟨Nat.le_of_ble_eq_true rfl, Nat.le_of_ble_eq_true rfl⟩) (Pq.S hC hS hN) rfl rfl hl.1 rfl (lv_room (Nat.le_of_ble_eq_true rfl)) dX3_frame_2 ⟨Nat.le_of_ble_eq_true rfl, Nat.le_of_ble_eq_true rfl⟩) hS (fun r_1 locs hw hS => ?_)
  have hw : r_1 = tB (0 ≤ h0 ∧ h0 ≤ 5) := hw
  subst hw
  refine lv_if_ne (tgt := 12) hx hb dX3_frame_5 (by decide) (fun c_5 => ?_) (fun c_5 => ?_)
  · have c_5 := tB_n.mp c_5
    obtain ⟨j, hj, rfl⟩ := okH_iff.mp c_5
    refine lv_aload_n hx hb dX3_frame_12 rfl (lv_at hl 0 rfl) ?_
    refine lv_iload_n hx hb dX3_frame_13 rfl (lv_at hl 1 rfl) ?_
    refine ro_i (va_runV (As := [.int (nI j)]) (rest := [.ref m0]) ⟨hx, hb, hml, hown, hts⟩ (c_X3_hasRow l (j := j) (hP.sub [0, 1, 2, 3, 4, 5, 6] rfl) hO hj) (cwV 1 hts gX3_frame_X3_hasRow rfl rfl rfl (by decide +kernel) ⟨Nat.le_of_ble_eq_true rfl, Nat.le_of_ble_eq_true rfl⟩) (Pq.V hC hS hN (va_recv hK hP (ci := 3) (q0 := 0) rfl rfl)) rfl rfl hl.1 rfl (lv_room (Nat.le_of_ble_eq_true rfl)) dX3_frame_14 ⟨Nat.le_of_ble_eq_true rfl, Nat.le_of_ble_eq_true rfl⟩) hS (fun r_2 locs hw hS => ?_)
    have hw : r_2 = tB (1 ≤ mK on kd j ∧ mK on kd j ≤ 4) := hw
    subst hw
    refine lv_if_ne (tgt := 24) hx hb dX3_frame_17 (by decide) (fun c_17 => ?_) (fun c_17 => ?_)
    · have c_17 := tB_n.mp c_17
      obtain ⟨pp, hp, ep⟩ := mK_n hO hj (kd := kd) (fun e9 => by rw [e9] at c_17; exact absurd c_17.1 (by decide))
      obtain ⟨z, hz, ez⟩ := hZ pp hp
      have ek : mK on kd j = kd pp := mK_p hp ep
      refine lv_iload_n hx hb dX3_frame_24 rfl (lv_at hl 2 rfl) ?_
      refine lv_iconst (v := 0) hx hb dX3_frame_25 (by decide) ?_
      refine lv_aload_n hx hb dX3_frame_26 rfl (lv_at hl 0 rfl) ?_
      refine lv_iload_n hx hb dX3_frame_27 rfl (lv_at hl 1 rfl) ?_
      refine ro_i (va_runV (As := [.int (nI j)]) (rest := [.int 0, .int i0, .ref m0]) ⟨hx, hb, hml, hown, hts⟩ (c_X3_sizeAt l (j := j) (hP.sub [0, 1, 2, 3, 4, 5, 6] rfl) hj hp ep) (cwV 1 hts gX3_frame_X3_sizeAt rfl rfl rfl (by decide +kernel) ⟨Nat.le_of_ble_eq_true rfl, Nat.le_of_ble_eq_true rfl⟩) (Pq.V hC hS hN (va_recv hK hP (ci := 3) (q0 := 0) rfl rfl)) rfl rfl hl.1 rfl (lv_room (Nat.le_of_ble_eq_true rfl)) dX3_frame_28 ⟨Nat.le_of_ble_eq_true rfl, Nat.le_of_ble_eq_true rfl⟩) hS (fun r_3 locs hw hS => ?_)
      have hw : r_3 = sz pp := hw
      subst hw
      refine lv_iconst (v := 1) hx hb dX3_frame_31 (by decide) ?_
      refine lv_isub hx hb dX3_frame_32 ?_
      refine ro_i (va_runS (As := [.int i0, .int 0, .int ((sz pp) - 1)]) (rest := [.ref m0]) ⟨hx, hb, hml, hown, hts⟩ (c_X3_in l (v0 := i0) (l0 := 0) (u0 := (sz pp) - 1)) (va_cwS 3 hts gX3_frame_X3_in rfl rfl rfl (by decide +kernel) ⟨Nat.le_of_ble_eq_true rfl, Nat.le_of_ble_eq_true rfl⟩) (Pq.S hC hS hN) rfl rfl hl.1 rfl (lv_room (Nat.le_of_ble_eq_true rfl)) dX3_frame_33 ⟨Nat.le_of_ble_eq_true rfl, Nat.le_of_ble_eq_true rfl⟩) hS (fun r_4 locs hw hS => ?_)
      have hw : r_4 = tB (0 ≤ i0 ∧ i0 ≤ ((sz pp) - 1)) := hw
      subst hw
      refine lv_if_ne (tgt := 43) hx hb dX3_frame_36 (by decide) (fun c_36 => ?_) (fun c_36 => ?_)
      · have c_36 := tB_n.mp c_36
        rw [ez] at c_36
        obtain ⟨i, hi, rfl⟩ := (okF_iff hz).mp c_36
        refine lv_iconst (v := 0) hx hb dX3_frame_43 (by decide) ?_
        refine va_put (D := D) (ci := 3) (v := .int 0) (ty := .int) (C := RX3) (T := TX3) (N := 15) hx hb hts iw_X3_frame_X3 tyX3 tyX3_ok nmX3 hown hK hP hD hS 0 rfl rfl 14 (by decide) (hts _ lk_X3_frame_Cond_fieldLink_RX3_29_SpliceRoomModel_code_I_) (fun _ h9 => h9) rfl (by decide +kernel) rfl rfl (Nat.le_of_ble_eq_true rfl) dX3_frame_44 (fun H locs hP hD hS => ?_)
        have hP : va_P D vwCl [(m0, .inr (3, [.ref a0, .ref a1, .ref a2, .ref a3, .ref a4, .ref a5, .int (mi 0), .int (mi 1), .int (mi 2), .int (mi 3), .int (mi 4), .int (mi 5), .int (mi 6), .int (mi 7), .int 0])), (a0, .inl (cI, 6, .inl on)), (a1, .inl (cI, 7, .inl kd)), (a2, .inl (cI, 7, .inl sz)), (a3, .inl (cL, 280, .inr (.inl fr))), (a4, .inl (cL, 40, .inr (.inl li))), (a5, .inl (cI, 120, .inl st))] H := hP
        have hD : va_D A [(m0, .inr (3, [.ref a0, .ref a1, .ref a2, .ref a3, .ref a4, .ref a5, .int (mi 0), .int (mi 1), .int (mi 2), .int (mi 3), .int (mi 4), .int (mi 5), .int (mi 6), .int (mi 7), .int 0])), (a0, .inl (cI, 6, .inl on)), (a1, .inl (cI, 7, .inl kd)), (a2, .inl (cI, 7, .inl sz)), (a3, .inl (cL, 280, .inr (.inl fr))), (a4, .inl (cL, 40, .inr (.inl li))), (a5, .inl (cI, 120, .inl st))] := hD
        refine lv_aload_n hx hb dX3_frame_47 rfl (lv_at hl 0 rfl) ?_
        refine va_get (D := D) (ci := 3) (v := .int 0) (C := RX3) (T := TX3) (N := 15) hx hb hts iw_X3_frame_X3 hown hK hP 0 rfl rfl 14 (by decide) (hts _ lk_X3_frame_Cond_fieldLink_RX3_29_SpliceRoomModel_code_I_) (fun _ h9 => h9) rfl dX3_frame_48 ?_
        refine lv_if_le (tgt := 58) hx hb dX3_frame_51 (by decide) (fun _ => ?_) (fun c9 => absurd (by decide) c9)
        refine lv_aload_n hx hb dX3_frame_58 rfl (lv_at hl 0 rfl) ?_
        refine va_get (D := D) (ci := 3) (v := .ref a3) (C := RX3) (T := TX3) (N := 15) hx hb hts iw_X3_frame_X3 hown hK hP 0 rfl rfl 3 (by decide) (hts _ lk_X3_frame_Cond_fieldLink_RX3_19_SpliceRoomModel_frames_J_) (fun _ h9 => h9) rfl dX3_frame_59 ?_
        refine lv_bipush (v := 40) hx hb dX3_frame_62 (by decide) ?_
        refine lv_aload_n hx hb dX3_frame_64 rfl (lv_at hl 0 rfl) ?_
        refine va_get (D := D) (ci := 3) (v := .ref a0) (C := RX3) (T := TX3) (N := 15) hx hb hts iw_X3_frame_X3 hown hK hP 0 rfl rfl 0 (by decide) (hts _ lk_X3_frame_Cond_fieldLink_RX3_7_SpliceRoomModel_on_I_) (fun _ h9 => h9) rfl dX3_frame_65 ?_
        refine lv_iload_n hx hb dX3_frame_68 rfl (lv_at hl 1 rfl) ?_
        refine va_iald (D := D) hx hb hK hP 1 0 rfl rfl (vp_in_nI hj (by decide)) dX3_frame_69 ?_
        refine lv_topi (fun y_5 e9 => ?_)
        have e9 : y_5 = nI pp := e9.trans (by rw [nI_clamp (by omega)]; exact ep)
        subst e9
        refine lv_imul hx hb dX3_frame_70 ?_
        refine lv_iload_n hx hb dX3_frame_71 rfl (lv_at hl 2 rfl) ?_
        refine lv_iadd hx hb dX3_frame_72 ?_
        refine va_lald (D := D) hx hb hK hP 4 1 rfl rfl (by rw [idx40]; exact vp_in_nI (show 40 * pp + i < 280 by omega) (by decide)) dX3_frame_73 ?_
        refine lv_topl (fun y_6 e9 => ?_)
        have e9 : y_6 = fr (40 * pp + i) := e9.trans (by rw [idx40, nI_clamp (by omega)])
        subst e9
        exact W.lret (v := fr (40 * pp + i)) hx hb hr (fun t ht hW => ⟨⟨_, (on, kd, sz, fr, li, st, mi9 (mi 0) (mi 1) (mi 2) (mi 3) (mi 4) (mi 5) (mi 6) (mi 7) 0), rfl, Or.inr ⟨j, hj, rfl, Or.inr ⟨c_17, pp, z, hp, hz, ep, ez, Or.inr ⟨i, hi, rfl, rfl, rfl⟩⟩⟩, ⟨by rw [ht]; exact hP, hD⟩⟩, hS.F ht⟩) hS.2.2 dX3_frame_74
      · have c_36 := tB_0.mp c_36
        rw [ez] at c_36
        have c_36 := fun z9 => c_36 ((okF_iff hz).mpr z9)
        refine lv_iconst (v := 3) hx hb dX3_frame_39 (by decide) ?_
        refine lv_goto (tgt := 44) hx hb dX3_frame_40 (by decide) ?_
        refine va_put (D := D) (ci := 3) (v := .int 3) (ty := .int) (C := RX3) (T := TX3) (N := 15) hx hb hts iw_X3_frame_X3 tyX3 tyX3_ok nmX3 hown hK hP hD hS 0 rfl rfl 14 (by decide) (hts _ lk_X3_frame_Cond_fieldLink_RX3_29_SpliceRoomModel_code_I_) (fun _ h9 => h9) rfl (by decide +kernel) rfl rfl (Nat.le_of_ble_eq_true rfl) dX3_frame_44 (fun H locs hP hD hS => ?_)
        have hP : va_P D vwCl [(m0, .inr (3, [.ref a0, .ref a1, .ref a2, .ref a3, .ref a4, .ref a5, .int (mi 0), .int (mi 1), .int (mi 2), .int (mi 3), .int (mi 4), .int (mi 5), .int (mi 6), .int (mi 7), .int 3])), (a0, .inl (cI, 6, .inl on)), (a1, .inl (cI, 7, .inl kd)), (a2, .inl (cI, 7, .inl sz)), (a3, .inl (cL, 280, .inr (.inl fr))), (a4, .inl (cL, 40, .inr (.inl li))), (a5, .inl (cI, 120, .inl st))] H := hP
        have hD : va_D A [(m0, .inr (3, [.ref a0, .ref a1, .ref a2, .ref a3, .ref a4, .ref a5, .int (mi 0), .int (mi 1), .int (mi 2), .int (mi 3), .int (mi 4), .int (mi 5), .int (mi 6), .int (mi 7), .int 3])), (a0, .inl (cI, 6, .inl on)), (a1, .inl (cI, 7, .inl kd)), (a2, .inl (cI, 7, .inl sz)), (a3, .inl (cL, 280, .inr (.inl fr))), (a4, .inl (cL, 40, .inr (.inl li))), (a5, .inl (cI, 120, .inl st))] := hD
        refine lv_aload_n hx hb dX3_frame_47 rfl (lv_at hl 0 rfl) ?_
        refine va_get (D := D) (ci := 3) (v := .int 3) (C := RX3) (T := TX3) (N := 15) hx hb hts iw_X3_frame_X3 hown hK hP 0 rfl rfl 14 (by decide) (hts _ lk_X3_frame_Cond_fieldLink_RX3_29_SpliceRoomModel_code_I_) (fun _ h9 => h9) rfl dX3_frame_48 ?_
        refine lv_if_le (tgt := 58) hx hb dX3_frame_51 (by decide) (fun c9 => absurd c9 (by decide)) (fun _ => ?_)
        refine lv_lconst (v := 0) hx hb dX3_frame_54 (by decide) ?_
        refine lv_goto (tgt := 74) hx hb dX3_frame_55 (by decide) ?_
        exact W.lret (v := 0) hx hb hr (fun t ht hW => ⟨⟨_, (on, kd, sz, fr, li, st, mi9 (mi 0) (mi 1) (mi 2) (mi 3) (mi 4) (mi 5) (mi 6) (mi 7) 3), rfl, Or.inr ⟨j, hj, rfl, Or.inr ⟨c_17, pp, z, hp, hz, ep, ez, Or.inl ⟨c_36, rfl⟩⟩⟩, ⟨by rw [ht]; exact hP, hD⟩⟩, hS.F ht⟩) hS.2.2 dX3_frame_74
    · have c_17 := tB_0.mp c_17
      refine lv_iconst (v := 2) hx hb dX3_frame_20 (by decide) ?_
      refine lv_goto (tgt := 44) hx hb dX3_frame_21 (by decide) ?_
      refine va_put (D := D) (ci := 3) (v := .int 2) (ty := .int) (C := RX3) (T := TX3) (N := 15) hx hb hts iw_X3_frame_X3 tyX3 tyX3_ok nmX3 hown hK hP hD hS 0 rfl rfl 14 (by decide) (hts _ lk_X3_frame_Cond_fieldLink_RX3_29_SpliceRoomModel_code_I_) (fun _ h9 => h9) rfl (by decide +kernel) rfl rfl (Nat.le_of_ble_eq_true rfl) dX3_frame_44 (fun H locs hP hD hS => ?_)
      have hP : va_P D vwCl [(m0, .inr (3, [.ref a0, .ref a1, .ref a2, .ref a3, .ref a4, .ref a5, .int (mi 0), .int (mi 1), .int (mi 2), .int (mi 3), .int (mi 4), .int (mi 5), .int (mi 6), .int (mi 7), .int 2])), (a0, .inl (cI, 6, .inl on)), (a1, .inl (cI, 7, .inl kd)), (a2, .inl (cI, 7, .inl sz)), (a3, .inl (cL, 280, .inr (.inl fr))), (a4, .inl (cL, 40, .inr (.inl li))), (a5, .inl (cI, 120, .inl st))] H := hP
      have hD : va_D A [(m0, .inr (3, [.ref a0, .ref a1, .ref a2, .ref a3, .ref a4, .ref a5, .int (mi 0), .int (mi 1), .int (mi 2), .int (mi 3), .int (mi 4), .int (mi 5), .int (mi 6), .int (mi 7), .int 2])), (a0, .inl (cI, 6, .inl on)), (a1, .inl (cI, 7, .inl kd)), (a2, .inl (cI, 7, .inl sz)), (a3, .inl (cL, 280, .inr (.inl fr))), (a4, .inl (cL, 40, .inr (.inl li))), (a5, .inl (cI, 120, .inl st))] := hD
      refine lv_aload_n hx hb dX3_frame_47 rfl (lv_at hl 0 rfl) ?_
      refine va_get (D := D) (ci := 3) (v := .int 2) (C := RX3) (T := TX3) (N := 15) hx hb hts iw_X3_frame_X3 hown hK hP 0 rfl rfl 14 (by decide) (hts _ lk_X3_frame_Cond_fieldLink_RX3_29_SpliceRoomModel_code_I_) (fun _ h9 => h9) rfl dX3_frame_48 ?_
      refine lv_if_le (tgt := 58) hx hb dX3_frame_51 (by decide) (fun c9 => absurd c9 (by decide)) (fun _ => ?_)
      refine lv_lconst (v := 0) hx hb dX3_frame_54 (by decide) ?_
      refine lv_goto (tgt := 74) hx hb dX3_frame_55 (by decide) ?_
      exact W.lret (v := 0) hx hb hr (fun t ht hW => ⟨⟨_, (on, kd, sz, fr, li, st, mi9 (mi 0) (mi 1) (mi 2) (mi 3) (mi 4) (mi 5) (mi 6) (mi 7) 2), rfl, Or.inr ⟨j, hj, rfl, Or.inl ⟨c_17, rfl⟩⟩, ⟨by rw [ht]; exact hP, hD⟩⟩, hS.F ht⟩) hS.2.2 dX3_frame_74
  · have c_5 := tB_0.mp c_5
    refine lv_iconst (v := 1) hx hb dX3_frame_8 (by decide) ?_
    refine lv_goto (tgt := 44) hx hb dX3_frame_9 (by decide) ?_
    refine va_put (D := D) (ci := 3) (v := .int 1) (ty := .int) (C := RX3) (T := TX3) (N := 15) hx hb hts iw_X3_frame_X3 tyX3 tyX3_ok nmX3 hown hK hP hD hS 0 rfl rfl 14 (by decide) (hts _ lk_X3_frame_Cond_fieldLink_RX3_29_SpliceRoomModel_code_I_) (fun _ h9 => h9) rfl (by decide +kernel) rfl rfl (Nat.le_of_ble_eq_true rfl) dX3_frame_44 (fun H locs hP hD hS => ?_)
    have hP : va_P D vwCl [(m0, .inr (3, [.ref a0, .ref a1, .ref a2, .ref a3, .ref a4, .ref a5, .int (mi 0), .int (mi 1), .int (mi 2), .int (mi 3), .int (mi 4), .int (mi 5), .int (mi 6), .int (mi 7), .int 1])), (a0, .inl (cI, 6, .inl on)), (a1, .inl (cI, 7, .inl kd)), (a2, .inl (cI, 7, .inl sz)), (a3, .inl (cL, 280, .inr (.inl fr))), (a4, .inl (cL, 40, .inr (.inl li))), (a5, .inl (cI, 120, .inl st))] H := hP
    have hD : va_D A [(m0, .inr (3, [.ref a0, .ref a1, .ref a2, .ref a3, .ref a4, .ref a5, .int (mi 0), .int (mi 1), .int (mi 2), .int (mi 3), .int (mi 4), .int (mi 5), .int (mi 6), .int (mi 7), .int 1])), (a0, .inl (cI, 6, .inl on)), (a1, .inl (cI, 7, .inl kd)), (a2, .inl (cI, 7, .inl sz)), (a3, .inl (cL, 280, .inr (.inl fr))), (a4, .inl (cL, 40, .inr (.inl li))), (a5, .inl (cI, 120, .inl st))] := hD
    refine lv_aload_n hx hb dX3_frame_47 rfl (lv_at hl 0 rfl) ?_
    refine va_get (D := D) (ci := 3) (v := .int 1) (C := RX3) (T := TX3) (N := 15) hx hb hts iw_X3_frame_X3 hown hK hP 0 rfl rfl 14 (by decide) (hts _ lk_X3_frame_Cond_fieldLink_RX3_29_SpliceRoomModel_code_I_) (fun _ h9 => h9) rfl dX3_frame_48 ?_
    refine lv_if_le (tgt := 58) hx hb dX3_frame_51 (by decide) (fun c9 => absurd c9 (by decide)) (fun _ => ?_)
    refine lv_lconst (v := 0) hx hb dX3_frame_54 (by decide) ?_
    refine lv_goto (tgt := 74) hx hb dX3_frame_55 (by decide) ?_
    exact W.lret (v := 0) hx hb hr (fun t ht hW => ⟨⟨_, (on, kd, sz, fr, li, st, mi9 (mi 0) (mi 1) (mi 2) (mi 3) (mi 4) (mi 5) (mi 6) (mi 7) 1), rfl, Or.inl ⟨fun h9 => c_5 (okH_iff.mpr h9), rfl⟩, ⟨by rw [ht]; exact hP, hD⟩⟩, hS.F ht⟩) hS.2.2 dX3_frame_74
theorem iw_X3_pull_X3 : ∀ w ∈ wsX30, w ∈ wsX3_pull := by decide +kernel
theorem lk_X3_pull_Cond_constantLong_RX3_49_1_ : Cond.constantLong RX3 49 (-1) ∈ wsX3_pull := by decide +kernel
theorem lk_X3_pull_Cond_fieldLink_RX3_19_SpliceRoomModel_frames_J_ : Cond.fieldLink RX3 19 "SpliceRoomModel" "frames" "[J" ∈ wsX3_pull := by decide +kernel
theorem lk_X3_pull_Cond_fieldLink_RX3_29_SpliceRoomModel_code_I_ : Cond.fieldLink RX3 29 "SpliceRoomModel" "code" "I" ∈ wsX3_pull := by decide +kernel
theorem lk_X3_pull_Cond_fieldLink_RX3_7_SpliceRoomModel_on_I_ : Cond.fieldLink RX3 7 "SpliceRoomModel" "on" "[I" ∈ wsX3_pull := by decide +kernel
set_option maxHeartbeats 4000000 in
set_option maxRecDepth 100000 in
theorem c_X3_pull (l : Launch) {D : va_G} {cI cL cQ : ClassId} {N0 : Nat} {sa : Nat → Nat} {Hc : Heap} {m0 a0 a1 a2 a3 a4 a5 : Nat} {on kd sz : Nat → Int32} {fr li : Nat → Int64} {st : Nat → Int32} {mi : Nat → Int32} {h0 i0 : Int32} (hP : va_P D vwCl [(m0, .inr (3, [.ref a0, .ref a1, .ref a2, .ref a3, .ref a4, .ref a5, .int (mi 0), .int (mi 1), .int (mi 2), .int (mi 3), .int (mi 4), .int (mi 5), .int (mi 6), .int (mi 7), .int (mi 8)])), (a0, .inl (cI, 6, .inl on)), (a1, .inl (cI, 7, .inl kd)), (a2, .inl (cI, 7, .inl sz)), (a3, .inl (cL, 280, .inr (.inl fr))), (a4, .inl (cL, 40, .inr (.inl li))), (a5, .inl (cI, 120, .inl st))] Hc) (hD0 : va_D nT [(m0, .inr (3, [.ref a0, .ref a1, .ref a2, .ref a3, .ref a4, .ref a5, .int (mi 0), .int (mi 1), .int (mi 2), .int (mi 3), .int (mi 4), .int (mi 5), .int (mi 6), .int (mi 7), .int (mi 8)])), (a0, .inl (cI, 6, .inl on)), (a1, .inl (cI, 7, .inl kd)), (a2, .inl (cI, 7, .inl sz)), (a3, .inl (cL, 280, .inr (.inl fr))), (a4, .inl (cL, 40, .inr (.inl li))), (a5, .inl (cI, 120, .inl st))]) (hN : ∀ q, va_A [(m0, .inr (3, [.ref a0, .ref a1, .ref a2, .ref a3, .ref a4, .ref a5, .int (mi 0), .int (mi 1), .int (mi 2), .int (mi 3), .int (mi 4), .int (mi 5), .int (mi 6), .int (mi 7), .int (mi 8)])), (a0, .inl (cI, 6, .inl on)), (a1, .inl (cI, 7, .inl kd)), (a2, .inl (cI, 7, .inl sz)), (a3, .inl (cL, 280, .inr (.inl fr))), (a4, .inl (cL, 40, .inr (.inl li))), (a5, .inl (cI, 120, .inl st))] Hc.size q → N0 ≤ q) (hO : OnOk on) (hZ : SzOk sz) : Met l yX3_pull wsX3_pull ({ frames := 3, cells := 0, slots := 0, locals := 80 }) (Pq D cI cL cQ N0 sa [.ref m0, .int h0, .int i0] Hc) (va_Qi (fun (r : Int32) (u : MS) => (¬ okH h0 ∧ r = 0 ∧ u = (on, kd, sz, fr, li, st, miC mi 1)) ∨ (∃ j1 : Nat, j1 < 6 ∧ h0 = nI j1 ∧ ((¬ (3 ≤ mK on kd j1 ∧ mK on kd j1 ≤ 4) ∧ r = 0 ∧ u = (on, kd, sz, fr, li, st, miC mi 2)) ∨ ((3 ≤ mK on kd j1 ∧ mK on kd j1 ≤ 4) ∧ ∃ p1 z1 : Nat, p1 < 7 ∧ z1 ≤ 40 ∧ on j1 = nI p1 ∧ sz p1 = nI z1 ∧ ((¬ okF i0 z1 ∧ r = 0 ∧ u = (on, kd, sz, fr, li, st, miC mi 3)) ∨ (∃ i1 : Nat, i1 < z1 ∧ i0 = nI i1 ∧ r = tB (0 ≤ fr (40 * p1 + i1)) ∧ u = (on, kd, sz, vp_updL fr (40 * p1 + i1) (-1), li, st, miC mi 0))))))) (fun (u : MS) (t : State) => va_P D vwCl [(m0, .inr (3, [.ref a0, .ref a1, .ref a2, .ref a3, .ref a4, .ref a5, .int (u.2.2.2.2.2.2 0), .int (u.2.2.2.2.2.2 1), .int (u.2.2.2.2.2.2 2), .int (u.2.2.2.2.2.2 3), .int (u.2.2.2.2.2.2 4), .int (u.2.2.2.2.2.2 5), .int (u.2.2.2.2.2.2 6), .int (u.2.2.2.2.2.2 7), .int (u.2.2.2.2.2.2 8)])), (a0, .inl (cI, 6, .inl u.1)), (a1, .inl (cI, 7, .inl u.2.1)), (a2, .inl (cI, 7, .inl u.2.2.1)), (a3, .inl (cL, 280, .inr (.inl u.2.2.2.1))), (a4, .inl (cL, 40, .inr (.inl u.2.2.2.2.1))), (a5, .inl (cI, 120, .inl u.2.2.2.2.2.1))] t.heap ∧ va_D (va_A [(m0, .inr (3, [.ref a0, .ref a1, .ref a2, .ref a3, .ref a4, .ref a5, .int (mi 0), .int (mi 1), .int (mi 2), .int (mi 3), .int (mi 4), .int (mi 5), .int (mi 6), .int (mi 7), .int (mi 8)])), (a0, .inl (cI, 6, .inl on)), (a1, .inl (cI, 7, .inl kd)), (a2, .inl (cI, 7, .inl sz)), (a3, .inl (cL, 280, .inr (.inl fr))), (a4, .inl (cL, 40, .inr (.inl li))), (a5, .inl (cI, 120, .inl st))] Hc.size) [(m0, .inr (3, [.ref a0, .ref a1, .ref a2, .ref a3, .ref a4, .ref a5, .int (u.2.2.2.2.2.2 0), .int (u.2.2.2.2.2.2 1), .int (u.2.2.2.2.2.2 2), .int (u.2.2.2.2.2.2 3), .int (u.2.2.2.2.2.2 4), .int (u.2.2.2.2.2.2 5), .int (u.2.2.2.2.2.2 6), .int (u.2.2.2.2.2.2 7), .int (u.2.2.2.2.2.2 8)])), (a0, .inl (cI, 6, .inl u.1)), (a1, .inl (cI, 7, .inl u.2.1)), (a2, .inl (cI, 7, .inl u.2.2.1)), (a3, .inl (cL, 280, .inr (.inl u.2.2.2.1))), (a4, .inl (cL, 40, .inr (.inl u.2.2.2.2.1))), (a5, .inl (cI, 120, .inl u.2.2.2.2.2.1))]) (va_A [(m0, .inr (3, [.ref a0, .ref a1, .ref a2, .ref a3, .ref a4, .ref a5, .int (mi 0), .int (mi 1), .int (mi 2), .int (mi 3), .int (mi 4), .int (mi 5), .int (mi 6), .int (mi 7), .int (mi 8)])), (a0, .inl (cI, 6, .inl on)), (a1, .inl (cI, 7, .inl kd)), (a2, .inl (cI, 7, .inl sz)), (a3, .inl (cL, 280, .inr (.inl fr))), (a4, .inl (cL, 40, .inr (.inl li))), (a5, .inl (cI, 120, .inl st))] Hc.size)) 0 0 (va_A [(m0, .inr (3, [.ref a0, .ref a1, .ref a2, .ref a3, .ref a4, .ref a5, .int (mi 0), .int (mi 1), .int (mi 2), .int (mi 3), .int (mi 4), .int (mi 5), .int (mi 6), .int (mi 7), .int (mi 8)])), (a0, .inl (cI, 6, .inl on)), (a1, .inl (cI, 7, .inl kd)), (a2, .inl (cI, 7, .inl sz)), (a3, .inl (cL, 280, .inr (.inl fr))), (a4, .inl (cL, 40, .inr (.inl li))), (a5, .inl (cI, 120, .inl st))] Hc.size) := by
  refine Met.ofW (cc := cX3_pull) (maxL := 5) (ret := (some .boolean)) (by decide) rfl ?_
  intro p e s m args below meth c s₁ B hml hv
  obtain ⟨rfl, hH, hC⟩ := hv
  have hx := B.exec
  have hb := B.bytes
  have hr := B.returns
  have hts := atoms_spec (ws := wsX3_pull) B.pre
  have hown : s.vm.findClass RX3 = some m.cls := findClass_of_methodNamed B.named
  have hlocks := B.notSynchronized
  subst hH
  have hK := hC.K
  have hl := lv_entry ([.ref m0, .int h0, .int i0]) (n := 5) (Nat.le_of_ble_eq_true rfl)
  rw [lg_entry_eq]
  generalize (lg_sl ([.ref m0, .int h0, .int i0]) ++ List.replicate (5 - (lg_sl ([.ref m0, .int h0, .int i0])).length) Slot.unset).toArray = ls at hl ⊢
  have hl : lv_has ls 5 [(0, .ref m0), (1, .int h0), (2, .int i0)] := hl
  have hP : va_P D vwCl [(m0, .inr (3, [.ref a0, .ref a1, .ref a2, .ref a3, .ref a4, .ref a5, .int (mi 0), .int (mi 1), .int (mi 2), .int (mi 3), .int (mi 4), .int (mi 5), .int (mi 6), .int (mi 7), .int (mi 8)])), (a0, .inl (cI, 6, .inl on)), (a1, .inl (cI, 7, .inl kd)), (a2, .inl (cI, 7, .inl sz)), (a3, .inl (cL, 280, .inr (.inl fr))), (a4, .inl (cL, 40, .inr (.inl li))), (a5, .inl (cI, 120, .inl st))] s.heap := hP
  have hD := hD0.self (sz := s.heap.size)
  generalize hAe : va_A [(m0, .inr (3, [.ref a0, .ref a1, .ref a2, .ref a3, .ref a4, .ref a5, .int (mi 0), .int (mi 1), .int (mi 2), .int (mi 3), .int (mi 4), .int (mi 5), .int (mi 6), .int (mi 7), .int (mi 8)])), (a0, .inl (cI, 6, .inl on)), (a1, .inl (cI, 7, .inl kd)), (a2, .inl (cI, 7, .inl sz)), (a3, .inl (cL, 280, .inr (.inl fr))), (a4, .inl (cL, 40, .inr (.inl li))), (a5, .inl (cI, 120, .inl st))] s.heap.size = A at hD hN ⊢
  have hA : ∀ q : Nat, s.heap.size ≤ q → A q := fun q h => by rw [← hAe]; exact Or.inr h
  have hS : va_S A s.heap s.heap [] := va_S.rf
  refine lv_aload_n hx hb dX3_pull_0 rfl (lv_at hl 0 rfl) ?_
  refine lv_iload_n hx hb dX3_pull_1 rfl (lv_at hl 1 rfl) ?_
  refine ro_i (va_runS (As := [.int h0]) (rest := [.ref m0]) ⟨hx, hb, hml, hown, hts⟩ (c_X3_isHook l (v0 := h0)) (va_cwS 1 hts gX3_pull_X3_isHook rfl rfl rfl (by decide +kernel) ⟨Nat.le_of_ble_eq_true rfl, Nat.le_of_ble_eq_true rfl⟩) (Pq.S hC hS hN) rfl rfl hl.1 rfl (lv_room (Nat.le_of_ble_eq_true rfl)) dX3_pull_2 ⟨Nat.le_of_ble_eq_true rfl, Nat.le_of_ble_eq_true rfl⟩) hS (fun r_1 locs hw hS => ?_)
  have hw : r_1 = tB (0 ≤ h0 ∧ h0 ≤ 5) := hw
  subst hw
  refine lv_if_ne (tgt := 12) hx hb dX3_pull_5 (by decide) (fun c_5 => ?_) (fun c_5 => ?_)
  · have c_5 := tB_n.mp c_5
    obtain ⟨j, hj, rfl⟩ := okH_iff.mp c_5
    refine lv_aload_n hx hb dX3_pull_12 rfl (lv_at hl 0 rfl) ?_
    refine lv_iload_n hx hb dX3_pull_13 rfl (lv_at hl 1 rfl) ?_
    refine lv_iload_n hx hb dX3_pull_14 rfl (lv_at hl 2 rfl) ?_
    by_cases cc : 3 ≤ mK on kd j ∧ mK on kd j ≤ 4
    · obtain ⟨pp, hp, ep⟩ := mK_n hO hj (kd := kd) (fun e9 => by rw [e9] at cc; exact absurd cc.1 (by decide))
      obtain ⟨z, hz, ez⟩ := hZ pp hp
      have ek : mK on kd j = kd pp := mK_p hp ep
      by_cases ci : okF i0 z
      · obtain ⟨i, hi, rfl⟩ := ci
        refine ro_i (va_runV (As := [.int (nI j), .int (nI i)]) (rest := [.ref m0]) ⟨hx, hb, hml, hown, hts⟩ (c_X3_cardCode0 l (j := j) (i0 := nI i) (hP.sub [0, 1, 2, 3, 4, 5, 6] rfl) hO hj hp ep hz ez cc ⟨i, hi, rfl⟩) (cwV 2 hts gX3_pull_X3_cardCode rfl rfl rfl (by decide +kernel) ⟨Nat.le_of_ble_eq_true rfl, Nat.le_of_ble_eq_true rfl⟩) (Pq.V hC hS hN (va_recv hK hP (ci := 3) (q0 := 0) rfl rfl)) rfl rfl hl.1 rfl (lv_room (Nat.le_of_ble_eq_true rfl)) dX3_pull_15 ⟨Nat.le_of_ble_eq_true rfl, Nat.le_of_ble_eq_true rfl⟩) hS (fun r_2 locs hw hS => ?_)
        have hw : r_2 = 0 := hw
        subst hw
        refine va_put (D := D) (ci := 3) (v := .int 0) (ty := .int) (C := RX3) (T := TX3) (N := 15) hx hb hts iw_X3_pull_X3 tyX3 tyX3_ok nmX3 hown hK hP hD hS 0 rfl rfl 14 (by decide) (hts _ lk_X3_pull_Cond_fieldLink_RX3_29_SpliceRoomModel_code_I_) (fun _ h9 => h9) rfl (by decide +kernel) rfl rfl (Nat.le_of_ble_eq_true rfl) dX3_pull_18 (fun H locs hP hD hS => ?_)
        have hP : va_P D vwCl [(m0, .inr (3, [.ref a0, .ref a1, .ref a2, .ref a3, .ref a4, .ref a5, .int (mi 0), .int (mi 1), .int (mi 2), .int (mi 3), .int (mi 4), .int (mi 5), .int (mi 6), .int (mi 7), .int 0])), (a0, .inl (cI, 6, .inl on)), (a1, .inl (cI, 7, .inl kd)), (a2, .inl (cI, 7, .inl sz)), (a3, .inl (cL, 280, .inr (.inl fr))), (a4, .inl (cL, 40, .inr (.inl li))), (a5, .inl (cI, 120, .inl st))] H := hP
        have hD : va_D A [(m0, .inr (3, [.ref a0, .ref a1, .ref a2, .ref a3, .ref a4, .ref a5, .int (mi 0), .int (mi 1), .int (mi 2), .int (mi 3), .int (mi 4), .int (mi 5), .int (mi 6), .int (mi 7), .int 0])), (a0, .inl (cI, 6, .inl on)), (a1, .inl (cI, 7, .inl kd)), (a2, .inl (cI, 7, .inl sz)), (a3, .inl (cL, 280, .inr (.inl fr))), (a4, .inl (cL, 40, .inr (.inl li))), (a5, .inl (cI, 120, .inl st))] := hD
        refine lv_aload_n hx hb dX3_pull_21 rfl (lv_at hl 0 rfl) ?_
        refine va_get (D := D) (ci := 3) (v := .int 0) (C := RX3) (T := TX3) (N := 15) hx hb hts iw_X3_pull_X3 hown hK hP 0 rfl rfl 14 (by decide) (hts _ lk_X3_pull_Cond_fieldLink_RX3_29_SpliceRoomModel_code_I_) (fun _ h9 => h9) rfl dX3_pull_22 ?_
        refine lv_if_le (tgt := 30) hx hb dX3_pull_25 (by decide) (fun _ => ?_) (fun c9 => absurd (by decide) c9)
        refine lv_bipush (v := 40) hx hb dX3_pull_30 (by decide) ?_
        refine lv_aload_n hx hb dX3_pull_32 rfl (lv_at hl 0 rfl) ?_
        refine va_get (D := D) (ci := 3) (v := .ref a0) (C := RX3) (T := TX3) (N := 15) hx hb hts iw_X3_pull_X3 hown hK hP 0 rfl rfl 0 (by decide) (hts _ lk_X3_pull_Cond_fieldLink_RX3_7_SpliceRoomModel_on_I_) (fun _ h9 => h9) rfl dX3_pull_33 ?_
        refine lv_iload_n hx hb dX3_pull_36 rfl (lv_at hl 1 rfl) ?_
        refine va_iald (D := D) hx hb hK hP 1 0 rfl rfl (vp_in_nI hj (by decide)) dX3_pull_37 ?_
        refine lv_topi (fun y_3 e9 => ?_)
        have e9 : y_3 = nI pp := e9.trans (by rw [nI_clamp (by omega)]; exact ep)
        subst e9
        refine lv_imul hx hb dX3_pull_38 ?_
        refine lv_iload_n hx hb dX3_pull_39 rfl (lv_at hl 2 rfl) ?_
        refine lv_iadd hx hb dX3_pull_40 ?_
        refine lv_istore_n (lv' := [(3, .int ((40 * (nI pp)) + (nI i))), (0, .ref m0), (1, .int (nI j)), (2, .int (nI i))]) hx hb dX3_pull_41 rfl hl (by decide) rfl (fun ls hl => ?_)
        refine lv_aload_n hx hb dX3_pull_42 rfl (lv_at hl 1 rfl) ?_
        refine va_get (D := D) (ci := 3) (v := .ref a3) (C := RX3) (T := TX3) (N := 15) hx hb hts iw_X3_pull_X3 hown hK hP 0 rfl rfl 3 (by decide) (hts _ lk_X3_pull_Cond_fieldLink_RX3_19_SpliceRoomModel_frames_J_) (fun _ h9 => h9) rfl dX3_pull_43 ?_
        refine lv_iload_n hx hb dX3_pull_46 rfl (lv_at hl 0 rfl) ?_
        refine va_lald (D := D) hx hb hK hP 4 1 rfl rfl (by rw [idx40]; exact vp_in_nI (show 40 * pp + i < 280 by omega) (by decide)) dX3_pull_47 ?_
        refine lv_topl (fun y_4 e9 => ?_)
        have e9 : y_4 = fr (40 * pp + i) := e9.trans (by rw [idx40, nI_clamp (by omega)])
        subst e9
        refine lv_lconst (v := 0) hx hb dX3_pull_48 (by decide) ?_
        refine W.lcmp hx hb dX3_pull_49 ?_
        refine lv_if_lt (tgt := 57) hx hb dX3_pull_50 (by decide) (fun c_50 => ?_) (fun c_50 => ?_)
        · have c_50 := (lg_cmp_lt (fr (40 * pp + i)) 0).mp c_50
          refine lv_iconst (v := 0) hx hb dX3_pull_57 (by decide) ?_
          refine lv_istore (lv' := [(4, .int 0), (3, .int ((40 * (nI pp)) + (nI i))), (0, .ref m0), (1, .int (nI j)), (2, .int (nI i))]) hx hb dX3_pull_58 hl (by decide) rfl (fun ls hl => ?_)
          refine lv_aload_n hx hb dX3_pull_60 rfl (lv_at hl 2 rfl) ?_
          refine va_get (D := D) (ci := 3) (v := .ref a3) (C := RX3) (T := TX3) (N := 15) hx hb hts iw_X3_pull_X3 hown hK hP 0 rfl rfl 3 (by decide) (hts _ lk_X3_pull_Cond_fieldLink_RX3_19_SpliceRoomModel_frames_J_) (fun _ h9 => h9) rfl dX3_pull_61 ?_
          refine lv_iload_n hx hb dX3_pull_64 rfl (lv_at hl 1 rfl) ?_
          refine lv_ldc2 (v := (-1)) hx hb hown (hts _ lk_X3_pull_Cond_constantLong_RX3_49_1_) dX3_pull_65 ?_
          refine va_last (D := D) hx hb hK hP hD hS 4 1 rfl rfl (by rw [idx40]; exact vp_in_nI (show 40 * pp + i < 280 by omega) (by decide)) dX3_pull_68 (fun H locs hP hD hS => ?_)
          have hP : va_P D vwCl [(m0, .inr (3, [.ref a0, .ref a1, .ref a2, .ref a3, .ref a4, .ref a5, .int (mi 0), .int (mi 1), .int (mi 2), .int (mi 3), .int (mi 4), .int (mi 5), .int (mi 6), .int (mi 7), .int 0])), (a0, .inl (cI, 6, .inl on)), (a1, .inl (cI, 7, .inl kd)), (a2, .inl (cI, 7, .inl sz)), (a3, .inl (cL, 280, .inr (.inl (vp_updL fr (((40 * (nI pp)) + (nI i)).toNatClampNeg) (-1))))), (a4, .inl (cL, 40, .inr (.inl li))), (a5, .inl (cI, 120, .inl st))] H := hP
          have hD : va_D A [(m0, .inr (3, [.ref a0, .ref a1, .ref a2, .ref a3, .ref a4, .ref a5, .int (mi 0), .int (mi 1), .int (mi 2), .int (mi 3), .int (mi 4), .int (mi 5), .int (mi 6), .int (mi 7), .int 0])), (a0, .inl (cI, 6, .inl on)), (a1, .inl (cI, 7, .inl kd)), (a2, .inl (cI, 7, .inl sz)), (a3, .inl (cL, 280, .inr (.inl (vp_updL fr (((40 * (nI pp)) + (nI i)).toNatClampNeg) (-1))))), (a4, .inl (cL, 40, .inr (.inl li))), (a5, .inl (cI, 120, .inl st))] := hD
          rw [idx40, nI_clamp (show 40 * pp + i < 2 ^ 31 by omega)] at hP hD
          refine lv_iload hx hb dX3_pull_69 (lv_at hl 0 rfl) ?_
          exact W.zret (v := 0) hx hb hr (rfl) (fun t ht hW => ⟨⟨_, (on, kd, sz, vp_updL fr (40 * pp + i) (-1), li, st, mi9 (mi 0) (mi 1) (mi 2) (mi 3) (mi 4) (mi 5) (mi 6) (mi 7) 0), rfl, Or.inr ⟨j, hj, rfl, Or.inr ⟨cc, pp, z, hp, hz, ep, ez, Or.inr ⟨i, hi, rfl, (tB_f (Int64.not_le.mpr c_50)).symm, rfl⟩⟩⟩, ⟨by rw [ht]; exact hP, hD⟩⟩, hS.F ht⟩) hS.2.2 dX3_pull_71
        · have c_50 := fun h9 => c_50 ((lg_cmp_lt (fr (40 * pp + i)) 0).mpr h9)
          refine lv_iconst (v := 1) hx hb dX3_pull_53 (by decide) ?_
          refine lv_goto (tgt := 58) hx hb dX3_pull_54 (by decide) ?_
          refine lv_istore (lv' := [(4, .int 1), (3, .int ((40 * (nI pp)) + (nI i))), (0, .ref m0), (1, .int (nI j)), (2, .int (nI i))]) hx hb dX3_pull_58 hl (by decide) rfl (fun ls hl => ?_)
          refine lv_aload_n hx hb dX3_pull_60 rfl (lv_at hl 2 rfl) ?_
          refine va_get (D := D) (ci := 3) (v := .ref a3) (C := RX3) (T := TX3) (N := 15) hx hb hts iw_X3_pull_X3 hown hK hP 0 rfl rfl 3 (by decide) (hts _ lk_X3_pull_Cond_fieldLink_RX3_19_SpliceRoomModel_frames_J_) (fun _ h9 => h9) rfl dX3_pull_61 ?_
          refine lv_iload_n hx hb dX3_pull_64 rfl (lv_at hl 1 rfl) ?_
          refine lv_ldc2 (v := (-1)) hx hb hown (hts _ lk_X3_pull_Cond_constantLong_RX3_49_1_) dX3_pull_65 ?_
          refine va_last (D := D) hx hb hK hP hD hS 4 1 rfl rfl (by rw [idx40]; exact vp_in_nI (show 40 * pp + i < 280 by omega) (by decide)) dX3_pull_68 (fun H locs hP hD hS => ?_)
          have hP : va_P D vwCl [(m0, .inr (3, [.ref a0, .ref a1, .ref a2, .ref a3, .ref a4, .ref a5, .int (mi 0), .int (mi 1), .int (mi 2), .int (mi 3), .int (mi 4), .int (mi 5), .int (mi 6), .int (mi 7), .int 0])), (a0, .inl (cI, 6, .inl on)), (a1, .inl (cI, 7, .inl kd)), (a2, .inl (cI, 7, .inl sz)), (a3, .inl (cL, 280, .inr (.inl (vp_updL fr (((40 * (nI pp)) + (nI i)).toNatClampNeg) (-1))))), (a4, .inl (cL, 40, .inr (.inl li))), (a5, .inl (cI, 120, .inl st))] H := hP
          have hD : va_D A [(m0, .inr (3, [.ref a0, .ref a1, .ref a2, .ref a3, .ref a4, .ref a5, .int (mi 0), .int (mi 1), .int (mi 2), .int (mi 3), .int (mi 4), .int (mi 5), .int (mi 6), .int (mi 7), .int 0])), (a0, .inl (cI, 6, .inl on)), (a1, .inl (cI, 7, .inl kd)), (a2, .inl (cI, 7, .inl sz)), (a3, .inl (cL, 280, .inr (.inl (vp_updL fr (((40 * (nI pp)) + (nI i)).toNatClampNeg) (-1))))), (a4, .inl (cL, 40, .inr (.inl li))), (a5, .inl (cI, 120, .inl st))] := hD
          rw [idx40, nI_clamp (show 40 * pp + i < 2 ^ 31 by omega)] at hP hD
          refine lv_iload hx hb dX3_pull_69 (lv_at hl 0 rfl) ?_
          exact W.zret (v := 1) hx hb hr (rfl) (fun t ht hW => ⟨⟨_, (on, kd, sz, vp_updL fr (40 * pp + i) (-1), li, st, mi9 (mi 0) (mi 1) (mi 2) (mi 3) (mi 4) (mi 5) (mi 6) (mi 7) 0), rfl, Or.inr ⟨j, hj, rfl, Or.inr ⟨cc, pp, z, hp, hz, ep, ez, Or.inr ⟨i, hi, rfl, (tB_t (Int64.not_lt.mp c_50)).symm, rfl⟩⟩⟩, ⟨by rw [ht]; exact hP, hD⟩⟩, hS.F ht⟩) hS.2.2 dX3_pull_71
      · refine ro_i (va_runV (As := [.int (nI j), .int i0]) (rest := [.ref m0]) ⟨hx, hb, hml, hown, hts⟩ (c_X3_cardCode3 l (j := j) (i0 := i0) (hP.sub [0, 1, 2, 3, 4, 5, 6] rfl) hO hj hp ep hz ez cc ci) (cwV 2 hts gX3_pull_X3_cardCode rfl rfl rfl (by decide +kernel) ⟨Nat.le_of_ble_eq_true rfl, Nat.le_of_ble_eq_true rfl⟩) (Pq.V hC hS hN (va_recv hK hP (ci := 3) (q0 := 0) rfl rfl)) rfl rfl hl.1 rfl (lv_room (Nat.le_of_ble_eq_true rfl)) dX3_pull_15 ⟨Nat.le_of_ble_eq_true rfl, Nat.le_of_ble_eq_true rfl⟩) hS (fun r_5 locs hw hS => ?_)
        have hw : r_5 = 3 := hw
        subst hw
        refine va_put (D := D) (ci := 3) (v := .int 3) (ty := .int) (C := RX3) (T := TX3) (N := 15) hx hb hts iw_X3_pull_X3 tyX3 tyX3_ok nmX3 hown hK hP hD hS 0 rfl rfl 14 (by decide) (hts _ lk_X3_pull_Cond_fieldLink_RX3_29_SpliceRoomModel_code_I_) (fun _ h9 => h9) rfl (by decide +kernel) rfl rfl (Nat.le_of_ble_eq_true rfl) dX3_pull_18 (fun H locs hP hD hS => ?_)
        have hP : va_P D vwCl [(m0, .inr (3, [.ref a0, .ref a1, .ref a2, .ref a3, .ref a4, .ref a5, .int (mi 0), .int (mi 1), .int (mi 2), .int (mi 3), .int (mi 4), .int (mi 5), .int (mi 6), .int (mi 7), .int 3])), (a0, .inl (cI, 6, .inl on)), (a1, .inl (cI, 7, .inl kd)), (a2, .inl (cI, 7, .inl sz)), (a3, .inl (cL, 280, .inr (.inl fr))), (a4, .inl (cL, 40, .inr (.inl li))), (a5, .inl (cI, 120, .inl st))] H := hP
        have hD : va_D A [(m0, .inr (3, [.ref a0, .ref a1, .ref a2, .ref a3, .ref a4, .ref a5, .int (mi 0), .int (mi 1), .int (mi 2), .int (mi 3), .int (mi 4), .int (mi 5), .int (mi 6), .int (mi 7), .int 3])), (a0, .inl (cI, 6, .inl on)), (a1, .inl (cI, 7, .inl kd)), (a2, .inl (cI, 7, .inl sz)), (a3, .inl (cL, 280, .inr (.inl fr))), (a4, .inl (cL, 40, .inr (.inl li))), (a5, .inl (cI, 120, .inl st))] := hD
        refine lv_aload_n hx hb dX3_pull_21 rfl (lv_at hl 0 rfl) ?_
        refine va_get (D := D) (ci := 3) (v := .int 3) (C := RX3) (T := TX3) (N := 15) hx hb hts iw_X3_pull_X3 hown hK hP 0 rfl rfl 14 (by decide) (hts _ lk_X3_pull_Cond_fieldLink_RX3_29_SpliceRoomModel_code_I_) (fun _ h9 => h9) rfl dX3_pull_22 ?_
        refine lv_if_le (tgt := 30) hx hb dX3_pull_25 (by decide) (fun c9 => absurd c9 (by decide)) (fun _ => ?_)
        refine lv_iconst (v := 0) hx hb dX3_pull_28 (by decide) ?_
        exact W.zret (v := 0) hx hb hr (rfl) (fun t ht hW => ⟨⟨_, (on, kd, sz, fr, li, st, mi9 (mi 0) (mi 1) (mi 2) (mi 3) (mi 4) (mi 5) (mi 6) (mi 7) 3), rfl, Or.inr ⟨j, hj, rfl, Or.inr ⟨cc, pp, z, hp, hz, ep, ez, Or.inl ⟨ci, rfl, rfl⟩⟩⟩, ⟨by rw [ht]; exact hP, hD⟩⟩, hS.F ht⟩) hS.2.2 dX3_pull_29
    · refine ro_i (va_runV (As := [.int (nI j), .int i0]) (rest := [.ref m0]) ⟨hx, hb, hml, hown, hts⟩ (c_X3_cardCode2 l (j := j) (i0 := i0) (hP.sub [0, 1, 2, 3, 4, 5, 6] rfl) hO hj cc) (cwV 2 hts gX3_pull_X3_cardCode rfl rfl rfl (by decide +kernel) ⟨Nat.le_of_ble_eq_true rfl, Nat.le_of_ble_eq_true rfl⟩) (Pq.V hC hS hN (va_recv hK hP (ci := 3) (q0 := 0) rfl rfl)) rfl rfl hl.1 rfl (lv_room (Nat.le_of_ble_eq_true rfl)) dX3_pull_15 ⟨Nat.le_of_ble_eq_true rfl, Nat.le_of_ble_eq_true rfl⟩) hS (fun r_6 locs hw hS => ?_)
      have hw : r_6 = 2 := hw
      subst hw
      refine va_put (D := D) (ci := 3) (v := .int 2) (ty := .int) (C := RX3) (T := TX3) (N := 15) hx hb hts iw_X3_pull_X3 tyX3 tyX3_ok nmX3 hown hK hP hD hS 0 rfl rfl 14 (by decide) (hts _ lk_X3_pull_Cond_fieldLink_RX3_29_SpliceRoomModel_code_I_) (fun _ h9 => h9) rfl (by decide +kernel) rfl rfl (Nat.le_of_ble_eq_true rfl) dX3_pull_18 (fun H locs hP hD hS => ?_)
      have hP : va_P D vwCl [(m0, .inr (3, [.ref a0, .ref a1, .ref a2, .ref a3, .ref a4, .ref a5, .int (mi 0), .int (mi 1), .int (mi 2), .int (mi 3), .int (mi 4), .int (mi 5), .int (mi 6), .int (mi 7), .int 2])), (a0, .inl (cI, 6, .inl on)), (a1, .inl (cI, 7, .inl kd)), (a2, .inl (cI, 7, .inl sz)), (a3, .inl (cL, 280, .inr (.inl fr))), (a4, .inl (cL, 40, .inr (.inl li))), (a5, .inl (cI, 120, .inl st))] H := hP
      have hD : va_D A [(m0, .inr (3, [.ref a0, .ref a1, .ref a2, .ref a3, .ref a4, .ref a5, .int (mi 0), .int (mi 1), .int (mi 2), .int (mi 3), .int (mi 4), .int (mi 5), .int (mi 6), .int (mi 7), .int 2])), (a0, .inl (cI, 6, .inl on)), (a1, .inl (cI, 7, .inl kd)), (a2, .inl (cI, 7, .inl sz)), (a3, .inl (cL, 280, .inr (.inl fr))), (a4, .inl (cL, 40, .inr (.inl li))), (a5, .inl (cI, 120, .inl st))] := hD
      refine lv_aload_n hx hb dX3_pull_21 rfl (lv_at hl 0 rfl) ?_
      refine va_get (D := D) (ci := 3) (v := .int 2) (C := RX3) (T := TX3) (N := 15) hx hb hts iw_X3_pull_X3 hown hK hP 0 rfl rfl 14 (by decide) (hts _ lk_X3_pull_Cond_fieldLink_RX3_29_SpliceRoomModel_code_I_) (fun _ h9 => h9) rfl dX3_pull_22 ?_
      refine lv_if_le (tgt := 30) hx hb dX3_pull_25 (by decide) (fun c9 => absurd c9 (by decide)) (fun _ => ?_)
      refine lv_iconst (v := 0) hx hb dX3_pull_28 (by decide) ?_
      exact W.zret (v := 0) hx hb hr (rfl) (fun t ht hW => ⟨⟨_, (on, kd, sz, fr, li, st, mi9 (mi 0) (mi 1) (mi 2) (mi 3) (mi 4) (mi 5) (mi 6) (mi 7) 2), rfl, Or.inr ⟨j, hj, rfl, Or.inl ⟨cc, rfl, rfl⟩⟩, ⟨by rw [ht]; exact hP, hD⟩⟩, hS.F ht⟩) hS.2.2 dX3_pull_29
  · have c_5 := tB_0.mp c_5
    refine lv_iconst (v := 1) hx hb dX3_pull_8 (by decide) ?_
    refine lv_goto (tgt := 18) hx hb dX3_pull_9 (by decide) ?_
    refine va_put (D := D) (ci := 3) (v := .int 1) (ty := .int) (C := RX3) (T := TX3) (N := 15) hx hb hts iw_X3_pull_X3 tyX3 tyX3_ok nmX3 hown hK hP hD hS 0 rfl rfl 14 (by decide) (hts _ lk_X3_pull_Cond_fieldLink_RX3_29_SpliceRoomModel_code_I_) (fun _ h9 => h9) rfl (by decide +kernel) rfl rfl (Nat.le_of_ble_eq_true rfl) dX3_pull_18 (fun H locs hP hD hS => ?_)
    have hP : va_P D vwCl [(m0, .inr (3, [.ref a0, .ref a1, .ref a2, .ref a3, .ref a4, .ref a5, .int (mi 0), .int (mi 1), .int (mi 2), .int (mi 3), .int (mi 4), .int (mi 5), .int (mi 6), .int (mi 7), .int 1])), (a0, .inl (cI, 6, .inl on)), (a1, .inl (cI, 7, .inl kd)), (a2, .inl (cI, 7, .inl sz)), (a3, .inl (cL, 280, .inr (.inl fr))), (a4, .inl (cL, 40, .inr (.inl li))), (a5, .inl (cI, 120, .inl st))] H := hP
    have hD : va_D A [(m0, .inr (3, [.ref a0, .ref a1, .ref a2, .ref a3, .ref a4, .ref a5, .int (mi 0), .int (mi 1), .int (mi 2), .int (mi 3), .int (mi 4), .int (mi 5), .int (mi 6), .int (mi 7), .int 1])), (a0, .inl (cI, 6, .inl on)), (a1, .inl (cI, 7, .inl kd)), (a2, .inl (cI, 7, .inl sz)), (a3, .inl (cL, 280, .inr (.inl fr))), (a4, .inl (cL, 40, .inr (.inl li))), (a5, .inl (cI, 120, .inl st))] := hD
    refine lv_aload_n hx hb dX3_pull_21 rfl (lv_at hl 0 rfl) ?_
    refine va_get (D := D) (ci := 3) (v := .int 1) (C := RX3) (T := TX3) (N := 15) hx hb hts iw_X3_pull_X3 hown hK hP 0 rfl rfl 14 (by decide) (hts _ lk_X3_pull_Cond_fieldLink_RX3_29_SpliceRoomModel_code_I_) (fun _ h9 => h9) rfl dX3_pull_22 ?_
    refine lv_if_le (tgt := 30) hx hb dX3_pull_25 (by decide) (fun c9 => absurd c9 (by decide)) (fun _ => ?_)
    refine lv_iconst (v := 0) hx hb dX3_pull_28 (by decide) ?_
    exact W.zret (v := 0) hx hb hr (rfl) (fun t ht hW => ⟨⟨_, (on, kd, sz, fr, li, st, mi9 (mi 0) (mi 1) (mi 2) (mi 3) (mi 4) (mi 5) (mi 6) (mi 7) 1), rfl, Or.inl ⟨fun h9 => c_5 (okH_iff.mpr h9), rfl, rfl⟩, ⟨by rw [ht]; exact hP, hD⟩⟩, hS.F ht⟩) hS.2.2 dX3_pull_29
/-- a card, as the model has it -/
def cdM (n s : Int32) : Int64 := if s = 0 then n.toInt64 else n.toInt64 + 1000
theorem iw_X3_paste_X3 : ∀ w ∈ wsX30, w ∈ wsX3_paste := by decide +kernel
theorem lk_X3_paste_Cond_constantLong_RX3_64_1000 : Cond.constantLong RX3 64 1000 ∈ wsX3_paste := by decide +kernel
theorem lk_X3_paste_Cond_fieldLink_RX3_19_SpliceRoomModel_frames_J_ : Cond.fieldLink RX3 19 "SpliceRoomModel" "frames" "[J" ∈ wsX3_paste := by decide +kernel
theorem lk_X3_paste_Cond_fieldLink_RX3_29_SpliceRoomModel_code_I_ : Cond.fieldLink RX3 29 "SpliceRoomModel" "code" "I" ∈ wsX3_paste := by decide +kernel
theorem lk_X3_paste_Cond_fieldLink_RX3_7_SpliceRoomModel_on_I_ : Cond.fieldLink RX3 7 "SpliceRoomModel" "on" "[I" ∈ wsX3_paste := by decide +kernel
set_option maxHeartbeats 4000000 in
set_option maxRecDepth 100000 in
theorem c_X3_paste (l : Launch) {D : va_G} {cI cL cQ : ClassId} {N0 : Nat} {sa : Nat → Nat} {Hc : Heap} {m0 a0 a1 a2 a3 a4 a5 : Nat} {on kd sz : Nat → Int32} {fr li : Nat → Int64} {st : Nat → Int32} {mi : Nat → Int32} {h0 i0 n0 s0 : Int32} (hP : va_P D vwCl [(m0, .inr (3, [.ref a0, .ref a1, .ref a2, .ref a3, .ref a4, .ref a5, .int (mi 0), .int (mi 1), .int (mi 2), .int (mi 3), .int (mi 4), .int (mi 5), .int (mi 6), .int (mi 7), .int (mi 8)])), (a0, .inl (cI, 6, .inl on)), (a1, .inl (cI, 7, .inl kd)), (a2, .inl (cI, 7, .inl sz)), (a3, .inl (cL, 280, .inr (.inl fr))), (a4, .inl (cL, 40, .inr (.inl li))), (a5, .inl (cI, 120, .inl st))] Hc) (hD0 : va_D nT [(m0, .inr (3, [.ref a0, .ref a1, .ref a2, .ref a3, .ref a4, .ref a5, .int (mi 0), .int (mi 1), .int (mi 2), .int (mi 3), .int (mi 4), .int (mi 5), .int (mi 6), .int (mi 7), .int (mi 8)])), (a0, .inl (cI, 6, .inl on)), (a1, .inl (cI, 7, .inl kd)), (a2, .inl (cI, 7, .inl sz)), (a3, .inl (cL, 280, .inr (.inl fr))), (a4, .inl (cL, 40, .inr (.inl li))), (a5, .inl (cI, 120, .inl st))]) (hN : ∀ q, va_A [(m0, .inr (3, [.ref a0, .ref a1, .ref a2, .ref a3, .ref a4, .ref a5, .int (mi 0), .int (mi 1), .int (mi 2), .int (mi 3), .int (mi 4), .int (mi 5), .int (mi 6), .int (mi 7), .int (mi 8)])), (a0, .inl (cI, 6, .inl on)), (a1, .inl (cI, 7, .inl kd)), (a2, .inl (cI, 7, .inl sz)), (a3, .inl (cL, 280, .inr (.inl fr))), (a4, .inl (cL, 40, .inr (.inl li))), (a5, .inl (cI, 120, .inl st))] Hc.size q → N0 ≤ q) (hO : OnOk on) (hZ : SzOk sz) : Met l yX3_paste wsX3_paste ({ frames := 3, cells := 0, slots := 0, locals := 80 }) (Pq D cI cL cQ N0 sa [.ref m0, .int h0, .int i0, .int n0, .int s0] Hc) (va_Qi (fun (r : Int32) (u : MS) => (¬ (okH h0 ∧ (0 ≤ n0 ∧ n0 ≤ 999)) ∧ r = 0 ∧ u = (on, kd, sz, fr, li, st, miC mi 1)) ∨ (∃ j1 : Nat, j1 < 6 ∧ h0 = nI j1 ∧ (0 ≤ n0 ∧ n0 ≤ 999) ∧ ((¬ (3 ≤ mK on kd j1 ∧ mK on kd j1 ≤ 4) ∧ r = 0 ∧ u = (on, kd, sz, fr, li, st, miC mi 2)) ∨ ((3 ≤ mK on kd j1 ∧ mK on kd j1 ≤ 4) ∧ ∃ p1 z1 : Nat, p1 < 7 ∧ z1 ≤ 40 ∧ on j1 = nI p1 ∧ sz p1 = nI z1 ∧ ((¬ okF i0 z1 ∧ r = 0 ∧ u = (on, kd, sz, fr, li, st, miC mi 3)) ∨ (∃ i1 : Nat, i1 < z1 ∧ i0 = nI i1 ∧ (((mK on kd j1 = 4 ∧ s0 = 0) ∧ r = 0 ∧ u = (on, kd, sz, fr, li, st, miC mi 0)) ∨ (¬ (mK on kd j1 = 4 ∧ s0 = 0) ∧ r = 1 ∧ u = (on, kd, sz, vp_updL fr (40 * p1 + i1) (cdM n0 s0), li, st, miC mi 0))))))))) (fun (u : MS) (t : State) => va_P D vwCl [(m0, .inr (3, [.ref a0, .ref a1, .ref a2, .ref a3, .ref a4, .ref a5, .int (u.2.2.2.2.2.2 0), .int (u.2.2.2.2.2.2 1), .int (u.2.2.2.2.2.2 2), .int (u.2.2.2.2.2.2 3), .int (u.2.2.2.2.2.2 4), .int (u.2.2.2.2.2.2 5), .int (u.2.2.2.2.2.2 6), .int (u.2.2.2.2.2.2 7), .int (u.2.2.2.2.2.2 8)])), (a0, .inl (cI, 6, .inl u.1)), (a1, .inl (cI, 7, .inl u.2.1)), (a2, .inl (cI, 7, .inl u.2.2.1)), (a3, .inl (cL, 280, .inr (.inl u.2.2.2.1))), (a4, .inl (cL, 40, .inr (.inl u.2.2.2.2.1))), (a5, .inl (cI, 120, .inl u.2.2.2.2.2.1))] t.heap ∧ va_D (va_A [(m0, .inr (3, [.ref a0, .ref a1, .ref a2, .ref a3, .ref a4, .ref a5, .int (mi 0), .int (mi 1), .int (mi 2), .int (mi 3), .int (mi 4), .int (mi 5), .int (mi 6), .int (mi 7), .int (mi 8)])), (a0, .inl (cI, 6, .inl on)), (a1, .inl (cI, 7, .inl kd)), (a2, .inl (cI, 7, .inl sz)), (a3, .inl (cL, 280, .inr (.inl fr))), (a4, .inl (cL, 40, .inr (.inl li))), (a5, .inl (cI, 120, .inl st))] Hc.size) [(m0, .inr (3, [.ref a0, .ref a1, .ref a2, .ref a3, .ref a4, .ref a5, .int (u.2.2.2.2.2.2 0), .int (u.2.2.2.2.2.2 1), .int (u.2.2.2.2.2.2 2), .int (u.2.2.2.2.2.2 3), .int (u.2.2.2.2.2.2 4), .int (u.2.2.2.2.2.2 5), .int (u.2.2.2.2.2.2 6), .int (u.2.2.2.2.2.2 7), .int (u.2.2.2.2.2.2 8)])), (a0, .inl (cI, 6, .inl u.1)), (a1, .inl (cI, 7, .inl u.2.1)), (a2, .inl (cI, 7, .inl u.2.2.1)), (a3, .inl (cL, 280, .inr (.inl u.2.2.2.1))), (a4, .inl (cL, 40, .inr (.inl u.2.2.2.2.1))), (a5, .inl (cI, 120, .inl u.2.2.2.2.2.1))]) (va_A [(m0, .inr (3, [.ref a0, .ref a1, .ref a2, .ref a3, .ref a4, .ref a5, .int (mi 0), .int (mi 1), .int (mi 2), .int (mi 3), .int (mi 4), .int (mi 5), .int (mi 6), .int (mi 7), .int (mi 8)])), (a0, .inl (cI, 6, .inl on)), (a1, .inl (cI, 7, .inl kd)), (a2, .inl (cI, 7, .inl sz)), (a3, .inl (cL, 280, .inr (.inl fr))), (a4, .inl (cL, 40, .inr (.inl li))), (a5, .inl (cI, 120, .inl st))] Hc.size)) 0 0 (va_A [(m0, .inr (3, [.ref a0, .ref a1, .ref a2, .ref a3, .ref a4, .ref a5, .int (mi 0), .int (mi 1), .int (mi 2), .int (mi 3), .int (mi 4), .int (mi 5), .int (mi 6), .int (mi 7), .int (mi 8)])), (a0, .inl (cI, 6, .inl on)), (a1, .inl (cI, 7, .inl kd)), (a2, .inl (cI, 7, .inl sz)), (a3, .inl (cL, 280, .inr (.inl fr))), (a4, .inl (cL, 40, .inr (.inl li))), (a5, .inl (cI, 120, .inl st))] Hc.size) := by
  refine Met.ofW (cc := cX3_paste) (maxL := 5) (ret := (some .boolean)) (by decide) rfl ?_
  intro p e s m args below meth c s₁ B hml hv
  obtain ⟨rfl, hH, hC⟩ := hv
  have hx := B.exec
  have hb := B.bytes
  have hr := B.returns
  have hts := atoms_spec (ws := wsX3_paste) B.pre
  have hown : s.vm.findClass RX3 = some m.cls := findClass_of_methodNamed B.named
  have hlocks := B.notSynchronized
  subst hH
  have hK := hC.K
  have hl := lv_entry ([.ref m0, .int h0, .int i0, .int n0, .int s0]) (n := 5) (Nat.le_of_ble_eq_true rfl)
  rw [lg_entry_eq]
  generalize (lg_sl ([.ref m0, .int h0, .int i0, .int n0, .int s0]) ++ List.replicate (5 - (lg_sl ([.ref m0, .int h0, .int i0, .int n0, .int s0])).length) Slot.unset).toArray = ls at hl ⊢
  have hl : lv_has ls 5 [(0, .ref m0), (1, .int h0), (2, .int i0), (3, .int n0), (4, .int s0)] := hl
  have hP : va_P D vwCl [(m0, .inr (3, [.ref a0, .ref a1, .ref a2, .ref a3, .ref a4, .ref a5, .int (mi 0), .int (mi 1), .int (mi 2), .int (mi 3), .int (mi 4), .int (mi 5), .int (mi 6), .int (mi 7), .int (mi 8)])), (a0, .inl (cI, 6, .inl on)), (a1, .inl (cI, 7, .inl kd)), (a2, .inl (cI, 7, .inl sz)), (a3, .inl (cL, 280, .inr (.inl fr))), (a4, .inl (cL, 40, .inr (.inl li))), (a5, .inl (cI, 120, .inl st))] s.heap := hP
  have hD := hD0.self (sz := s.heap.size)
  generalize hAe : va_A [(m0, .inr (3, [.ref a0, .ref a1, .ref a2, .ref a3, .ref a4, .ref a5, .int (mi 0), .int (mi 1), .int (mi 2), .int (mi 3), .int (mi 4), .int (mi 5), .int (mi 6), .int (mi 7), .int (mi 8)])), (a0, .inl (cI, 6, .inl on)), (a1, .inl (cI, 7, .inl kd)), (a2, .inl (cI, 7, .inl sz)), (a3, .inl (cL, 280, .inr (.inl fr))), (a4, .inl (cL, 40, .inr (.inl li))), (a5, .inl (cI, 120, .inl st))] s.heap.size = A at hD hN ⊢
  have hA : ∀ q : Nat, s.heap.size ≤ q → A q := fun q h => by rw [← hAe]; exact Or.inr h
  have hS : va_S A s.heap s.heap [] := va_S.rf
  refine lv_aload_n hx hb dX3_paste_0 rfl (lv_at hl 0 rfl) ?_
  refine lv_iload_n hx hb dX3_paste_1 rfl (lv_at hl 1 rfl) ?_
  refine ro_i (va_runS (As := [.int h0]) (rest := [.ref m0]) ⟨hx, hb, hml, hown, hts⟩ (c_X3_isHook l (v0 := h0)) (va_cwS 1 hts gX3_paste_X3_isHook rfl rfl rfl (by decide +kernel) ⟨Nat.le_of_ble_eq_true rfl, Nat.le_of_ble_eq_true rfl⟩) (Pq.S hC hS hN) rfl rfl hl.1 rfl (lv_room (Nat.le_of_ble_eq_true rfl)) dX3_paste_2 ⟨Nat.le_of_ble_eq_true rfl, Nat.le_of_ble_eq_true rfl⟩) hS (fun r_1 locs hw hS => ?_)
  have hw : r_1 = tB (0 ≤ h0 ∧ h0 ≤ 5) := hw
  subst hw
  refine lv_if_eq (tgt := 19) hx hb dX3_paste_5 (by decide) (fun c_5 => ?_) (fun c_5 => ?_)
  · have c_5 := tB_0.mp c_5
    refine lv_iconst (v := 1) hx hb dX3_paste_19 (by decide) ?_
    refine lv_goto (tgt := 29) hx hb dX3_paste_20 (by decide) ?_
    refine va_put (D := D) (ci := 3) (v := .int 1) (ty := .int) (C := RX3) (T := TX3) (N := 15) hx hb hts iw_X3_paste_X3 tyX3 tyX3_ok nmX3 hown hK hP hD hS 0 rfl rfl 14 (by decide) (hts _ lk_X3_paste_Cond_fieldLink_RX3_29_SpliceRoomModel_code_I_) (fun _ h9 => h9) rfl (by decide +kernel) rfl rfl (Nat.le_of_ble_eq_true rfl) dX3_paste_29 (fun H locs hP hD hS => ?_)
    have hP : va_P D vwCl [(m0, .inr (3, [.ref a0, .ref a1, .ref a2, .ref a3, .ref a4, .ref a5, .int (mi 0), .int (mi 1), .int (mi 2), .int (mi 3), .int (mi 4), .int (mi 5), .int (mi 6), .int (mi 7), .int 1])), (a0, .inl (cI, 6, .inl on)), (a1, .inl (cI, 7, .inl kd)), (a2, .inl (cI, 7, .inl sz)), (a3, .inl (cL, 280, .inr (.inl fr))), (a4, .inl (cL, 40, .inr (.inl li))), (a5, .inl (cI, 120, .inl st))] H := hP
    have hD : va_D A [(m0, .inr (3, [.ref a0, .ref a1, .ref a2, .ref a3, .ref a4, .ref a5, .int (mi 0), .int (mi 1), .int (mi 2), .int (mi 3), .int (mi 4), .int (mi 5), .int (mi 6), .int (mi 7), .int 1])), (a0, .inl (cI, 6, .inl on)), (a1, .inl (cI, 7, .inl kd)), (a2, .inl (cI, 7, .inl sz)), (a3, .inl (cL, 280, .inr (.inl fr))), (a4, .inl (cL, 40, .inr (.inl li))), (a5, .inl (cI, 120, .inl st))] := hD
    refine lv_aload_n hx hb dX3_paste_32 rfl (lv_at hl 0 rfl) ?_
    refine va_get (D := D) (ci := 3) (v := .int 1) (C := RX3) (T := TX3) (N := 15) hx hb hts iw_X3_paste_X3 hown hK hP 0 rfl rfl 14 (by decide) (hts _ lk_X3_paste_Cond_fieldLink_RX3_29_SpliceRoomModel_code_I_) (fun _ h9 => h9) rfl dX3_paste_33 ?_
    refine lv_if_gt (tgt := 53) hx hb dX3_paste_36 (by decide) (fun _ => ?_) (fun c9 => absurd (by decide) c9)
    refine lv_iconst (v := 0) hx hb dX3_paste_53 (by decide) ?_
    exact W.zret (v := 0) hx hb hr (rfl) (fun t ht hW => ⟨⟨_, (on, kd, sz, fr, li, st, mi9 (mi 0) (mi 1) (mi 2) (mi 3) (mi 4) (mi 5) (mi 6) (mi 7) 1), rfl, Or.inl ⟨fun h9 => c_5 (okH_iff.mpr h9.1), rfl, rfl⟩, ⟨by rw [ht]; exact hP, hD⟩⟩, hS.F ht⟩) hS.2.2 dX3_paste_54
  · have c_5 := tB_n.mp c_5
    obtain ⟨j, hj, rfl⟩ := okH_iff.mp c_5
    refine lv_iload_n hx hb dX3_paste_8 rfl (lv_at hl 3 rfl) ?_
    refine lv_iconst (v := 0) hx hb dX3_paste_9 (by decide) ?_
    refine lv_sipush (v := 999) hx hb dX3_paste_10 (by decide) ?_
    refine ro_i (va_runS (As := [.int n0, .int 0, .int 999]) (rest := [.ref m0]) ⟨hx, hb, hml, hown, hts⟩ (c_X3_in l (v0 := n0) (l0 := 0) (u0 := 999)) (va_cwS 3 hts gX3_paste_X3_in rfl rfl rfl (by decide +kernel) ⟨Nat.le_of_ble_eq_true rfl, Nat.le_of_ble_eq_true rfl⟩) (Pq.S hC hS hN) rfl rfl hl.1 rfl (lv_room (Nat.le_of_ble_eq_true rfl)) dX3_paste_13 ⟨Nat.le_of_ble_eq_true rfl, Nat.le_of_ble_eq_true rfl⟩) hS (fun r_2 locs hw hS => ?_)
    have hw : r_2 = tB (0 ≤ n0 ∧ n0 ≤ 999) := hw
    subst hw
    refine lv_if_ne (tgt := 23) hx hb dX3_paste_16 (by decide) (fun c_16 => ?_) (fun c_16 => ?_)
    · have c_16 := tB_n.mp c_16
      refine lv_aload_n hx hb dX3_paste_23 rfl (lv_at hl 0 rfl) ?_
      refine lv_iload_n hx hb dX3_paste_24 rfl (lv_at hl 1 rfl) ?_
      refine lv_iload_n hx hb dX3_paste_25 rfl (lv_at hl 2 rfl) ?_
      by_cases cc : 3 ≤ mK on kd j ∧ mK on kd j ≤ 4
      · obtain ⟨pp, hp, ep⟩ := mK_n hO hj (kd := kd) (fun e9 => by rw [e9] at cc; exact absurd cc.1 (by decide))
        obtain ⟨z, hz, ez⟩ := hZ pp hp
        have ek : mK on kd j = kd pp := mK_p hp ep
        by_cases ci : okF i0 z
        · obtain ⟨i, hi, rfl⟩ := ci
          refine ro_i (va_runV (As := [.int (nI j), .int (nI i)]) (rest := [.ref m0]) ⟨hx, hb, hml, hown, hts⟩ (c_X3_cardCode0 l (j := j) (i0 := nI i) (hP.sub [0, 1, 2, 3, 4, 5, 6] rfl) hO hj hp ep hz ez cc ⟨i, hi, rfl⟩) (cwV 2 hts gX3_paste_X3_cardCode rfl rfl rfl (by decide +kernel) ⟨Nat.le_of_ble_eq_true rfl, Nat.le_of_ble_eq_true rfl⟩) (Pq.V hC hS hN (va_recv hK hP (ci := 3) (q0 := 0) rfl rfl)) rfl rfl hl.1 rfl (lv_room (Nat.le_of_ble_eq_true rfl)) dX3_paste_26 ⟨Nat.le_of_ble_eq_true rfl, Nat.le_of_ble_eq_true rfl⟩) hS (fun r_3 locs hw hS => ?_)
          have hw : r_3 = 0 := hw
          subst hw
          refine va_put (D := D) (ci := 3) (v := .int 0) (ty := .int) (C := RX3) (T := TX3) (N := 15) hx hb hts iw_X3_paste_X3 tyX3 tyX3_ok nmX3 hown hK hP hD hS 0 rfl rfl 14 (by decide) (hts _ lk_X3_paste_Cond_fieldLink_RX3_29_SpliceRoomModel_code_I_) (fun _ h9 => h9) rfl (by decide +kernel) rfl rfl (Nat.le_of_ble_eq_true rfl) dX3_paste_29 (fun H locs hP hD hS => ?_)
          have hP : va_P D vwCl [(m0, .inr (3, [.ref a0, .ref a1, .ref a2, .ref a3, .ref a4, .ref a5, .int (mi 0), .int (mi 1), .int (mi 2), .int (mi 3), .int (mi 4), .int (mi 5), .int (mi 6), .int (mi 7), .int 0])), (a0, .inl (cI, 6, .inl on)), (a1, .inl (cI, 7, .inl kd)), (a2, .inl (cI, 7, .inl sz)), (a3, .inl (cL, 280, .inr (.inl fr))), (a4, .inl (cL, 40, .inr (.inl li))), (a5, .inl (cI, 120, .inl st))] H := hP
          have hD : va_D A [(m0, .inr (3, [.ref a0, .ref a1, .ref a2, .ref a3, .ref a4, .ref a5, .int (mi 0), .int (mi 1), .int (mi 2), .int (mi 3), .int (mi 4), .int (mi 5), .int (mi 6), .int (mi 7), .int 0])), (a0, .inl (cI, 6, .inl on)), (a1, .inl (cI, 7, .inl kd)), (a2, .inl (cI, 7, .inl sz)), (a3, .inl (cL, 280, .inr (.inl fr))), (a4, .inl (cL, 40, .inr (.inl li))), (a5, .inl (cI, 120, .inl st))] := hD
          refine lv_aload_n hx hb dX3_paste_32 rfl (lv_at hl 0 rfl) ?_
          refine va_get (D := D) (ci := 3) (v := .int 0) (C := RX3) (T := TX3) (N := 15) hx hb hts iw_X3_paste_X3 hown hK hP 0 rfl rfl 14 (by decide) (hts _ lk_X3_paste_Cond_fieldLink_RX3_29_SpliceRoomModel_code_I_) (fun _ h9 => h9) rfl dX3_paste_33 ?_
          refine lv_if_gt (tgt := 53) hx hb dX3_paste_36 (by decide) (fun c9 => absurd c9 (by decide)) (fun _ => ?_)
          refine lv_aload_n hx hb dX3_paste_39 rfl (lv_at hl 0 rfl) ?_
          refine lv_iload_n hx hb dX3_paste_40 rfl (lv_at hl 1 rfl) ?_
          refine ro_i (va_runV (As := [.int (nI j)]) (rest := []) ⟨hx, hb, hml, hown, hts⟩ (c_X3_kindAt l (j := j) (mi := mi9 (mi 0) (mi 1) (mi 2) (mi 3) (mi 4) (mi 5) (mi 6) (mi 7) 0) (hP.sub [0, 1, 2, 3, 4, 5, 6] rfl) hO hj) (cwV 1 hts gX3_paste_X3_kindAt rfl rfl rfl (by decide +kernel) ⟨Nat.le_of_ble_eq_true rfl, Nat.le_of_ble_eq_true rfl⟩) (Pq.V hC hS hN (va_recv hK hP (ci := 3) (q0 := 0) rfl rfl)) rfl rfl hl.1 rfl (lv_room (Nat.le_of_ble_eq_true rfl)) dX3_paste_41 ⟨Nat.le_of_ble_eq_true rfl, Nat.le_of_ble_eq_true rfl⟩) hS (fun r_4 locs hw hS => ?_)
          have hw : r_4 = mK on kd j := hw
          subst hw
          refine lv_iconst (v := 4) hx hb dX3_paste_44 (by decide) ?_
          refine lv_icmp_ne (tgt := 55) hx hb dX3_paste_45 (by decide) (fun c_45 => ?_) (fun c_45 => ?_)
          · refine lv_aload_n hx hb dX3_paste_55 rfl (lv_at hl 0 rfl) ?_
            refine va_get (D := D) (ci := 3) (v := .ref a3) (C := RX3) (T := TX3) (N := 15) hx hb hts iw_X3_paste_X3 hown hK hP 0 rfl rfl 3 (by decide) (hts _ lk_X3_paste_Cond_fieldLink_RX3_19_SpliceRoomModel_frames_J_) (fun _ h9 => h9) rfl dX3_paste_56 ?_
            refine lv_bipush (v := 40) hx hb dX3_paste_59 (by decide) ?_
            refine lv_aload_n hx hb dX3_paste_61 rfl (lv_at hl 0 rfl) ?_
            refine va_get (D := D) (ci := 3) (v := .ref a0) (C := RX3) (T := TX3) (N := 15) hx hb hts iw_X3_paste_X3 hown hK hP 0 rfl rfl 0 (by decide) (hts _ lk_X3_paste_Cond_fieldLink_RX3_7_SpliceRoomModel_on_I_) (fun _ h9 => h9) rfl dX3_paste_62 ?_
            refine lv_iload_n hx hb dX3_paste_65 rfl (lv_at hl 1 rfl) ?_
            refine va_iald (D := D) hx hb hK hP 1 0 rfl rfl (vp_in_nI hj (by decide)) dX3_paste_66 ?_
            refine lv_topi (fun y_5 e9 => ?_)
            have e9 : y_5 = nI pp := e9.trans (by rw [nI_clamp (by omega)]; exact ep)
            subst e9
            refine lv_imul hx hb dX3_paste_67 ?_
            refine lv_iload_n hx hb dX3_paste_68 rfl (lv_at hl 2 rfl) ?_
            refine lv_iadd hx hb dX3_paste_69 ?_
            refine lv_iload hx hb dX3_paste_70 (lv_at hl 4 rfl) ?_
            refine lv_if_eq (tgt := 84) hx hb dX3_paste_72 (by decide) (fun c_72 => ?_) (fun c_72 => ?_)
            · refine lv_iload_n hx hb dX3_paste_84 rfl (lv_at hl 3 rfl) ?_
              refine lv_i2l hx hb dX3_paste_85 rfl ?_
              refine va_last (D := D) hx hb hK hP hD hS 4 1 rfl rfl (by rw [idx40]; exact vp_in_nI (show 40 * pp + i < 280 by omega) (by decide)) dX3_paste_86 (fun H locs hP hD hS => ?_)
              have hP : va_P D vwCl [(m0, .inr (3, [.ref a0, .ref a1, .ref a2, .ref a3, .ref a4, .ref a5, .int (mi 0), .int (mi 1), .int (mi 2), .int (mi 3), .int (mi 4), .int (mi 5), .int (mi 6), .int (mi 7), .int 0])), (a0, .inl (cI, 6, .inl on)), (a1, .inl (cI, 7, .inl kd)), (a2, .inl (cI, 7, .inl sz)), (a3, .inl (cL, 280, .inr (.inl (vp_updL fr (((40 * (nI pp)) + (nI i)).toNatClampNeg) n0.toInt64)))), (a4, .inl (cL, 40, .inr (.inl li))), (a5, .inl (cI, 120, .inl st))] H := hP
              have hD : va_D A [(m0, .inr (3, [.ref a0, .ref a1, .ref a2, .ref a3, .ref a4, .ref a5, .int (mi 0), .int (mi 1), .int (mi 2), .int (mi 3), .int (mi 4), .int (mi 5), .int (mi 6), .int (mi 7), .int 0])), (a0, .inl (cI, 6, .inl on)), (a1, .inl (cI, 7, .inl kd)), (a2, .inl (cI, 7, .inl sz)), (a3, .inl (cL, 280, .inr (.inl (vp_updL fr (((40 * (nI pp)) + (nI i)).toNatClampNeg) n0.toInt64)))), (a4, .inl (cL, 40, .inr (.inl li))), (a5, .inl (cI, 120, .inl st))] := hD
              rw [idx40, nI_clamp (show 40 * pp + i < 2 ^ 31 by omega)] at hP hD
              refine lv_iconst (v := 1) hx hb dX3_paste_87 (by decide) ?_
              exact W.zret (v := 1) hx hb hr (rfl) (fun t ht hW => ⟨⟨_, (on, kd, sz, vp_updL fr (40 * pp + i) (n0.toInt64), li, st, mi9 (mi 0) (mi 1) (mi 2) (mi 3) (mi 4) (mi 5) (mi 6) (mi 7) 0), rfl, Or.inr ⟨j, hj, rfl, c_16, Or.inr ⟨cc, pp, z, hp, hz, ep, ez, Or.inr ⟨i, hi, rfl, Or.inr ⟨fun h9 => c_45 h9.1, rfl, by rw [cdM, if_pos c_72]⟩⟩⟩⟩, ⟨by rw [ht]; exact hP, hD⟩⟩, hS.F ht⟩) hS.2.2 dX3_paste_88
            · refine lv_iload_n hx hb dX3_paste_75 rfl (lv_at hl 3 rfl) ?_
              refine lv_i2l hx hb dX3_paste_76 rfl ?_
              refine lv_ldc2 (v := 1000) hx hb hown (hts _ lk_X3_paste_Cond_constantLong_RX3_64_1000) dX3_paste_77 ?_
              refine lv_ladd hx hb dX3_paste_80 ?_
              refine lv_goto (tgt := 86) hx hb dX3_paste_81 (by decide) ?_
              refine va_last (D := D) hx hb hK hP hD hS 4 1 rfl rfl (by rw [idx40]; exact vp_in_nI (show 40 * pp + i < 280 by omega) (by decide)) dX3_paste_86 (fun H locs hP hD hS => ?_)
              have hP : va_P D vwCl [(m0, .inr (3, [.ref a0, .ref a1, .ref a2, .ref a3, .ref a4, .ref a5, .int (mi 0), .int (mi 1), .int (mi 2), .int (mi 3), .int (mi 4), .int (mi 5), .int (mi 6), .int (mi 7), .int 0])), (a0, .inl (cI, 6, .inl on)), (a1, .inl (cI, 7, .inl kd)), (a2, .inl (cI, 7, .inl sz)), (a3, .inl (cL, 280, .inr (.inl (vp_updL fr (((40 * (nI pp)) + (nI i)).toNatClampNeg) (n0.toInt64 + 1000))))), (a4, .inl (cL, 40, .inr (.inl li))), (a5, .inl (cI, 120, .inl st))] H := hP
              have hD : va_D A [(m0, .inr (3, [.ref a0, .ref a1, .ref a2, .ref a3, .ref a4, .ref a5, .int (mi 0), .int (mi 1), .int (mi 2), .int (mi 3), .int (mi 4), .int (mi 5), .int (mi 6), .int (mi 7), .int 0])), (a0, .inl (cI, 6, .inl on)), (a1, .inl (cI, 7, .inl kd)), (a2, .inl (cI, 7, .inl sz)), (a3, .inl (cL, 280, .inr (.inl (vp_updL fr (((40 * (nI pp)) + (nI i)).toNatClampNeg) (n0.toInt64 + 1000))))), (a4, .inl (cL, 40, .inr (.inl li))), (a5, .inl (cI, 120, .inl st))] := hD
              rw [idx40, nI_clamp (show 40 * pp + i < 2 ^ 31 by omega)] at hP hD
              refine lv_iconst (v := 1) hx hb dX3_paste_87 (by decide) ?_
              exact W.zret (v := 1) hx hb hr (rfl) (fun t ht hW => ⟨⟨_, (on, kd, sz, vp_updL fr (40 * pp + i) (n0.toInt64 + 1000), li, st, mi9 (mi 0) (mi 1) (mi 2) (mi 3) (mi 4) (mi 5) (mi 6) (mi 7) 0), rfl, Or.inr ⟨j, hj, rfl, c_16, Or.inr ⟨cc, pp, z, hp, hz, ep, ez, Or.inr ⟨i, hi, rfl, Or.inr ⟨fun h9 => c_45 h9.1, rfl, by rw [cdM, if_neg c_72]⟩⟩⟩⟩, ⟨by rw [ht]; exact hP, hD⟩⟩, hS.F ht⟩) hS.2.2 dX3_paste_88
          · refine lv_iload hx hb dX3_paste_48 (lv_at hl 4 rfl) ?_
            refine lv_if_ne (tgt := 55) hx hb dX3_paste_50 (by decide) (fun c_50 => ?_) (fun c_50 => ?_)
            · refine lv_aload_n hx hb dX3_paste_55 rfl (lv_at hl 0 rfl) ?_
              refine va_get (D := D) (ci := 3) (v := .ref a3) (C := RX3) (T := TX3) (N := 15) hx hb hts iw_X3_paste_X3 hown hK hP 0 rfl rfl 3 (by decide) (hts _ lk_X3_paste_Cond_fieldLink_RX3_19_SpliceRoomModel_frames_J_) (fun _ h9 => h9) rfl dX3_paste_56 ?_
              refine lv_bipush (v := 40) hx hb dX3_paste_59 (by decide) ?_
              refine lv_aload_n hx hb dX3_paste_61 rfl (lv_at hl 0 rfl) ?_
              refine va_get (D := D) (ci := 3) (v := .ref a0) (C := RX3) (T := TX3) (N := 15) hx hb hts iw_X3_paste_X3 hown hK hP 0 rfl rfl 0 (by decide) (hts _ lk_X3_paste_Cond_fieldLink_RX3_7_SpliceRoomModel_on_I_) (fun _ h9 => h9) rfl dX3_paste_62 ?_
              refine lv_iload_n hx hb dX3_paste_65 rfl (lv_at hl 1 rfl) ?_
              refine va_iald (D := D) hx hb hK hP 1 0 rfl rfl (vp_in_nI hj (by decide)) dX3_paste_66 ?_
              refine lv_topi (fun y_6 e9 => ?_)
              have e9 : y_6 = nI pp := e9.trans (by rw [nI_clamp (by omega)]; exact ep)
              subst e9
              refine lv_imul hx hb dX3_paste_67 ?_
              refine lv_iload_n hx hb dX3_paste_68 rfl (lv_at hl 2 rfl) ?_
              refine lv_iadd hx hb dX3_paste_69 ?_
              refine lv_iload hx hb dX3_paste_70 (lv_at hl 4 rfl) ?_
              refine lv_if_eq (tgt := 84) hx hb dX3_paste_72 (by decide) (fun c_72 => ?_) (fun c_72 => ?_)
              · refine lv_iload_n hx hb dX3_paste_84 rfl (lv_at hl 3 rfl) ?_
                refine lv_i2l hx hb dX3_paste_85 rfl ?_
                refine va_last (D := D) hx hb hK hP hD hS 4 1 rfl rfl (by rw [idx40]; exact vp_in_nI (show 40 * pp + i < 280 by omega) (by decide)) dX3_paste_86 (fun H locs hP hD hS => ?_)
                have hP : va_P D vwCl [(m0, .inr (3, [.ref a0, .ref a1, .ref a2, .ref a3, .ref a4, .ref a5, .int (mi 0), .int (mi 1), .int (mi 2), .int (mi 3), .int (mi 4), .int (mi 5), .int (mi 6), .int (mi 7), .int 0])), (a0, .inl (cI, 6, .inl on)), (a1, .inl (cI, 7, .inl kd)), (a2, .inl (cI, 7, .inl sz)), (a3, .inl (cL, 280, .inr (.inl (vp_updL fr (((40 * (nI pp)) + (nI i)).toNatClampNeg) n0.toInt64)))), (a4, .inl (cL, 40, .inr (.inl li))), (a5, .inl (cI, 120, .inl st))] H := hP
                have hD : va_D A [(m0, .inr (3, [.ref a0, .ref a1, .ref a2, .ref a3, .ref a4, .ref a5, .int (mi 0), .int (mi 1), .int (mi 2), .int (mi 3), .int (mi 4), .int (mi 5), .int (mi 6), .int (mi 7), .int 0])), (a0, .inl (cI, 6, .inl on)), (a1, .inl (cI, 7, .inl kd)), (a2, .inl (cI, 7, .inl sz)), (a3, .inl (cL, 280, .inr (.inl (vp_updL fr (((40 * (nI pp)) + (nI i)).toNatClampNeg) n0.toInt64)))), (a4, .inl (cL, 40, .inr (.inl li))), (a5, .inl (cI, 120, .inl st))] := hD
                rw [idx40, nI_clamp (show 40 * pp + i < 2 ^ 31 by omega)] at hP hD
                refine lv_iconst (v := 1) hx hb dX3_paste_87 (by decide) ?_
                exact W.zret (v := 1) hx hb hr (rfl) (fun t ht hW => ⟨⟨_, (on, kd, sz, vp_updL fr (40 * pp + i) (n0.toInt64), li, st, mi9 (mi 0) (mi 1) (mi 2) (mi 3) (mi 4) (mi 5) (mi 6) (mi 7) 0), rfl, Or.inr ⟨j, hj, rfl, c_16, Or.inr ⟨cc, pp, z, hp, hz, ep, ez, Or.inr ⟨i, hi, rfl, Or.inr ⟨fun h9 => c_50 h9.2, rfl, by rw [cdM, if_pos c_72]⟩⟩⟩⟩, ⟨by rw [ht]; exact hP, hD⟩⟩, hS.F ht⟩) hS.2.2 dX3_paste_88
              · refine lv_iload_n hx hb dX3_paste_75 rfl (lv_at hl 3 rfl) ?_
                refine lv_i2l hx hb dX3_paste_76 rfl ?_
                refine lv_ldc2 (v := 1000) hx hb hown (hts _ lk_X3_paste_Cond_constantLong_RX3_64_1000) dX3_paste_77 ?_
                refine lv_ladd hx hb dX3_paste_80 ?_
                refine lv_goto (tgt := 86) hx hb dX3_paste_81 (by decide) ?_
                refine va_last (D := D) hx hb hK hP hD hS 4 1 rfl rfl (by rw [idx40]; exact vp_in_nI (show 40 * pp + i < 280 by omega) (by decide)) dX3_paste_86 (fun H locs hP hD hS => ?_)
                have hP : va_P D vwCl [(m0, .inr (3, [.ref a0, .ref a1, .ref a2, .ref a3, .ref a4, .ref a5, .int (mi 0), .int (mi 1), .int (mi 2), .int (mi 3), .int (mi 4), .int (mi 5), .int (mi 6), .int (mi 7), .int 0])), (a0, .inl (cI, 6, .inl on)), (a1, .inl (cI, 7, .inl kd)), (a2, .inl (cI, 7, .inl sz)), (a3, .inl (cL, 280, .inr (.inl (vp_updL fr (((40 * (nI pp)) + (nI i)).toNatClampNeg) (n0.toInt64 + 1000))))), (a4, .inl (cL, 40, .inr (.inl li))), (a5, .inl (cI, 120, .inl st))] H := hP
                have hD : va_D A [(m0, .inr (3, [.ref a0, .ref a1, .ref a2, .ref a3, .ref a4, .ref a5, .int (mi 0), .int (mi 1), .int (mi 2), .int (mi 3), .int (mi 4), .int (mi 5), .int (mi 6), .int (mi 7), .int 0])), (a0, .inl (cI, 6, .inl on)), (a1, .inl (cI, 7, .inl kd)), (a2, .inl (cI, 7, .inl sz)), (a3, .inl (cL, 280, .inr (.inl (vp_updL fr (((40 * (nI pp)) + (nI i)).toNatClampNeg) (n0.toInt64 + 1000))))), (a4, .inl (cL, 40, .inr (.inl li))), (a5, .inl (cI, 120, .inl st))] := hD
                rw [idx40, nI_clamp (show 40 * pp + i < 2 ^ 31 by omega)] at hP hD
                refine lv_iconst (v := 1) hx hb dX3_paste_87 (by decide) ?_
                exact W.zret (v := 1) hx hb hr (rfl) (fun t ht hW => ⟨⟨_, (on, kd, sz, vp_updL fr (40 * pp + i) (n0.toInt64 + 1000), li, st, mi9 (mi 0) (mi 1) (mi 2) (mi 3) (mi 4) (mi 5) (mi 6) (mi 7) 0), rfl, Or.inr ⟨j, hj, rfl, c_16, Or.inr ⟨cc, pp, z, hp, hz, ep, ez, Or.inr ⟨i, hi, rfl, Or.inr ⟨fun h9 => c_50 h9.2, rfl, by rw [cdM, if_neg c_72]⟩⟩⟩⟩, ⟨by rw [ht]; exact hP, hD⟩⟩, hS.F ht⟩) hS.2.2 dX3_paste_88
            · refine lv_iconst (v := 0) hx hb dX3_paste_53 (by decide) ?_
              exact W.zret (v := 0) hx hb hr (rfl) (fun t ht hW => ⟨⟨_, (on, kd, sz, fr, li, st, mi9 (mi 0) (mi 1) (mi 2) (mi 3) (mi 4) (mi 5) (mi 6) (mi 7) 0), rfl, Or.inr ⟨j, hj, rfl, c_16, Or.inr ⟨cc, pp, z, hp, hz, ep, ez, Or.inr ⟨i, hi, rfl, Or.inl ⟨⟨c_45, c_50⟩, rfl, rfl⟩⟩⟩⟩, ⟨by rw [ht]; exact hP, hD⟩⟩, hS.F ht⟩) hS.2.2 dX3_paste_54
        · refine ro_i (va_runV (As := [.int (nI j), .int i0]) (rest := [.ref m0]) ⟨hx, hb, hml, hown, hts⟩ (c_X3_cardCode3 l (j := j) (i0 := i0) (hP.sub [0, 1, 2, 3, 4, 5, 6] rfl) hO hj hp ep hz ez cc ci) (cwV 2 hts gX3_paste_X3_cardCode rfl rfl rfl (by decide +kernel) ⟨Nat.le_of_ble_eq_true rfl, Nat.le_of_ble_eq_true rfl⟩) (Pq.V hC hS hN (va_recv hK hP (ci := 3) (q0 := 0) rfl rfl)) rfl rfl hl.1 rfl (lv_room (Nat.le_of_ble_eq_true rfl)) dX3_paste_26 ⟨Nat.le_of_ble_eq_true rfl, Nat.le_of_ble_eq_true rfl⟩) hS (fun r_7 locs hw hS => ?_)
          have hw : r_7 = 3 := hw
          subst hw
          refine va_put (D := D) (ci := 3) (v := .int 3) (ty := .int) (C := RX3) (T := TX3) (N := 15) hx hb hts iw_X3_paste_X3 tyX3 tyX3_ok nmX3 hown hK hP hD hS 0 rfl rfl 14 (by decide) (hts _ lk_X3_paste_Cond_fieldLink_RX3_29_SpliceRoomModel_code_I_) (fun _ h9 => h9) rfl (by decide +kernel) rfl rfl (Nat.le_of_ble_eq_true rfl) dX3_paste_29 (fun H locs hP hD hS => ?_)
          have hP : va_P D vwCl [(m0, .inr (3, [.ref a0, .ref a1, .ref a2, .ref a3, .ref a4, .ref a5, .int (mi 0), .int (mi 1), .int (mi 2), .int (mi 3), .int (mi 4), .int (mi 5), .int (mi 6), .int (mi 7), .int 3])), (a0, .inl (cI, 6, .inl on)), (a1, .inl (cI, 7, .inl kd)), (a2, .inl (cI, 7, .inl sz)), (a3, .inl (cL, 280, .inr (.inl fr))), (a4, .inl (cL, 40, .inr (.inl li))), (a5, .inl (cI, 120, .inl st))] H := hP
          have hD : va_D A [(m0, .inr (3, [.ref a0, .ref a1, .ref a2, .ref a3, .ref a4, .ref a5, .int (mi 0), .int (mi 1), .int (mi 2), .int (mi 3), .int (mi 4), .int (mi 5), .int (mi 6), .int (mi 7), .int 3])), (a0, .inl (cI, 6, .inl on)), (a1, .inl (cI, 7, .inl kd)), (a2, .inl (cI, 7, .inl sz)), (a3, .inl (cL, 280, .inr (.inl fr))), (a4, .inl (cL, 40, .inr (.inl li))), (a5, .inl (cI, 120, .inl st))] := hD
          refine lv_aload_n hx hb dX3_paste_32 rfl (lv_at hl 0 rfl) ?_
          refine va_get (D := D) (ci := 3) (v := .int 3) (C := RX3) (T := TX3) (N := 15) hx hb hts iw_X3_paste_X3 hown hK hP 0 rfl rfl 14 (by decide) (hts _ lk_X3_paste_Cond_fieldLink_RX3_29_SpliceRoomModel_code_I_) (fun _ h9 => h9) rfl dX3_paste_33 ?_
          refine lv_if_gt (tgt := 53) hx hb dX3_paste_36 (by decide) (fun _ => ?_) (fun c9 => absurd (by decide) c9)
          refine lv_iconst (v := 0) hx hb dX3_paste_53 (by decide) ?_
          exact W.zret (v := 0) hx hb hr (rfl) (fun t ht hW => ⟨⟨_, (on, kd, sz, fr, li, st, mi9 (mi 0) (mi 1) (mi 2) (mi 3) (mi 4) (mi 5) (mi 6) (mi 7) 3), rfl, Or.inr ⟨j, hj, rfl, c_16, Or.inr ⟨cc, pp, z, hp, hz, ep, ez, Or.inl ⟨ci, rfl, rfl⟩⟩⟩, ⟨by rw [ht]; exact hP, hD⟩⟩, hS.F ht⟩) hS.2.2 dX3_paste_54
      · refine ro_i (va_runV (As := [.int (nI j), .int i0]) (rest := [.ref m0]) ⟨hx, hb, hml, hown, hts⟩ (c_X3_cardCode2 l (j := j) (i0 := i0) (hP.sub [0, 1, 2, 3, 4, 5, 6] rfl) hO hj cc) (cwV 2 hts gX3_paste_X3_cardCode rfl rfl rfl (by decide +kernel) ⟨Nat.le_of_ble_eq_true rfl, Nat.le_of_ble_eq_true rfl⟩) (Pq.V hC hS hN (va_recv hK hP (ci := 3) (q0 := 0) rfl rfl)) rfl rfl hl.1 rfl (lv_room (Nat.le_of_ble_eq_true rfl)) dX3_paste_26 ⟨Nat.le_of_ble_eq_true rfl, Nat.le_of_ble_eq_true rfl⟩) hS (fun r_8 locs hw hS => ?_)
        have hw : r_8 = 2 := hw
        subst hw
        refine va_put (D := D) (ci := 3) (v := .int 2) (ty := .int) (C := RX3) (T := TX3) (N := 15) hx hb hts iw_X3_paste_X3 tyX3 tyX3_ok nmX3 hown hK hP hD hS 0 rfl rfl 14 (by decide) (hts _ lk_X3_paste_Cond_fieldLink_RX3_29_SpliceRoomModel_code_I_) (fun _ h9 => h9) rfl (by decide +kernel) rfl rfl (Nat.le_of_ble_eq_true rfl) dX3_paste_29 (fun H locs hP hD hS => ?_)
        have hP : va_P D vwCl [(m0, .inr (3, [.ref a0, .ref a1, .ref a2, .ref a3, .ref a4, .ref a5, .int (mi 0), .int (mi 1), .int (mi 2), .int (mi 3), .int (mi 4), .int (mi 5), .int (mi 6), .int (mi 7), .int 2])), (a0, .inl (cI, 6, .inl on)), (a1, .inl (cI, 7, .inl kd)), (a2, .inl (cI, 7, .inl sz)), (a3, .inl (cL, 280, .inr (.inl fr))), (a4, .inl (cL, 40, .inr (.inl li))), (a5, .inl (cI, 120, .inl st))] H := hP
        have hD : va_D A [(m0, .inr (3, [.ref a0, .ref a1, .ref a2, .ref a3, .ref a4, .ref a5, .int (mi 0), .int (mi 1), .int (mi 2), .int (mi 3), .int (mi 4), .int (mi 5), .int (mi 6), .int (mi 7), .int 2])), (a0, .inl (cI, 6, .inl on)), (a1, .inl (cI, 7, .inl kd)), (a2, .inl (cI, 7, .inl sz)), (a3, .inl (cL, 280, .inr (.inl fr))), (a4, .inl (cL, 40, .inr (.inl li))), (a5, .inl (cI, 120, .inl st))] := hD
        refine lv_aload_n hx hb dX3_paste_32 rfl (lv_at hl 0 rfl) ?_
        refine va_get (D := D) (ci := 3) (v := .int 2) (C := RX3) (T := TX3) (N := 15) hx hb hts iw_X3_paste_X3 hown hK hP 0 rfl rfl 14 (by decide) (hts _ lk_X3_paste_Cond_fieldLink_RX3_29_SpliceRoomModel_code_I_) (fun _ h9 => h9) rfl dX3_paste_33 ?_
        refine lv_if_gt (tgt := 53) hx hb dX3_paste_36 (by decide) (fun _ => ?_) (fun c9 => absurd (by decide) c9)
        refine lv_iconst (v := 0) hx hb dX3_paste_53 (by decide) ?_
        exact W.zret (v := 0) hx hb hr (rfl) (fun t ht hW => ⟨⟨_, (on, kd, sz, fr, li, st, mi9 (mi 0) (mi 1) (mi 2) (mi 3) (mi 4) (mi 5) (mi 6) (mi 7) 2), rfl, Or.inr ⟨j, hj, rfl, c_16, Or.inl ⟨cc, rfl, rfl⟩⟩, ⟨by rw [ht]; exact hP, hD⟩⟩, hS.F ht⟩) hS.2.2 dX3_paste_54
    · have c_16 := tB_0.mp c_16
      refine lv_iconst (v := 1) hx hb dX3_paste_19 (by decide) ?_
      refine lv_goto (tgt := 29) hx hb dX3_paste_20 (by decide) ?_
      refine va_put (D := D) (ci := 3) (v := .int 1) (ty := .int) (C := RX3) (T := TX3) (N := 15) hx hb hts iw_X3_paste_X3 tyX3 tyX3_ok nmX3 hown hK hP hD hS 0 rfl rfl 14 (by decide) (hts _ lk_X3_paste_Cond_fieldLink_RX3_29_SpliceRoomModel_code_I_) (fun _ h9 => h9) rfl (by decide +kernel) rfl rfl (Nat.le_of_ble_eq_true rfl) dX3_paste_29 (fun H locs hP hD hS => ?_)
      have hP : va_P D vwCl [(m0, .inr (3, [.ref a0, .ref a1, .ref a2, .ref a3, .ref a4, .ref a5, .int (mi 0), .int (mi 1), .int (mi 2), .int (mi 3), .int (mi 4), .int (mi 5), .int (mi 6), .int (mi 7), .int 1])), (a0, .inl (cI, 6, .inl on)), (a1, .inl (cI, 7, .inl kd)), (a2, .inl (cI, 7, .inl sz)), (a3, .inl (cL, 280, .inr (.inl fr))), (a4, .inl (cL, 40, .inr (.inl li))), (a5, .inl (cI, 120, .inl st))] H := hP
      have hD : va_D A [(m0, .inr (3, [.ref a0, .ref a1, .ref a2, .ref a3, .ref a4, .ref a5, .int (mi 0), .int (mi 1), .int (mi 2), .int (mi 3), .int (mi 4), .int (mi 5), .int (mi 6), .int (mi 7), .int 1])), (a0, .inl (cI, 6, .inl on)), (a1, .inl (cI, 7, .inl kd)), (a2, .inl (cI, 7, .inl sz)), (a3, .inl (cL, 280, .inr (.inl fr))), (a4, .inl (cL, 40, .inr (.inl li))), (a5, .inl (cI, 120, .inl st))] := hD
      refine lv_aload_n hx hb dX3_paste_32 rfl (lv_at hl 0 rfl) ?_
      refine va_get (D := D) (ci := 3) (v := .int 1) (C := RX3) (T := TX3) (N := 15) hx hb hts iw_X3_paste_X3 hown hK hP 0 rfl rfl 14 (by decide) (hts _ lk_X3_paste_Cond_fieldLink_RX3_29_SpliceRoomModel_code_I_) (fun _ h9 => h9) rfl dX3_paste_33 ?_
      refine lv_if_gt (tgt := 53) hx hb dX3_paste_36 (by decide) (fun _ => ?_) (fun c9 => absurd (by decide) c9)
      refine lv_iconst (v := 0) hx hb dX3_paste_53 (by decide) ?_
      exact W.zret (v := 0) hx hb hr (rfl) (fun t ht hW => ⟨⟨_, (on, kd, sz, fr, li, st, mi9 (mi 0) (mi 1) (mi 2) (mi 3) (mi 4) (mi 5) (mi 6) (mi 7) 1), rfl, Or.inl ⟨fun h9 => c_16 h9.2, rfl, rfl⟩, ⟨by rw [ht]; exact hP, hD⟩⟩, hS.F ht⟩) hS.2.2 dX3_paste_54
theorem iw_X3_sweep_X3 : ∀ w ∈ wsX30, w ∈ wsX3_sweep := by decide +kernel
theorem lk_X3_sweep_Cond_fieldLink_RX3_29_SpliceRoomModel_code_I_ : Cond.fieldLink RX3 29 "SpliceRoomModel" "code" "I" ∈ wsX3_sweep := by decide +kernel
theorem lk_X3_sweep_Cond_fieldLink_RX3_95_SpliceRoomModel_steps_I_ : Cond.fieldLink RX3 95 "SpliceRoomModel" "steps" "I" ∈ wsX3_sweep := by decide +kernel
set_option maxHeartbeats 4000000 in
set_option maxRecDepth 100000 in
theorem c_X3_sweep (l : Launch) {D : va_G} {cI cL cQ : ClassId} {N0 : Nat} {sa : Nat → Nat} {Hc : Heap} {m0 a0 a1 a2 a3 a4 a5 : Nat} {on kd sz : Nat → Int32} {fr li : Nat → Int64} {st : Nat → Int32} {mi : Nat → Int32}  (hP : va_P D vwCl [(m0, .inr (3, [.ref a0, .ref a1, .ref a2, .ref a3, .ref a4, .ref a5, .int (mi 0), .int (mi 1), .int (mi 2), .int (mi 3), .int (mi 4), .int (mi 5), .int (mi 6), .int (mi 7), .int (mi 8)])), (a0, .inl (cI, 6, .inl on)), (a1, .inl (cI, 7, .inl kd)), (a2, .inl (cI, 7, .inl sz)), (a3, .inl (cL, 280, .inr (.inl fr))), (a4, .inl (cL, 40, .inr (.inl li))), (a5, .inl (cI, 120, .inl st))] Hc) (hD0 : va_D nT [(m0, .inr (3, [.ref a0, .ref a1, .ref a2, .ref a3, .ref a4, .ref a5, .int (mi 0), .int (mi 1), .int (mi 2), .int (mi 3), .int (mi 4), .int (mi 5), .int (mi 6), .int (mi 7), .int (mi 8)])), (a0, .inl (cI, 6, .inl on)), (a1, .inl (cI, 7, .inl kd)), (a2, .inl (cI, 7, .inl sz)), (a3, .inl (cL, 280, .inr (.inl fr))), (a4, .inl (cL, 40, .inr (.inl li))), (a5, .inl (cI, 120, .inl st))]) (hN : ∀ q, va_A [(m0, .inr (3, [.ref a0, .ref a1, .ref a2, .ref a3, .ref a4, .ref a5, .int (mi 0), .int (mi 1), .int (mi 2), .int (mi 3), .int (mi 4), .int (mi 5), .int (mi 6), .int (mi 7), .int (mi 8)])), (a0, .inl (cI, 6, .inl on)), (a1, .inl (cI, 7, .inl kd)), (a2, .inl (cI, 7, .inl sz)), (a3, .inl (cL, 280, .inr (.inl fr))), (a4, .inl (cL, 40, .inr (.inl li))), (a5, .inl (cI, 120, .inl st))] Hc.size q → N0 ≤ q) : Met l yX3_sweep wsX3_sweep ({ frames := 0, cells := 0, slots := 0, locals := 0 }) (Pq D cI cL cQ N0 sa [.ref m0] Hc) (va_Qi (fun (r : Int32) (u : MS) => r = mi 0 ∧ u = (on, kd, sz, fr, li, st, mi9 0 (mi 1) (mi 2) (mi 3) (mi 4) (mi 5) (mi 6) (mi 7) 0)) (fun (u : MS) (t : State) => va_P D vwCl [(m0, .inr (3, [.ref a0, .ref a1, .ref a2, .ref a3, .ref a4, .ref a5, .int (u.2.2.2.2.2.2 0), .int (u.2.2.2.2.2.2 1), .int (u.2.2.2.2.2.2 2), .int (u.2.2.2.2.2.2 3), .int (u.2.2.2.2.2.2 4), .int (u.2.2.2.2.2.2 5), .int (u.2.2.2.2.2.2 6), .int (u.2.2.2.2.2.2 7), .int (u.2.2.2.2.2.2 8)])), (a0, .inl (cI, 6, .inl u.1)), (a1, .inl (cI, 7, .inl u.2.1)), (a2, .inl (cI, 7, .inl u.2.2.1)), (a3, .inl (cL, 280, .inr (.inl u.2.2.2.1))), (a4, .inl (cL, 40, .inr (.inl u.2.2.2.2.1))), (a5, .inl (cI, 120, .inl u.2.2.2.2.2.1))] t.heap ∧ va_D (va_A [(m0, .inr (3, [.ref a0, .ref a1, .ref a2, .ref a3, .ref a4, .ref a5, .int (mi 0), .int (mi 1), .int (mi 2), .int (mi 3), .int (mi 4), .int (mi 5), .int (mi 6), .int (mi 7), .int (mi 8)])), (a0, .inl (cI, 6, .inl on)), (a1, .inl (cI, 7, .inl kd)), (a2, .inl (cI, 7, .inl sz)), (a3, .inl (cL, 280, .inr (.inl fr))), (a4, .inl (cL, 40, .inr (.inl li))), (a5, .inl (cI, 120, .inl st))] Hc.size) [(m0, .inr (3, [.ref a0, .ref a1, .ref a2, .ref a3, .ref a4, .ref a5, .int (u.2.2.2.2.2.2 0), .int (u.2.2.2.2.2.2 1), .int (u.2.2.2.2.2.2 2), .int (u.2.2.2.2.2.2 3), .int (u.2.2.2.2.2.2 4), .int (u.2.2.2.2.2.2 5), .int (u.2.2.2.2.2.2 6), .int (u.2.2.2.2.2.2 7), .int (u.2.2.2.2.2.2 8)])), (a0, .inl (cI, 6, .inl u.1)), (a1, .inl (cI, 7, .inl u.2.1)), (a2, .inl (cI, 7, .inl u.2.2.1)), (a3, .inl (cL, 280, .inr (.inl u.2.2.2.1))), (a4, .inl (cL, 40, .inr (.inl u.2.2.2.2.1))), (a5, .inl (cI, 120, .inl u.2.2.2.2.2.1))]) (va_A [(m0, .inr (3, [.ref a0, .ref a1, .ref a2, .ref a3, .ref a4, .ref a5, .int (mi 0), .int (mi 1), .int (mi 2), .int (mi 3), .int (mi 4), .int (mi 5), .int (mi 6), .int (mi 7), .int (mi 8)])), (a0, .inl (cI, 6, .inl on)), (a1, .inl (cI, 7, .inl kd)), (a2, .inl (cI, 7, .inl sz)), (a3, .inl (cL, 280, .inr (.inl fr))), (a4, .inl (cL, 40, .inr (.inl li))), (a5, .inl (cI, 120, .inl st))] Hc.size)) 0 0 (va_A [(m0, .inr (3, [.ref a0, .ref a1, .ref a2, .ref a3, .ref a4, .ref a5, .int (mi 0), .int (mi 1), .int (mi 2), .int (mi 3), .int (mi 4), .int (mi 5), .int (mi 6), .int (mi 7), .int (mi 8)])), (a0, .inl (cI, 6, .inl on)), (a1, .inl (cI, 7, .inl kd)), (a2, .inl (cI, 7, .inl sz)), (a3, .inl (cL, 280, .inr (.inl fr))), (a4, .inl (cL, 40, .inr (.inl li))), (a5, .inl (cI, 120, .inl st))] Hc.size) := by
  refine Met.ofW (cc := cX3_sweep) (maxL := 2) (ret := (some .int)) (by decide) rfl ?_
  intro p e s m args below meth c s₁ B hml hv
  obtain ⟨rfl, hH, hC⟩ := hv
  have hx := B.exec
  have hb := B.bytes
  have hr := B.returns
  have hts := atoms_spec (ws := wsX3_sweep) B.pre
  have hown : s.vm.findClass RX3 = some m.cls := findClass_of_methodNamed B.named
  have hlocks := B.notSynchronized
  subst hH
  have hK := hC.K
  have hl := lv_entry ([.ref m0]) (n := 2) (Nat.le_of_ble_eq_true rfl)
  rw [lg_entry_eq]
  generalize (lg_sl ([.ref m0]) ++ List.replicate (2 - (lg_sl ([.ref m0])).length) Slot.unset).toArray = ls at hl ⊢
  have hl : lv_has ls 2 [(0, .ref m0)] := hl
  have hP : va_P D vwCl [(m0, .inr (3, [.ref a0, .ref a1, .ref a2, .ref a3, .ref a4, .ref a5, .int (mi 0), .int (mi 1), .int (mi 2), .int (mi 3), .int (mi 4), .int (mi 5), .int (mi 6), .int (mi 7), .int (mi 8)])), (a0, .inl (cI, 6, .inl on)), (a1, .inl (cI, 7, .inl kd)), (a2, .inl (cI, 7, .inl sz)), (a3, .inl (cL, 280, .inr (.inl fr))), (a4, .inl (cL, 40, .inr (.inl li))), (a5, .inl (cI, 120, .inl st))] s.heap := hP
  have hD := hD0.self (sz := s.heap.size)
  generalize hAe : va_A [(m0, .inr (3, [.ref a0, .ref a1, .ref a2, .ref a3, .ref a4, .ref a5, .int (mi 0), .int (mi 1), .int (mi 2), .int (mi 3), .int (mi 4), .int (mi 5), .int (mi 6), .int (mi 7), .int (mi 8)])), (a0, .inl (cI, 6, .inl on)), (a1, .inl (cI, 7, .inl kd)), (a2, .inl (cI, 7, .inl sz)), (a3, .inl (cL, 280, .inr (.inl fr))), (a4, .inl (cL, 40, .inr (.inl li))), (a5, .inl (cI, 120, .inl st))] s.heap.size = A at hD hN ⊢
  have hA : ∀ q : Nat, s.heap.size ≤ q → A q := fun q h => by rw [← hAe]; exact Or.inr h
  have hS : va_S A s.heap s.heap [] := va_S.rf
  refine lv_aload_n hx hb dX3_sweep_0 rfl (lv_at hl 0 rfl) ?_
  refine lv_iconst (v := 0) hx hb dX3_sweep_1 (by decide) ?_
  refine va_put (D := D) (ci := 3) (v := .int 0) (ty := .int) (C := RX3) (T := TX3) (N := 15) hx hb hts iw_X3_sweep_X3 tyX3 tyX3_ok nmX3 hown hK hP hD hS 0 rfl rfl 14 (by decide) (hts _ lk_X3_sweep_Cond_fieldLink_RX3_29_SpliceRoomModel_code_I_) (fun _ h9 => h9) rfl (by decide +kernel) rfl rfl (Nat.le_of_ble_eq_true rfl) dX3_sweep_2 (fun H locs hP hD hS => ?_)
  have hP : va_P D vwCl [(m0, .inr (3, [.ref a0, .ref a1, .ref a2, .ref a3, .ref a4, .ref a5, .int (mi 0), .int (mi 1), .int (mi 2), .int (mi 3), .int (mi 4), .int (mi 5), .int (mi 6), .int (mi 7), .int 0])), (a0, .inl (cI, 6, .inl on)), (a1, .inl (cI, 7, .inl kd)), (a2, .inl (cI, 7, .inl sz)), (a3, .inl (cL, 280, .inr (.inl fr))), (a4, .inl (cL, 40, .inr (.inl li))), (a5, .inl (cI, 120, .inl st))] H := hP
  have hD : va_D A [(m0, .inr (3, [.ref a0, .ref a1, .ref a2, .ref a3, .ref a4, .ref a5, .int (mi 0), .int (mi 1), .int (mi 2), .int (mi 3), .int (mi 4), .int (mi 5), .int (mi 6), .int (mi 7), .int 0])), (a0, .inl (cI, 6, .inl on)), (a1, .inl (cI, 7, .inl kd)), (a2, .inl (cI, 7, .inl sz)), (a3, .inl (cL, 280, .inr (.inl fr))), (a4, .inl (cL, 40, .inr (.inl li))), (a5, .inl (cI, 120, .inl st))] := hD
  refine lv_aload_n hx hb dX3_sweep_5 rfl (lv_at hl 0 rfl) ?_
  refine va_get (D := D) (ci := 3) (v := .int (mi 0)) (C := RX3) (T := TX3) (N := 15) hx hb hts iw_X3_sweep_X3 hown hK hP 0 rfl rfl 6 (by decide) (hts _ lk_X3_sweep_Cond_fieldLink_RX3_95_SpliceRoomModel_steps_I_) (fun _ h9 => h9) rfl dX3_sweep_6 ?_
  refine lv_istore_n (lv' := [(1, .int (mi 0)), (0, .ref m0)]) hx hb dX3_sweep_9 rfl hl (by decide) rfl (fun ls hl => ?_)
  refine lv_aload_n hx hb dX3_sweep_10 rfl (lv_at hl 1 rfl) ?_
  refine lv_iconst (v := 0) hx hb dX3_sweep_11 (by decide) ?_
  refine va_put (D := D) (ci := 3) (v := .int 0) (ty := .int) (C := RX3) (T := TX3) (N := 15) hx hb hts iw_X3_sweep_X3 tyX3 tyX3_ok nmX3 hown hK hP hD hS 0 rfl rfl 6 (by decide) (hts _ lk_X3_sweep_Cond_fieldLink_RX3_95_SpliceRoomModel_steps_I_) (fun _ h9 => h9) rfl (by decide +kernel) rfl rfl (Nat.le_of_ble_eq_true rfl) dX3_sweep_12 (fun H locs hP hD hS => ?_)
  have hP : va_P D vwCl [(m0, .inr (3, [.ref a0, .ref a1, .ref a2, .ref a3, .ref a4, .ref a5, .int 0, .int (mi 1), .int (mi 2), .int (mi 3), .int (mi 4), .int (mi 5), .int (mi 6), .int (mi 7), .int 0])), (a0, .inl (cI, 6, .inl on)), (a1, .inl (cI, 7, .inl kd)), (a2, .inl (cI, 7, .inl sz)), (a3, .inl (cL, 280, .inr (.inl fr))), (a4, .inl (cL, 40, .inr (.inl li))), (a5, .inl (cI, 120, .inl st))] H := hP
  have hD : va_D A [(m0, .inr (3, [.ref a0, .ref a1, .ref a2, .ref a3, .ref a4, .ref a5, .int 0, .int (mi 1), .int (mi 2), .int (mi 3), .int (mi 4), .int (mi 5), .int (mi 6), .int (mi 7), .int 0])), (a0, .inl (cI, 6, .inl on)), (a1, .inl (cI, 7, .inl kd)), (a2, .inl (cI, 7, .inl sz)), (a3, .inl (cL, 280, .inr (.inl fr))), (a4, .inl (cL, 40, .inr (.inl li))), (a5, .inl (cI, 120, .inl st))] := hD
  refine lv_iload_n hx hb dX3_sweep_15 rfl (lv_at hl 0 rfl) ?_
  exact W.iret (v := mi 0) hx hb hr (fun t ht hW => ⟨⟨_, (on, kd, sz, fr, li, st, mi9 0 (mi 1) (mi 2) (mi 3) (mi 4) (mi 5) (mi 6) (mi 7) 0), rfl, ⟨rfl, rfl⟩, ⟨by rw [ht]; exact hP, hD⟩⟩, hS.F ht⟩) hS.2.2 dX3_sweep_16
theorem iw_X3_grind_X3 : ∀ w ∈ wsX30, w ∈ wsX3_grind := by decide +kernel
theorem lk_X3_grind_Cond_fieldLink_RX3_29_SpliceRoomModel_code_I_ : Cond.fieldLink RX3 29 "SpliceRoomModel" "code" "I" ∈ wsX3_grind := by decide +kernel
theorem lk_X3_grind_Cond_fieldLink_RX3_79_SpliceRoomModel_inRow_I_ : Cond.fieldLink RX3 79 "SpliceRoomModel" "inRow" "I" ∈ wsX3_grind := by decide +kernel
theorem lk_X3_grind_Cond_fieldLink_RX3_98_SpliceRoomModel_grindings_I_ : Cond.fieldLink RX3 98 "SpliceRoomModel" "grindings" "I" ∈ wsX3_grind := by decide +kernel
set_option maxHeartbeats 4000000 in
set_option maxRecDepth 100000 in
theorem c_X3_grind (l : Launch) {D : va_G} {cI cL cQ : ClassId} {N0 : Nat} {sa : Nat → Nat} {Hc : Heap} {m0 a0 a1 a2 a3 a4 a5 : Nat} {on kd sz : Nat → Int32} {fr li : Nat → Int64} {st : Nat → Int32} {mi : Nat → Int32}  (hP : va_P D vwCl [(m0, .inr (3, [.ref a0, .ref a1, .ref a2, .ref a3, .ref a4, .ref a5, .int (mi 0), .int (mi 1), .int (mi 2), .int (mi 3), .int (mi 4), .int (mi 5), .int (mi 6), .int (mi 7), .int (mi 8)])), (a0, .inl (cI, 6, .inl on)), (a1, .inl (cI, 7, .inl kd)), (a2, .inl (cI, 7, .inl sz)), (a3, .inl (cL, 280, .inr (.inl fr))), (a4, .inl (cL, 40, .inr (.inl li))), (a5, .inl (cI, 120, .inl st))] Hc) (hD0 : va_D nT [(m0, .inr (3, [.ref a0, .ref a1, .ref a2, .ref a3, .ref a4, .ref a5, .int (mi 0), .int (mi 1), .int (mi 2), .int (mi 3), .int (mi 4), .int (mi 5), .int (mi 6), .int (mi 7), .int (mi 8)])), (a0, .inl (cI, 6, .inl on)), (a1, .inl (cI, 7, .inl kd)), (a2, .inl (cI, 7, .inl sz)), (a3, .inl (cL, 280, .inr (.inl fr))), (a4, .inl (cL, 40, .inr (.inl li))), (a5, .inl (cI, 120, .inl st))]) (hN : ∀ q, va_A [(m0, .inr (3, [.ref a0, .ref a1, .ref a2, .ref a3, .ref a4, .ref a5, .int (mi 0), .int (mi 1), .int (mi 2), .int (mi 3), .int (mi 4), .int (mi 5), .int (mi 6), .int (mi 7), .int (mi 8)])), (a0, .inl (cI, 6, .inl on)), (a1, .inl (cI, 7, .inl kd)), (a2, .inl (cI, 7, .inl sz)), (a3, .inl (cL, 280, .inr (.inl fr))), (a4, .inl (cL, 40, .inr (.inl li))), (a5, .inl (cI, 120, .inl st))] Hc.size q → N0 ≤ q) : Met l yX3_grind wsX3_grind ({ frames := 1, cells := 0, slots := 0, locals := 40 }) (Pq D cI cL cQ N0 sa [.ref m0] Hc) (va_Qi (fun (r : Int32) (u : MS) => (mi 4 = 3 ∧ r = mi 7 + 1 ∧ u = (on, kd, sz, fr, li, st, mi9 (mi 0) (mi 1) (mi 2) (mi 3) 0 (mi 5) (mi 6) (mi 7 + 1) 0)) ∨ (¬ mi 4 = 3 ∧ r = 0 ∧ u = (on, kd, sz, fr, li, st, miC mi 1))) (fun (u : MS) (t : State) => va_P D vwCl [(m0, .inr (3, [.ref a0, .ref a1, .ref a2, .ref a3, .ref a4, .ref a5, .int (u.2.2.2.2.2.2 0), .int (u.2.2.2.2.2.2 1), .int (u.2.2.2.2.2.2 2), .int (u.2.2.2.2.2.2 3), .int (u.2.2.2.2.2.2 4), .int (u.2.2.2.2.2.2 5), .int (u.2.2.2.2.2.2 6), .int (u.2.2.2.2.2.2 7), .int (u.2.2.2.2.2.2 8)])), (a0, .inl (cI, 6, .inl u.1)), (a1, .inl (cI, 7, .inl u.2.1)), (a2, .inl (cI, 7, .inl u.2.2.1)), (a3, .inl (cL, 280, .inr (.inl u.2.2.2.1))), (a4, .inl (cL, 40, .inr (.inl u.2.2.2.2.1))), (a5, .inl (cI, 120, .inl u.2.2.2.2.2.1))] t.heap ∧ va_D (va_A [(m0, .inr (3, [.ref a0, .ref a1, .ref a2, .ref a3, .ref a4, .ref a5, .int (mi 0), .int (mi 1), .int (mi 2), .int (mi 3), .int (mi 4), .int (mi 5), .int (mi 6), .int (mi 7), .int (mi 8)])), (a0, .inl (cI, 6, .inl on)), (a1, .inl (cI, 7, .inl kd)), (a2, .inl (cI, 7, .inl sz)), (a3, .inl (cL, 280, .inr (.inl fr))), (a4, .inl (cL, 40, .inr (.inl li))), (a5, .inl (cI, 120, .inl st))] Hc.size) [(m0, .inr (3, [.ref a0, .ref a1, .ref a2, .ref a3, .ref a4, .ref a5, .int (u.2.2.2.2.2.2 0), .int (u.2.2.2.2.2.2 1), .int (u.2.2.2.2.2.2 2), .int (u.2.2.2.2.2.2 3), .int (u.2.2.2.2.2.2 4), .int (u.2.2.2.2.2.2 5), .int (u.2.2.2.2.2.2 6), .int (u.2.2.2.2.2.2 7), .int (u.2.2.2.2.2.2 8)])), (a0, .inl (cI, 6, .inl u.1)), (a1, .inl (cI, 7, .inl u.2.1)), (a2, .inl (cI, 7, .inl u.2.2.1)), (a3, .inl (cL, 280, .inr (.inl u.2.2.2.1))), (a4, .inl (cL, 40, .inr (.inl u.2.2.2.2.1))), (a5, .inl (cI, 120, .inl u.2.2.2.2.2.1))]) (va_A [(m0, .inr (3, [.ref a0, .ref a1, .ref a2, .ref a3, .ref a4, .ref a5, .int (mi 0), .int (mi 1), .int (mi 2), .int (mi 3), .int (mi 4), .int (mi 5), .int (mi 6), .int (mi 7), .int (mi 8)])), (a0, .inl (cI, 6, .inl on)), (a1, .inl (cI, 7, .inl kd)), (a2, .inl (cI, 7, .inl sz)), (a3, .inl (cL, 280, .inr (.inl fr))), (a4, .inl (cL, 40, .inr (.inl li))), (a5, .inl (cI, 120, .inl st))] Hc.size)) 0 0 (va_A [(m0, .inr (3, [.ref a0, .ref a1, .ref a2, .ref a3, .ref a4, .ref a5, .int (mi 0), .int (mi 1), .int (mi 2), .int (mi 3), .int (mi 4), .int (mi 5), .int (mi 6), .int (mi 7), .int (mi 8)])), (a0, .inl (cI, 6, .inl on)), (a1, .inl (cI, 7, .inl kd)), (a2, .inl (cI, 7, .inl sz)), (a3, .inl (cL, 280, .inr (.inl fr))), (a4, .inl (cL, 40, .inr (.inl li))), (a5, .inl (cI, 120, .inl st))] Hc.size) := by
  refine Met.ofW (cc := cX3_grind) (maxL := 1) (ret := (some .int)) (by decide) rfl ?_
  intro p e s m args below meth c s₁ B hml hv
  obtain ⟨rfl, hH, hC⟩ := hv
  have hx := B.exec
  have hb := B.bytes
  have hr := B.returns
  have hts := atoms_spec (ws := wsX3_grind) B.pre
  have hown : s.vm.findClass RX3 = some m.cls := findClass_of_methodNamed B.named
  have hlocks := B.notSynchronized
  subst hH
  have hK := hC.K
  have hl := lv_entry ([.ref m0]) (n := 1) (Nat.le_of_ble_eq_true rfl)
  rw [lg_entry_eq]
  generalize (lg_sl ([.ref m0]) ++ List.replicate (1 - (lg_sl ([.ref m0])).length) Slot.unset).toArray = ls at hl ⊢
  have hl : lv_has ls 1 [(0, .ref m0)] := hl
  have hP : va_P D vwCl [(m0, .inr (3, [.ref a0, .ref a1, .ref a2, .ref a3, .ref a4, .ref a5, .int (mi 0), .int (mi 1), .int (mi 2), .int (mi 3), .int (mi 4), .int (mi 5), .int (mi 6), .int (mi 7), .int (mi 8)])), (a0, .inl (cI, 6, .inl on)), (a1, .inl (cI, 7, .inl kd)), (a2, .inl (cI, 7, .inl sz)), (a3, .inl (cL, 280, .inr (.inl fr))), (a4, .inl (cL, 40, .inr (.inl li))), (a5, .inl (cI, 120, .inl st))] s.heap := hP
  have hD := hD0.self (sz := s.heap.size)
  generalize hAe : va_A [(m0, .inr (3, [.ref a0, .ref a1, .ref a2, .ref a3, .ref a4, .ref a5, .int (mi 0), .int (mi 1), .int (mi 2), .int (mi 3), .int (mi 4), .int (mi 5), .int (mi 6), .int (mi 7), .int (mi 8)])), (a0, .inl (cI, 6, .inl on)), (a1, .inl (cI, 7, .inl kd)), (a2, .inl (cI, 7, .inl sz)), (a3, .inl (cL, 280, .inr (.inl fr))), (a4, .inl (cL, 40, .inr (.inl li))), (a5, .inl (cI, 120, .inl st))] s.heap.size = A at hD hN ⊢
  have hA : ∀ q : Nat, s.heap.size ≤ q → A q := fun q h => by rw [← hAe]; exact Or.inr h
  have hS : va_S A s.heap s.heap [] := va_S.rf
  refine lv_aload_n hx hb dX3_grind_0 rfl (lv_at hl 0 rfl) ?_
  refine lv_aload_n hx hb dX3_grind_1 rfl (lv_at hl 0 rfl) ?_
  refine ro_i (va_runV (As := []) (rest := [.ref m0]) ⟨hx, hb, hml, hown, hts⟩ (c_X3_isBlunt l (hP.sub [0, 1, 2, 3, 4, 5, 6] rfl)) (cwV 0 hts gX3_grind_X3_isBlunt rfl rfl rfl (by decide +kernel) ⟨Nat.le_of_ble_eq_true rfl, Nat.le_of_ble_eq_true rfl⟩) (Pq.V hC hS hN (va_recv hK hP (ci := 3) (q0 := 0) rfl rfl)) rfl rfl hl.1 rfl (lv_room (Nat.le_of_ble_eq_true rfl)) dX3_grind_2 ⟨Nat.le_of_ble_eq_true rfl, Nat.le_of_ble_eq_true rfl⟩) hS (fun r_1 locs hw hS => ?_)
  have hw : r_1 = tB ((mi 4) = 3) := hw
  subst hw
  refine lv_if_eq (tgt := 12) hx hb dX3_grind_5 (by decide) (fun c_5 => ?_) (fun c_5 => ?_)
  · have c_5 := tB_0.mp c_5
    refine lv_iconst (v := 1) hx hb dX3_grind_12 (by decide) ?_
    refine va_put (D := D) (ci := 3) (v := .int 1) (ty := .int) (C := RX3) (T := TX3) (N := 15) hx hb hts iw_X3_grind_X3 tyX3 tyX3_ok nmX3 hown hK hP hD hS 0 rfl rfl 14 (by decide) (hts _ lk_X3_grind_Cond_fieldLink_RX3_29_SpliceRoomModel_code_I_) (fun _ h9 => h9) rfl (by decide +kernel) rfl rfl (Nat.le_of_ble_eq_true rfl) dX3_grind_13 (fun H locs hP hD hS => ?_)
    have hP : va_P D vwCl [(m0, .inr (3, [.ref a0, .ref a1, .ref a2, .ref a3, .ref a4, .ref a5, .int (mi 0), .int (mi 1), .int (mi 2), .int (mi 3), .int (mi 4), .int (mi 5), .int (mi 6), .int (mi 7), .int 1])), (a0, .inl (cI, 6, .inl on)), (a1, .inl (cI, 7, .inl kd)), (a2, .inl (cI, 7, .inl sz)), (a3, .inl (cL, 280, .inr (.inl fr))), (a4, .inl (cL, 40, .inr (.inl li))), (a5, .inl (cI, 120, .inl st))] H := hP
    have hD : va_D A [(m0, .inr (3, [.ref a0, .ref a1, .ref a2, .ref a3, .ref a4, .ref a5, .int (mi 0), .int (mi 1), .int (mi 2), .int (mi 3), .int (mi 4), .int (mi 5), .int (mi 6), .int (mi 7), .int 1])), (a0, .inl (cI, 6, .inl on)), (a1, .inl (cI, 7, .inl kd)), (a2, .inl (cI, 7, .inl sz)), (a3, .inl (cL, 280, .inr (.inl fr))), (a4, .inl (cL, 40, .inr (.inl li))), (a5, .inl (cI, 120, .inl st))] := hD
    refine lv_aload_n hx hb dX3_grind_16 rfl (lv_at hl 0 rfl) ?_
    refine va_get (D := D) (ci := 3) (v := .int 1) (C := RX3) (T := TX3) (N := 15) hx hb hts iw_X3_grind_X3 hown hK hP 0 rfl rfl 14 (by decide) (hts _ lk_X3_grind_Cond_fieldLink_RX3_29_SpliceRoomModel_code_I_) (fun _ h9 => h9) rfl dX3_grind_17 ?_
    refine lv_if_le (tgt := 25) hx hb dX3_grind_20 (by decide) (fun c9 => absurd c9 (by decide)) (fun _ => ?_)
    refine lv_iconst (v := 0) hx hb dX3_grind_23 (by decide) ?_
    exact W.iret (v := 0) hx hb hr (fun t ht hW => ⟨⟨_, (on, kd, sz, fr, li, st, mi9 (mi 0) (mi 1) (mi 2) (mi 3) (mi 4) (mi 5) (mi 6) (mi 7) 1), rfl, Or.inr ⟨c_5, rfl, rfl⟩, ⟨by rw [ht]; exact hP, hD⟩⟩, hS.F ht⟩) hS.2.2 dX3_grind_24
  · have c_5 := tB_n.mp c_5
    refine lv_iconst (v := 0) hx hb dX3_grind_8 (by decide) ?_
    refine lv_goto (tgt := 13) hx hb dX3_grind_9 (by decide) ?_
    refine va_put (D := D) (ci := 3) (v := .int 0) (ty := .int) (C := RX3) (T := TX3) (N := 15) hx hb hts iw_X3_grind_X3 tyX3 tyX3_ok nmX3 hown hK hP hD hS 0 rfl rfl 14 (by decide) (hts _ lk_X3_grind_Cond_fieldLink_RX3_29_SpliceRoomModel_code_I_) (fun _ h9 => h9) rfl (by decide +kernel) rfl rfl (Nat.le_of_ble_eq_true rfl) dX3_grind_13 (fun H locs hP hD hS => ?_)
    have hP : va_P D vwCl [(m0, .inr (3, [.ref a0, .ref a1, .ref a2, .ref a3, .ref a4, .ref a5, .int (mi 0), .int (mi 1), .int (mi 2), .int (mi 3), .int (mi 4), .int (mi 5), .int (mi 6), .int (mi 7), .int 0])), (a0, .inl (cI, 6, .inl on)), (a1, .inl (cI, 7, .inl kd)), (a2, .inl (cI, 7, .inl sz)), (a3, .inl (cL, 280, .inr (.inl fr))), (a4, .inl (cL, 40, .inr (.inl li))), (a5, .inl (cI, 120, .inl st))] H := hP
    have hD : va_D A [(m0, .inr (3, [.ref a0, .ref a1, .ref a2, .ref a3, .ref a4, .ref a5, .int (mi 0), .int (mi 1), .int (mi 2), .int (mi 3), .int (mi 4), .int (mi 5), .int (mi 6), .int (mi 7), .int 0])), (a0, .inl (cI, 6, .inl on)), (a1, .inl (cI, 7, .inl kd)), (a2, .inl (cI, 7, .inl sz)), (a3, .inl (cL, 280, .inr (.inl fr))), (a4, .inl (cL, 40, .inr (.inl li))), (a5, .inl (cI, 120, .inl st))] := hD
    refine lv_aload_n hx hb dX3_grind_16 rfl (lv_at hl 0 rfl) ?_
    refine va_get (D := D) (ci := 3) (v := .int 0) (C := RX3) (T := TX3) (N := 15) hx hb hts iw_X3_grind_X3 hown hK hP 0 rfl rfl 14 (by decide) (hts _ lk_X3_grind_Cond_fieldLink_RX3_29_SpliceRoomModel_code_I_) (fun _ h9 => h9) rfl dX3_grind_17 ?_
    refine lv_if_le (tgt := 25) hx hb dX3_grind_20 (by decide) (fun _ => ?_) (fun c9 => absurd (by decide) c9)
    refine lv_aload_n hx hb dX3_grind_25 rfl (lv_at hl 0 rfl) ?_
    refine lv_iconst (v := 0) hx hb dX3_grind_26 (by decide) ?_
    refine va_put (D := D) (ci := 3) (v := .int 0) (ty := .int) (C := RX3) (T := TX3) (N := 15) hx hb hts iw_X3_grind_X3 tyX3 tyX3_ok nmX3 hown hK hP hD hS 0 rfl rfl 10 (by decide) (hts _ lk_X3_grind_Cond_fieldLink_RX3_79_SpliceRoomModel_inRow_I_) (fun _ h9 => h9) rfl (by decide +kernel) rfl rfl (Nat.le_of_ble_eq_true rfl) dX3_grind_27 (fun H locs hP hD hS => ?_)
    have hP : va_P D vwCl [(m0, .inr (3, [.ref a0, .ref a1, .ref a2, .ref a3, .ref a4, .ref a5, .int (mi 0), .int (mi 1), .int (mi 2), .int (mi 3), .int 0, .int (mi 5), .int (mi 6), .int (mi 7), .int 0])), (a0, .inl (cI, 6, .inl on)), (a1, .inl (cI, 7, .inl kd)), (a2, .inl (cI, 7, .inl sz)), (a3, .inl (cL, 280, .inr (.inl fr))), (a4, .inl (cL, 40, .inr (.inl li))), (a5, .inl (cI, 120, .inl st))] H := hP
    have hD : va_D A [(m0, .inr (3, [.ref a0, .ref a1, .ref a2, .ref a3, .ref a4, .ref a5, .int (mi 0), .int (mi 1), .int (mi 2), .int (mi 3), .int 0, .int (mi 5), .int (mi 6), .int (mi 7), .int 0])), (a0, .inl (cI, 6, .inl on)), (a1, .inl (cI, 7, .inl kd)), (a2, .inl (cI, 7, .inl sz)), (a3, .inl (cL, 280, .inr (.inl fr))), (a4, .inl (cL, 40, .inr (.inl li))), (a5, .inl (cI, 120, .inl st))] := hD
    refine lv_aload_n hx hb dX3_grind_30 rfl (lv_at hl 0 rfl) ?_
    refine lv_dup hx hb dX3_grind_31 rfl ?_
    refine va_get (D := D) (ci := 3) (v := .int (mi 7)) (C := RX3) (T := TX3) (N := 15) hx hb hts iw_X3_grind_X3 hown hK hP 0 rfl rfl 13 (by decide) (hts _ lk_X3_grind_Cond_fieldLink_RX3_98_SpliceRoomModel_grindings_I_) (fun _ h9 => h9) rfl dX3_grind_32 ?_
    refine lv_iconst (v := 1) hx hb dX3_grind_35 (by decide) ?_
    refine lv_iadd hx hb dX3_grind_36 ?_
    refine va_put (D := D) (ci := 3) (v := .int ((mi 7) + 1)) (ty := .int) (C := RX3) (T := TX3) (N := 15) hx hb hts iw_X3_grind_X3 tyX3 tyX3_ok nmX3 hown hK hP hD hS 0 rfl rfl 13 (by decide) (hts _ lk_X3_grind_Cond_fieldLink_RX3_98_SpliceRoomModel_grindings_I_) (fun _ h9 => h9) rfl (by decide +kernel) rfl rfl (Nat.le_of_ble_eq_true rfl) dX3_grind_37 (fun H locs hP hD hS => ?_)
    have hP : va_P D vwCl [(m0, .inr (3, [.ref a0, .ref a1, .ref a2, .ref a3, .ref a4, .ref a5, .int (mi 0), .int (mi 1), .int (mi 2), .int (mi 3), .int 0, .int (mi 5), .int (mi 6), .int ((mi 7) + 1), .int 0])), (a0, .inl (cI, 6, .inl on)), (a1, .inl (cI, 7, .inl kd)), (a2, .inl (cI, 7, .inl sz)), (a3, .inl (cL, 280, .inr (.inl fr))), (a4, .inl (cL, 40, .inr (.inl li))), (a5, .inl (cI, 120, .inl st))] H := hP
    have hD : va_D A [(m0, .inr (3, [.ref a0, .ref a1, .ref a2, .ref a3, .ref a4, .ref a5, .int (mi 0), .int (mi 1), .int (mi 2), .int (mi 3), .int 0, .int (mi 5), .int (mi 6), .int ((mi 7) + 1), .int 0])), (a0, .inl (cI, 6, .inl on)), (a1, .inl (cI, 7, .inl kd)), (a2, .inl (cI, 7, .inl sz)), (a3, .inl (cL, 280, .inr (.inl fr))), (a4, .inl (cL, 40, .inr (.inl li))), (a5, .inl (cI, 120, .inl st))] := hD
    refine lv_aload_n hx hb dX3_grind_40 rfl (lv_at hl 0 rfl) ?_
    refine va_get (D := D) (ci := 3) (v := .int ((mi 7) + 1)) (C := RX3) (T := TX3) (N := 15) hx hb hts iw_X3_grind_X3 hown hK hP 0 rfl rfl 13 (by decide) (hts _ lk_X3_grind_Cond_fieldLink_RX3_98_SpliceRoomModel_grindings_I_) (fun _ h9 => h9) rfl dX3_grind_41 ?_
    exact W.iret (v := (mi 7) + 1) hx hb hr (fun t ht hW => ⟨⟨_, (on, kd, sz, fr, li, st, mi9 (mi 0) (mi 1) (mi 2) (mi 3) 0 (mi 5) (mi 6) ((mi 7) + 1) 0), rfl, Or.inl ⟨c_5, rfl, rfl⟩, ⟨by rw [ht]; exact hP, hD⟩⟩, hS.F ht⟩) hS.2.2 dX3_grind_44
theorem in07 {w : Int32} (h : 0 ≤ w ∧ w ≤ 7) : w = 0 ∨ w = 1 ∨ w = 2 ∨ w = 3 ∨ w = 4 ∨ w = 5 ∨ w = 6 ∨ w = 7 := by
  obtain ⟨j, hj, rfl⟩ := nI_of (Int32.not_lt.mpr h.1)
  have h7 := (nI_leI (a := j) (b := 7) hj (by decide)).mp h.2
  rcases (show j = 0 ∨ j = 1 ∨ j = 2 ∨ j = 3 ∨ j = 4 ∨ j = 5 ∨ j = 6 ∨ j = 7 by omega) with rfl | rfl | rfl | rfl | rfl | rfl | rfl | rfl <;> decide
theorem iw_X3_count_X3 : ∀ w ∈ wsX30, w ∈ wsX3_count := by decide +kernel
theorem lk_X3_count_Cond_fieldLink_RX3_29_SpliceRoomModel_code_I_ : Cond.fieldLink RX3 29 "SpliceRoomModel" "code" "I" ∈ wsX3_count := by decide +kernel
theorem lk_X3_count_Cond_fieldLink_RX3_70_SpliceRoomModel_far_I_ : Cond.fieldLink RX3 70 "SpliceRoomModel" "far" "I" ∈ wsX3_count := by decide +kernel
theorem lk_X3_count_Cond_fieldLink_RX3_73_SpliceRoomModel_laid_I_ : Cond.fieldLink RX3 73 "SpliceRoomModel" "laid" "I" ∈ wsX3_count := by decide +kernel
theorem lk_X3_count_Cond_fieldLink_RX3_76_SpliceRoomModel_jams_I_ : Cond.fieldLink RX3 76 "SpliceRoomModel" "jams" "I" ∈ wsX3_count := by decide +kernel
theorem lk_X3_count_Cond_fieldLink_RX3_79_SpliceRoomModel_inRow_I_ : Cond.fieldLink RX3 79 "SpliceRoomModel" "inRow" "I" ∈ wsX3_count := by decide +kernel
theorem lk_X3_count_Cond_fieldLink_RX3_82_SpliceRoomModel_well_I_ : Cond.fieldLink RX3 82 "SpliceRoomModel" "well" "I" ∈ wsX3_count := by decide +kernel
theorem lk_X3_count_Cond_fieldLink_RX3_85_SpliceRoomModel_told_I_ : Cond.fieldLink RX3 85 "SpliceRoomModel" "told" "I" ∈ wsX3_count := by decide +kernel
theorem lk_X3_count_Cond_fieldLink_RX3_95_SpliceRoomModel_steps_I_ : Cond.fieldLink RX3 95 "SpliceRoomModel" "steps" "I" ∈ wsX3_count := by decide +kernel
theorem lk_X3_count_Cond_fieldLink_RX3_98_SpliceRoomModel_grindings_I_ : Cond.fieldLink RX3 98 "SpliceRoomModel" "grindings" "I" ∈ wsX3_count := by decide +kernel
set_option maxHeartbeats 4000000 in
set_option maxRecDepth 100000 in
theorem c_X3_count (l : Launch) {D : va_G} {cI cL cQ : ClassId} {N0 : Nat} {sa : Nat → Nat} {Hc : Heap} {m0 a0 a1 a2 a3 a4 a5 : Nat} {on kd sz : Nat → Int32} {fr li : Nat → Int64} {st : Nat → Int32} {mi : Nat → Int32} {w0 : Int32} (hP : va_P D vwCl [(m0, .inr (3, [.ref a0, .ref a1, .ref a2, .ref a3, .ref a4, .ref a5, .int (mi 0), .int (mi 1), .int (mi 2), .int (mi 3), .int (mi 4), .int (mi 5), .int (mi 6), .int (mi 7), .int (mi 8)])), (a0, .inl (cI, 6, .inl on)), (a1, .inl (cI, 7, .inl kd)), (a2, .inl (cI, 7, .inl sz)), (a3, .inl (cL, 280, .inr (.inl fr))), (a4, .inl (cL, 40, .inr (.inl li))), (a5, .inl (cI, 120, .inl st))] Hc) (hD0 : va_D nT [(m0, .inr (3, [.ref a0, .ref a1, .ref a2, .ref a3, .ref a4, .ref a5, .int (mi 0), .int (mi 1), .int (mi 2), .int (mi 3), .int (mi 4), .int (mi 5), .int (mi 6), .int (mi 7), .int (mi 8)])), (a0, .inl (cI, 6, .inl on)), (a1, .inl (cI, 7, .inl kd)), (a2, .inl (cI, 7, .inl sz)), (a3, .inl (cL, 280, .inr (.inl fr))), (a4, .inl (cL, 40, .inr (.inl li))), (a5, .inl (cI, 120, .inl st))]) (hN : ∀ q, va_A [(m0, .inr (3, [.ref a0, .ref a1, .ref a2, .ref a3, .ref a4, .ref a5, .int (mi 0), .int (mi 1), .int (mi 2), .int (mi 3), .int (mi 4), .int (mi 5), .int (mi 6), .int (mi 7), .int (mi 8)])), (a0, .inl (cI, 6, .inl on)), (a1, .inl (cI, 7, .inl kd)), (a2, .inl (cI, 7, .inl sz)), (a3, .inl (cL, 280, .inr (.inl fr))), (a4, .inl (cL, 40, .inr (.inl li))), (a5, .inl (cI, 120, .inl st))] Hc.size q → N0 ≤ q) : Met l yX3_count wsX3_count ({ frames := 1, cells := 0, slots := 0, locals := 40 }) (Pq D cI cL cQ N0 sa [.ref m0, .int w0] Hc) (va_Qi (fun (r : Int32) (u : MS) => (((w0 = 0 ∧ r = mi 1) ∨ (w0 = 1 ∧ r = mi 2) ∨ (w0 = 2 ∧ r = mi 3) ∨ (w0 = 3 ∧ r = mi 4) ∨ (w0 = 4 ∧ r = mi 0) ∨ (w0 = 5 ∧ r = mi 5) ∨ (w0 = 6 ∧ r = mi 6) ∨ (w0 = 7 ∧ r = mi 7)) ∧ u = (on, kd, sz, fr, li, st, miC mi 0)) ∨ ((¬ w0 = 0 ∧ ¬ w0 = 1 ∧ ¬ w0 = 2 ∧ ¬ w0 = 3 ∧ ¬ w0 = 4 ∧ ¬ w0 = 5 ∧ ¬ w0 = 6 ∧ ¬ w0 = 7) ∧ u = (on, kd, sz, fr, li, st, miC mi 1))) (fun (u : MS) (t : State) => va_P D vwCl [(m0, .inr (3, [.ref a0, .ref a1, .ref a2, .ref a3, .ref a4, .ref a5, .int (u.2.2.2.2.2.2 0), .int (u.2.2.2.2.2.2 1), .int (u.2.2.2.2.2.2 2), .int (u.2.2.2.2.2.2 3), .int (u.2.2.2.2.2.2 4), .int (u.2.2.2.2.2.2 5), .int (u.2.2.2.2.2.2 6), .int (u.2.2.2.2.2.2 7), .int (u.2.2.2.2.2.2 8)])), (a0, .inl (cI, 6, .inl u.1)), (a1, .inl (cI, 7, .inl u.2.1)), (a2, .inl (cI, 7, .inl u.2.2.1)), (a3, .inl (cL, 280, .inr (.inl u.2.2.2.1))), (a4, .inl (cL, 40, .inr (.inl u.2.2.2.2.1))), (a5, .inl (cI, 120, .inl u.2.2.2.2.2.1))] t.heap ∧ va_D (va_A [(m0, .inr (3, [.ref a0, .ref a1, .ref a2, .ref a3, .ref a4, .ref a5, .int (mi 0), .int (mi 1), .int (mi 2), .int (mi 3), .int (mi 4), .int (mi 5), .int (mi 6), .int (mi 7), .int (mi 8)])), (a0, .inl (cI, 6, .inl on)), (a1, .inl (cI, 7, .inl kd)), (a2, .inl (cI, 7, .inl sz)), (a3, .inl (cL, 280, .inr (.inl fr))), (a4, .inl (cL, 40, .inr (.inl li))), (a5, .inl (cI, 120, .inl st))] Hc.size) [(m0, .inr (3, [.ref a0, .ref a1, .ref a2, .ref a3, .ref a4, .ref a5, .int (u.2.2.2.2.2.2 0), .int (u.2.2.2.2.2.2 1), .int (u.2.2.2.2.2.2 2), .int (u.2.2.2.2.2.2 3), .int (u.2.2.2.2.2.2 4), .int (u.2.2.2.2.2.2 5), .int (u.2.2.2.2.2.2 6), .int (u.2.2.2.2.2.2 7), .int (u.2.2.2.2.2.2 8)])), (a0, .inl (cI, 6, .inl u.1)), (a1, .inl (cI, 7, .inl u.2.1)), (a2, .inl (cI, 7, .inl u.2.2.1)), (a3, .inl (cL, 280, .inr (.inl u.2.2.2.1))), (a4, .inl (cL, 40, .inr (.inl u.2.2.2.2.1))), (a5, .inl (cI, 120, .inl u.2.2.2.2.2.1))]) (va_A [(m0, .inr (3, [.ref a0, .ref a1, .ref a2, .ref a3, .ref a4, .ref a5, .int (mi 0), .int (mi 1), .int (mi 2), .int (mi 3), .int (mi 4), .int (mi 5), .int (mi 6), .int (mi 7), .int (mi 8)])), (a0, .inl (cI, 6, .inl on)), (a1, .inl (cI, 7, .inl kd)), (a2, .inl (cI, 7, .inl sz)), (a3, .inl (cL, 280, .inr (.inl fr))), (a4, .inl (cL, 40, .inr (.inl li))), (a5, .inl (cI, 120, .inl st))] Hc.size)) 0 0 (va_A [(m0, .inr (3, [.ref a0, .ref a1, .ref a2, .ref a3, .ref a4, .ref a5, .int (mi 0), .int (mi 1), .int (mi 2), .int (mi 3), .int (mi 4), .int (mi 5), .int (mi 6), .int (mi 7), .int (mi 8)])), (a0, .inl (cI, 6, .inl on)), (a1, .inl (cI, 7, .inl kd)), (a2, .inl (cI, 7, .inl sz)), (a3, .inl (cL, 280, .inr (.inl fr))), (a4, .inl (cL, 40, .inr (.inl li))), (a5, .inl (cI, 120, .inl st))] Hc.size) := by
  refine Met.ofW (cc := cX3_count) (maxL := 2) (ret := (some .int)) (by decide) rfl ?_
  intro p e s m args below meth c s₁ B hml hv
  obtain ⟨rfl, hH, hC⟩ := hv
  have hx := B.exec
  have hb := B.bytes
  have hr := B.returns
  have hts := atoms_spec (ws := wsX3_count) B.pre
  have hown : s.vm.findClass RX3 = some m.cls := findClass_of_methodNamed B.named
  have hlocks := B.notSynchronized
  subst hH
  have hK := hC.K
  have hl := lv_entry ([.ref m0, .int w0]) (n := 2) (Nat.le_of_ble_eq_true rfl)
  rw [lg_entry_eq]
  generalize (lg_sl ([.ref m0, .int w0]) ++ List.replicate (2 - (lg_sl ([.ref m0, .int w0])).length) Slot.unset).toArray = ls at hl ⊢
  have hl : lv_has ls 2 [(0, .ref m0), (1, .int w0)] := hl
  have hP : va_P D vwCl [(m0, .inr (3, [.ref a0, .ref a1, .ref a2, .ref a3, .ref a4, .ref a5, .int (mi 0), .int (mi 1), .int (mi 2), .int (mi 3), .int (mi 4), .int (mi 5), .int (mi 6), .int (mi 7), .int (mi 8)])), (a0, .inl (cI, 6, .inl on)), (a1, .inl (cI, 7, .inl kd)), (a2, .inl (cI, 7, .inl sz)), (a3, .inl (cL, 280, .inr (.inl fr))), (a4, .inl (cL, 40, .inr (.inl li))), (a5, .inl (cI, 120, .inl st))] s.heap := hP
  have hD := hD0.self (sz := s.heap.size)
  generalize hAe : va_A [(m0, .inr (3, [.ref a0, .ref a1, .ref a2, .ref a3, .ref a4, .ref a5, .int (mi 0), .int (mi 1), .int (mi 2), .int (mi 3), .int (mi 4), .int (mi 5), .int (mi 6), .int (mi 7), .int (mi 8)])), (a0, .inl (cI, 6, .inl on)), (a1, .inl (cI, 7, .inl kd)), (a2, .inl (cI, 7, .inl sz)), (a3, .inl (cL, 280, .inr (.inl fr))), (a4, .inl (cL, 40, .inr (.inl li))), (a5, .inl (cI, 120, .inl st))] s.heap.size = A at hD hN ⊢
  have hA : ∀ q : Nat, s.heap.size ≤ q → A q := fun q h => by rw [← hAe]; exact Or.inr h
  have hS : va_S A s.heap s.heap [] := va_S.rf
  refine lv_aload_n hx hb dX3_count_0 rfl (lv_at hl 0 rfl) ?_
  refine lv_iload_n hx hb dX3_count_1 rfl (lv_at hl 1 rfl) ?_
  refine lv_iconst (v := 0) hx hb dX3_count_2 (by decide) ?_
  refine lv_bipush (v := 7) hx hb dX3_count_3 (by decide) ?_
  refine ro_i (va_runS (As := [.int w0, .int 0, .int 7]) (rest := [.ref m0]) ⟨hx, hb, hml, hown, hts⟩ (c_X3_in l (v0 := w0) (l0 := 0) (u0 := 7)) (va_cwS 3 hts gX3_count_X3_in rfl rfl rfl (by decide +kernel) ⟨Nat.le_of_ble_eq_true rfl, Nat.le_of_ble_eq_true rfl⟩) (Pq.S hC hS hN) rfl rfl hl.1 rfl (lv_room (Nat.le_of_ble_eq_true rfl)) dX3_count_5 ⟨Nat.le_of_ble_eq_true rfl, Nat.le_of_ble_eq_true rfl⟩) hS (fun r_1 locs hw hS => ?_)
  have hw : r_1 = tB (0 ≤ w0 ∧ w0 ≤ 7) := hw
  subst hw
  refine lv_if_eq (tgt := 15) hx hb dX3_count_8 (by decide) (fun c_8 => ?_) (fun c_8 => ?_)
  · have c_8 := tB_0.mp c_8
    refine lv_iconst (v := 1) hx hb dX3_count_15 (by decide) ?_
    refine va_put (D := D) (ci := 3) (v := .int 1) (ty := .int) (C := RX3) (T := TX3) (N := 15) hx hb hts iw_X3_count_X3 tyX3 tyX3_ok nmX3 hown hK hP hD hS 0 rfl rfl 14 (by decide) (hts _ lk_X3_count_Cond_fieldLink_RX3_29_SpliceRoomModel_code_I_) (fun _ h9 => h9) rfl (by decide +kernel) rfl rfl (Nat.le_of_ble_eq_true rfl) dX3_count_16 (fun H locs hP hD hS => ?_)
    have hP : va_P D vwCl [(m0, .inr (3, [.ref a0, .ref a1, .ref a2, .ref a3, .ref a4, .ref a5, .int (mi 0), .int (mi 1), .int (mi 2), .int (mi 3), .int (mi 4), .int (mi 5), .int (mi 6), .int (mi 7), .int 1])), (a0, .inl (cI, 6, .inl on)), (a1, .inl (cI, 7, .inl kd)), (a2, .inl (cI, 7, .inl sz)), (a3, .inl (cL, 280, .inr (.inl fr))), (a4, .inl (cL, 40, .inr (.inl li))), (a5, .inl (cI, 120, .inl st))] H := hP
    have hD : va_D A [(m0, .inr (3, [.ref a0, .ref a1, .ref a2, .ref a3, .ref a4, .ref a5, .int (mi 0), .int (mi 1), .int (mi 2), .int (mi 3), .int (mi 4), .int (mi 5), .int (mi 6), .int (mi 7), .int 1])), (a0, .inl (cI, 6, .inl on)), (a1, .inl (cI, 7, .inl kd)), (a2, .inl (cI, 7, .inl sz)), (a3, .inl (cL, 280, .inr (.inl fr))), (a4, .inl (cL, 40, .inr (.inl li))), (a5, .inl (cI, 120, .inl st))] := hD
    refine lv_iload_n hx hb dX3_count_19 rfl (lv_at hl 1 rfl) ?_
    by_cases c_w0 : w0 = 0
    · subst c_w0
      refine lv_tableIn (x := 0) (off := 48) (tgt := 68) hx hb dX3_count_20 (by decide) (by decide) (by decide) (by decide) ?_
      refine lv_aload_n hx hb dX3_count_68 rfl (lv_at hl 0 rfl) ?_
      refine va_get (D := D) (ci := 3) (v := .int (mi 1)) (C := RX3) (T := TX3) (N := 15) hx hb hts iw_X3_count_X3 hown hK hP 0 rfl rfl 7 (by decide) (hts _ lk_X3_count_Cond_fieldLink_RX3_82_SpliceRoomModel_well_I_) (fun _ h9 => h9) rfl dX3_count_69 ?_
      exact W.iret (v := mi 1) hx hb hr (fun t ht hW => ⟨⟨_, (on, kd, sz, fr, li, st, mi9 (mi 0) (mi 1) (mi 2) (mi 3) (mi 4) (mi 5) (mi 6) (mi 7) 1), rfl, (absurd (show (0 : Int32) ≤ 0 ∧ (0 : Int32) ≤ 7 by decide) c_8), ⟨by rw [ht]; exact hP, hD⟩⟩, hS.F ht⟩) hS.2.2 dX3_count_72
    by_cases c_w1 : w0 = 1
    · subst c_w1
      refine lv_tableIn (x := 1) (off := 53) (tgt := 73) hx hb dX3_count_20 (by decide) (by decide) (by decide) (by decide) ?_
      refine lv_aload_n hx hb dX3_count_73 rfl (lv_at hl 0 rfl) ?_
      refine va_get (D := D) (ci := 3) (v := .int (mi 2)) (C := RX3) (T := TX3) (N := 15) hx hb hts iw_X3_count_X3 hown hK hP 0 rfl rfl 8 (by decide) (hts _ lk_X3_count_Cond_fieldLink_RX3_73_SpliceRoomModel_laid_I_) (fun _ h9 => h9) rfl dX3_count_74 ?_
      exact W.iret (v := mi 2) hx hb hr (fun t ht hW => ⟨⟨_, (on, kd, sz, fr, li, st, mi9 (mi 0) (mi 1) (mi 2) (mi 3) (mi 4) (mi 5) (mi 6) (mi 7) 1), rfl, (absurd (show (0 : Int32) ≤ 1 ∧ (1 : Int32) ≤ 7 by decide) c_8), ⟨by rw [ht]; exact hP, hD⟩⟩, hS.F ht⟩) hS.2.2 dX3_count_77
    by_cases c_w2 : w0 = 2
    · subst c_w2
      refine lv_tableIn (x := 2) (off := 58) (tgt := 78) hx hb dX3_count_20 (by decide) (by decide) (by decide) (by decide) ?_
      refine lv_aload_n hx hb dX3_count_78 rfl (lv_at hl 0 rfl) ?_
      refine va_get (D := D) (ci := 3) (v := .int (mi 3)) (C := RX3) (T := TX3) (N := 15) hx hb hts iw_X3_count_X3 hown hK hP 0 rfl rfl 9 (by decide) (hts _ lk_X3_count_Cond_fieldLink_RX3_76_SpliceRoomModel_jams_I_) (fun _ h9 => h9) rfl dX3_count_79 ?_
      exact W.iret (v := mi 3) hx hb hr (fun t ht hW => ⟨⟨_, (on, kd, sz, fr, li, st, mi9 (mi 0) (mi 1) (mi 2) (mi 3) (mi 4) (mi 5) (mi 6) (mi 7) 1), rfl, (absurd (show (0 : Int32) ≤ 2 ∧ (2 : Int32) ≤ 7 by decide) c_8), ⟨by rw [ht]; exact hP, hD⟩⟩, hS.F ht⟩) hS.2.2 dX3_count_82
    by_cases c_w3 : w0 = 3
    · subst c_w3
      refine lv_tableIn (x := 3) (off := 63) (tgt := 83) hx hb dX3_count_20 (by decide) (by decide) (by decide) (by decide) ?_
      refine lv_aload_n hx hb dX3_count_83 rfl (lv_at hl 0 rfl) ?_
      refine va_get (D := D) (ci := 3) (v := .int (mi 4)) (C := RX3) (T := TX3) (N := 15) hx hb hts iw_X3_count_X3 hown hK hP 0 rfl rfl 10 (by decide) (hts _ lk_X3_count_Cond_fieldLink_RX3_79_SpliceRoomModel_inRow_I_) (fun _ h9 => h9) rfl dX3_count_84 ?_
      exact W.iret (v := mi 4) hx hb hr (fun t ht hW => ⟨⟨_, (on, kd, sz, fr, li, st, mi9 (mi 0) (mi 1) (mi 2) (mi 3) (mi 4) (mi 5) (mi 6) (mi 7) 1), rfl, (absurd (show (0 : Int32) ≤ 3 ∧ (3 : Int32) ≤ 7 by decide) c_8), ⟨by rw [ht]; exact hP, hD⟩⟩, hS.F ht⟩) hS.2.2 dX3_count_87
    by_cases c_w4 : w0 = 4
    · subst c_w4
      refine lv_tableIn (x := 4) (off := 68) (tgt := 88) hx hb dX3_count_20 (by decide) (by decide) (by decide) (by decide) ?_
      refine lv_aload_n hx hb dX3_count_88 rfl (lv_at hl 0 rfl) ?_
      refine va_get (D := D) (ci := 3) (v := .int (mi 0)) (C := RX3) (T := TX3) (N := 15) hx hb hts iw_X3_count_X3 hown hK hP 0 rfl rfl 6 (by decide) (hts _ lk_X3_count_Cond_fieldLink_RX3_95_SpliceRoomModel_steps_I_) (fun _ h9 => h9) rfl dX3_count_89 ?_
      exact W.iret (v := mi 0) hx hb hr (fun t ht hW => ⟨⟨_, (on, kd, sz, fr, li, st, mi9 (mi 0) (mi 1) (mi 2) (mi 3) (mi 4) (mi 5) (mi 6) (mi 7) 1), rfl, (absurd (show (0 : Int32) ≤ 4 ∧ (4 : Int32) ≤ 7 by decide) c_8), ⟨by rw [ht]; exact hP, hD⟩⟩, hS.F ht⟩) hS.2.2 dX3_count_92
    by_cases c_w5 : w0 = 5
    · subst c_w5
      refine lv_tableIn (x := 5) (off := 73) (tgt := 93) hx hb dX3_count_20 (by decide) (by decide) (by decide) (by decide) ?_
      refine lv_aload_n hx hb dX3_count_93 rfl (lv_at hl 0 rfl) ?_
      refine va_get (D := D) (ci := 3) (v := .int (mi 5)) (C := RX3) (T := TX3) (N := 15) hx hb hts iw_X3_count_X3 hown hK hP 0 rfl rfl 11 (by decide) (hts _ lk_X3_count_Cond_fieldLink_RX3_70_SpliceRoomModel_far_I_) (fun _ h9 => h9) rfl dX3_count_94 ?_
      exact W.iret (v := mi 5) hx hb hr (fun t ht hW => ⟨⟨_, (on, kd, sz, fr, li, st, mi9 (mi 0) (mi 1) (mi 2) (mi 3) (mi 4) (mi 5) (mi 6) (mi 7) 1), rfl, (absurd (show (0 : Int32) ≤ 5 ∧ (5 : Int32) ≤ 7 by decide) c_8), ⟨by rw [ht]; exact hP, hD⟩⟩, hS.F ht⟩) hS.2.2 dX3_count_97
    by_cases c_w6 : w0 = 6
    · subst c_w6
      refine lv_tableIn (x := 6) (off := 78) (tgt := 98) hx hb dX3_count_20 (by decide) (by decide) (by decide) (by decide) ?_
      refine lv_aload_n hx hb dX3_count_98 rfl (lv_at hl 0 rfl) ?_
      refine va_get (D := D) (ci := 3) (v := .int (mi 6)) (C := RX3) (T := TX3) (N := 15) hx hb hts iw_X3_count_X3 hown hK hP 0 rfl rfl 12 (by decide) (hts _ lk_X3_count_Cond_fieldLink_RX3_85_SpliceRoomModel_told_I_) (fun _ h9 => h9) rfl dX3_count_99 ?_
      exact W.iret (v := mi 6) hx hb hr (fun t ht hW => ⟨⟨_, (on, kd, sz, fr, li, st, mi9 (mi 0) (mi 1) (mi 2) (mi 3) (mi 4) (mi 5) (mi 6) (mi 7) 1), rfl, (absurd (show (0 : Int32) ≤ 6 ∧ (6 : Int32) ≤ 7 by decide) c_8), ⟨by rw [ht]; exact hP, hD⟩⟩, hS.F ht⟩) hS.2.2 dX3_count_102
    by_cases c_w7 : w0 = 7
    · subst c_w7
      refine lv_tableIn (x := 7) (off := 83) (tgt := 103) hx hb dX3_count_20 (by decide) (by decide) (by decide) (by decide) ?_
      refine lv_aload_n hx hb dX3_count_103 rfl (lv_at hl 0 rfl) ?_
      refine va_get (D := D) (ci := 3) (v := .int (mi 7)) (C := RX3) (T := TX3) (N := 15) hx hb hts iw_X3_count_X3 hown hK hP 0 rfl rfl 13 (by decide) (hts _ lk_X3_count_Cond_fieldLink_RX3_98_SpliceRoomModel_grindings_I_) (fun _ h9 => h9) rfl dX3_count_104 ?_
      exact W.iret (v := mi 7) hx hb hr (fun t ht hW => ⟨⟨_, (on, kd, sz, fr, li, st, mi9 (mi 0) (mi 1) (mi 2) (mi 3) (mi 4) (mi 5) (mi 6) (mi 7) 1), rfl, (absurd (show (0 : Int32) ≤ 7 ∧ (7 : Int32) ≤ 7 by decide) c_8), ⟨by rw [ht]; exact hP, hD⟩⟩, hS.F ht⟩) hS.2.2 dX3_count_107
    refine lv_tableOut (tgt := 108) hx hb dX3_count_20 (by have := lv_neT c_w0 (a := 0) (by decide) ; have := lv_neT c_w1 (a := 1) (by decide) ; have := lv_neT c_w2 (a := 2) (by decide) ; have := lv_neT c_w3 (a := 3) (by decide) ; have := lv_neT c_w4 (a := 4) (by decide) ; have := lv_neT c_w5 (a := 5) (by decide) ; have := lv_neT c_w6 (a := 6) (by decide) ; have := lv_neT c_w7 (a := 7) (by decide); omega) (by decide) ?_
    refine lv_iconst (v := 0) hx hb dX3_count_108 (by decide) ?_
    exact W.iret (v := 0) hx hb hr (fun t ht hW => ⟨⟨_, (on, kd, sz, fr, li, st, mi9 (mi 0) (mi 1) (mi 2) (mi 3) (mi 4) (mi 5) (mi 6) (mi 7) 1), rfl, Or.inr ⟨⟨c_w0, c_w1, c_w2, c_w3, c_w4, c_w5, c_w6, c_w7⟩, rfl⟩, ⟨by rw [ht]; exact hP, hD⟩⟩, hS.F ht⟩) hS.2.2 dX3_count_109
  · have c_8 := tB_n.mp c_8
    refine lv_iconst (v := 0) hx hb dX3_count_11 (by decide) ?_
    refine lv_goto (tgt := 16) hx hb dX3_count_12 (by decide) ?_
    refine va_put (D := D) (ci := 3) (v := .int 0) (ty := .int) (C := RX3) (T := TX3) (N := 15) hx hb hts iw_X3_count_X3 tyX3 tyX3_ok nmX3 hown hK hP hD hS 0 rfl rfl 14 (by decide) (hts _ lk_X3_count_Cond_fieldLink_RX3_29_SpliceRoomModel_code_I_) (fun _ h9 => h9) rfl (by decide +kernel) rfl rfl (Nat.le_of_ble_eq_true rfl) dX3_count_16 (fun H locs hP hD hS => ?_)
    have hP : va_P D vwCl [(m0, .inr (3, [.ref a0, .ref a1, .ref a2, .ref a3, .ref a4, .ref a5, .int (mi 0), .int (mi 1), .int (mi 2), .int (mi 3), .int (mi 4), .int (mi 5), .int (mi 6), .int (mi 7), .int 0])), (a0, .inl (cI, 6, .inl on)), (a1, .inl (cI, 7, .inl kd)), (a2, .inl (cI, 7, .inl sz)), (a3, .inl (cL, 280, .inr (.inl fr))), (a4, .inl (cL, 40, .inr (.inl li))), (a5, .inl (cI, 120, .inl st))] H := hP
    have hD : va_D A [(m0, .inr (3, [.ref a0, .ref a1, .ref a2, .ref a3, .ref a4, .ref a5, .int (mi 0), .int (mi 1), .int (mi 2), .int (mi 3), .int (mi 4), .int (mi 5), .int (mi 6), .int (mi 7), .int 0])), (a0, .inl (cI, 6, .inl on)), (a1, .inl (cI, 7, .inl kd)), (a2, .inl (cI, 7, .inl sz)), (a3, .inl (cL, 280, .inr (.inl fr))), (a4, .inl (cL, 40, .inr (.inl li))), (a5, .inl (cI, 120, .inl st))] := hD
    refine lv_iload_n hx hb dX3_count_19 rfl (lv_at hl 1 rfl) ?_
    by_cases c_w0 : w0 = 0
    · subst c_w0
      refine lv_tableIn (x := 0) (off := 48) (tgt := 68) hx hb dX3_count_20 (by decide) (by decide) (by decide) (by decide) ?_
      refine lv_aload_n hx hb dX3_count_68 rfl (lv_at hl 0 rfl) ?_
      refine va_get (D := D) (ci := 3) (v := .int (mi 1)) (C := RX3) (T := TX3) (N := 15) hx hb hts iw_X3_count_X3 hown hK hP 0 rfl rfl 7 (by decide) (hts _ lk_X3_count_Cond_fieldLink_RX3_82_SpliceRoomModel_well_I_) (fun _ h9 => h9) rfl dX3_count_69 ?_
      exact W.iret (v := mi 1) hx hb hr (fun t ht hW => ⟨⟨_, (on, kd, sz, fr, li, st, mi9 (mi 0) (mi 1) (mi 2) (mi 3) (mi 4) (mi 5) (mi 6) (mi 7) 0), rfl, Or.inl ⟨Or.inl ⟨rfl, rfl⟩, rfl⟩, ⟨by rw [ht]; exact hP, hD⟩⟩, hS.F ht⟩) hS.2.2 dX3_count_72
    by_cases c_w1 : w0 = 1
    · subst c_w1
      refine lv_tableIn (x := 1) (off := 53) (tgt := 73) hx hb dX3_count_20 (by decide) (by decide) (by decide) (by decide) ?_
      refine lv_aload_n hx hb dX3_count_73 rfl (lv_at hl 0 rfl) ?_
      refine va_get (D := D) (ci := 3) (v := .int (mi 2)) (C := RX3) (T := TX3) (N := 15) hx hb hts iw_X3_count_X3 hown hK hP 0 rfl rfl 8 (by decide) (hts _ lk_X3_count_Cond_fieldLink_RX3_73_SpliceRoomModel_laid_I_) (fun _ h9 => h9) rfl dX3_count_74 ?_
      exact W.iret (v := mi 2) hx hb hr (fun t ht hW => ⟨⟨_, (on, kd, sz, fr, li, st, mi9 (mi 0) (mi 1) (mi 2) (mi 3) (mi 4) (mi 5) (mi 6) (mi 7) 0), rfl, Or.inl ⟨Or.inr (Or.inl ⟨rfl, rfl⟩), rfl⟩, ⟨by rw [ht]; exact hP, hD⟩⟩, hS.F ht⟩) hS.2.2 dX3_count_77
    by_cases c_w2 : w0 = 2
    · subst c_w2
      refine lv_tableIn (x := 2) (off := 58) (tgt := 78) hx hb dX3_count_20 (by decide) (by decide) (by decide) (by decide) ?_
      refine lv_aload_n hx hb dX3_count_78 rfl (lv_at hl 0 rfl) ?_
      refine va_get (D := D) (ci := 3) (v := .int (mi 3)) (C := RX3) (T := TX3) (N := 15) hx hb hts iw_X3_count_X3 hown hK hP 0 rfl rfl 9 (by decide) (hts _ lk_X3_count_Cond_fieldLink_RX3_76_SpliceRoomModel_jams_I_) (fun _ h9 => h9) rfl dX3_count_79 ?_
      exact W.iret (v := mi 3) hx hb hr (fun t ht hW => ⟨⟨_, (on, kd, sz, fr, li, st, mi9 (mi 0) (mi 1) (mi 2) (mi 3) (mi 4) (mi 5) (mi 6) (mi 7) 0), rfl, Or.inl ⟨Or.inr (Or.inr (Or.inl ⟨rfl, rfl⟩)), rfl⟩, ⟨by rw [ht]; exact hP, hD⟩⟩, hS.F ht⟩) hS.2.2 dX3_count_82
    by_cases c_w3 : w0 = 3
    · subst c_w3
      refine lv_tableIn (x := 3) (off := 63) (tgt := 83) hx hb dX3_count_20 (by decide) (by decide) (by decide) (by decide) ?_
      refine lv_aload_n hx hb dX3_count_83 rfl (lv_at hl 0 rfl) ?_
      refine va_get (D := D) (ci := 3) (v := .int (mi 4)) (C := RX3) (T := TX3) (N := 15) hx hb hts iw_X3_count_X3 hown hK hP 0 rfl rfl 10 (by decide) (hts _ lk_X3_count_Cond_fieldLink_RX3_79_SpliceRoomModel_inRow_I_) (fun _ h9 => h9) rfl dX3_count_84 ?_
      exact W.iret (v := mi 4) hx hb hr (fun t ht hW => ⟨⟨_, (on, kd, sz, fr, li, st, mi9 (mi 0) (mi 1) (mi 2) (mi 3) (mi 4) (mi 5) (mi 6) (mi 7) 0), rfl, Or.inl ⟨Or.inr (Or.inr (Or.inr (Or.inl ⟨rfl, rfl⟩))), rfl⟩, ⟨by rw [ht]; exact hP, hD⟩⟩, hS.F ht⟩) hS.2.2 dX3_count_87
    by_cases c_w4 : w0 = 4
    · subst c_w4
      refine lv_tableIn (x := 4) (off := 68) (tgt := 88) hx hb dX3_count_20 (by decide) (by decide) (by decide) (by decide) ?_
      refine lv_aload_n hx hb dX3_count_88 rfl (lv_at hl 0 rfl) ?_
      refine va_get (D := D) (ci := 3) (v := .int (mi 0)) (C := RX3) (T := TX3) (N := 15) hx hb hts iw_X3_count_X3 hown hK hP 0 rfl rfl 6 (by decide) (hts _ lk_X3_count_Cond_fieldLink_RX3_95_SpliceRoomModel_steps_I_) (fun _ h9 => h9) rfl dX3_count_89 ?_
      exact W.iret (v := mi 0) hx hb hr (fun t ht hW => ⟨⟨_, (on, kd, sz, fr, li, st, mi9 (mi 0) (mi 1) (mi 2) (mi 3) (mi 4) (mi 5) (mi 6) (mi 7) 0), rfl, Or.inl ⟨Or.inr (Or.inr (Or.inr (Or.inr (Or.inl ⟨rfl, rfl⟩)))), rfl⟩, ⟨by rw [ht]; exact hP, hD⟩⟩, hS.F ht⟩) hS.2.2 dX3_count_92
    by_cases c_w5 : w0 = 5
    · subst c_w5
      refine lv_tableIn (x := 5) (off := 73) (tgt := 93) hx hb dX3_count_20 (by decide) (by decide) (by decide) (by decide) ?_
      refine lv_aload_n hx hb dX3_count_93 rfl (lv_at hl 0 rfl) ?_
      refine va_get (D := D) (ci := 3) (v := .int (mi 5)) (C := RX3) (T := TX3) (N := 15) hx hb hts iw_X3_count_X3 hown hK hP 0 rfl rfl 11 (by decide) (hts _ lk_X3_count_Cond_fieldLink_RX3_70_SpliceRoomModel_far_I_) (fun _ h9 => h9) rfl dX3_count_94 ?_
      exact W.iret (v := mi 5) hx hb hr (fun t ht hW => ⟨⟨_, (on, kd, sz, fr, li, st, mi9 (mi 0) (mi 1) (mi 2) (mi 3) (mi 4) (mi 5) (mi 6) (mi 7) 0), rfl, Or.inl ⟨Or.inr (Or.inr (Or.inr (Or.inr (Or.inr (Or.inl ⟨rfl, rfl⟩))))), rfl⟩, ⟨by rw [ht]; exact hP, hD⟩⟩, hS.F ht⟩) hS.2.2 dX3_count_97
    by_cases c_w6 : w0 = 6
    · subst c_w6
      refine lv_tableIn (x := 6) (off := 78) (tgt := 98) hx hb dX3_count_20 (by decide) (by decide) (by decide) (by decide) ?_
      refine lv_aload_n hx hb dX3_count_98 rfl (lv_at hl 0 rfl) ?_
      refine va_get (D := D) (ci := 3) (v := .int (mi 6)) (C := RX3) (T := TX3) (N := 15) hx hb hts iw_X3_count_X3 hown hK hP 0 rfl rfl 12 (by decide) (hts _ lk_X3_count_Cond_fieldLink_RX3_85_SpliceRoomModel_told_I_) (fun _ h9 => h9) rfl dX3_count_99 ?_
      exact W.iret (v := mi 6) hx hb hr (fun t ht hW => ⟨⟨_, (on, kd, sz, fr, li, st, mi9 (mi 0) (mi 1) (mi 2) (mi 3) (mi 4) (mi 5) (mi 6) (mi 7) 0), rfl, Or.inl ⟨Or.inr (Or.inr (Or.inr (Or.inr (Or.inr (Or.inr (Or.inl ⟨rfl, rfl⟩)))))), rfl⟩, ⟨by rw [ht]; exact hP, hD⟩⟩, hS.F ht⟩) hS.2.2 dX3_count_102
    by_cases c_w7 : w0 = 7
    · subst c_w7
      refine lv_tableIn (x := 7) (off := 83) (tgt := 103) hx hb dX3_count_20 (by decide) (by decide) (by decide) (by decide) ?_
      refine lv_aload_n hx hb dX3_count_103 rfl (lv_at hl 0 rfl) ?_
      refine va_get (D := D) (ci := 3) (v := .int (mi 7)) (C := RX3) (T := TX3) (N := 15) hx hb hts iw_X3_count_X3 hown hK hP 0 rfl rfl 13 (by decide) (hts _ lk_X3_count_Cond_fieldLink_RX3_98_SpliceRoomModel_grindings_I_) (fun _ h9 => h9) rfl dX3_count_104 ?_
      exact W.iret (v := mi 7) hx hb hr (fun t ht hW => ⟨⟨_, (on, kd, sz, fr, li, st, mi9 (mi 0) (mi 1) (mi 2) (mi 3) (mi 4) (mi 5) (mi 6) (mi 7) 0), rfl, Or.inl ⟨Or.inr (Or.inr (Or.inr (Or.inr (Or.inr (Or.inr (Or.inr (⟨rfl, rfl⟩))))))), rfl⟩, ⟨by rw [ht]; exact hP, hD⟩⟩, hS.F ht⟩) hS.2.2 dX3_count_107
    refine lv_tableOut (tgt := 108) hx hb dX3_count_20 (by have := lv_neT c_w0 (a := 0) (by decide) ; have := lv_neT c_w1 (a := 1) (by decide) ; have := lv_neT c_w2 (a := 2) (by decide) ; have := lv_neT c_w3 (a := 3) (by decide) ; have := lv_neT c_w4 (a := 4) (by decide) ; have := lv_neT c_w5 (a := 5) (by decide) ; have := lv_neT c_w6 (a := 6) (by decide) ; have := lv_neT c_w7 (a := 7) (by decide); omega) (by decide) ?_
    refine lv_iconst (v := 0) hx hb dX3_count_108 (by decide) ?_
    exact W.iret (v := 0) hx hb hr (fun t ht hW => ⟨⟨_, (on, kd, sz, fr, li, st, mi9 (mi 0) (mi 1) (mi 2) (mi 3) (mi 4) (mi 5) (mi 6) (mi 7) 0), rfl, (absurd (in07 c_8) (fun h9 => h9.elim c_w0 (fun h9 => h9.elim c_w1 (fun h9 => h9.elim c_w2 (fun h9 => h9.elim c_w3 (fun h9 => h9.elim c_w4 (fun h9 => h9.elim c_w5 (fun h9 => h9.elim c_w6 c_w7)))))))), ⟨by rw [ht]; exact hP, hD⟩⟩, hS.F ht⟩) hS.2.2 dX3_count_109
theorem iw_X3_step_X3 : ∀ w ∈ wsX30, w ∈ wsX3_step := by decide +kernel
theorem lk_X3_step_Cond_fieldLink_RX3_26_SpliceRoomModel_sheet_I_ : Cond.fieldLink RX3 26 "SpliceRoomModel" "sheet" "[I" ∈ wsX3_step := by decide +kernel
theorem lk_X3_step_Cond_fieldLink_RX3_29_SpliceRoomModel_code_I_ : Cond.fieldLink RX3 29 "SpliceRoomModel" "code" "I" ∈ wsX3_step := by decide +kernel
theorem lk_X3_step_Cond_fieldLink_RX3_95_SpliceRoomModel_steps_I_ : Cond.fieldLink RX3 95 "SpliceRoomModel" "steps" "I" ∈ wsX3_step := by decide +kernel
set_option maxHeartbeats 4000000 in
set_option maxRecDepth 100000 in
theorem c_X3_step (l : Launch) {D : va_G} {cI cL cQ : ClassId} {N0 : Nat} {sa : Nat → Nat} {Hc : Heap} {m0 a0 a1 a2 a3 a4 a5 : Nat} {on kd sz : Nat → Int32} {fr li : Nat → Int64} {st : Nat → Int32} {mi : Nat → Int32} {h0 p0 o0 q0 n0 : Int32} (hP : va_P D vwCl [(m0, .inr (3, [.ref a0, .ref a1, .ref a2, .ref a3, .ref a4, .ref a5, .int (mi 0), .int (mi 1), .int (mi 2), .int (mi 3), .int (mi 4), .int (mi 5), .int (mi 6), .int (mi 7), .int (mi 8)])), (a0, .inl (cI, 6, .inl on)), (a1, .inl (cI, 7, .inl kd)), (a2, .inl (cI, 7, .inl sz)), (a3, .inl (cL, 280, .inr (.inl fr))), (a4, .inl (cL, 40, .inr (.inl li))), (a5, .inl (cI, 120, .inl st))] Hc) (hD0 : va_D nT [(m0, .inr (3, [.ref a0, .ref a1, .ref a2, .ref a3, .ref a4, .ref a5, .int (mi 0), .int (mi 1), .int (mi 2), .int (mi 3), .int (mi 4), .int (mi 5), .int (mi 6), .int (mi 7), .int (mi 8)])), (a0, .inl (cI, 6, .inl on)), (a1, .inl (cI, 7, .inl kd)), (a2, .inl (cI, 7, .inl sz)), (a3, .inl (cL, 280, .inr (.inl fr))), (a4, .inl (cL, 40, .inr (.inl li))), (a5, .inl (cI, 120, .inl st))]) (hN : ∀ q, va_A [(m0, .inr (3, [.ref a0, .ref a1, .ref a2, .ref a3, .ref a4, .ref a5, .int (mi 0), .int (mi 1), .int (mi 2), .int (mi 3), .int (mi 4), .int (mi 5), .int (mi 6), .int (mi 7), .int (mi 8)])), (a0, .inl (cI, 6, .inl on)), (a1, .inl (cI, 7, .inl kd)), (a2, .inl (cI, 7, .inl sz)), (a3, .inl (cL, 280, .inr (.inl fr))), (a4, .inl (cL, 40, .inr (.inl li))), (a5, .inl (cI, 120, .inl st))] Hc.size q → N0 ≤ q) (hkn : ∃ n : Nat, n ≤ 24 ∧ mi 0 = nI n) : Met l yX3_step wsX3_step ({ frames := 2, cells := 0, slots := 0, locals := 60 }) (Pq D cI cL cQ N0 sa [.ref m0, .int h0, .int p0, .int o0, .int q0, .int n0] Hc) (va_Qi (fun (r : Int32) (u : MS) => (¬ (okH h0 ∧ okH o0) ∧ r = 0 ∧ u = (on, kd, sz, fr, li, st, miC mi 1)) ∨ (∃ j1 i1 : Nat, j1 < 6 ∧ i1 < 6 ∧ h0 = nI j1 ∧ o0 = nI i1 ∧ ((mi 0 = 24 ∧ r = 0 ∧ u = (on, kd, sz, fr, li, st, miC mi 2)) ∨ (∃ n1 : Nat, n1 < 24 ∧ mi 0 = nI n1 ∧ r = mi 0 + 1 ∧ u = (on, kd, sz, fr, li, upd (upd (upd (upd (upd st (5 * n1) h0) (5 * n1 + 1) p0) (5 * n1 + 2) o0) (5 * n1 + 3) q0) (5 * n1 + 4) n0, mi9 (mi 0 + 1) (mi 1) (mi 2) (mi 3) (mi 4) (mi 5) (mi 6) (mi 7) 0))))) (fun (u : MS) (t : State) => va_P D vwCl [(m0, .inr (3, [.ref a0, .ref a1, .ref a2, .ref a3, .ref a4, .ref a5, .int (u.2.2.2.2.2.2 0), .int (u.2.2.2.2.2.2 1), .int (u.2.2.2.2.2.2 2), .int (u.2.2.2.2.2.2 3), .int (u.2.2.2.2.2.2 4), .int (u.2.2.2.2.2.2 5), .int (u.2.2.2.2.2.2 6), .int (u.2.2.2.2.2.2 7), .int (u.2.2.2.2.2.2 8)])), (a0, .inl (cI, 6, .inl u.1)), (a1, .inl (cI, 7, .inl u.2.1)), (a2, .inl (cI, 7, .inl u.2.2.1)), (a3, .inl (cL, 280, .inr (.inl u.2.2.2.1))), (a4, .inl (cL, 40, .inr (.inl u.2.2.2.2.1))), (a5, .inl (cI, 120, .inl u.2.2.2.2.2.1))] t.heap ∧ va_D (va_A [(m0, .inr (3, [.ref a0, .ref a1, .ref a2, .ref a3, .ref a4, .ref a5, .int (mi 0), .int (mi 1), .int (mi 2), .int (mi 3), .int (mi 4), .int (mi 5), .int (mi 6), .int (mi 7), .int (mi 8)])), (a0, .inl (cI, 6, .inl on)), (a1, .inl (cI, 7, .inl kd)), (a2, .inl (cI, 7, .inl sz)), (a3, .inl (cL, 280, .inr (.inl fr))), (a4, .inl (cL, 40, .inr (.inl li))), (a5, .inl (cI, 120, .inl st))] Hc.size) [(m0, .inr (3, [.ref a0, .ref a1, .ref a2, .ref a3, .ref a4, .ref a5, .int (u.2.2.2.2.2.2 0), .int (u.2.2.2.2.2.2 1), .int (u.2.2.2.2.2.2 2), .int (u.2.2.2.2.2.2 3), .int (u.2.2.2.2.2.2 4), .int (u.2.2.2.2.2.2 5), .int (u.2.2.2.2.2.2 6), .int (u.2.2.2.2.2.2 7), .int (u.2.2.2.2.2.2 8)])), (a0, .inl (cI, 6, .inl u.1)), (a1, .inl (cI, 7, .inl u.2.1)), (a2, .inl (cI, 7, .inl u.2.2.1)), (a3, .inl (cL, 280, .inr (.inl u.2.2.2.1))), (a4, .inl (cL, 40, .inr (.inl u.2.2.2.2.1))), (a5, .inl (cI, 120, .inl u.2.2.2.2.2.1))]) (va_A [(m0, .inr (3, [.ref a0, .ref a1, .ref a2, .ref a3, .ref a4, .ref a5, .int (mi 0), .int (mi 1), .int (mi 2), .int (mi 3), .int (mi 4), .int (mi 5), .int (mi 6), .int (mi 7), .int (mi 8)])), (a0, .inl (cI, 6, .inl on)), (a1, .inl (cI, 7, .inl kd)), (a2, .inl (cI, 7, .inl sz)), (a3, .inl (cL, 280, .inr (.inl fr))), (a4, .inl (cL, 40, .inr (.inl li))), (a5, .inl (cI, 120, .inl st))] Hc.size)) 0 0 (va_A [(m0, .inr (3, [.ref a0, .ref a1, .ref a2, .ref a3, .ref a4, .ref a5, .int (mi 0), .int (mi 1), .int (mi 2), .int (mi 3), .int (mi 4), .int (mi 5), .int (mi 6), .int (mi 7), .int (mi 8)])), (a0, .inl (cI, 6, .inl on)), (a1, .inl (cI, 7, .inl kd)), (a2, .inl (cI, 7, .inl sz)), (a3, .inl (cL, 280, .inr (.inl fr))), (a4, .inl (cL, 40, .inr (.inl li))), (a5, .inl (cI, 120, .inl st))] Hc.size) := by
  refine Met.ofW (cc := cX3_step) (maxL := 7) (ret := (some .int)) (by decide) rfl ?_
  intro p e s m args below meth c s₁ B hml hv
  obtain ⟨rfl, hH, hC⟩ := hv
  have hx := B.exec
  have hb := B.bytes
  have hr := B.returns
  have hts := atoms_spec (ws := wsX3_step) B.pre
  have hown : s.vm.findClass RX3 = some m.cls := findClass_of_methodNamed B.named
  have hlocks := B.notSynchronized
  subst hH
  have hK := hC.K
  have hl := lv_entry ([.ref m0, .int h0, .int p0, .int o0, .int q0, .int n0]) (n := 7) (Nat.le_of_ble_eq_true rfl)
  rw [lg_entry_eq]
  generalize (lg_sl ([.ref m0, .int h0, .int p0, .int o0, .int q0, .int n0]) ++ List.replicate (7 - (lg_sl ([.ref m0, .int h0, .int p0, .int o0, .int q0, .int n0])).length) Slot.unset).toArray = ls at hl ⊢
  have hl : lv_has ls 7 [(0, .ref m0), (1, .int h0), (2, .int p0), (3, .int o0), (4, .int q0), (5, .int n0)] := hl
  have hP : va_P D vwCl [(m0, .inr (3, [.ref a0, .ref a1, .ref a2, .ref a3, .ref a4, .ref a5, .int (mi 0), .int (mi 1), .int (mi 2), .int (mi 3), .int (mi 4), .int (mi 5), .int (mi 6), .int (mi 7), .int (mi 8)])), (a0, .inl (cI, 6, .inl on)), (a1, .inl (cI, 7, .inl kd)), (a2, .inl (cI, 7, .inl sz)), (a3, .inl (cL, 280, .inr (.inl fr))), (a4, .inl (cL, 40, .inr (.inl li))), (a5, .inl (cI, 120, .inl st))] s.heap := hP
  have hD := hD0.self (sz := s.heap.size)
  generalize hAe : va_A [(m0, .inr (3, [.ref a0, .ref a1, .ref a2, .ref a3, .ref a4, .ref a5, .int (mi 0), .int (mi 1), .int (mi 2), .int (mi 3), .int (mi 4), .int (mi 5), .int (mi 6), .int (mi 7), .int (mi 8)])), (a0, .inl (cI, 6, .inl on)), (a1, .inl (cI, 7, .inl kd)), (a2, .inl (cI, 7, .inl sz)), (a3, .inl (cL, 280, .inr (.inl fr))), (a4, .inl (cL, 40, .inr (.inl li))), (a5, .inl (cI, 120, .inl st))] s.heap.size = A at hD hN ⊢
  have hA : ∀ q : Nat, s.heap.size ≤ q → A q := fun q h => by rw [← hAe]; exact Or.inr h
  have hS : va_S A s.heap s.heap [] := va_S.rf
  obtain ⟨n, hn, en⟩ := hkn
  refine lv_aload_n hx hb dX3_step_0 rfl (lv_at hl 0 rfl) ?_
  refine lv_iload_n hx hb dX3_step_1 rfl (lv_at hl 1 rfl) ?_
  refine ro_i (va_runS (As := [.int h0]) (rest := [.ref m0]) ⟨hx, hb, hml, hown, hts⟩ (c_X3_isHook l (v0 := h0)) (va_cwS 1 hts gX3_step_X3_isHook rfl rfl rfl (by decide +kernel) ⟨Nat.le_of_ble_eq_true rfl, Nat.le_of_ble_eq_true rfl⟩) (Pq.S hC hS hN) rfl rfl hl.1 rfl (lv_room (Nat.le_of_ble_eq_true rfl)) dX3_step_2 ⟨Nat.le_of_ble_eq_true rfl, Nat.le_of_ble_eq_true rfl⟩) hS (fun r_1 locs hw hS => ?_)
  have hw : r_1 = tB (0 ≤ h0 ∧ h0 ≤ 5) := hw
  subst hw
  refine lv_if_eq (tgt := 15) hx hb dX3_step_5 (by decide) (fun c_5 => ?_) (fun c_5 => ?_)
  · have c_5 := tB_0.mp c_5
    refine lv_iconst (v := 1) hx hb dX3_step_15 (by decide) ?_
    refine lv_goto (tgt := 33) hx hb dX3_step_16 (by decide) ?_
    refine va_put (D := D) (ci := 3) (v := .int 1) (ty := .int) (C := RX3) (T := TX3) (N := 15) hx hb hts iw_X3_step_X3 tyX3 tyX3_ok nmX3 hown hK hP hD hS 0 rfl rfl 14 (by decide) (hts _ lk_X3_step_Cond_fieldLink_RX3_29_SpliceRoomModel_code_I_) (fun _ h9 => h9) rfl (by decide +kernel) rfl rfl (Nat.le_of_ble_eq_true rfl) dX3_step_33 (fun H locs hP hD hS => ?_)
    have hP : va_P D vwCl [(m0, .inr (3, [.ref a0, .ref a1, .ref a2, .ref a3, .ref a4, .ref a5, .int (mi 0), .int (mi 1), .int (mi 2), .int (mi 3), .int (mi 4), .int (mi 5), .int (mi 6), .int (mi 7), .int 1])), (a0, .inl (cI, 6, .inl on)), (a1, .inl (cI, 7, .inl kd)), (a2, .inl (cI, 7, .inl sz)), (a3, .inl (cL, 280, .inr (.inl fr))), (a4, .inl (cL, 40, .inr (.inl li))), (a5, .inl (cI, 120, .inl st))] H := hP
    have hD : va_D A [(m0, .inr (3, [.ref a0, .ref a1, .ref a2, .ref a3, .ref a4, .ref a5, .int (mi 0), .int (mi 1), .int (mi 2), .int (mi 3), .int (mi 4), .int (mi 5), .int (mi 6), .int (mi 7), .int 1])), (a0, .inl (cI, 6, .inl on)), (a1, .inl (cI, 7, .inl kd)), (a2, .inl (cI, 7, .inl sz)), (a3, .inl (cL, 280, .inr (.inl fr))), (a4, .inl (cL, 40, .inr (.inl li))), (a5, .inl (cI, 120, .inl st))] := hD
    refine lv_aload_n hx hb dX3_step_36 rfl (lv_at hl 0 rfl) ?_
    refine va_get (D := D) (ci := 3) (v := .int 1) (C := RX3) (T := TX3) (N := 15) hx hb hts iw_X3_step_X3 hown hK hP 0 rfl rfl 14 (by decide) (hts _ lk_X3_step_Cond_fieldLink_RX3_29_SpliceRoomModel_code_I_) (fun _ h9 => h9) rfl dX3_step_37 ?_
    refine lv_if_le (tgt := 45) hx hb dX3_step_40 (by decide) (fun c9 => absurd c9 (by decide)) (fun _ => ?_)
    refine lv_iconst (v := 0) hx hb dX3_step_43 (by decide) ?_
    exact W.iret (v := 0) hx hb hr (fun t ht hW => ⟨⟨_, (on, kd, sz, fr, li, st, mi9 (mi 0) (mi 1) (mi 2) (mi 3) (mi 4) (mi 5) (mi 6) (mi 7) 1), rfl, Or.inl ⟨fun h9 => c_5 (okH_iff.mpr h9.1), rfl, rfl⟩, ⟨by rw [ht]; exact hP, hD⟩⟩, hS.F ht⟩) hS.2.2 dX3_step_44
  · have c_5 := tB_n.mp c_5
    obtain ⟨j, hj, rfl⟩ := okH_iff.mp c_5
    refine lv_iload_n hx hb dX3_step_8 rfl (lv_at hl 3 rfl) ?_
    refine ro_i (va_runS (As := [.int o0]) (rest := [.ref m0]) ⟨hx, hb, hml, hown, hts⟩ (c_X3_isHook l (v0 := o0)) (va_cwS 1 hts gX3_step_X3_isHook rfl rfl rfl (by decide +kernel) ⟨Nat.le_of_ble_eq_true rfl, Nat.le_of_ble_eq_true rfl⟩) (Pq.S hC hS hN) rfl rfl hl.1 rfl (lv_room (Nat.le_of_ble_eq_true rfl)) dX3_step_9 ⟨Nat.le_of_ble_eq_true rfl, Nat.le_of_ble_eq_true rfl⟩) hS (fun r_2 locs hw hS => ?_)
    have hw : r_2 = tB (0 ≤ o0 ∧ o0 ≤ 5) := hw
    subst hw
    refine lv_if_ne (tgt := 19) hx hb dX3_step_12 (by decide) (fun c_12 => ?_) (fun c_12 => ?_)
    · have c_12 := tB_n.mp c_12
      obtain ⟨i, hi, rfl⟩ := okH_iff.mp c_12
      refine lv_aload_n hx hb dX3_step_19 rfl (lv_at hl 0 rfl) ?_
      refine va_get (D := D) (ci := 3) (v := .int (mi 0)) (C := RX3) (T := TX3) (N := 15) hx hb hts iw_X3_step_X3 hown hK hP 0 rfl rfl 6 (by decide) (hts _ lk_X3_step_Cond_fieldLink_RX3_95_SpliceRoomModel_steps_I_) (fun _ h9 => h9) rfl dX3_step_20 ?_
      refine lv_bipush (v := 24) hx hb dX3_step_23 (by decide) ?_
      refine lv_icmp_ne (tgt := 32) hx hb dX3_step_25 (by decide) (fun c_25 => ?_) (fun c_25 => ?_)
      · have hlt : n < 24 := Nat.lt_of_le_of_ne hn (fun e9 => c_25 (by rw [en, e9]; rfl))
        refine lv_iconst (v := 0) hx hb dX3_step_32 (by decide) ?_
        refine va_put (D := D) (ci := 3) (v := .int 0) (ty := .int) (C := RX3) (T := TX3) (N := 15) hx hb hts iw_X3_step_X3 tyX3 tyX3_ok nmX3 hown hK hP hD hS 0 rfl rfl 14 (by decide) (hts _ lk_X3_step_Cond_fieldLink_RX3_29_SpliceRoomModel_code_I_) (fun _ h9 => h9) rfl (by decide +kernel) rfl rfl (Nat.le_of_ble_eq_true rfl) dX3_step_33 (fun H locs hP hD hS => ?_)
        have hP : va_P D vwCl [(m0, .inr (3, [.ref a0, .ref a1, .ref a2, .ref a3, .ref a4, .ref a5, .int (mi 0), .int (mi 1), .int (mi 2), .int (mi 3), .int (mi 4), .int (mi 5), .int (mi 6), .int (mi 7), .int 0])), (a0, .inl (cI, 6, .inl on)), (a1, .inl (cI, 7, .inl kd)), (a2, .inl (cI, 7, .inl sz)), (a3, .inl (cL, 280, .inr (.inl fr))), (a4, .inl (cL, 40, .inr (.inl li))), (a5, .inl (cI, 120, .inl st))] H := hP
        have hD : va_D A [(m0, .inr (3, [.ref a0, .ref a1, .ref a2, .ref a3, .ref a4, .ref a5, .int (mi 0), .int (mi 1), .int (mi 2), .int (mi 3), .int (mi 4), .int (mi 5), .int (mi 6), .int (mi 7), .int 0])), (a0, .inl (cI, 6, .inl on)), (a1, .inl (cI, 7, .inl kd)), (a2, .inl (cI, 7, .inl sz)), (a3, .inl (cL, 280, .inr (.inl fr))), (a4, .inl (cL, 40, .inr (.inl li))), (a5, .inl (cI, 120, .inl st))] := hD
        refine lv_aload_n hx hb dX3_step_36 rfl (lv_at hl 0 rfl) ?_
        refine va_get (D := D) (ci := 3) (v := .int 0) (C := RX3) (T := TX3) (N := 15) hx hb hts iw_X3_step_X3 hown hK hP 0 rfl rfl 14 (by decide) (hts _ lk_X3_step_Cond_fieldLink_RX3_29_SpliceRoomModel_code_I_) (fun _ h9 => h9) rfl dX3_step_37 ?_
        refine lv_if_le (tgt := 45) hx hb dX3_step_40 (by decide) (fun _ => ?_) (fun c9 => absurd (by decide) c9)
        refine lv_iconst (v := 5) hx hb dX3_step_45 (by decide) ?_
        refine lv_aload_n hx hb dX3_step_46 rfl (lv_at hl 0 rfl) ?_
        refine va_get (D := D) (ci := 3) (v := .int (mi 0)) (C := RX3) (T := TX3) (N := 15) hx hb hts iw_X3_step_X3 hown hK hP 0 rfl rfl 6 (by decide) (hts _ lk_X3_step_Cond_fieldLink_RX3_95_SpliceRoomModel_steps_I_) (fun _ h9 => h9) rfl dX3_step_47 ?_
        refine lv_imul hx hb dX3_step_50 ?_
        refine lv_topi (fun y_3 e9 => ?_)
        have e9 : y_3 = nI (5 * n) := e9.trans (by rw [en, show (5 : Int32) = nI 5 from rfl, pk_mul])
        subst e9
        refine lv_istore (lv' := [(6, .int (nI (5 * n))), (0, .ref m0), (1, .int (nI j)), (2, .int p0), (3, .int (nI i)), (4, .int q0), (5, .int n0)]) hx hb dX3_step_51 hl (by decide) rfl (fun ls hl => ?_)
        refine lv_aload_n hx hb dX3_step_53 rfl (lv_at hl 1 rfl) ?_
        refine va_get (D := D) (ci := 3) (v := .ref a5) (C := RX3) (T := TX3) (N := 15) hx hb hts iw_X3_step_X3 hown hK hP 0 rfl rfl 5 (by decide) (hts _ lk_X3_step_Cond_fieldLink_RX3_26_SpliceRoomModel_sheet_I_) (fun _ h9 => h9) rfl dX3_step_54 ?_
        refine lv_iload hx hb dX3_step_57 (lv_at hl 0 rfl) ?_
        refine lv_iload_n hx hb dX3_step_59 rfl (lv_at hl 2 rfl) ?_
        refine va_iast (D := D) hx hb hK hP hD hS 6 0 rfl rfl (vp_in_nI (show 5 * n < 120 by omega) (by decide)) dX3_step_60 (fun H locs hP hD hS => ?_)
        have hP : va_P D vwCl [(m0, .inr (3, [.ref a0, .ref a1, .ref a2, .ref a3, .ref a4, .ref a5, .int (mi 0), .int (mi 1), .int (mi 2), .int (mi 3), .int (mi 4), .int (mi 5), .int (mi 6), .int (mi 7), .int 0])), (a0, .inl (cI, 6, .inl on)), (a1, .inl (cI, 7, .inl kd)), (a2, .inl (cI, 7, .inl sz)), (a3, .inl (cL, 280, .inr (.inl fr))), (a4, .inl (cL, 40, .inr (.inl li))), (a5, .inl (cI, 120, .inl (upd st ((nI (5 * n)).toNatClampNeg) (nI j))))] H := hP
        have hD : va_D A [(m0, .inr (3, [.ref a0, .ref a1, .ref a2, .ref a3, .ref a4, .ref a5, .int (mi 0), .int (mi 1), .int (mi 2), .int (mi 3), .int (mi 4), .int (mi 5), .int (mi 6), .int (mi 7), .int 0])), (a0, .inl (cI, 6, .inl on)), (a1, .inl (cI, 7, .inl kd)), (a2, .inl (cI, 7, .inl sz)), (a3, .inl (cL, 280, .inr (.inl fr))), (a4, .inl (cL, 40, .inr (.inl li))), (a5, .inl (cI, 120, .inl (upd st ((nI (5 * n)).toNatClampNeg) (nI j))))] := hD
        rw [nI_clamp (show 5 * n < 2 ^ 31 by omega)] at hP hD
        refine lv_aload_n hx hb dX3_step_61 rfl (lv_at hl 1 rfl) ?_
        refine va_get (D := D) (ci := 3) (v := .ref a5) (C := RX3) (T := TX3) (N := 15) hx hb hts iw_X3_step_X3 hown hK hP 0 rfl rfl 5 (by decide) (hts _ lk_X3_step_Cond_fieldLink_RX3_26_SpliceRoomModel_sheet_I_) (fun _ h9 => h9) rfl dX3_step_62 ?_
        refine lv_iload hx hb dX3_step_65 (lv_at hl 0 rfl) ?_
        refine lv_iconst (v := 1) hx hb dX3_step_67 (by decide) ?_
        refine lv_iadd hx hb dX3_step_68 ?_
        refine lv_iload_n hx hb dX3_step_69 rfl (lv_at hl 3 rfl) ?_
        refine va_iast (D := D) hx hb hK hP hD hS 6 0 rfl rfl (by rw [show (1 : Int32) = nI 1 from rfl, nI_add]; exact vp_in_nI (show 5 * n + 1 < 120 by omega) (by decide)) dX3_step_70 (fun H locs hP hD hS => ?_)
        have hP : va_P D vwCl [(m0, .inr (3, [.ref a0, .ref a1, .ref a2, .ref a3, .ref a4, .ref a5, .int (mi 0), .int (mi 1), .int (mi 2), .int (mi 3), .int (mi 4), .int (mi 5), .int (mi 6), .int (mi 7), .int 0])), (a0, .inl (cI, 6, .inl on)), (a1, .inl (cI, 7, .inl kd)), (a2, .inl (cI, 7, .inl sz)), (a3, .inl (cL, 280, .inr (.inl fr))), (a4, .inl (cL, 40, .inr (.inl li))), (a5, .inl (cI, 120, .inl (upd (upd st (5 * n) (nI j)) (((nI (5 * n)) + 1).toNatClampNeg) p0)))] H := hP
        have hD : va_D A [(m0, .inr (3, [.ref a0, .ref a1, .ref a2, .ref a3, .ref a4, .ref a5, .int (mi 0), .int (mi 1), .int (mi 2), .int (mi 3), .int (mi 4), .int (mi 5), .int (mi 6), .int (mi 7), .int 0])), (a0, .inl (cI, 6, .inl on)), (a1, .inl (cI, 7, .inl kd)), (a2, .inl (cI, 7, .inl sz)), (a3, .inl (cL, 280, .inr (.inl fr))), (a4, .inl (cL, 40, .inr (.inl li))), (a5, .inl (cI, 120, .inl (upd (upd st (5 * n) (nI j)) (((nI (5 * n)) + 1).toNatClampNeg) p0)))] := hD
        rw [show (1 : Int32) = nI 1 from rfl, nI_add, nI_clamp (show 5 * n + 1 < 2 ^ 31 by omega)] at hP hD
        refine lv_aload_n hx hb dX3_step_71 rfl (lv_at hl 1 rfl) ?_
        refine va_get (D := D) (ci := 3) (v := .ref a5) (C := RX3) (T := TX3) (N := 15) hx hb hts iw_X3_step_X3 hown hK hP 0 rfl rfl 5 (by decide) (hts _ lk_X3_step_Cond_fieldLink_RX3_26_SpliceRoomModel_sheet_I_) (fun _ h9 => h9) rfl dX3_step_72 ?_
        refine lv_iload hx hb dX3_step_75 (lv_at hl 0 rfl) ?_
        refine lv_iconst (v := 2) hx hb dX3_step_77 (by decide) ?_
        refine lv_iadd hx hb dX3_step_78 ?_
        refine lv_iload_n hx hb dX3_step_79 rfl (lv_at hl 4 rfl) ?_
        refine va_iast (D := D) hx hb hK hP hD hS 6 0 rfl rfl (by rw [show (2 : Int32) = nI 2 from rfl, nI_add]; exact vp_in_nI (show 5 * n + 2 < 120 by omega) (by decide)) dX3_step_80 (fun H locs hP hD hS => ?_)
        have hP : va_P D vwCl [(m0, .inr (3, [.ref a0, .ref a1, .ref a2, .ref a3, .ref a4, .ref a5, .int (mi 0), .int (mi 1), .int (mi 2), .int (mi 3), .int (mi 4), .int (mi 5), .int (mi 6), .int (mi 7), .int 0])), (a0, .inl (cI, 6, .inl on)), (a1, .inl (cI, 7, .inl kd)), (a2, .inl (cI, 7, .inl sz)), (a3, .inl (cL, 280, .inr (.inl fr))), (a4, .inl (cL, 40, .inr (.inl li))), (a5, .inl (cI, 120, .inl (upd (upd (upd st (5 * n) (nI j)) (5 * n + 1) p0) (((nI (5 * n)) + 2).toNatClampNeg) (nI i))))] H := hP
        have hD : va_D A [(m0, .inr (3, [.ref a0, .ref a1, .ref a2, .ref a3, .ref a4, .ref a5, .int (mi 0), .int (mi 1), .int (mi 2), .int (mi 3), .int (mi 4), .int (mi 5), .int (mi 6), .int (mi 7), .int 0])), (a0, .inl (cI, 6, .inl on)), (a1, .inl (cI, 7, .inl kd)), (a2, .inl (cI, 7, .inl sz)), (a3, .inl (cL, 280, .inr (.inl fr))), (a4, .inl (cL, 40, .inr (.inl li))), (a5, .inl (cI, 120, .inl (upd (upd (upd st (5 * n) (nI j)) (5 * n + 1) p0) (((nI (5 * n)) + 2).toNatClampNeg) (nI i))))] := hD
        rw [show (2 : Int32) = nI 2 from rfl, nI_add, nI_clamp (show 5 * n + 2 < 2 ^ 31 by omega)] at hP hD
        refine lv_aload_n hx hb dX3_step_81 rfl (lv_at hl 1 rfl) ?_
        refine va_get (D := D) (ci := 3) (v := .ref a5) (C := RX3) (T := TX3) (N := 15) hx hb hts iw_X3_step_X3 hown hK hP 0 rfl rfl 5 (by decide) (hts _ lk_X3_step_Cond_fieldLink_RX3_26_SpliceRoomModel_sheet_I_) (fun _ h9 => h9) rfl dX3_step_82 ?_
        refine lv_iload hx hb dX3_step_85 (lv_at hl 0 rfl) ?_
        refine lv_iconst (v := 3) hx hb dX3_step_87 (by decide) ?_
        refine lv_iadd hx hb dX3_step_88 ?_
        refine lv_iload hx hb dX3_step_89 (lv_at hl 5 rfl) ?_
        refine va_iast (D := D) hx hb hK hP hD hS 6 0 rfl rfl (by rw [show (3 : Int32) = nI 3 from rfl, nI_add]; exact vp_in_nI (show 5 * n + 3 < 120 by omega) (by decide)) dX3_step_91 (fun H locs hP hD hS => ?_)
        have hP : va_P D vwCl [(m0, .inr (3, [.ref a0, .ref a1, .ref a2, .ref a3, .ref a4, .ref a5, .int (mi 0), .int (mi 1), .int (mi 2), .int (mi 3), .int (mi 4), .int (mi 5), .int (mi 6), .int (mi 7), .int 0])), (a0, .inl (cI, 6, .inl on)), (a1, .inl (cI, 7, .inl kd)), (a2, .inl (cI, 7, .inl sz)), (a3, .inl (cL, 280, .inr (.inl fr))), (a4, .inl (cL, 40, .inr (.inl li))), (a5, .inl (cI, 120, .inl (upd (upd (upd (upd st (5 * n) (nI j)) (5 * n + 1) p0) (5 * n + 2) (nI i)) (((nI (5 * n)) + 3).toNatClampNeg) q0)))] H := hP
        have hD : va_D A [(m0, .inr (3, [.ref a0, .ref a1, .ref a2, .ref a3, .ref a4, .ref a5, .int (mi 0), .int (mi 1), .int (mi 2), .int (mi 3), .int (mi 4), .int (mi 5), .int (mi 6), .int (mi 7), .int 0])), (a0, .inl (cI, 6, .inl on)), (a1, .inl (cI, 7, .inl kd)), (a2, .inl (cI, 7, .inl sz)), (a3, .inl (cL, 280, .inr (.inl fr))), (a4, .inl (cL, 40, .inr (.inl li))), (a5, .inl (cI, 120, .inl (upd (upd (upd (upd st (5 * n) (nI j)) (5 * n + 1) p0) (5 * n + 2) (nI i)) (((nI (5 * n)) + 3).toNatClampNeg) q0)))] := hD
        rw [show (3 : Int32) = nI 3 from rfl, nI_add, nI_clamp (show 5 * n + 3 < 2 ^ 31 by omega)] at hP hD
        refine lv_aload_n hx hb dX3_step_92 rfl (lv_at hl 1 rfl) ?_
        refine va_get (D := D) (ci := 3) (v := .ref a5) (C := RX3) (T := TX3) (N := 15) hx hb hts iw_X3_step_X3 hown hK hP 0 rfl rfl 5 (by decide) (hts _ lk_X3_step_Cond_fieldLink_RX3_26_SpliceRoomModel_sheet_I_) (fun _ h9 => h9) rfl dX3_step_93 ?_
        refine lv_iload hx hb dX3_step_96 (lv_at hl 0 rfl) ?_
        refine lv_iconst (v := 4) hx hb dX3_step_98 (by decide) ?_
        refine lv_iadd hx hb dX3_step_99 ?_
        refine lv_iload hx hb dX3_step_100 (lv_at hl 6 rfl) ?_
        refine va_iast (D := D) hx hb hK hP hD hS 6 0 rfl rfl (by rw [show (4 : Int32) = nI 4 from rfl, nI_add]; exact vp_in_nI (show 5 * n + 4 < 120 by omega) (by decide)) dX3_step_102 (fun H locs hP hD hS => ?_)
        have hP : va_P D vwCl [(m0, .inr (3, [.ref a0, .ref a1, .ref a2, .ref a3, .ref a4, .ref a5, .int (mi 0), .int (mi 1), .int (mi 2), .int (mi 3), .int (mi 4), .int (mi 5), .int (mi 6), .int (mi 7), .int 0])), (a0, .inl (cI, 6, .inl on)), (a1, .inl (cI, 7, .inl kd)), (a2, .inl (cI, 7, .inl sz)), (a3, .inl (cL, 280, .inr (.inl fr))), (a4, .inl (cL, 40, .inr (.inl li))), (a5, .inl (cI, 120, .inl (upd (upd (upd (upd (upd st (5 * n) (nI j)) (5 * n + 1) p0) (5 * n + 2) (nI i)) (5 * n + 3) q0) (((nI (5 * n)) + 4).toNatClampNeg) n0)))] H := hP
        have hD : va_D A [(m0, .inr (3, [.ref a0, .ref a1, .ref a2, .ref a3, .ref a4, .ref a5, .int (mi 0), .int (mi 1), .int (mi 2), .int (mi 3), .int (mi 4), .int (mi 5), .int (mi 6), .int (mi 7), .int 0])), (a0, .inl (cI, 6, .inl on)), (a1, .inl (cI, 7, .inl kd)), (a2, .inl (cI, 7, .inl sz)), (a3, .inl (cL, 280, .inr (.inl fr))), (a4, .inl (cL, 40, .inr (.inl li))), (a5, .inl (cI, 120, .inl (upd (upd (upd (upd (upd st (5 * n) (nI j)) (5 * n + 1) p0) (5 * n + 2) (nI i)) (5 * n + 3) q0) (((nI (5 * n)) + 4).toNatClampNeg) n0)))] := hD
        rw [show (4 : Int32) = nI 4 from rfl, nI_add, nI_clamp (show 5 * n + 4 < 2 ^ 31 by omega)] at hP hD
        refine lv_aload_n hx hb dX3_step_103 rfl (lv_at hl 1 rfl) ?_
        refine lv_dup hx hb dX3_step_104 rfl ?_
        refine va_get (D := D) (ci := 3) (v := .int (mi 0)) (C := RX3) (T := TX3) (N := 15) hx hb hts iw_X3_step_X3 hown hK hP 0 rfl rfl 6 (by decide) (hts _ lk_X3_step_Cond_fieldLink_RX3_95_SpliceRoomModel_steps_I_) (fun _ h9 => h9) rfl dX3_step_105 ?_
        refine lv_iconst (v := 1) hx hb dX3_step_108 (by decide) ?_
        refine lv_iadd hx hb dX3_step_109 ?_
        refine va_put (D := D) (ci := 3) (v := .int ((mi 0) + 1)) (ty := .int) (C := RX3) (T := TX3) (N := 15) hx hb hts iw_X3_step_X3 tyX3 tyX3_ok nmX3 hown hK hP hD hS 0 rfl rfl 6 (by decide) (hts _ lk_X3_step_Cond_fieldLink_RX3_95_SpliceRoomModel_steps_I_) (fun _ h9 => h9) rfl (by decide +kernel) rfl rfl (Nat.le_of_ble_eq_true rfl) dX3_step_110 (fun H locs hP hD hS => ?_)
        have hP : va_P D vwCl [(m0, .inr (3, [.ref a0, .ref a1, .ref a2, .ref a3, .ref a4, .ref a5, .int ((mi 0) + 1), .int (mi 1), .int (mi 2), .int (mi 3), .int (mi 4), .int (mi 5), .int (mi 6), .int (mi 7), .int 0])), (a0, .inl (cI, 6, .inl on)), (a1, .inl (cI, 7, .inl kd)), (a2, .inl (cI, 7, .inl sz)), (a3, .inl (cL, 280, .inr (.inl fr))), (a4, .inl (cL, 40, .inr (.inl li))), (a5, .inl (cI, 120, .inl (upd (upd (upd (upd (upd st (5 * n) (nI j)) (5 * n + 1) p0) (5 * n + 2) (nI i)) (5 * n + 3) q0) (5 * n + 4) n0)))] H := hP
        have hD : va_D A [(m0, .inr (3, [.ref a0, .ref a1, .ref a2, .ref a3, .ref a4, .ref a5, .int ((mi 0) + 1), .int (mi 1), .int (mi 2), .int (mi 3), .int (mi 4), .int (mi 5), .int (mi 6), .int (mi 7), .int 0])), (a0, .inl (cI, 6, .inl on)), (a1, .inl (cI, 7, .inl kd)), (a2, .inl (cI, 7, .inl sz)), (a3, .inl (cL, 280, .inr (.inl fr))), (a4, .inl (cL, 40, .inr (.inl li))), (a5, .inl (cI, 120, .inl (upd (upd (upd (upd (upd st (5 * n) (nI j)) (5 * n + 1) p0) (5 * n + 2) (nI i)) (5 * n + 3) q0) (5 * n + 4) n0)))] := hD
        refine lv_aload_n hx hb dX3_step_113 rfl (lv_at hl 1 rfl) ?_
        refine va_get (D := D) (ci := 3) (v := .int ((mi 0) + 1)) (C := RX3) (T := TX3) (N := 15) hx hb hts iw_X3_step_X3 hown hK hP 0 rfl rfl 6 (by decide) (hts _ lk_X3_step_Cond_fieldLink_RX3_95_SpliceRoomModel_steps_I_) (fun _ h9 => h9) rfl dX3_step_114 ?_
        exact W.iret (v := (mi 0) + 1) hx hb hr (fun t ht hW => ⟨⟨_, (on, kd, sz, fr, li, upd (upd (upd (upd (upd st (5 * n) (nI j)) (5 * n + 1) p0) (5 * n + 2) (nI i)) (5 * n + 3) q0) (5 * n + 4) n0, mi9 ((mi 0) + 1) (mi 1) (mi 2) (mi 3) (mi 4) (mi 5) (mi 6) (mi 7) 0), rfl, Or.inr ⟨j, i, hj, hi, rfl, rfl, Or.inr ⟨n, hlt, en, rfl, rfl⟩⟩, ⟨by rw [ht]; exact hP, hD⟩⟩, hS.F ht⟩) hS.2.2 dX3_step_117
      · refine lv_iconst (v := 2) hx hb dX3_step_28 (by decide) ?_
        refine lv_goto (tgt := 33) hx hb dX3_step_29 (by decide) ?_
        refine va_put (D := D) (ci := 3) (v := .int 2) (ty := .int) (C := RX3) (T := TX3) (N := 15) hx hb hts iw_X3_step_X3 tyX3 tyX3_ok nmX3 hown hK hP hD hS 0 rfl rfl 14 (by decide) (hts _ lk_X3_step_Cond_fieldLink_RX3_29_SpliceRoomModel_code_I_) (fun _ h9 => h9) rfl (by decide +kernel) rfl rfl (Nat.le_of_ble_eq_true rfl) dX3_step_33 (fun H locs hP hD hS => ?_)
        have hP : va_P D vwCl [(m0, .inr (3, [.ref a0, .ref a1, .ref a2, .ref a3, .ref a4, .ref a5, .int (mi 0), .int (mi 1), .int (mi 2), .int (mi 3), .int (mi 4), .int (mi 5), .int (mi 6), .int (mi 7), .int 2])), (a0, .inl (cI, 6, .inl on)), (a1, .inl (cI, 7, .inl kd)), (a2, .inl (cI, 7, .inl sz)), (a3, .inl (cL, 280, .inr (.inl fr))), (a4, .inl (cL, 40, .inr (.inl li))), (a5, .inl (cI, 120, .inl st))] H := hP
        have hD : va_D A [(m0, .inr (3, [.ref a0, .ref a1, .ref a2, .ref a3, .ref a4, .ref a5, .int (mi 0), .int (mi 1), .int (mi 2), .int (mi 3), .int (mi 4), .int (mi 5), .int (mi 6), .int (mi 7), .int 2])), (a0, .inl (cI, 6, .inl on)), (a1, .inl (cI, 7, .inl kd)), (a2, .inl (cI, 7, .inl sz)), (a3, .inl (cL, 280, .inr (.inl fr))), (a4, .inl (cL, 40, .inr (.inl li))), (a5, .inl (cI, 120, .inl st))] := hD
        refine lv_aload_n hx hb dX3_step_36 rfl (lv_at hl 0 rfl) ?_
        refine va_get (D := D) (ci := 3) (v := .int 2) (C := RX3) (T := TX3) (N := 15) hx hb hts iw_X3_step_X3 hown hK hP 0 rfl rfl 14 (by decide) (hts _ lk_X3_step_Cond_fieldLink_RX3_29_SpliceRoomModel_code_I_) (fun _ h9 => h9) rfl dX3_step_37 ?_
        refine lv_if_le (tgt := 45) hx hb dX3_step_40 (by decide) (fun c9 => absurd c9 (by decide)) (fun _ => ?_)
        refine lv_iconst (v := 0) hx hb dX3_step_43 (by decide) ?_
        exact W.iret (v := 0) hx hb hr (fun t ht hW => ⟨⟨_, (on, kd, sz, fr, li, st, mi9 (mi 0) (mi 1) (mi 2) (mi 3) (mi 4) (mi 5) (mi 6) (mi 7) 2), rfl, Or.inr ⟨j, i, hj, hi, rfl, rfl, Or.inl ⟨c_25, rfl, rfl⟩⟩, ⟨by rw [ht]; exact hP, hD⟩⟩, hS.F ht⟩) hS.2.2 dX3_step_44
    · have c_12 := tB_0.mp c_12
      refine lv_iconst (v := 1) hx hb dX3_step_15 (by decide) ?_
      refine lv_goto (tgt := 33) hx hb dX3_step_16 (by decide) ?_
      refine va_put (D := D) (ci := 3) (v := .int 1) (ty := .int) (C := RX3) (T := TX3) (N := 15) hx hb hts iw_X3_step_X3 tyX3 tyX3_ok nmX3 hown hK hP hD hS 0 rfl rfl 14 (by decide) (hts _ lk_X3_step_Cond_fieldLink_RX3_29_SpliceRoomModel_code_I_) (fun _ h9 => h9) rfl (by decide +kernel) rfl rfl (Nat.le_of_ble_eq_true rfl) dX3_step_33 (fun H locs hP hD hS => ?_)
      have hP : va_P D vwCl [(m0, .inr (3, [.ref a0, .ref a1, .ref a2, .ref a3, .ref a4, .ref a5, .int (mi 0), .int (mi 1), .int (mi 2), .int (mi 3), .int (mi 4), .int (mi 5), .int (mi 6), .int (mi 7), .int 1])), (a0, .inl (cI, 6, .inl on)), (a1, .inl (cI, 7, .inl kd)), (a2, .inl (cI, 7, .inl sz)), (a3, .inl (cL, 280, .inr (.inl fr))), (a4, .inl (cL, 40, .inr (.inl li))), (a5, .inl (cI, 120, .inl st))] H := hP
      have hD : va_D A [(m0, .inr (3, [.ref a0, .ref a1, .ref a2, .ref a3, .ref a4, .ref a5, .int (mi 0), .int (mi 1), .int (mi 2), .int (mi 3), .int (mi 4), .int (mi 5), .int (mi 6), .int (mi 7), .int 1])), (a0, .inl (cI, 6, .inl on)), (a1, .inl (cI, 7, .inl kd)), (a2, .inl (cI, 7, .inl sz)), (a3, .inl (cL, 280, .inr (.inl fr))), (a4, .inl (cL, 40, .inr (.inl li))), (a5, .inl (cI, 120, .inl st))] := hD
      refine lv_aload_n hx hb dX3_step_36 rfl (lv_at hl 0 rfl) ?_
      refine va_get (D := D) (ci := 3) (v := .int 1) (C := RX3) (T := TX3) (N := 15) hx hb hts iw_X3_step_X3 hown hK hP 0 rfl rfl 14 (by decide) (hts _ lk_X3_step_Cond_fieldLink_RX3_29_SpliceRoomModel_code_I_) (fun _ h9 => h9) rfl dX3_step_37 ?_
      refine lv_if_le (tgt := 45) hx hb dX3_step_40 (by decide) (fun c9 => absurd c9 (by decide)) (fun _ => ?_)
      refine lv_iconst (v := 0) hx hb dX3_step_43 (by decide) ?_
      exact W.iret (v := 0) hx hb hr (fun t ht hW => ⟨⟨_, (on, kd, sz, fr, li, st, mi9 (mi 0) (mi 1) (mi 2) (mi 3) (mi 4) (mi 5) (mi 6) (mi 7) 1), rfl, Or.inl ⟨fun h9 => c_12 (okH_iff.mpr h9.2), rfl, rfl⟩, ⟨by rw [ht]; exact hP, hD⟩⟩, hS.F ht⟩) hS.2.2 dX3_step_44
end CModel2
