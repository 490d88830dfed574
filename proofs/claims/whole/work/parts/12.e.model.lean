section CModel5
theorem iw_X3_splice_X3 : ∀ w ∈ wsX30, w ∈ wsX3_splice := by decide +kernel
theorem lk_X3_splice_Cond_fieldLink_RX3_29_SpliceRoomModel_code_I_ : Cond.fieldLink RX3 29 "SpliceRoomModel" "code" "I" ∈ wsX3_splice := by decide +kernel
set_option maxHeartbeats 4000000 in
set_option maxRecDepth 100000 in
theorem c_X3_splice (l : Launch) {D : va_G} {cI cL cQ : ClassId} {N0 : Nat} {sa : Nat → Nat} {Hc : Heap} {m0 a0 a1 a2 a3 a4 a5 : Nat} {on kd sz : Nat → Int32} {fr li : Nat → Int64} {st : Nat → Int32} {mi : Nat → Int32} {h0 p0 o0 q0 n0 : Int32} (hP : va_P D vwCl [(m0, .inr (3, [.ref a0, .ref a1, .ref a2, .ref a3, .ref a4, .ref a5, .int (mi 0), .int (mi 1), .int (mi 2), .int (mi 3), .int (mi 4), .int (mi 5), .int (mi 6), .int (mi 7), .int (mi 8)])), (a0, .inl (cI, 6, .inl on)), (a1, .inl (cI, 7, .inl kd)), (a2, .inl (cI, 7, .inl sz)), (a3, .inl (cL, 280, .inr (.inl fr))), (a4, .inl (cL, 40, .inr (.inl li))), (a5, .inl (cI, 120, .inl st))] Hc) (hD0 : va_D nT [(m0, .inr (3, [.ref a0, .ref a1, .ref a2, .ref a3, .ref a4, .ref a5, .int (mi 0), .int (mi 1), .int (mi 2), .int (mi 3), .int (mi 4), .int (mi 5), .int (mi 6), .int (mi 7), .int (mi 8)])), (a0, .inl (cI, 6, .inl on)), (a1, .inl (cI, 7, .inl kd)), (a2, .inl (cI, 7, .inl sz)), (a3, .inl (cL, 280, .inr (.inl fr))), (a4, .inl (cL, 40, .inr (.inl li))), (a5, .inl (cI, 120, .inl st))]) (hN : ∀ q, va_A [(m0, .inr (3, [.ref a0, .ref a1, .ref a2, .ref a3, .ref a4, .ref a5, .int (mi 0), .int (mi 1), .int (mi 2), .int (mi 3), .int (mi 4), .int (mi 5), .int (mi 6), .int (mi 7), .int (mi 8)])), (a0, .inl (cI, 6, .inl on)), (a1, .inl (cI, 7, .inl kd)), (a2, .inl (cI, 7, .inl sz)), (a3, .inl (cL, 280, .inr (.inl fr))), (a4, .inl (cL, 40, .inr (.inl li))), (a5, .inl (cI, 120, .inl st))] Hc.size q → N0 ≤ q) (hO : OnOk on) (hZ : SzOk sz) : Met l yX3_splice wsX3_splice ({ frames := 3, cells := 0, slots := 0, locals := 110 }) (Pq D cI cL cQ N0 sa [.ref m0, .int h0, .int p0, .int o0, .int q0, .int n0] Hc) (va_Qi (fun (r : Int32) (u : MS) => (¬ (okH h0 ∧ okH o0) ∧ r = 0 ∧ u = (on, kd, sz, fr, li, st, miC mi 1)) ∨ (∃ j1 i1 : Nat, j1 < 6 ∧ i1 < 6 ∧ h0 = nI j1 ∧ o0 = nI i1 ∧ ((mi 4 = 3 ∧ r = 0 ∧ u = (on, kd, sz, fr, li, st, miC mi 2)) ∨ (¬ mi 4 = 3 ∧ MCut on kd sz fr li st (miC mi 0) j1 i1 p0 q0 n0 r u)))) (fun (u : MS) (t : State) => va_P D vwCl [(m0, .inr (3, [.ref a0, .ref a1, .ref a2, .ref a3, .ref a4, .ref a5, .int (u.2.2.2.2.2.2 0), .int (u.2.2.2.2.2.2 1), .int (u.2.2.2.2.2.2 2), .int (u.2.2.2.2.2.2 3), .int (u.2.2.2.2.2.2 4), .int (u.2.2.2.2.2.2 5), .int (u.2.2.2.2.2.2 6), .int (u.2.2.2.2.2.2 7), .int (u.2.2.2.2.2.2 8)])), (a0, .inl (cI, 6, .inl u.1)), (a1, .inl (cI, 7, .inl u.2.1)), (a2, .inl (cI, 7, .inl u.2.2.1)), (a3, .inl (cL, 280, .inr (.inl u.2.2.2.1))), (a4, .inl (cL, 40, .inr (.inl u.2.2.2.2.1))), (a5, .inl (cI, 120, .inl u.2.2.2.2.2.1))] t.heap ∧ va_D (va_A [(m0, .inr (3, [.ref a0, .ref a1, .ref a2, .ref a3, .ref a4, .ref a5, .int (mi 0), .int (mi 1), .int (mi 2), .int (mi 3), .int (mi 4), .int (mi 5), .int (mi 6), .int (mi 7), .int (mi 8)])), (a0, .inl (cI, 6, .inl on)), (a1, .inl (cI, 7, .inl kd)), (a2, .inl (cI, 7, .inl sz)), (a3, .inl (cL, 280, .inr (.inl fr))), (a4, .inl (cL, 40, .inr (.inl li))), (a5, .inl (cI, 120, .inl st))] Hc.size) [(m0, .inr (3, [.ref a0, .ref a1, .ref a2, .ref a3, .ref a4, .ref a5, .int (u.2.2.2.2.2.2 0), .int (u.2.2.2.2.2.2 1), .int (u.2.2.2.2.2.2 2), .int (u.2.2.2.2.2.2 3), .int (u.2.2.2.2.2.2 4), .int (u.2.2.2.2.2.2 5), .int (u.2.2.2.2.2.2 6), .int (u.2.2.2.2.2.2 7), .int (u.2.2.2.2.2.2 8)])), (a0, .inl (cI, 6, .inl u.1)), (a1, .inl (cI, 7, .inl u.2.1)), (a2, .inl (cI, 7, .inl u.2.2.1)), (a3, .inl (cL, 280, .inr (.inl u.2.2.2.1))), (a4, .inl (cL, 40, .inr (.inl u.2.2.2.2.1))), (a5, .inl (cI, 120, .inl u.2.2.2.2.2.1))]) (va_A [(m0, .inr (3, [.ref a0, .ref a1, .ref a2, .ref a3, .ref a4, .ref a5, .int (mi 0), .int (mi 1), .int (mi 2), .int (mi 3), .int (mi 4), .int (mi 5), .int (mi 6), .int (mi 7), .int (mi 8)])), (a0, .inl (cI, 6, .inl on)), (a1, .inl (cI, 7, .inl kd)), (a2, .inl (cI, 7, .inl sz)), (a3, .inl (cL, 280, .inr (.inl fr))), (a4, .inl (cL, 40, .inr (.inl li))), (a5, .inl (cI, 120, .inl st))] Hc.size)) 0 0 (va_A [(m0, .inr (3, [.ref a0, .ref a1, .ref a2, .ref a3, .ref a4, .ref a5, .int (mi 0), .int (mi 1), .int (mi 2), .int (mi 3), .int (mi 4), .int (mi 5), .int (mi 6), .int (mi 7), .int (mi 8)])), (a0, .inl (cI, 6, .inl on)), (a1, .inl (cI, 7, .inl kd)), (a2, .inl (cI, 7, .inl sz)), (a3, .inl (cL, 280, .inr (.inl fr))), (a4, .inl (cL, 40, .inr (.inl li))), (a5, .inl (cI, 120, .inl st))] Hc.size) := by
  refine Met.ofW (cc := cX3_splice) (maxL := 6) (ret := (some .int)) (by decide) rfl ?_
  intro p e s m args below meth c s₁ B hml hv
  obtain ⟨rfl, hH, hC⟩ := hv
  have hx := B.exec
  have hb := B.bytes
  have hr := B.returns
  have hts := atoms_spec (ws := wsX3_splice) B.pre
  have hown : s.vm.findClass RX3 = some m.cls := findClass_of_methodNamed B.named
  have hlocks := B.notSynchronized
  subst hH
  have hK := hC.K
  have hl := lv_entry ([.ref m0, .int h0, .int p0, .int o0, .int q0, .int n0]) (n := 6) (Nat.le_of_ble_eq_true rfl)
  rw [lg_entry_eq]
  generalize (lg_sl ([.ref m0, .int h0, .int p0, .int o0, .int q0, .int n0]) ++ List.replicate (6 - (lg_sl ([.ref m0, .int h0, .int p0, .int o0, .int q0, .int n0])).length) Slot.unset).toArray = ls at hl ⊢
  have hl : lv_has ls 6 [(0, .ref m0), (1, .int h0), (2, .int p0), (3, .int o0), (4, .int q0), (5, .int n0)] := hl
  have hP : va_P D vwCl [(m0, .inr (3, [.ref a0, .ref a1, .ref a2, .ref a3, .ref a4, .ref a5, .int (mi 0), .int (mi 1), .int (mi 2), .int (mi 3), .int (mi 4), .int (mi 5), .int (mi 6), .int (mi 7), .int (mi 8)])), (a0, .inl (cI, 6, .inl on)), (a1, .inl (cI, 7, .inl kd)), (a2, .inl (cI, 7, .inl sz)), (a3, .inl (cL, 280, .inr (.inl fr))), (a4, .inl (cL, 40, .inr (.inl li))), (a5, .inl (cI, 120, .inl st))] s.heap := hP
  have hD := hD0.self (sz := s.heap.size)
  generalize hAe : va_A [(m0, .inr (3, [.ref a0, .ref a1, .ref a2, .ref a3, .ref a4, .ref a5, .int (mi 0), .int (mi 1), .int (mi 2), .int (mi 3), .int (mi 4), .int (mi 5), .int (mi 6), .int (mi 7), .int (mi 8)])), (a0, .inl (cI, 6, .inl on)), (a1, .inl (cI, 7, .inl kd)), (a2, .inl (cI, 7, .inl sz)), (a3, .inl (cL, 280, .inr (.inl fr))), (a4, .inl (cL, 40, .inr (.inl li))), (a5, .inl (cI, 120, .inl st))] s.heap.size = A at hD hN ⊢
  have hA : ∀ q : Nat, s.heap.size ≤ q → A q := fun q h => by rw [← hAe]; exact Or.inr h
  have hS : va_S A s.heap s.heap [] := va_S.rf
  refine lv_aload_n hx hb dX3_splice_0 rfl (lv_at hl 0 rfl) ?_
  refine lv_iload_n hx hb dX3_splice_1 rfl (lv_at hl 1 rfl) ?_
  refine ro_i (va_runS (As := [.int h0]) (rest := [.ref m0]) ⟨hx, hb, hml, hown, hts⟩ (c_X3_isHook l (v0 := h0)) (va_cwS 1 hts gX3_splice_X3_isHook rfl rfl rfl (by decide +kernel) ⟨Nat.le_of_ble_eq_true rfl, Nat.le_of_ble_eq_true rfl⟩) (Pq.S hC hS hN) rfl rfl hl.1 rfl (lv_room (Nat.le_of_ble_eq_true rfl)) dX3_splice_2 ⟨Nat.le_of_ble_eq_true rfl, Nat.le_of_ble_eq_true rfl⟩) hS (fun r_1 locs hw hS => ?_)
  have hw : r_1 = tB (0 ≤ h0 ∧ h0 ≤ 5) := hw
  subst hw
  refine lv_if_eq (tgt := 15) hx hb dX3_splice_5 (by decide) (fun c_5 => ?_) (fun c_5 => ?_)
  · have c_5 := tB_0.mp c_5
    refine lv_iconst (v := 1) hx hb dX3_splice_15 (by decide) ?_
    refine lv_goto (tgt := 31) hx hb dX3_splice_16 (by decide) ?_
    refine va_put (D := D) (ci := 3) (v := .int 1) (ty := .int) (C := RX3) (T := TX3) (N := 15) hx hb hts iw_X3_splice_X3 tyX3 tyX3_ok nmX3 hown hK hP hD hS 0 rfl rfl 14 (by decide) (hts _ lk_X3_splice_Cond_fieldLink_RX3_29_SpliceRoomModel_code_I_) (fun _ h9 => h9) rfl (by decide +kernel) rfl rfl (Nat.le_of_ble_eq_true rfl) dX3_splice_31 (fun H locs hP hD hS => ?_)
    have hP : va_P D vwCl [(m0, .inr (3, [.ref a0, .ref a1, .ref a2, .ref a3, .ref a4, .ref a5, .int (mi 0), .int (mi 1), .int (mi 2), .int (mi 3), .int (mi 4), .int (mi 5), .int (mi 6), .int (mi 7), .int 1])), (a0, .inl (cI, 6, .inl on)), (a1, .inl (cI, 7, .inl kd)), (a2, .inl (cI, 7, .inl sz)), (a3, .inl (cL, 280, .inr (.inl fr))), (a4, .inl (cL, 40, .inr (.inl li))), (a5, .inl (cI, 120, .inl st))] H := hP
    have hD : va_D A [(m0, .inr (3, [.ref a0, .ref a1, .ref a2, .ref a3, .ref a4, .ref a5, .int (mi 0), .int (mi 1), .int (mi 2), .int (mi 3), .int (mi 4), .int (mi 5), .int (mi 6), .int (mi 7), .int 1])), (a0, .inl (cI, 6, .inl on)), (a1, .inl (cI, 7, .inl kd)), (a2, .inl (cI, 7, .inl sz)), (a3, .inl (cL, 280, .inr (.inl fr))), (a4, .inl (cL, 40, .inr (.inl li))), (a5, .inl (cI, 120, .inl st))] := hD
    refine lv_aload_n hx hb dX3_splice_34 rfl (lv_at hl 0 rfl) ?_
    refine va_get (D := D) (ci := 3) (v := .int 1) (C := RX3) (T := TX3) (N := 15) hx hb hts iw_X3_splice_X3 hown hK hP 0 rfl rfl 14 (by decide) (hts _ lk_X3_splice_Cond_fieldLink_RX3_29_SpliceRoomModel_code_I_) (fun _ h9 => h9) rfl dX3_splice_35 ?_
    refine lv_if_le (tgt := 45) hx hb dX3_splice_38 (by decide) (fun c9 => absurd c9 (by decide)) (fun _ => ?_)
    refine lv_iconst (v := 0) hx hb dX3_splice_41 (by decide) ?_
    refine lv_goto (tgt := 56) hx hb dX3_splice_42 (by decide) ?_
    exact W.iret (v := 0) hx hb hr (fun t ht hW => ⟨⟨_, (on, kd, sz, fr, li, st, mi9 (mi 0) (mi 1) (mi 2) (mi 3) (mi 4) (mi 5) (mi 6) (mi 7) 1), rfl, Or.inl ⟨fun h9 => c_5 (okH_iff.mpr h9.1), rfl, rfl⟩, ⟨by rw [ht]; exact hP, hD⟩⟩, hS.F ht⟩) hS.2.2 dX3_splice_56
  · have c_5 := tB_n.mp c_5
    obtain ⟨j, hj, rfl⟩ := okH_iff.mp c_5
    refine lv_iload_n hx hb dX3_splice_8 rfl (lv_at hl 3 rfl) ?_
    refine ro_i (va_runS (As := [.int o0]) (rest := [.ref m0]) ⟨hx, hb, hml, hown, hts⟩ (c_X3_isHook l (v0 := o0)) (va_cwS 1 hts gX3_splice_X3_isHook rfl rfl rfl (by decide +kernel) ⟨Nat.le_of_ble_eq_true rfl, Nat.le_of_ble_eq_true rfl⟩) (Pq.S hC hS hN) rfl rfl hl.1 rfl (lv_room (Nat.le_of_ble_eq_true rfl)) dX3_splice_9 ⟨Nat.le_of_ble_eq_true rfl, Nat.le_of_ble_eq_true rfl⟩) hS (fun r_2 locs hw hS => ?_)
    have hw : r_2 = tB (0 ≤ o0 ∧ o0 ≤ 5) := hw
    subst hw
    refine lv_if_ne (tgt := 19) hx hb dX3_splice_12 (by decide) (fun c_12 => ?_) (fun c_12 => ?_)
    · have c_12 := tB_n.mp c_12
      obtain ⟨i, hi, rfl⟩ := okH_iff.mp c_12
      refine lv_aload_n hx hb dX3_splice_19 rfl (lv_at hl 0 rfl) ?_
      refine ro_i (va_runV (As := []) (rest := [.ref m0]) ⟨hx, hb, hml, hown, hts⟩ (c_X3_isBlunt l (hP.sub [0, 1, 2, 3, 4, 5, 6] rfl)) (cwV 0 hts gX3_splice_X3_isBlunt rfl rfl rfl (by decide +kernel) ⟨Nat.le_of_ble_eq_true rfl, Nat.le_of_ble_eq_true rfl⟩) (Pq.V hC hS hN (va_recv hK hP (ci := 3) (q0 := 0) rfl rfl)) rfl rfl hl.1 rfl (lv_room (Nat.le_of_ble_eq_true rfl)) dX3_splice_20 ⟨Nat.le_of_ble_eq_true rfl, Nat.le_of_ble_eq_true rfl⟩) hS (fun r_3 locs hw hS => ?_)
      have hw : r_3 = tB ((mi 4) = 3) := hw
      subst hw
      refine lv_if_eq (tgt := 30) hx hb dX3_splice_23 (by decide) (fun c_23 => ?_) (fun c_23 => ?_)
      · have c_23 := tB_0.mp c_23
        refine lv_iconst (v := 0) hx hb dX3_splice_30 (by decide) ?_
        refine va_put (D := D) (ci := 3) (v := .int 0) (ty := .int) (C := RX3) (T := TX3) (N := 15) hx hb hts iw_X3_splice_X3 tyX3 tyX3_ok nmX3 hown hK hP hD hS 0 rfl rfl 14 (by decide) (hts _ lk_X3_splice_Cond_fieldLink_RX3_29_SpliceRoomModel_code_I_) (fun _ h9 => h9) rfl (by decide +kernel) rfl rfl (Nat.le_of_ble_eq_true rfl) dX3_splice_31 (fun H locs hP hD hS => ?_)
        have hP : va_P D vwCl [(m0, .inr (3, [.ref a0, .ref a1, .ref a2, .ref a3, .ref a4, .ref a5, .int (mi 0), .int (mi 1), .int (mi 2), .int (mi 3), .int (mi 4), .int (mi 5), .int (mi 6), .int (mi 7), .int 0])), (a0, .inl (cI, 6, .inl on)), (a1, .inl (cI, 7, .inl kd)), (a2, .inl (cI, 7, .inl sz)), (a3, .inl (cL, 280, .inr (.inl fr))), (a4, .inl (cL, 40, .inr (.inl li))), (a5, .inl (cI, 120, .inl st))] H := hP
        have hD : va_D A [(m0, .inr (3, [.ref a0, .ref a1, .ref a2, .ref a3, .ref a4, .ref a5, .int (mi 0), .int (mi 1), .int (mi 2), .int (mi 3), .int (mi 4), .int (mi 5), .int (mi 6), .int (mi 7), .int 0])), (a0, .inl (cI, 6, .inl on)), (a1, .inl (cI, 7, .inl kd)), (a2, .inl (cI, 7, .inl sz)), (a3, .inl (cL, 280, .inr (.inl fr))), (a4, .inl (cL, 40, .inr (.inl li))), (a5, .inl (cI, 120, .inl st))] := hD
        refine lv_aload_n hx hb dX3_splice_34 rfl (lv_at hl 0 rfl) ?_
        refine va_get (D := D) (ci := 3) (v := .int 0) (C := RX3) (T := TX3) (N := 15) hx hb hts iw_X3_splice_X3 hown hK hP 0 rfl rfl 14 (by decide) (hts _ lk_X3_splice_Cond_fieldLink_RX3_29_SpliceRoomModel_code_I_) (fun _ h9 => h9) rfl dX3_splice_35 ?_
        refine lv_if_le (tgt := 45) hx hb dX3_splice_38 (by decide) (fun _ => ?_) (fun c9 => absurd (by decide) c9)
        refine lv_aload_n hx hb dX3_splice_45 rfl (lv_at hl 0 rfl) ?_
        refine lv_iload_n hx hb dX3_splice_46 rfl (lv_at hl 1 rfl) ?_
        refine lv_iload_n hx hb dX3_splice_47 rfl (lv_at hl 2 rfl) ?_
        refine lv_iload_n hx hb dX3_splice_48 rfl (lv_at hl 3 rfl) ?_
        refine lv_iload hx hb dX3_splice_49 (lv_at hl 4 rfl) ?_
        refine lv_iload hx hb dX3_splice_51 (lv_at hl 5 rfl) ?_
        have hFc := va_free (wc := [(m0, .inr (3, [.ref a0, .ref a1, .ref a2, .ref a3, .ref a4, .ref a5, .int (mi 0), .int (mi 1), .int (mi 2), .int (mi 3), .int (mi 4), .int (mi 5), .int (mi 6), .int (mi 7), .int 0])), (a0, .inl (cI, 6, .inl on)), (a1, .inl (cI, 7, .inl kd)), (a2, .inl (cI, 7, .inl sz)), (a3, .inl (cL, 280, .inr (.inl fr))), (a4, .inl (cL, 40, .inr (.inl li))), (a5, .inl (cI, 120, .inl st))]) hD hS hA [0, 1, 2, 3, 4, 5, 6] rfl
        refine va_calli (va_runV (As := [.int (nI j), .int p0, .int (nI i), .int q0, .int n0]) (rest := []) ⟨hx, hb, hml, hown, hts⟩ (c_X3_cut l (mi := mi9 (mi 0) (mi 1) (mi 2) (mi 3) (mi 4) (mi 5) (mi 6) (mi 7) 0) (j1 := j) (j2 := i) (p0 := p0) (q0 := q0) (n0 := n0) (hP.sub (ws' := [(m0, .inr (3, [.ref a0, .ref a1, .ref a2, .ref a3, .ref a4, .ref a5, .int (mi 0), .int (mi 1), .int (mi 2), .int (mi 3), .int (mi 4), .int (mi 5), .int (mi 6), .int (mi 7), .int 0])), (a0, .inl (cI, 6, .inl on)), (a1, .inl (cI, 7, .inl kd)), (a2, .inl (cI, 7, .inl sz)), (a3, .inl (cL, 280, .inr (.inl fr))), (a4, .inl (cL, 40, .inr (.inl li))), (a5, .inl (cI, 120, .inl st))]) [0, 1, 2, 3, 4, 5, 6] rfl) ((hD.sub (ws' := [(m0, .inr (3, [.ref a0, .ref a1, .ref a2, .ref a3, .ref a4, .ref a5, .int (mi 0), .int (mi 1), .int (mi 2), .int (mi 3), .int (mi 4), .int (mi 5), .int (mi 6), .int (mi 7), .int 0])), (a0, .inl (cI, 6, .inl on)), (a1, .inl (cI, 7, .inl kd)), (a2, .inl (cI, 7, .inl sz)), (a3, .inl (cL, 280, .inr (.inl fr))), (a4, .inl (cL, 40, .inr (.inl li))), (a5, .inl (cI, 120, .inl st))]) [0, 1, 2, 3, 4, 5, 6] (by decide) rfl).weaken (fun _ _ _ _ => trivial)) (fun q h => hN q (hFc q h)) hO hZ hj hi) (cwV 5 hts gX3_splice_X3_cut rfl rfl rfl (by decide +kernel) ⟨Nat.le_of_ble_eq_true rfl, Nat.le_of_ble_eq_true rfl⟩) (Pq.V hC hS hN (va_recv hK hP (ci := 3) (q0 := 0) rfl rfl)) rfl rfl hl.1 rfl (lv_room (Nat.le_of_ble_eq_true rfl)) dX3_splice_53 ⟨Nat.le_of_ble_eq_true rfl, Nat.le_of_ble_eq_true rfl⟩) hS (fun q _ h => hFc q h) hFc (fun r_4 u t H1 locs ht hvm hw hB hz1 hk1 hS => ?_)
        obtain ⟨on1, kd1, sz1, fr1, li1, st1, mi1⟩ := u
        obtain ⟨hP1, hD1⟩ := hB
        rw [ht] at hP1
        obtain ⟨hP, hD⟩ := va_join (wr := []) (w1 := [(m0, .inr (3, [.ref a0, .ref a1, .ref a2, .ref a3, .ref a4, .ref a5, .int (mi1 0), .int (mi1 1), .int (mi1 2), .int (mi1 3), .int (mi1 4), .int (mi1 5), .int (mi1 6), .int (mi1 7), .int (mi1 8)])), (a0, .inl (cI, 6, .inl on1)), (a1, .inl (cI, 7, .inl kd1)), (a2, .inl (cI, 7, .inl sz1)), (a3, .inl (cL, 280, .inr (.inl fr1))), (a4, .inl (cL, 40, .inr (.inl li1))), (a5, .inl (cI, 120, .inl st1))]) hP hD [0, 1, 2, 3, 4, 5, 6] [] rfl rfl (by decide) (by decide) hk1 hFc hP1 hD1
        generalize H1 = H at hP hS ⊢
        have hP : va_P D vwCl [(m0, .inr (3, [.ref a0, .ref a1, .ref a2, .ref a3, .ref a4, .ref a5, .int (mi1 0), .int (mi1 1), .int (mi1 2), .int (mi1 3), .int (mi1 4), .int (mi1 5), .int (mi1 6), .int (mi1 7), .int (mi1 8)])), (a0, .inl (cI, 6, .inl on1)), (a1, .inl (cI, 7, .inl kd1)), (a2, .inl (cI, 7, .inl sz1)), (a3, .inl (cL, 280, .inr (.inl fr1))), (a4, .inl (cL, 40, .inr (.inl li1))), (a5, .inl (cI, 120, .inl st1))] H := hP.sub [0, 1, 2, 3, 4, 5, 6] rfl
        have hD : va_D A [(m0, .inr (3, [.ref a0, .ref a1, .ref a2, .ref a3, .ref a4, .ref a5, .int (mi1 0), .int (mi1 1), .int (mi1 2), .int (mi1 3), .int (mi1 4), .int (mi1 5), .int (mi1 6), .int (mi1 7), .int (mi1 8)])), (a0, .inl (cI, 6, .inl on1)), (a1, .inl (cI, 7, .inl kd1)), (a2, .inl (cI, 7, .inl sz1)), (a3, .inl (cL, 280, .inr (.inl fr1))), (a4, .inl (cL, 40, .inr (.inl li1))), (a5, .inl (cI, 120, .inl st1))] := hD.sub [0, 1, 2, 3, 4, 5, 6] (by decide) rfl
        exact W.iret (v := r_4) hx hb hr (fun t ht hW => ⟨⟨_, (on1, kd1, sz1, fr1, li1, st1, mi1), rfl, Or.inr ⟨j, i, hj, hi, rfl, rfl, Or.inr ⟨c_23, hw⟩⟩, ⟨by rw [ht]; exact hP, hD⟩⟩, hS.F ht⟩) hS.2.2 dX3_splice_56
      · have c_23 := tB_n.mp c_23
        refine lv_iconst (v := 2) hx hb dX3_splice_26 (by decide) ?_
        refine lv_goto (tgt := 31) hx hb dX3_splice_27 (by decide) ?_
        refine va_put (D := D) (ci := 3) (v := .int 2) (ty := .int) (C := RX3) (T := TX3) (N := 15) hx hb hts iw_X3_splice_X3 tyX3 tyX3_ok nmX3 hown hK hP hD hS 0 rfl rfl 14 (by decide) (hts _ lk_X3_splice_Cond_fieldLink_RX3_29_SpliceRoomModel_code_I_) (fun _ h9 => h9) rfl (by decide +kernel) rfl rfl (Nat.le_of_ble_eq_true rfl) dX3_splice_31 (fun H locs hP hD hS => ?_)
        have hP : va_P D vwCl [(m0, .inr (3, [.ref a0, .ref a1, .ref a2, .ref a3, .ref a4, .ref a5, .int (mi 0), .int (mi 1), .int (mi 2), .int (mi 3), .int (mi 4), .int (mi 5), .int (mi 6), .int (mi 7), .int 2])), (a0, .inl (cI, 6, .inl on)), (a1, .inl (cI, 7, .inl kd)), (a2, .inl (cI, 7, .inl sz)), (a3, .inl (cL, 280, .inr (.inl fr))), (a4, .inl (cL, 40, .inr (.inl li))), (a5, .inl (cI, 120, .inl st))] H := hP
        have hD : va_D A [(m0, .inr (3, [.ref a0, .ref a1, .ref a2, .ref a3, .ref a4, .ref a5, .int (mi 0), .int (mi 1), .int (mi 2), .int (mi 3), .int (mi 4), .int (mi 5), .int (mi 6), .int (mi 7), .int 2])), (a0, .inl (cI, 6, .inl on)), (a1, .inl (cI, 7, .inl kd)), (a2, .inl (cI, 7, .inl sz)), (a3, .inl (cL, 280, .inr (.inl fr))), (a4, .inl (cL, 40, .inr (.inl li))), (a5, .inl (cI, 120, .inl st))] := hD
        refine lv_aload_n hx hb dX3_splice_34 rfl (lv_at hl 0 rfl) ?_
        refine va_get (D := D) (ci := 3) (v := .int 2) (C := RX3) (T := TX3) (N := 15) hx hb hts iw_X3_splice_X3 hown hK hP 0 rfl rfl 14 (by decide) (hts _ lk_X3_splice_Cond_fieldLink_RX3_29_SpliceRoomModel_code_I_) (fun _ h9 => h9) rfl dX3_splice_35 ?_
        refine lv_if_le (tgt := 45) hx hb dX3_splice_38 (by decide) (fun c9 => absurd c9 (by decide)) (fun _ => ?_)
        refine lv_iconst (v := 0) hx hb dX3_splice_41 (by decide) ?_
        refine lv_goto (tgt := 56) hx hb dX3_splice_42 (by decide) ?_
        exact W.iret (v := 0) hx hb hr (fun t ht hW => ⟨⟨_, (on, kd, sz, fr, li, st, mi9 (mi 0) (mi 1) (mi 2) (mi 3) (mi 4) (mi 5) (mi 6) (mi 7) 2), rfl, Or.inr ⟨j, i, hj, hi, rfl, rfl, Or.inl ⟨c_23, rfl, rfl⟩⟩, ⟨by rw [ht]; exact hP, hD⟩⟩, hS.F ht⟩) hS.2.2 dX3_splice_56
    · have c_12 := tB_0.mp c_12
      refine lv_iconst (v := 1) hx hb dX3_splice_15 (by decide) ?_
      refine lv_goto (tgt := 31) hx hb dX3_splice_16 (by decide) ?_
      refine va_put (D := D) (ci := 3) (v := .int 1) (ty := .int) (C := RX3) (T := TX3) (N := 15) hx hb hts iw_X3_splice_X3 tyX3 tyX3_ok nmX3 hown hK hP hD hS 0 rfl rfl 14 (by decide) (hts _ lk_X3_splice_Cond_fieldLink_RX3_29_SpliceRoomModel_code_I_) (fun _ h9 => h9) rfl (by decide +kernel) rfl rfl (Nat.le_of_ble_eq_true rfl) dX3_splice_31 (fun H locs hP hD hS => ?_)
      have hP : va_P D vwCl [(m0, .inr (3, [.ref a0, .ref a1, .ref a2, .ref a3, .ref a4, .ref a5, .int (mi 0), .int (mi 1), .int (mi 2), .int (mi 3), .int (mi 4), .int (mi 5), .int (mi 6), .int (mi 7), .int 1])), (a0, .inl (cI, 6, .inl on)), (a1, .inl (cI, 7, .inl kd)), (a2, .inl (cI, 7, .inl sz)), (a3, .inl (cL, 280, .inr (.inl fr))), (a4, .inl (cL, 40, .inr (.inl li))), (a5, .inl (cI, 120, .inl st))] H := hP
      have hD : va_D A [(m0, .inr (3, [.ref a0, .ref a1, .ref a2, .ref a3, .ref a4, .ref a5, .int (mi 0), .int (mi 1), .int (mi 2), .int (mi 3), .int (mi 4), .int (mi 5), .int (mi 6), .int (mi 7), .int 1])), (a0, .inl (cI, 6, .inl on)), (a1, .inl (cI, 7, .inl kd)), (a2, .inl (cI, 7, .inl sz)), (a3, .inl (cL, 280, .inr (.inl fr))), (a4, .inl (cL, 40, .inr (.inl li))), (a5, .inl (cI, 120, .inl st))] := hD
      refine lv_aload_n hx hb dX3_splice_34 rfl (lv_at hl 0 rfl) ?_
      refine va_get (D := D) (ci := 3) (v := .int 1) (C := RX3) (T := TX3) (N := 15) hx hb hts iw_X3_splice_X3 hown hK hP 0 rfl rfl 14 (by decide) (hts _ lk_X3_splice_Cond_fieldLink_RX3_29_SpliceRoomModel_code_I_) (fun _ h9 => h9) rfl dX3_splice_35 ?_
      refine lv_if_le (tgt := 45) hx hb dX3_splice_38 (by decide) (fun c9 => absurd c9 (by decide)) (fun _ => ?_)
      refine lv_iconst (v := 0) hx hb dX3_splice_41 (by decide) ?_
      refine lv_goto (tgt := 56) hx hb dX3_splice_42 (by decide) ?_
      exact W.iret (v := 0) hx hb hr (fun t ht hW => ⟨⟨_, (on, kd, sz, fr, li, st, mi9 (mi 0) (mi 1) (mi 2) (mi 3) (mi 4) (mi 5) (mi 6) (mi 7) 1), rfl, Or.inl ⟨fun h9 => c_12 (okH_iff.mpr h9.2), rfl, rfl⟩, ⟨by rw [ht]; exact hP, hD⟩⟩, hS.F ht⟩) hS.2.2 dX3_splice_56
/-- how many hooks point where the hook does -/
def mC (on : Nat → Int32) (j : Nat) : Nat → Nat
  | 0 => 0
  | n + 1 => mC on j n + if ¬ on j = -1 ∧ on n = on j then 1 else 0
theorem in02 {w : Int32} (h : 0 ≤ w ∧ w ≤ 2) : (w = 0 ∨ w = 1) ∨ w = 2 := by
  obtain ⟨j, hj, rfl⟩ := nI_of (Int32.not_lt.mpr h.1)
  have h7 := (nI_leI (a := j) (b := 2) hj (by decide)).mp h.2
  rcases (show j = 0 ∨ j = 1 ∨ j = 2 by omega) with rfl | rfl | rfl <;> decide
theorem iw_X3_look_X3 : ∀ w ∈ wsX30, w ∈ wsX3_look := by decide +kernel
theorem lk_X3_look_Cond_fieldLink_RX3_29_SpliceRoomModel_code_I_ : Cond.fieldLink RX3 29 "SpliceRoomModel" "code" "I" ∈ wsX3_look := by decide +kernel
theorem lk_X3_look_Cond_fieldLink_RX3_7_SpliceRoomModel_on_I_ : Cond.fieldLink RX3 7 "SpliceRoomModel" "on" "[I" ∈ wsX3_look := by decide +kernel
set_option maxHeartbeats 4000000 in
set_option maxRecDepth 100000 in
theorem c_X3_look (l : Launch) {D : va_G} {cI cL cQ : ClassId} {N0 : Nat} {sa : Nat → Nat} {Hc : Heap} {m0 a0 a1 a2 a3 a4 a5 : Nat} {on kd sz : Nat → Int32} {fr li : Nat → Int64} {st : Nat → Int32} {mi : Nat → Int32} {h0 w0 : Int32} (hP : va_P D vwCl [(m0, .inr (3, [.ref a0, .ref a1, .ref a2, .ref a3, .ref a4, .ref a5, .int (mi 0), .int (mi 1), .int (mi 2), .int (mi 3), .int (mi 4), .int (mi 5), .int (mi 6), .int (mi 7), .int (mi 8)])), (a0, .inl (cI, 6, .inl on)), (a1, .inl (cI, 7, .inl kd)), (a2, .inl (cI, 7, .inl sz)), (a3, .inl (cL, 280, .inr (.inl fr))), (a4, .inl (cL, 40, .inr (.inl li))), (a5, .inl (cI, 120, .inl st))] Hc) (hD0 : va_D nT [(m0, .inr (3, [.ref a0, .ref a1, .ref a2, .ref a3, .ref a4, .ref a5, .int (mi 0), .int (mi 1), .int (mi 2), .int (mi 3), .int (mi 4), .int (mi 5), .int (mi 6), .int (mi 7), .int (mi 8)])), (a0, .inl (cI, 6, .inl on)), (a1, .inl (cI, 7, .inl kd)), (a2, .inl (cI, 7, .inl sz)), (a3, .inl (cL, 280, .inr (.inl fr))), (a4, .inl (cL, 40, .inr (.inl li))), (a5, .inl (cI, 120, .inl st))]) (hN : ∀ q, va_A [(m0, .inr (3, [.ref a0, .ref a1, .ref a2, .ref a3, .ref a4, .ref a5, .int (mi 0), .int (mi 1), .int (mi 2), .int (mi 3), .int (mi 4), .int (mi 5), .int (mi 6), .int (mi 7), .int (mi 8)])), (a0, .inl (cI, 6, .inl on)), (a1, .inl (cI, 7, .inl kd)), (a2, .inl (cI, 7, .inl sz)), (a3, .inl (cL, 280, .inr (.inl fr))), (a4, .inl (cL, 40, .inr (.inl li))), (a5, .inl (cI, 120, .inl st))] Hc.size q → N0 ≤ q) (hO : OnOk on) (hZ : SzOk sz) : Met l yX3_look wsX3_look ({ frames := 2, cells := 0, slots := 0, locals := 60 }) (Pq D cI cL cQ N0 sa [.ref m0, .int h0, .int w0] Hc) (va_Qi (fun (r : Int32) (u : MS) => (¬ (okH h0 ∧ (w0 = 0 ∨ w0 = 1 ∨ w0 = 2)) ∧ u = (on, kd, sz, fr, li, st, miC mi 1)) ∨ (∃ j1 : Nat, j1 < 6 ∧ h0 = nI j1 ∧ ((w0 = 0 ∧ r = mK on kd j1) ∨ (w0 = 1 ∧ (((1 ≤ mK on kd j1 ∧ mK on kd j1 ≤ 4) ∧ ∃ p1 z1 : Nat, p1 < 7 ∧ z1 ≤ 40 ∧ on j1 = nI p1 ∧ sz p1 = nI z1 ∧ r = nI z1) ∨ (¬ (1 ≤ mK on kd j1 ∧ mK on kd j1 ≤ 4) ∧ r = -1))) ∨ (w0 = 2 ∧ r = nI (mC on j1 6))) ∧ u = (on, kd, sz, fr, li, st, miC mi 0))) (fun (u : MS) (t : State) => va_P D vwCl [(m0, .inr (3, [.ref a0, .ref a1, .ref a2, .ref a3, .ref a4, .ref a5, .int (u.2.2.2.2.2.2 0), .int (u.2.2.2.2.2.2 1), .int (u.2.2.2.2.2.2 2), .int (u.2.2.2.2.2.2 3), .int (u.2.2.2.2.2.2 4), .int (u.2.2.2.2.2.2 5), .int (u.2.2.2.2.2.2 6), .int (u.2.2.2.2.2.2 7), .int (u.2.2.2.2.2.2 8)])), (a0, .inl (cI, 6, .inl u.1)), (a1, .inl (cI, 7, .inl u.2.1)), (a2, .inl (cI, 7, .inl u.2.2.1)), (a3, .inl (cL, 280, .inr (.inl u.2.2.2.1))), (a4, .inl (cL, 40, .inr (.inl u.2.2.2.2.1))), (a5, .inl (cI, 120, .inl u.2.2.2.2.2.1))] t.heap ∧ va_D (va_A [(m0, .inr (3, [.ref a0, .ref a1, .ref a2, .ref a3, .ref a4, .ref a5, .int (mi 0), .int (mi 1), .int (mi 2), .int (mi 3), .int (mi 4), .int (mi 5), .int (mi 6), .int (mi 7), .int (mi 8)])), (a0, .inl (cI, 6, .inl on)), (a1, .inl (cI, 7, .inl kd)), (a2, .inl (cI, 7, .inl sz)), (a3, .inl (cL, 280, .inr (.inl fr))), (a4, .inl (cL, 40, .inr (.inl li))), (a5, .inl (cI, 120, .inl st))] Hc.size) [(m0, .inr (3, [.ref a0, .ref a1, .ref a2, .ref a3, .ref a4, .ref a5, .int (u.2.2.2.2.2.2 0), .int (u.2.2.2.2.2.2 1), .int (u.2.2.2.2.2.2 2), .int (u.2.2.2.2.2.2 3), .int (u.2.2.2.2.2.2 4), .int (u.2.2.2.2.2.2 5), .int (u.2.2.2.2.2.2 6), .int (u.2.2.2.2.2.2 7), .int (u.2.2.2.2.2.2 8)])), (a0, .inl (cI, 6, .inl u.1)), (a1, .inl (cI, 7, .inl u.2.1)), (a2, .inl (cI, 7, .inl u.2.2.1)), (a3, .inl (cL, 280, .inr (.inl u.2.2.2.1))), (a4, .inl (cL, 40, .inr (.inl u.2.2.2.2.1))), (a5, .inl (cI, 120, .inl u.2.2.2.2.2.1))]) (va_A [(m0, .inr (3, [.ref a0, .ref a1, .ref a2, .ref a3, .ref a4, .ref a5, .int (mi 0), .int (mi 1), .int (mi 2), .int (mi 3), .int (mi 4), .int (mi 5), .int (mi 6), .int (mi 7), .int (mi 8)])), (a0, .inl (cI, 6, .inl on)), (a1, .inl (cI, 7, .inl kd)), (a2, .inl (cI, 7, .inl sz)), (a3, .inl (cL, 280, .inr (.inl fr))), (a4, .inl (cL, 40, .inr (.inl li))), (a5, .inl (cI, 120, .inl st))] Hc.size)) 0 0 (va_A [(m0, .inr (3, [.ref a0, .ref a1, .ref a2, .ref a3, .ref a4, .ref a5, .int (mi 0), .int (mi 1), .int (mi 2), .int (mi 3), .int (mi 4), .int (mi 5), .int (mi 6), .int (mi 7), .int (mi 8)])), (a0, .inl (cI, 6, .inl on)), (a1, .inl (cI, 7, .inl kd)), (a2, .inl (cI, 7, .inl sz)), (a3, .inl (cL, 280, .inr (.inl fr))), (a4, .inl (cL, 40, .inr (.inl li))), (a5, .inl (cI, 120, .inl st))] Hc.size) := by
  refine Met.ofW (cc := cX3_look) (maxL := 5) (ret := (some .int)) (by decide) rfl ?_
  intro p e s m args below meth c s₁ B hml hv
  obtain ⟨rfl, hH, hC⟩ := hv
  have hx := B.exec
  have hb := B.bytes
  have hr := B.returns
  have hts := atoms_spec (ws := wsX3_look) B.pre
  have hown : s.vm.findClass RX3 = some m.cls := findClass_of_methodNamed B.named
  have hlocks := B.notSynchronized
  subst hH
  have hK := hC.K
  have hl := lv_entry ([.ref m0, .int h0, .int w0]) (n := 5) (Nat.le_of_ble_eq_true rfl)
  rw [lg_entry_eq]
  generalize (lg_sl ([.ref m0, .int h0, .int w0]) ++ List.replicate (5 - (lg_sl ([.ref m0, .int h0, .int w0])).length) Slot.unset).toArray = ls at hl ⊢
  have hl : lv_has ls 5 [(0, .ref m0), (1, .int h0), (2, .int w0)] := hl
  have hP : va_P D vwCl [(m0, .inr (3, [.ref a0, .ref a1, .ref a2, .ref a3, .ref a4, .ref a5, .int (mi 0), .int (mi 1), .int (mi 2), .int (mi 3), .int (mi 4), .int (mi 5), .int (mi 6), .int (mi 7), .int (mi 8)])), (a0, .inl (cI, 6, .inl on)), (a1, .inl (cI, 7, .inl kd)), (a2, .inl (cI, 7, .inl sz)), (a3, .inl (cL, 280, .inr (.inl fr))), (a4, .inl (cL, 40, .inr (.inl li))), (a5, .inl (cI, 120, .inl st))] s.heap := hP
  have hD := hD0.self (sz := s.heap.size)
  generalize hAe : va_A [(m0, .inr (3, [.ref a0, .ref a1, .ref a2, .ref a3, .ref a4, .ref a5, .int (mi 0), .int (mi 1), .int (mi 2), .int (mi 3), .int (mi 4), .int (mi 5), .int (mi 6), .int (mi 7), .int (mi 8)])), (a0, .inl (cI, 6, .inl on)), (a1, .inl (cI, 7, .inl kd)), (a2, .inl (cI, 7, .inl sz)), (a3, .inl (cL, 280, .inr (.inl fr))), (a4, .inl (cL, 40, .inr (.inl li))), (a5, .inl (cI, 120, .inl st))] s.heap.size = A at hD hN ⊢
  have hA : ∀ q : Nat, s.heap.size ≤ q → A q := fun q h => by rw [← hAe]; exact Or.inr h
  have hS : va_S A s.heap s.heap [] := va_S.rf
  refine lv_aload_n hx hb dX3_look_0 rfl (lv_at hl 0 rfl) ?_
  refine lv_iload_n hx hb dX3_look_1 rfl (lv_at hl 1 rfl) ?_
  refine ro_i (va_runS (As := [.int h0]) (rest := [.ref m0]) ⟨hx, hb, hml, hown, hts⟩ (c_X3_isHook l (v0 := h0)) (va_cwS 1 hts gX3_look_X3_isHook rfl rfl rfl (by decide +kernel) ⟨Nat.le_of_ble_eq_true rfl, Nat.le_of_ble_eq_true rfl⟩) (Pq.S hC hS hN) rfl rfl hl.1 rfl (lv_room (Nat.le_of_ble_eq_true rfl)) dX3_look_2 ⟨Nat.le_of_ble_eq_true rfl, Nat.le_of_ble_eq_true rfl⟩) hS (fun r_1 locs hw hS => ?_)
  have hw : r_1 = tB (0 ≤ h0 ∧ h0 ≤ 5) := hw
  subst hw
  refine lv_if_eq (tgt := 21) hx hb dX3_look_5 (by decide) (fun c_5 => ?_) (fun c_5 => ?_)
  · have c_5 := tB_0.mp c_5
    refine lv_iconst (v := 1) hx hb dX3_look_21 (by decide) ?_
    refine va_put (D := D) (ci := 3) (v := .int 1) (ty := .int) (C := RX3) (T := TX3) (N := 15) hx hb hts iw_X3_look_X3 tyX3 tyX3_ok nmX3 hown hK hP hD hS 0 rfl rfl 14 (by decide) (hts _ lk_X3_look_Cond_fieldLink_RX3_29_SpliceRoomModel_code_I_) (fun _ h9 => h9) rfl (by decide +kernel) rfl rfl (Nat.le_of_ble_eq_true rfl) dX3_look_22 (fun H locs hP hD hS => ?_)
    have hP : va_P D vwCl [(m0, .inr (3, [.ref a0, .ref a1, .ref a2, .ref a3, .ref a4, .ref a5, .int (mi 0), .int (mi 1), .int (mi 2), .int (mi 3), .int (mi 4), .int (mi 5), .int (mi 6), .int (mi 7), .int 1])), (a0, .inl (cI, 6, .inl on)), (a1, .inl (cI, 7, .inl kd)), (a2, .inl (cI, 7, .inl sz)), (a3, .inl (cL, 280, .inr (.inl fr))), (a4, .inl (cL, 40, .inr (.inl li))), (a5, .inl (cI, 120, .inl st))] H := hP
    have hD : va_D A [(m0, .inr (3, [.ref a0, .ref a1, .ref a2, .ref a3, .ref a4, .ref a5, .int (mi 0), .int (mi 1), .int (mi 2), .int (mi 3), .int (mi 4), .int (mi 5), .int (mi 6), .int (mi 7), .int 1])), (a0, .inl (cI, 6, .inl on)), (a1, .inl (cI, 7, .inl kd)), (a2, .inl (cI, 7, .inl sz)), (a3, .inl (cL, 280, .inr (.inl fr))), (a4, .inl (cL, 40, .inr (.inl li))), (a5, .inl (cI, 120, .inl st))] := hD
    refine lv_aload_n hx hb dX3_look_25 rfl (lv_at hl 0 rfl) ?_
    refine va_get (D := D) (ci := 3) (v := .int 1) (C := RX3) (T := TX3) (N := 15) hx hb hts iw_X3_look_X3 hown hK hP 0 rfl rfl 14 (by decide) (hts _ lk_X3_look_Cond_fieldLink_RX3_29_SpliceRoomModel_code_I_) (fun _ h9 => h9) rfl dX3_look_26 ?_
    refine lv_if_le (tgt := 34) hx hb dX3_look_29 (by decide) (fun c9 => absurd c9 (by decide)) (fun _ => ?_)
    refine lv_iconst (v := 0) hx hb dX3_look_32 (by decide) ?_
    exact W.iret (v := 0) hx hb hr (fun t ht hW => ⟨⟨_, (on, kd, sz, fr, li, st, mi9 (mi 0) (mi 1) (mi 2) (mi 3) (mi 4) (mi 5) (mi 6) (mi 7) 1), rfl, Or.inl ⟨fun h9 => c_5 (okH_iff.mpr h9.1), rfl⟩, ⟨by rw [ht]; exact hP, hD⟩⟩, hS.F ht⟩) hS.2.2 dX3_look_33
  · have c_5 := tB_n.mp c_5
    obtain ⟨j, hj, rfl⟩ := okH_iff.mp c_5
    refine lv_iload_n hx hb dX3_look_8 rfl (lv_at hl 2 rfl) ?_
    refine lv_iconst (v := 0) hx hb dX3_look_9 (by decide) ?_
    refine lv_iconst (v := 2) hx hb dX3_look_10 (by decide) ?_
    refine ro_i (va_runS (As := [.int w0, .int 0, .int 2]) (rest := [.ref m0]) ⟨hx, hb, hml, hown, hts⟩ (c_X3_in l (v0 := w0) (l0 := 0) (u0 := 2)) (va_cwS 3 hts gX3_look_X3_in rfl rfl rfl (by decide +kernel) ⟨Nat.le_of_ble_eq_true rfl, Nat.le_of_ble_eq_true rfl⟩) (Pq.S hC hS hN) rfl rfl hl.1 rfl (lv_room (Nat.le_of_ble_eq_true rfl)) dX3_look_11 ⟨Nat.le_of_ble_eq_true rfl, Nat.le_of_ble_eq_true rfl⟩) hS (fun r_2 locs hw hS => ?_)
    have hw : r_2 = tB (0 ≤ w0 ∧ w0 ≤ 2) := hw
    subst hw
    refine lv_if_eq (tgt := 21) hx hb dX3_look_14 (by decide) (fun c_14 => ?_) (fun c_14 => ?_)
    · have c_14 := tB_0.mp c_14
      refine lv_iconst (v := 1) hx hb dX3_look_21 (by decide) ?_
      refine va_put (D := D) (ci := 3) (v := .int 1) (ty := .int) (C := RX3) (T := TX3) (N := 15) hx hb hts iw_X3_look_X3 tyX3 tyX3_ok nmX3 hown hK hP hD hS 0 rfl rfl 14 (by decide) (hts _ lk_X3_look_Cond_fieldLink_RX3_29_SpliceRoomModel_code_I_) (fun _ h9 => h9) rfl (by decide +kernel) rfl rfl (Nat.le_of_ble_eq_true rfl) dX3_look_22 (fun H locs hP hD hS => ?_)
      have hP : va_P D vwCl [(m0, .inr (3, [.ref a0, .ref a1, .ref a2, .ref a3, .ref a4, .ref a5, .int (mi 0), .int (mi 1), .int (mi 2), .int (mi 3), .int (mi 4), .int (mi 5), .int (mi 6), .int (mi 7), .int 1])), (a0, .inl (cI, 6, .inl on)), (a1, .inl (cI, 7, .inl kd)), (a2, .inl (cI, 7, .inl sz)), (a3, .inl (cL, 280, .inr (.inl fr))), (a4, .inl (cL, 40, .inr (.inl li))), (a5, .inl (cI, 120, .inl st))] H := hP
      have hD : va_D A [(m0, .inr (3, [.ref a0, .ref a1, .ref a2, .ref a3, .ref a4, .ref a5, .int (mi 0), .int (mi 1), .int (mi 2), .int (mi 3), .int (mi 4), .int (mi 5), .int (mi 6), .int (mi 7), .int 1])), (a0, .inl (cI, 6, .inl on)), (a1, .inl (cI, 7, .inl kd)), (a2, .inl (cI, 7, .inl sz)), (a3, .inl (cL, 280, .inr (.inl fr))), (a4, .inl (cL, 40, .inr (.inl li))), (a5, .inl (cI, 120, .inl st))] := hD
      refine lv_aload_n hx hb dX3_look_25 rfl (lv_at hl 0 rfl) ?_
      refine va_get (D := D) (ci := 3) (v := .int 1) (C := RX3) (T := TX3) (N := 15) hx hb hts iw_X3_look_X3 hown hK hP 0 rfl rfl 14 (by decide) (hts _ lk_X3_look_Cond_fieldLink_RX3_29_SpliceRoomModel_code_I_) (fun _ h9 => h9) rfl dX3_look_26 ?_
      refine lv_if_le (tgt := 34) hx hb dX3_look_29 (by decide) (fun c9 => absurd c9 (by decide)) (fun _ => ?_)
      refine lv_iconst (v := 0) hx hb dX3_look_32 (by decide) ?_
      exact W.iret (v := 0) hx hb hr (fun t ht hW => ⟨⟨_, (on, kd, sz, fr, li, st, mi9 (mi 0) (mi 1) (mi 2) (mi 3) (mi 4) (mi 5) (mi 6) (mi 7) 1), rfl, Or.inl ⟨fun h9 => c_14 (h9.2.elim (fun e => by rw [e]; decide) (fun e => e.elim (fun e => by rw [e]; decide) (fun e => by rw [e]; decide))), rfl⟩, ⟨by rw [ht]; exact hP, hD⟩⟩, hS.F ht⟩) hS.2.2 dX3_look_33
    · have c_14 := tB_n.mp c_14
      refine lv_iconst (v := 0) hx hb dX3_look_17 (by decide) ?_
      refine lv_goto (tgt := 22) hx hb dX3_look_18 (by decide) ?_
      refine va_put (D := D) (ci := 3) (v := .int 0) (ty := .int) (C := RX3) (T := TX3) (N := 15) hx hb hts iw_X3_look_X3 tyX3 tyX3_ok nmX3 hown hK hP hD hS 0 rfl rfl 14 (by decide) (hts _ lk_X3_look_Cond_fieldLink_RX3_29_SpliceRoomModel_code_I_) (fun _ h9 => h9) rfl (by decide +kernel) rfl rfl (Nat.le_of_ble_eq_true rfl) dX3_look_22 (fun H locs hP hD hS => ?_)
      have hP : va_P D vwCl [(m0, .inr (3, [.ref a0, .ref a1, .ref a2, .ref a3, .ref a4, .ref a5, .int (mi 0), .int (mi 1), .int (mi 2), .int (mi 3), .int (mi 4), .int (mi 5), .int (mi 6), .int (mi 7), .int 0])), (a0, .inl (cI, 6, .inl on)), (a1, .inl (cI, 7, .inl kd)), (a2, .inl (cI, 7, .inl sz)), (a3, .inl (cL, 280, .inr (.inl fr))), (a4, .inl (cL, 40, .inr (.inl li))), (a5, .inl (cI, 120, .inl st))] H := hP
      have hD : va_D A [(m0, .inr (3, [.ref a0, .ref a1, .ref a2, .ref a3, .ref a4, .ref a5, .int (mi 0), .int (mi 1), .int (mi 2), .int (mi 3), .int (mi 4), .int (mi 5), .int (mi 6), .int (mi 7), .int 0])), (a0, .inl (cI, 6, .inl on)), (a1, .inl (cI, 7, .inl kd)), (a2, .inl (cI, 7, .inl sz)), (a3, .inl (cL, 280, .inr (.inl fr))), (a4, .inl (cL, 40, .inr (.inl li))), (a5, .inl (cI, 120, .inl st))] := hD
      refine lv_aload_n hx hb dX3_look_25 rfl (lv_at hl 0 rfl) ?_
      refine va_get (D := D) (ci := 3) (v := .int 0) (C := RX3) (T := TX3) (N := 15) hx hb hts iw_X3_look_X3 hown hK hP 0 rfl rfl 14 (by decide) (hts _ lk_X3_look_Cond_fieldLink_RX3_29_SpliceRoomModel_code_I_) (fun _ h9 => h9) rfl dX3_look_26 ?_
      refine lv_if_le (tgt := 34) hx hb dX3_look_29 (by decide) (fun _ => ?_) (fun c9 => absurd (by decide) c9)
      refine lv_iload_n hx hb dX3_look_34 rfl (lv_at hl 2 rfl) ?_
      refine lv_if_ne (tgt := 44) hx hb dX3_look_35 (by decide) (fun c_35 => ?_) (fun c_35 => ?_)
      · refine lv_iload_n hx hb dX3_look_44 rfl (lv_at hl 2 rfl) ?_
        refine lv_iconst (v := 1) hx hb dX3_look_45 (by decide) ?_
        refine lv_icmp_ne (tgt := 67) hx hb dX3_look_46 (by decide) (fun c_46 => ?_) (fun c_46 => ?_)
        · refine lv_iconst (v := 0) hx hb dX3_look_67 (by decide) ?_
          refine lv_istore_n (lv' := [(3, .int 0), (0, .ref m0), (1, .int (nI j)), (2, .int w0)]) hx hb dX3_look_68 rfl hl (by decide) rfl (fun ls hl => ?_)
          refine lv_iconst (v := 0) hx hb dX3_look_69 (by decide) ?_
          refine lv_istore (lv' := [(4, .int 0), (3, .int 0), (0, .ref m0), (1, .int (nI j)), (2, .int w0)]) hx hb dX3_look_70 hl (by decide) rfl (fun ls hl => ?_)
          have c2 : w0 = 2 := (in02 c_14).resolve_left (fun e => e.elim c_35 c_46)
          have loop : ∀ (n i : Nat) (locs : List Loc) (ls : Array Slot), i ≤ 6 → 7 ≤ i + n → lv_has ls 5 [(4, .int (nI i)), (3, .int (nI (mC on j i))), (0, .ref m0), (1, .int (nI j)), (2, .int w0)] → va_S A s.heap H locs → W p l e (headSpec wsX3_look ({ frames := 2, cells := 0, slots := 0, locals := 60 })).room s m ([.ref m0, .int (nI j), .int w0] : List Value).toArray below meth c H locs 0 0 (MQ below (va_Qi (fun (r : Int32) (u : MS) => (¬ (okH (nI j) ∧ (w0 = 0 ∨ w0 = 1 ∨ w0 = 2)) ∧ u = (on, kd, sz, fr, li, st, miC mi 1)) ∨ (∃ j1 : Nat, j1 < 6 ∧ (nI j) = nI j1 ∧ ((w0 = 0 ∧ r = mK on kd j1) ∨ (w0 = 1 ∧ (((1 ≤ mK on kd j1 ∧ mK on kd j1 ≤ 4) ∧ ∃ p1 z1 : Nat, p1 < 7 ∧ z1 ≤ 40 ∧ on j1 = nI p1 ∧ sz p1 = nI z1 ∧ r = nI z1) ∨ (¬ (1 ≤ mK on kd j1 ∧ mK on kd j1 ≤ 4) ∧ r = -1))) ∨ (w0 = 2 ∧ r = nI (mC on j1 6))) ∧ u = (on, kd, sz, fr, li, st, miC mi 0))) (fun (u : MS) (t : State) => va_P D vwCl [(m0, .inr (3, [.ref a0, .ref a1, .ref a2, .ref a3, .ref a4, .ref a5, .int (u.2.2.2.2.2.2 0), .int (u.2.2.2.2.2.2 1), .int (u.2.2.2.2.2.2 2), .int (u.2.2.2.2.2.2 3), .int (u.2.2.2.2.2.2 4), .int (u.2.2.2.2.2.2 5), .int (u.2.2.2.2.2.2 6), .int (u.2.2.2.2.2.2 7), .int (u.2.2.2.2.2.2 8)])), (a0, .inl (cI, 6, .inl u.1)), (a1, .inl (cI, 7, .inl u.2.1)), (a2, .inl (cI, 7, .inl u.2.2.1)), (a3, .inl (cL, 280, .inr (.inl u.2.2.2.1))), (a4, .inl (cL, 40, .inr (.inl u.2.2.2.2.1))), (a5, .inl (cI, 120, .inl u.2.2.2.2.2.1))] t.heap ∧ va_D A [(m0, .inr (3, [.ref a0, .ref a1, .ref a2, .ref a3, .ref a4, .ref a5, .int (u.2.2.2.2.2.2 0), .int (u.2.2.2.2.2.2 1), .int (u.2.2.2.2.2.2 2), .int (u.2.2.2.2.2.2 3), .int (u.2.2.2.2.2.2 4), .int (u.2.2.2.2.2.2 5), .int (u.2.2.2.2.2.2 6), .int (u.2.2.2.2.2.2 7), .int (u.2.2.2.2.2.2 8)])), (a0, .inl (cI, 6, .inl u.1)), (a1, .inl (cI, 7, .inl u.2.1)), (a2, .inl (cI, 7, .inl u.2.2.1)), (a3, .inl (cL, 280, .inr (.inl u.2.2.2.1))), (a4, .inl (cL, 40, .inr (.inl u.2.2.2.2.1))), (a5, .inl (cI, 120, .inl u.2.2.2.2.2.1))]) A) ([.ref m0, .int (nI j), .int w0] : List Value).toArray s 0 0 A) (F0 m 72 ls []) := by
            intro n
            induction n with
            | zero => intro i locs ls h1 h2; exact absurd h2 (by omega)
            | succ n ih =>
              intro i locs ls hi hn hl hS
              refine lv_iload hx hb dX3_look_72 (lv_at hl 0 rfl) ?_
              refine lv_bipush (v := 6) hx hb dX3_look_74 (by decide) ?_
              refine lv_icmp_ge (tgt := 119) hx hb dX3_look_76 (by decide) (fun c_76 => ?_) (fun c_76 => ?_)
              · have e6 : i = 6 := by have := (nI_leI (a := 6) (b := i) (by decide) (by omega)).mp c_76; omega
                subst e6
                refine lv_iload_n hx hb dX3_look_119 rfl (lv_at hl 1 rfl) ?_
                exact W.iret (v := nI (mC on j 6)) hx hb hr (fun t ht hW => ⟨⟨_, (on, kd, sz, fr, li, st, mi9 (mi 0) (mi 1) (mi 2) (mi 3) (mi 4) (mi 5) (mi 6) (mi 7) 0), rfl, Or.inr ⟨j, hj, rfl, Or.inr (Or.inr ⟨c2, rfl⟩), rfl⟩, ⟨by rw [ht]; exact hP, hD⟩⟩, hS.F ht⟩) hS.2.2 dX3_look_120
              · have hlt : i < 6 := Nat.lt_of_not_le (fun z9 => c_76 (nI_le z9 (by omega)))
                refine lv_aload_n hx hb dX3_look_79 rfl (lv_at hl 2 rfl) ?_
                refine va_get (D := D) (ci := 3) (v := .ref a0) (C := RX3) (T := TX3) (N := 15) hx hb hts iw_X3_look_X3 hown hK hP 0 rfl rfl 0 (by decide) (hts _ lk_X3_look_Cond_fieldLink_RX3_7_SpliceRoomModel_on_I_) (fun _ h9 => h9) rfl dX3_look_80 ?_
                refine lv_iload_n hx hb dX3_look_83 rfl (lv_at hl 3 rfl) ?_
                refine va_iald (D := D) hx hb hK hP 1 0 rfl rfl (vp_in_nI hj (by decide)) dX3_look_84 ?_
                refine lv_topi (fun y_3 e9 => ?_)
                have e9 : y_3 = on j := e9.trans (by rw [nI_clamp (by omega)])
                subst e9
                refine lv_iconst (v := (-1)) hx hb dX3_look_85 (by decide) ?_
                refine lv_icmp_eq (tgt := 111) hx hb dX3_look_86 (by decide) (fun c_86 => ?_) (fun c_86 => ?_)
                · have ec : mC on j (i + 1) = mC on j i := by show mC on j i + _ = _; rw [if_neg (fun z9 => z9.1 c_86)]; rfl
                  refine lv_iload_n hx hb dX3_look_111 rfl (lv_at hl 1 rfl) ?_
                  refine lv_topi (fun y_4 e9 => ?_)
                  have e9 : y_4 = nI (mC on j (i + 1)) := e9.trans (by rw [ec])
                  subst e9
                  refine lv_istore_n (lv' := [(3, .int (nI (mC on j (i + 1)))), (4, .int (nI i)), (0, .ref m0), (1, .int (nI j)), (2, .int w0)]) hx hb dX3_look_112 rfl hl (by decide) rfl (fun ls hl => ?_)
                  refine lv_iinc (v := nI (i + 1)) (lv' := [(4, .int (nI (i + 1))), (3, .int (nI (mC on j (i + 1)))), (0, .ref m0), (1, .int (nI j)), (2, .int w0)]) hx hb dX3_look_113 hl (k := 1) rfl (nI_1 i) (by decide) rfl (fun ls hl => ?_)
                  refine lv_goto (tgt := 72) hx hb dX3_look_116 (by decide) ?_
                  exact ih (i + 1) _ _ (by omega) (by omega) (lv_sub hl [0, 1, 2, 3, 4] rfl) hS
                · refine lv_aload_n hx hb dX3_look_89 rfl (lv_at hl 2 rfl) ?_
                  refine va_get (D := D) (ci := 3) (v := .ref a0) (C := RX3) (T := TX3) (N := 15) hx hb hts iw_X3_look_X3 hown hK hP 0 rfl rfl 0 (by decide) (hts _ lk_X3_look_Cond_fieldLink_RX3_7_SpliceRoomModel_on_I_) (fun _ h9 => h9) rfl dX3_look_90 ?_
                  refine lv_iload hx hb dX3_look_93 (lv_at hl 0 rfl) ?_
                  refine va_iald (D := D) hx hb hK hP 1 0 rfl rfl (vp_in_nI hlt (by decide)) dX3_look_95 ?_
                  refine lv_topi (fun y_5 e9 => ?_)
                  have e9 : y_5 = on i := e9.trans (by rw [nI_clamp (by omega)])
                  subst e9
                  refine lv_aload_n hx hb dX3_look_96 rfl (lv_at hl 2 rfl) ?_
                  refine va_get (D := D) (ci := 3) (v := .ref a0) (C := RX3) (T := TX3) (N := 15) hx hb hts iw_X3_look_X3 hown hK hP 0 rfl rfl 0 (by decide) (hts _ lk_X3_look_Cond_fieldLink_RX3_7_SpliceRoomModel_on_I_) (fun _ h9 => h9) rfl dX3_look_97 ?_
                  refine lv_iload_n hx hb dX3_look_100 rfl (lv_at hl 3 rfl) ?_
                  refine va_iald (D := D) hx hb hK hP 1 0 rfl rfl (vp_in_nI hj (by decide)) dX3_look_101 ?_
                  refine lv_topi (fun y_6 e9 => ?_)
                  have e9 : y_6 = on j := e9.trans (by rw [nI_clamp (by omega)])
                  subst e9
                  refine lv_icmp_ne (tgt := 111) hx hb dX3_look_102 (by decide) (fun c_102 => ?_) (fun c_102 => ?_)
                  · have ec : mC on j (i + 1) = mC on j i := by show mC on j i + _ = _; rw [if_neg (fun z9 => c_102 z9.2)]; rfl
                    refine lv_iload_n hx hb dX3_look_111 rfl (lv_at hl 1 rfl) ?_
                    refine lv_topi (fun y_7 e9 => ?_)
                    have e9 : y_7 = nI (mC on j (i + 1)) := e9.trans (by rw [ec])
                    subst e9
                    refine lv_istore_n (lv' := [(3, .int (nI (mC on j (i + 1)))), (4, .int (nI i)), (0, .ref m0), (1, .int (nI j)), (2, .int w0)]) hx hb dX3_look_112 rfl hl (by decide) rfl (fun ls hl => ?_)
                    refine lv_iinc (v := nI (i + 1)) (lv' := [(4, .int (nI (i + 1))), (3, .int (nI (mC on j (i + 1)))), (0, .ref m0), (1, .int (nI j)), (2, .int w0)]) hx hb dX3_look_113 hl (k := 1) rfl (nI_1 i) (by decide) rfl (fun ls hl => ?_)
                    refine lv_goto (tgt := 72) hx hb dX3_look_116 (by decide) ?_
                    exact ih (i + 1) _ _ (by omega) (by omega) (lv_sub hl [0, 1, 2, 3, 4] rfl) hS
                  · have ec : mC on j (i + 1) = mC on j i + 1 := by show mC on j i + _ = _; rw [if_pos ⟨c_86, c_102⟩]
                    refine lv_iload_n hx hb dX3_look_105 rfl (lv_at hl 1 rfl) ?_
                    refine lv_iconst (v := 1) hx hb dX3_look_106 (by decide) ?_
                    refine lv_iadd hx hb dX3_look_107 ?_
                    refine lv_goto (tgt := 112) hx hb dX3_look_108 (by decide) ?_
                    refine lv_topi (fun y_8 e9 => ?_)
                    have e9 : y_8 = nI (mC on j (i + 1)) := e9.trans (by rw [ec]; exact nI_1 _)
                    subst e9
                    refine lv_istore_n (lv' := [(3, .int (nI (mC on j (i + 1)))), (4, .int (nI i)), (0, .ref m0), (1, .int (nI j)), (2, .int w0)]) hx hb dX3_look_112 rfl hl (by decide) rfl (fun ls hl => ?_)
                    refine lv_iinc (v := nI (i + 1)) (lv' := [(4, .int (nI (i + 1))), (3, .int (nI (mC on j (i + 1)))), (0, .ref m0), (1, .int (nI j)), (2, .int w0)]) hx hb dX3_look_113 hl (k := 1) rfl (nI_1 i) (by decide) rfl (fun ls hl => ?_)
                    refine lv_goto (tgt := 72) hx hb dX3_look_116 (by decide) ?_
                    exact ih (i + 1) _ _ (by omega) (by omega) (lv_sub hl [0, 1, 2, 3, 4] rfl) hS
          exact loop 7 0 _ _ (by omega) (by omega) (lv_sub hl [0, 1, 2, 3, 4] rfl) hS
        · refine lv_aload_n hx hb dX3_look_49 rfl (lv_at hl 0 rfl) ?_
          refine lv_iload_n hx hb dX3_look_50 rfl (lv_at hl 1 rfl) ?_
          refine ro_i (va_runV (As := [.int (nI j)]) (rest := []) ⟨hx, hb, hml, hown, hts⟩ (c_X3_hasRow l (j := j) (mi := mi9 (mi 0) (mi 1) (mi 2) (mi 3) (mi 4) (mi 5) (mi 6) (mi 7) 0) (hP.sub [0, 1, 2, 3, 4, 5, 6] rfl) hO hj) (cwV 1 hts gX3_look_X3_hasRow rfl rfl rfl (by decide +kernel) ⟨Nat.le_of_ble_eq_true rfl, Nat.le_of_ble_eq_true rfl⟩) (Pq.V hC hS hN (va_recv hK hP (ci := 3) (q0 := 0) rfl rfl)) rfl rfl hl.1 rfl (lv_room (Nat.le_of_ble_eq_true rfl)) dX3_look_51 ⟨Nat.le_of_ble_eq_true rfl, Nat.le_of_ble_eq_true rfl⟩) hS (fun r_9 locs hw hS => ?_)
          have hw : r_9 = tB (1 ≤ mK on kd j ∧ mK on kd j ≤ 4) := hw
          subst hw
          refine lv_if_eq (tgt := 65) hx hb dX3_look_54 (by decide) (fun c_54 => ?_) (fun c_54 => ?_)
          · have c_54 := tB_0.mp c_54
            refine lv_iconst (v := (-1)) hx hb dX3_look_65 (by decide) ?_
            exact W.iret (v := (-1)) hx hb hr (fun t ht hW => ⟨⟨_, (on, kd, sz, fr, li, st, mi9 (mi 0) (mi 1) (mi 2) (mi 3) (mi 4) (mi 5) (mi 6) (mi 7) 0), rfl, Or.inr ⟨j, hj, rfl, Or.inr (Or.inl ⟨c_46, Or.inr ⟨c_54, rfl⟩⟩), rfl⟩, ⟨by rw [ht]; exact hP, hD⟩⟩, hS.F ht⟩) hS.2.2 dX3_look_66
          · have c_54 := tB_n.mp c_54
            obtain ⟨pp, hp, ep⟩ := mK_n hO hj (kd := kd) (fun e9 => by rw [e9] at c_54; exact absurd c_54.1 (by decide))
            obtain ⟨z, hz, ez⟩ := hZ pp hp
            have ek : mK on kd j = kd pp := mK_p hp ep
            refine lv_aload_n hx hb dX3_look_57 rfl (lv_at hl 0 rfl) ?_
            refine lv_iload_n hx hb dX3_look_58 rfl (lv_at hl 1 rfl) ?_
            refine ro_i (va_runV (As := [.int (nI j)]) (rest := []) ⟨hx, hb, hml, hown, hts⟩ (c_X3_sizeAt l (j := j) (mi := mi9 (mi 0) (mi 1) (mi 2) (mi 3) (mi 4) (mi 5) (mi 6) (mi 7) 0) (hP.sub [0, 1, 2, 3, 4, 5, 6] rfl) hj hp ep) (cwV 1 hts gX3_look_X3_sizeAt rfl rfl rfl (by decide +kernel) ⟨Nat.le_of_ble_eq_true rfl, Nat.le_of_ble_eq_true rfl⟩) (Pq.V hC hS hN (va_recv hK hP (ci := 3) (q0 := 0) rfl rfl)) rfl rfl hl.1 rfl (lv_room (Nat.le_of_ble_eq_true rfl)) dX3_look_59 ⟨Nat.le_of_ble_eq_true rfl, Nat.le_of_ble_eq_true rfl⟩) hS (fun r_10 locs hw hS => ?_)
            have hw : r_10 = sz pp := hw
            subst hw
            refine lv_goto (tgt := 66) hx hb dX3_look_62 (by decide) ?_
            exact W.iret (v := sz pp) hx hb hr (fun t ht hW => ⟨⟨_, (on, kd, sz, fr, li, st, mi9 (mi 0) (mi 1) (mi 2) (mi 3) (mi 4) (mi 5) (mi 6) (mi 7) 0), rfl, Or.inr ⟨j, hj, rfl, Or.inr (Or.inl ⟨c_46, Or.inl ⟨c_54, pp, z, hp, hz, ep, ez, ez⟩⟩), rfl⟩, ⟨by rw [ht]; exact hP, hD⟩⟩, hS.F ht⟩) hS.2.2 dX3_look_66
      · refine lv_aload_n hx hb dX3_look_38 rfl (lv_at hl 0 rfl) ?_
        refine lv_iload_n hx hb dX3_look_39 rfl (lv_at hl 1 rfl) ?_
        refine ro_i (va_runV (As := [.int (nI j)]) (rest := []) ⟨hx, hb, hml, hown, hts⟩ (c_X3_kindAt l (j := j) (mi := mi9 (mi 0) (mi 1) (mi 2) (mi 3) (mi 4) (mi 5) (mi 6) (mi 7) 0) (hP.sub [0, 1, 2, 3, 4, 5, 6] rfl) hO hj) (cwV 1 hts gX3_look_X3_kindAt rfl rfl rfl (by decide +kernel) ⟨Nat.le_of_ble_eq_true rfl, Nat.le_of_ble_eq_true rfl⟩) (Pq.V hC hS hN (va_recv hK hP (ci := 3) (q0 := 0) rfl rfl)) rfl rfl hl.1 rfl (lv_room (Nat.le_of_ble_eq_true rfl)) dX3_look_40 ⟨Nat.le_of_ble_eq_true rfl, Nat.le_of_ble_eq_true rfl⟩) hS (fun r_11 locs hw hS => ?_)
        have hw : r_11 = mK on kd j := hw
        subst hw
        exact W.iret (v := mK on kd j) hx hb hr (fun t ht hW => ⟨⟨_, (on, kd, sz, fr, li, st, mi9 (mi 0) (mi 1) (mi 2) (mi 3) (mi 4) (mi 5) (mi 6) (mi 7) 0), rfl, Or.inr ⟨j, hj, rfl, Or.inl ⟨c_35, rfl⟩, rfl⟩, ⟨by rw [ht]; exact hP, hD⟩⟩, hS.F ht⟩) hS.2.2 dX3_look_43
theorem iw_X3_sum_X3 : ∀ w ∈ wsX30, w ∈ wsX3_sum := by decide +kernel
theorem lk_X3_sum_Cond_constantLong_RX3_101_7 : Cond.constantLong RX3 101 7 ∈ wsX3_sum := by decide +kernel
theorem lk_X3_sum_Cond_constantLong_RX3_103_31 : Cond.constantLong RX3 103 31 ∈ wsX3_sum := by decide +kernel
theorem lk_X3_sum_Cond_fieldLink_RX3_19_SpliceRoomModel_frames_J_ : Cond.fieldLink RX3 19 "SpliceRoomModel" "frames" "[J" ∈ wsX3_sum := by decide +kernel
theorem lk_X3_sum_Cond_fieldLink_RX3_29_SpliceRoomModel_code_I_ : Cond.fieldLink RX3 29 "SpliceRoomModel" "code" "I" ∈ wsX3_sum := by decide +kernel
theorem lk_X3_sum_Cond_fieldLink_RX3_7_SpliceRoomModel_on_I_ : Cond.fieldLink RX3 7 "SpliceRoomModel" "on" "[I" ∈ wsX3_sum := by decide +kernel
set_option maxHeartbeats 4000000 in
set_option maxRecDepth 100000 in
theorem c_X3_sum (l : Launch) {D : va_G} {cI cL cQ : ClassId} {N0 : Nat} {sa : Nat → Nat} {Hc : Heap} {m0 a0 a1 a2 a3 a4 a5 : Nat} {on kd sz : Nat → Int32} {fr li : Nat → Int64} {st : Nat → Int32} {mi : Nat → Int32} {h0 : Int32} (hP : va_P D vwCl [(m0, .inr (3, [.ref a0, .ref a1, .ref a2, .ref a3, .ref a4, .ref a5, .int (mi 0), .int (mi 1), .int (mi 2), .int (mi 3), .int (mi 4), .int (mi 5), .int (mi 6), .int (mi 7), .int (mi 8)])), (a0, .inl (cI, 6, .inl on)), (a1, .inl (cI, 7, .inl kd)), (a2, .inl (cI, 7, .inl sz)), (a3, .inl (cL, 280, .inr (.inl fr))), (a4, .inl (cL, 40, .inr (.inl li))), (a5, .inl (cI, 120, .inl st))] Hc) (hD0 : va_D nT [(m0, .inr (3, [.ref a0, .ref a1, .ref a2, .ref a3, .ref a4, .ref a5, .int (mi 0), .int (mi 1), .int (mi 2), .int (mi 3), .int (mi 4), .int (mi 5), .int (mi 6), .int (mi 7), .int (mi 8)])), (a0, .inl (cI, 6, .inl on)), (a1, .inl (cI, 7, .inl kd)), (a2, .inl (cI, 7, .inl sz)), (a3, .inl (cL, 280, .inr (.inl fr))), (a4, .inl (cL, 40, .inr (.inl li))), (a5, .inl (cI, 120, .inl st))]) (hN : ∀ q, va_A [(m0, .inr (3, [.ref a0, .ref a1, .ref a2, .ref a3, .ref a4, .ref a5, .int (mi 0), .int (mi 1), .int (mi 2), .int (mi 3), .int (mi 4), .int (mi 5), .int (mi 6), .int (mi 7), .int (mi 8)])), (a0, .inl (cI, 6, .inl on)), (a1, .inl (cI, 7, .inl kd)), (a2, .inl (cI, 7, .inl sz)), (a3, .inl (cL, 280, .inr (.inl fr))), (a4, .inl (cL, 40, .inr (.inl li))), (a5, .inl (cI, 120, .inl st))] Hc.size q → N0 ≤ q) (hO : OnOk on) (hZ : SzOk sz) : Met l yX3_sum wsX3_sum ({ frames := 2, cells := 0, slots := 0, locals := 60 }) (Pq D cI cL cQ N0 sa [.ref m0, .int h0] Hc) (va_Ql (fun (r : Int64) (u : MS) => (¬ okH h0 ∧ u = (on, kd, sz, fr, li, st, miC mi 1)) ∨ (∃ j1 : Nat, j1 < 6 ∧ h0 = nI j1 ∧ ((¬ (1 ≤ mK on kd j1 ∧ mK on kd j1 ≤ 4) ∧ r = 7) ∨ ((1 ≤ mK on kd j1 ∧ mK on kd j1 ≤ 4) ∧ ∃ p1 z1 : Nat, p1 < 7 ∧ z1 ≤ 40 ∧ on j1 = nI p1 ∧ sz p1 = nI z1 ∧ r = sumF (fun t => fr (40 * p1 + t)) z1)) ∧ u = (on, kd, sz, fr, li, st, miC mi 0))) (fun (u : MS) (t : State) => va_P D vwCl [(m0, .inr (3, [.ref a0, .ref a1, .ref a2, .ref a3, .ref a4, .ref a5, .int (u.2.2.2.2.2.2 0), .int (u.2.2.2.2.2.2 1), .int (u.2.2.2.2.2.2 2), .int (u.2.2.2.2.2.2 3), .int (u.2.2.2.2.2.2 4), .int (u.2.2.2.2.2.2 5), .int (u.2.2.2.2.2.2 6), .int (u.2.2.2.2.2.2 7), .int (u.2.2.2.2.2.2 8)])), (a0, .inl (cI, 6, .inl u.1)), (a1, .inl (cI, 7, .inl u.2.1)), (a2, .inl (cI, 7, .inl u.2.2.1)), (a3, .inl (cL, 280, .inr (.inl u.2.2.2.1))), (a4, .inl (cL, 40, .inr (.inl u.2.2.2.2.1))), (a5, .inl (cI, 120, .inl u.2.2.2.2.2.1))] t.heap ∧ va_D (va_A [(m0, .inr (3, [.ref a0, .ref a1, .ref a2, .ref a3, .ref a4, .ref a5, .int (mi 0), .int (mi 1), .int (mi 2), .int (mi 3), .int (mi 4), .int (mi 5), .int (mi 6), .int (mi 7), .int (mi 8)])), (a0, .inl (cI, 6, .inl on)), (a1, .inl (cI, 7, .inl kd)), (a2, .inl (cI, 7, .inl sz)), (a3, .inl (cL, 280, .inr (.inl fr))), (a4, .inl (cL, 40, .inr (.inl li))), (a5, .inl (cI, 120, .inl st))] Hc.size) [(m0, .inr (3, [.ref a0, .ref a1, .ref a2, .ref a3, .ref a4, .ref a5, .int (u.2.2.2.2.2.2 0), .int (u.2.2.2.2.2.2 1), .int (u.2.2.2.2.2.2 2), .int (u.2.2.2.2.2.2 3), .int (u.2.2.2.2.2.2 4), .int (u.2.2.2.2.2.2 5), .int (u.2.2.2.2.2.2 6), .int (u.2.2.2.2.2.2 7), .int (u.2.2.2.2.2.2 8)])), (a0, .inl (cI, 6, .inl u.1)), (a1, .inl (cI, 7, .inl u.2.1)), (a2, .inl (cI, 7, .inl u.2.2.1)), (a3, .inl (cL, 280, .inr (.inl u.2.2.2.1))), (a4, .inl (cL, 40, .inr (.inl u.2.2.2.2.1))), (a5, .inl (cI, 120, .inl u.2.2.2.2.2.1))]) (va_A [(m0, .inr (3, [.ref a0, .ref a1, .ref a2, .ref a3, .ref a4, .ref a5, .int (mi 0), .int (mi 1), .int (mi 2), .int (mi 3), .int (mi 4), .int (mi 5), .int (mi 6), .int (mi 7), .int (mi 8)])), (a0, .inl (cI, 6, .inl on)), (a1, .inl (cI, 7, .inl kd)), (a2, .inl (cI, 7, .inl sz)), (a3, .inl (cL, 280, .inr (.inl fr))), (a4, .inl (cL, 40, .inr (.inl li))), (a5, .inl (cI, 120, .inl st))] Hc.size)) 0 0 (va_A [(m0, .inr (3, [.ref a0, .ref a1, .ref a2, .ref a3, .ref a4, .ref a5, .int (mi 0), .int (mi 1), .int (mi 2), .int (mi 3), .int (mi 4), .int (mi 5), .int (mi 6), .int (mi 7), .int (mi 8)])), (a0, .inl (cI, 6, .inl on)), (a1, .inl (cI, 7, .inl kd)), (a2, .inl (cI, 7, .inl sz)), (a3, .inl (cL, 280, .inr (.inl fr))), (a4, .inl (cL, 40, .inr (.inl li))), (a5, .inl (cI, 120, .inl st))] Hc.size) := by
  refine Met.ofW (cc := cX3_sum) (maxL := 5) (ret := (some .long)) (by decide) rfl ?_
  intro p e s m args below meth c s₁ B hml hv
  obtain ⟨rfl, hH, hC⟩ := hv
  have hx := B.exec
  have hb := B.bytes
  have hr := B.returns
  have hts := atoms_spec (ws := wsX3_sum) B.pre
  have hown : s.vm.findClass RX3 = some m.cls := findClass_of_methodNamed B.named
  have hlocks := B.notSynchronized
  subst hH
  have hK := hC.K
  have hl := lv_entry ([.ref m0, .int h0]) (n := 5) (Nat.le_of_ble_eq_true rfl)
  rw [lg_entry_eq]
  generalize (lg_sl ([.ref m0, .int h0]) ++ List.replicate (5 - (lg_sl ([.ref m0, .int h0])).length) Slot.unset).toArray = ls at hl ⊢
  have hl : lv_has ls 5 [(0, .ref m0), (1, .int h0)] := hl
  have hP : va_P D vwCl [(m0, .inr (3, [.ref a0, .ref a1, .ref a2, .ref a3, .ref a4, .ref a5, .int (mi 0), .int (mi 1), .int (mi 2), .int (mi 3), .int (mi 4), .int (mi 5), .int (mi 6), .int (mi 7), .int (mi 8)])), (a0, .inl (cI, 6, .inl on)), (a1, .inl (cI, 7, .inl kd)), (a2, .inl (cI, 7, .inl sz)), (a3, .inl (cL, 280, .inr (.inl fr))), (a4, .inl (cL, 40, .inr (.inl li))), (a5, .inl (cI, 120, .inl st))] s.heap := hP
  have hD := hD0.self (sz := s.heap.size)
  generalize hAe : va_A [(m0, .inr (3, [.ref a0, .ref a1, .ref a2, .ref a3, .ref a4, .ref a5, .int (mi 0), .int (mi 1), .int (mi 2), .int (mi 3), .int (mi 4), .int (mi 5), .int (mi 6), .int (mi 7), .int (mi 8)])), (a0, .inl (cI, 6, .inl on)), (a1, .inl (cI, 7, .inl kd)), (a2, .inl (cI, 7, .inl sz)), (a3, .inl (cL, 280, .inr (.inl fr))), (a4, .inl (cL, 40, .inr (.inl li))), (a5, .inl (cI, 120, .inl st))] s.heap.size = A at hD hN ⊢
  have hA : ∀ q : Nat, s.heap.size ≤ q → A q := fun q h => by rw [← hAe]; exact Or.inr h
  have hS : va_S A s.heap s.heap [] := va_S.rf
  refine lv_aload_n hx hb dX3_sum_0 rfl (lv_at hl 0 rfl) ?_
  refine lv_iload_n hx hb dX3_sum_1 rfl (lv_at hl 1 rfl) ?_
  refine ro_i (va_runS (As := [.int h0]) (rest := [.ref m0]) ⟨hx, hb, hml, hown, hts⟩ (c_X3_isHook l (v0 := h0)) (va_cwS 1 hts gX3_sum_X3_isHook rfl rfl rfl (by decide +kernel) ⟨Nat.le_of_ble_eq_true rfl, Nat.le_of_ble_eq_true rfl⟩) (Pq.S hC hS hN) rfl rfl hl.1 rfl (lv_room (Nat.le_of_ble_eq_true rfl)) dX3_sum_2 ⟨Nat.le_of_ble_eq_true rfl, Nat.le_of_ble_eq_true rfl⟩) hS (fun r_1 locs hw hS => ?_)
  have hw : r_1 = tB (0 ≤ h0 ∧ h0 ≤ 5) := hw
  subst hw
  refine lv_if_eq (tgt := 12) hx hb dX3_sum_5 (by decide) (fun c_5 => ?_) (fun c_5 => ?_)
  · have c_5 := tB_0.mp c_5
    refine lv_iconst (v := 1) hx hb dX3_sum_12 (by decide) ?_
    refine va_put (D := D) (ci := 3) (v := .int 1) (ty := .int) (C := RX3) (T := TX3) (N := 15) hx hb hts iw_X3_sum_X3 tyX3 tyX3_ok nmX3 hown hK hP hD hS 0 rfl rfl 14 (by decide) (hts _ lk_X3_sum_Cond_fieldLink_RX3_29_SpliceRoomModel_code_I_) (fun _ h9 => h9) rfl (by decide +kernel) rfl rfl (Nat.le_of_ble_eq_true rfl) dX3_sum_13 (fun H locs hP hD hS => ?_)
    have hP : va_P D vwCl [(m0, .inr (3, [.ref a0, .ref a1, .ref a2, .ref a3, .ref a4, .ref a5, .int (mi 0), .int (mi 1), .int (mi 2), .int (mi 3), .int (mi 4), .int (mi 5), .int (mi 6), .int (mi 7), .int 1])), (a0, .inl (cI, 6, .inl on)), (a1, .inl (cI, 7, .inl kd)), (a2, .inl (cI, 7, .inl sz)), (a3, .inl (cL, 280, .inr (.inl fr))), (a4, .inl (cL, 40, .inr (.inl li))), (a5, .inl (cI, 120, .inl st))] H := hP
    have hD : va_D A [(m0, .inr (3, [.ref a0, .ref a1, .ref a2, .ref a3, .ref a4, .ref a5, .int (mi 0), .int (mi 1), .int (mi 2), .int (mi 3), .int (mi 4), .int (mi 5), .int (mi 6), .int (mi 7), .int 1])), (a0, .inl (cI, 6, .inl on)), (a1, .inl (cI, 7, .inl kd)), (a2, .inl (cI, 7, .inl sz)), (a3, .inl (cL, 280, .inr (.inl fr))), (a4, .inl (cL, 40, .inr (.inl li))), (a5, .inl (cI, 120, .inl st))] := hD
    refine lv_ldc2 (v := 7) hx hb hown (hts _ lk_X3_sum_Cond_constantLong_RX3_101_7) dX3_sum_16 ?_
    refine lv_lstore_n (lv' := [(2, .long 7), (0, .ref m0), (1, .int h0)]) hx hb dX3_sum_19 rfl hl (by decide) rfl (fun ls hl => ?_)
    refine lv_iconst (v := 0) hx hb dX3_sum_20 (by decide) ?_
    refine lv_istore (lv' := [(4, .int 0), (2, .long 7), (0, .ref m0), (1, .int h0)]) hx hb dX3_sum_21 hl (by decide) rfl (fun ls hl => ?_)
    refine lv_aload_n hx hb dX3_sum_23 rfl (lv_at hl 2 rfl) ?_
    refine va_get (D := D) (ci := 3) (v := .int 1) (C := RX3) (T := TX3) (N := 15) hx hb hts iw_X3_sum_X3 hown hK hP 0 rfl rfl 14 (by decide) (hts _ lk_X3_sum_Cond_fieldLink_RX3_29_SpliceRoomModel_code_I_) (fun _ h9 => h9) rfl dX3_sum_24 ?_
    refine lv_if_ne (tgt := 78) hx hb dX3_sum_27 (by decide) (fun _ => ?_) (fun c9 => absurd c9 (by decide))
    refine lv_aload_n hx hb dX3_sum_78 rfl (lv_at hl 2 rfl) ?_
    refine va_get (D := D) (ci := 3) (v := .int 1) (C := RX3) (T := TX3) (N := 15) hx hb hts iw_X3_sum_X3 hown hK hP 0 rfl rfl 14 (by decide) (hts _ lk_X3_sum_Cond_fieldLink_RX3_29_SpliceRoomModel_code_I_) (fun _ h9 => h9) rfl dX3_sum_79 ?_
    refine lv_if_le (tgt := 89) hx hb dX3_sum_82 (by decide) (fun c9 => absurd c9 (by decide)) (fun _ => ?_)
    refine lv_lconst (v := 0) hx hb dX3_sum_85 (by decide) ?_
    refine lv_goto (tgt := 90) hx hb dX3_sum_86 (by decide) ?_
    exact W.lret (v := 0) hx hb hr (fun t ht hW => ⟨⟨_, (on, kd, sz, fr, li, st, mi9 (mi 0) (mi 1) (mi 2) (mi 3) (mi 4) (mi 5) (mi 6) (mi 7) 1), rfl, Or.inl ⟨fun h9 => c_5 (okH_iff.mpr h9), rfl⟩, ⟨by rw [ht]; exact hP, hD⟩⟩, hS.F ht⟩) hS.2.2 dX3_sum_90
  · have c_5 := tB_n.mp c_5
    obtain ⟨j, hj, rfl⟩ := okH_iff.mp c_5
    refine lv_iconst (v := 0) hx hb dX3_sum_8 (by decide) ?_
    refine lv_goto (tgt := 13) hx hb dX3_sum_9 (by decide) ?_
    refine va_put (D := D) (ci := 3) (v := .int 0) (ty := .int) (C := RX3) (T := TX3) (N := 15) hx hb hts iw_X3_sum_X3 tyX3 tyX3_ok nmX3 hown hK hP hD hS 0 rfl rfl 14 (by decide) (hts _ lk_X3_sum_Cond_fieldLink_RX3_29_SpliceRoomModel_code_I_) (fun _ h9 => h9) rfl (by decide +kernel) rfl rfl (Nat.le_of_ble_eq_true rfl) dX3_sum_13 (fun H locs hP hD hS => ?_)
    have hP : va_P D vwCl [(m0, .inr (3, [.ref a0, .ref a1, .ref a2, .ref a3, .ref a4, .ref a5, .int (mi 0), .int (mi 1), .int (mi 2), .int (mi 3), .int (mi 4), .int (mi 5), .int (mi 6), .int (mi 7), .int 0])), (a0, .inl (cI, 6, .inl on)), (a1, .inl (cI, 7, .inl kd)), (a2, .inl (cI, 7, .inl sz)), (a3, .inl (cL, 280, .inr (.inl fr))), (a4, .inl (cL, 40, .inr (.inl li))), (a5, .inl (cI, 120, .inl st))] H := hP
    have hD : va_D A [(m0, .inr (3, [.ref a0, .ref a1, .ref a2, .ref a3, .ref a4, .ref a5, .int (mi 0), .int (mi 1), .int (mi 2), .int (mi 3), .int (mi 4), .int (mi 5), .int (mi 6), .int (mi 7), .int 0])), (a0, .inl (cI, 6, .inl on)), (a1, .inl (cI, 7, .inl kd)), (a2, .inl (cI, 7, .inl sz)), (a3, .inl (cL, 280, .inr (.inl fr))), (a4, .inl (cL, 40, .inr (.inl li))), (a5, .inl (cI, 120, .inl st))] := hD
    refine lv_ldc2 (v := 7) hx hb hown (hts _ lk_X3_sum_Cond_constantLong_RX3_101_7) dX3_sum_16 ?_
    refine lv_lstore_n (lv' := [(2, .long 7), (0, .ref m0), (1, .int (nI j))]) hx hb dX3_sum_19 rfl hl (by decide) rfl (fun ls hl => ?_)
    refine lv_iconst (v := 0) hx hb dX3_sum_20 (by decide) ?_
    refine lv_istore (lv' := [(4, .int 0), (2, .long 7), (0, .ref m0), (1, .int (nI j))]) hx hb dX3_sum_21 hl (by decide) rfl (fun ls hl => ?_)
    refine lv_aload_n hx hb dX3_sum_23 rfl (lv_at hl 2 rfl) ?_
    refine va_get (D := D) (ci := 3) (v := .int 0) (C := RX3) (T := TX3) (N := 15) hx hb hts iw_X3_sum_X3 hown hK hP 0 rfl rfl 14 (by decide) (hts _ lk_X3_sum_Cond_fieldLink_RX3_29_SpliceRoomModel_code_I_) (fun _ h9 => h9) rfl dX3_sum_24 ?_
    refine lv_if_ne (tgt := 78) hx hb dX3_sum_27 (by decide) (fun c9 => absurd (by decide) c9) (fun _ => ?_)
    refine lv_aload_n hx hb dX3_sum_30 rfl (lv_at hl 2 rfl) ?_
    refine lv_iload_n hx hb dX3_sum_31 rfl (lv_at hl 3 rfl) ?_
    refine ro_i (va_runV (As := [.int (nI j)]) (rest := []) ⟨hx, hb, hml, hown, hts⟩ (c_X3_hasRow l (j := j) (mi := mi9 (mi 0) (mi 1) (mi 2) (mi 3) (mi 4) (mi 5) (mi 6) (mi 7) 0) (hP.sub [0, 1, 2, 3, 4, 5, 6] rfl) hO hj) (cwV 1 hts gX3_sum_X3_hasRow rfl rfl rfl (by decide +kernel) ⟨Nat.le_of_ble_eq_true rfl, Nat.le_of_ble_eq_true rfl⟩) (Pq.V hC hS hN (va_recv hK hP (ci := 3) (q0 := 0) rfl rfl)) rfl rfl hl.1 rfl (lv_room (Nat.le_of_ble_eq_true rfl)) dX3_sum_32 ⟨Nat.le_of_ble_eq_true rfl, Nat.le_of_ble_eq_true rfl⟩) hS (fun r_2 locs hw hS => ?_)
    have hw : r_2 = tB (1 ≤ mK on kd j ∧ mK on kd j ≤ 4) := hw
    subst hw
    refine lv_if_eq (tgt := 78) hx hb dX3_sum_35 (by decide) (fun c_35 => ?_) (fun c_35 => ?_)
    · have c_35 := tB_0.mp c_35
      refine lv_aload_n hx hb dX3_sum_78 rfl (lv_at hl 2 rfl) ?_
      refine va_get (D := D) (ci := 3) (v := .int 0) (C := RX3) (T := TX3) (N := 15) hx hb hts iw_X3_sum_X3 hown hK hP 0 rfl rfl 14 (by decide) (hts _ lk_X3_sum_Cond_fieldLink_RX3_29_SpliceRoomModel_code_I_) (fun _ h9 => h9) rfl dX3_sum_79 ?_
      refine lv_if_le (tgt := 89) hx hb dX3_sum_82 (by decide) (fun _ => ?_) (fun c9 => absurd (by decide) c9)
      refine lv_lload_n hx hb dX3_sum_89 rfl (lv_at hl 1 rfl) ?_
      exact W.lret (v := 7) hx hb hr (fun t ht hW => ⟨⟨_, (on, kd, sz, fr, li, st, mi9 (mi 0) (mi 1) (mi 2) (mi 3) (mi 4) (mi 5) (mi 6) (mi 7) 0), rfl, Or.inr ⟨j, hj, rfl, Or.inl ⟨c_35, rfl⟩, rfl⟩, ⟨by rw [ht]; exact hP, hD⟩⟩, hS.F ht⟩) hS.2.2 dX3_sum_90
    · have c_35 := tB_n.mp c_35
      obtain ⟨pp, hp, ep⟩ := mK_n hO hj (kd := kd) (fun e9 => by rw [e9] at c_35; exact absurd c_35.1 (by decide))
      obtain ⟨z, hz, ez⟩ := hZ pp hp
      have ek : mK on kd j = kd pp := mK_p hp ep
      have hrow := c_35
      have loop : ∀ (n i : Nat) (locs : List Loc) (ls : Array Slot), i ≤ z → z + 1 ≤ i + n → lv_has ls 5 [(4, .int (nI i)), (2, .long (sumF (fun t => fr (40 * pp + t)) i)), (0, .ref m0), (1, .int (nI j))] → va_S A s.heap H locs → W p l e (headSpec wsX3_sum ({ frames := 2, cells := 0, slots := 0, locals := 60 })).room s m ([.ref m0, .int (nI j)] : List Value).toArray below meth c H locs 0 0 (MQ below (va_Ql (fun (r : Int64) (u : MS) => (¬ okH (nI j) ∧ u = (on, kd, sz, fr, li, st, miC mi 1)) ∨ (∃ j1 : Nat, j1 < 6 ∧ (nI j) = nI j1 ∧ ((¬ (1 ≤ mK on kd j1 ∧ mK on kd j1 ≤ 4) ∧ r = 7) ∨ ((1 ≤ mK on kd j1 ∧ mK on kd j1 ≤ 4) ∧ ∃ p1 z1 : Nat, p1 < 7 ∧ z1 ≤ 40 ∧ on j1 = nI p1 ∧ sz p1 = nI z1 ∧ r = sumF (fun t => fr (40 * p1 + t)) z1)) ∧ u = (on, kd, sz, fr, li, st, miC mi 0))) (fun (u : MS) (t : State) => va_P D vwCl [(m0, .inr (3, [.ref a0, .ref a1, .ref a2, .ref a3, .ref a4, .ref a5, .int (u.2.2.2.2.2.2 0), .int (u.2.2.2.2.2.2 1), .int (u.2.2.2.2.2.2 2), .int (u.2.2.2.2.2.2 3), .int (u.2.2.2.2.2.2 4), .int (u.2.2.2.2.2.2 5), .int (u.2.2.2.2.2.2 6), .int (u.2.2.2.2.2.2 7), .int (u.2.2.2.2.2.2 8)])), (a0, .inl (cI, 6, .inl u.1)), (a1, .inl (cI, 7, .inl u.2.1)), (a2, .inl (cI, 7, .inl u.2.2.1)), (a3, .inl (cL, 280, .inr (.inl u.2.2.2.1))), (a4, .inl (cL, 40, .inr (.inl u.2.2.2.2.1))), (a5, .inl (cI, 120, .inl u.2.2.2.2.2.1))] t.heap ∧ va_D A [(m0, .inr (3, [.ref a0, .ref a1, .ref a2, .ref a3, .ref a4, .ref a5, .int (u.2.2.2.2.2.2 0), .int (u.2.2.2.2.2.2 1), .int (u.2.2.2.2.2.2 2), .int (u.2.2.2.2.2.2 3), .int (u.2.2.2.2.2.2 4), .int (u.2.2.2.2.2.2 5), .int (u.2.2.2.2.2.2 6), .int (u.2.2.2.2.2.2 7), .int (u.2.2.2.2.2.2 8)])), (a0, .inl (cI, 6, .inl u.1)), (a1, .inl (cI, 7, .inl u.2.1)), (a2, .inl (cI, 7, .inl u.2.2.1)), (a3, .inl (cL, 280, .inr (.inl u.2.2.2.1))), (a4, .inl (cL, 40, .inr (.inl u.2.2.2.2.1))), (a5, .inl (cI, 120, .inl u.2.2.2.2.2.1))]) A) ([.ref m0, .int (nI j)] : List Value).toArray s 0 0 A) (F0 m 38 ls []) := by
        intro n
        induction n with
        | zero => intro i locs ls h1 h2; exact absurd h2 (by omega)
        | succ n ih =>
          intro i locs ls hi hn hl hS
          refine lv_iload hx hb dX3_sum_38 (lv_at hl 0 rfl) ?_
          refine lv_aload_n hx hb dX3_sum_40 rfl (lv_at hl 2 rfl) ?_
          refine lv_iload_n hx hb dX3_sum_41 rfl (lv_at hl 3 rfl) ?_
          refine ro_i (va_runV (As := [.int (nI j)]) (rest := [.int (nI i)]) ⟨hx, hb, hml, hown, hts⟩ (c_X3_sizeAt l (j := j) (mi := mi9 (mi 0) (mi 1) (mi 2) (mi 3) (mi 4) (mi 5) (mi 6) (mi 7) 0) (hP.sub [0, 1, 2, 3, 4, 5, 6] rfl) hj hp ep) (cwV 1 hts gX3_sum_X3_sizeAt rfl rfl rfl (by decide +kernel) ⟨Nat.le_of_ble_eq_true rfl, Nat.le_of_ble_eq_true rfl⟩) (Pq.V hC hS hN (va_recv hK hP (ci := 3) (q0 := 0) rfl rfl)) rfl rfl hl.1 rfl (lv_room (Nat.le_of_ble_eq_true rfl)) dX3_sum_42 ⟨Nat.le_of_ble_eq_true rfl, Nat.le_of_ble_eq_true rfl⟩) hS (fun r_3 locs hw hS => ?_)
          have hw : r_3 = sz pp := hw
          subst hw
          refine lv_icmp_ge (tgt := 78) hx hb dX3_sum_45 (by decide) (fun c_45 => ?_) (fun c_45 => ?_)
          · rw [ez] at c_45
            have e6 : i = z := by have := (nI_leI (a := z) (b := i) (by omega) (by omega)).mp c_45; omega
            refine lv_aload_n hx hb dX3_sum_78 rfl (lv_at hl 2 rfl) ?_
            refine va_get (D := D) (ci := 3) (v := .int 0) (C := RX3) (T := TX3) (N := 15) hx hb hts iw_X3_sum_X3 hown hK hP 0 rfl rfl 14 (by decide) (hts _ lk_X3_sum_Cond_fieldLink_RX3_29_SpliceRoomModel_code_I_) (fun _ h9 => h9) rfl dX3_sum_79 ?_
            refine lv_if_le (tgt := 89) hx hb dX3_sum_82 (by decide) (fun _ => ?_) (fun c9 => absurd (by decide) c9)
            refine lv_lload_n hx hb dX3_sum_89 rfl (lv_at hl 1 rfl) ?_
            exact W.lret (v := sumF (fun t => fr (40 * pp + t)) i) hx hb hr (fun t ht hW => ⟨⟨_, (on, kd, sz, fr, li, st, mi9 (mi 0) (mi 1) (mi 2) (mi 3) (mi 4) (mi 5) (mi 6) (mi 7) 0), rfl, Or.inr ⟨j, hj, rfl, Or.inr ⟨hrow, pp, z, hp, hz, ep, ez, by rw [e6]⟩, rfl⟩, ⟨by rw [ht]; exact hP, hD⟩⟩, hS.F ht⟩) hS.2.2 dX3_sum_90
          · rw [ez] at c_45
            have hlt : i < z := Nat.lt_of_not_le (fun z9 => c_45 (nI_le z9 (by omega)))
            refine lv_ldc2 (v := 31) hx hb hown (hts _ lk_X3_sum_Cond_constantLong_RX3_103_31) dX3_sum_48 ?_
            refine lv_lload_n hx hb dX3_sum_51 rfl (lv_at hl 1 rfl) ?_
            refine lv_lmul hx hb dX3_sum_52 ?_
            refine lv_aload_n hx hb dX3_sum_53 rfl (lv_at hl 2 rfl) ?_
            refine va_get (D := D) (ci := 3) (v := .ref a3) (C := RX3) (T := TX3) (N := 15) hx hb hts iw_X3_sum_X3 hown hK hP 0 rfl rfl 3 (by decide) (hts _ lk_X3_sum_Cond_fieldLink_RX3_19_SpliceRoomModel_frames_J_) (fun _ h9 => h9) rfl dX3_sum_54 ?_
            refine lv_bipush (v := 40) hx hb dX3_sum_57 (by decide) ?_
            refine lv_aload_n hx hb dX3_sum_59 rfl (lv_at hl 2 rfl) ?_
            refine va_get (D := D) (ci := 3) (v := .ref a0) (C := RX3) (T := TX3) (N := 15) hx hb hts iw_X3_sum_X3 hown hK hP 0 rfl rfl 0 (by decide) (hts _ lk_X3_sum_Cond_fieldLink_RX3_7_SpliceRoomModel_on_I_) (fun _ h9 => h9) rfl dX3_sum_60 ?_
            refine lv_iload_n hx hb dX3_sum_63 rfl (lv_at hl 3 rfl) ?_
            refine va_iald (D := D) hx hb hK hP 1 0 rfl rfl (vp_in_nI hj (by decide)) dX3_sum_64 ?_
            refine lv_topi (fun y_4 e9 => ?_)
            have e9 : y_4 = nI pp := e9.trans (by rw [nI_clamp (by omega)]; exact ep)
            subst e9
            refine lv_imul hx hb dX3_sum_65 ?_
            refine lv_iload hx hb dX3_sum_66 (lv_at hl 0 rfl) ?_
            refine lv_iadd hx hb dX3_sum_68 ?_
            refine va_lald (D := D) hx hb hK hP 4 1 rfl rfl (by rw [idx40]; exact vp_in_nI (show 40 * pp + i < 280 by omega) (by decide)) dX3_sum_69 ?_
            refine lv_topl (fun y_5 e9 => ?_)
            have e9 : y_5 = fr (40 * pp + i) := e9.trans (by rw [idx40, nI_clamp (by omega)])
            subst e9
            refine lv_ladd hx hb dX3_sum_70 ?_
            refine lv_lstore_n (lv' := [(2, .long ((31 * (sumF (fun t => fr (40 * pp + t)) i)) + (fr (40 * pp + i)))), (4, .int (nI i)), (0, .ref m0), (1, .int (nI j))]) hx hb dX3_sum_71 rfl hl (by decide) rfl (fun ls hl => ?_)
            refine lv_iinc (v := nI (i + 1)) (lv' := [(4, .int (nI (i + 1))), (2, .long ((31 * (sumF (fun t => fr (40 * pp + t)) i)) + (fr (40 * pp + i)))), (0, .ref m0), (1, .int (nI j))]) hx hb dX3_sum_72 hl (k := 1) rfl (nI_1 i) (by decide) rfl (fun ls hl => ?_)
            refine lv_goto (tgt := 23) hx hb dX3_sum_75 (by decide) ?_
            refine lv_aload_n hx hb dX3_sum_23 rfl (lv_at hl 2 rfl) ?_
            refine va_get (D := D) (ci := 3) (v := .int 0) (C := RX3) (T := TX3) (N := 15) hx hb hts iw_X3_sum_X3 hown hK hP 0 rfl rfl 14 (by decide) (hts _ lk_X3_sum_Cond_fieldLink_RX3_29_SpliceRoomModel_code_I_) (fun _ h9 => h9) rfl dX3_sum_24 ?_
            refine lv_if_ne (tgt := 78) hx hb dX3_sum_27 (by decide) (fun c9 => absurd (by decide) c9) (fun _ => ?_)
            refine lv_aload_n hx hb dX3_sum_30 rfl (lv_at hl 2 rfl) ?_
            refine lv_iload_n hx hb dX3_sum_31 rfl (lv_at hl 3 rfl) ?_
            refine ro_i (va_runV (As := [.int (nI j)]) (rest := []) ⟨hx, hb, hml, hown, hts⟩ (c_X3_hasRow l (j := j) (mi := mi9 (mi 0) (mi 1) (mi 2) (mi 3) (mi 4) (mi 5) (mi 6) (mi 7) 0) (hP.sub [0, 1, 2, 3, 4, 5, 6] rfl) hO hj) (cwV 1 hts gX3_sum_X3_hasRow rfl rfl rfl (by decide +kernel) ⟨Nat.le_of_ble_eq_true rfl, Nat.le_of_ble_eq_true rfl⟩) (Pq.V hC hS hN (va_recv hK hP (ci := 3) (q0 := 0) rfl rfl)) rfl rfl hl.1 rfl (lv_room (Nat.le_of_ble_eq_true rfl)) dX3_sum_32 ⟨Nat.le_of_ble_eq_true rfl, Nat.le_of_ble_eq_true rfl⟩) hS (fun r_6 locs hw hS => ?_)
            have hw : r_6 = tB (1 ≤ mK on kd j ∧ mK on kd j ≤ 4) := hw
            subst hw
            refine lv_if_eq (tgt := 78) hx hb dX3_sum_35 (by decide) (fun c9 => absurd c9 (tB_n.mpr (hrow))) (fun _ => ?_)
            exact ih (i + 1) _ _ (by omega) (by omega) (lv_sub hl [0, 1, 2, 3] rfl) hS
      exact loop (z + 1) 0 _ _ (by omega) (by omega) (lv_sub hl [0, 1, 2, 3] rfl) hS
/-- the sheet of the model's is played from its d-th cut on -/
def MPlayRel (on kd sz st : Nat → Int32) (n : Nat) (bw : Int32) : Nat → Nat → (Nat → Int64) → (Nat → Int64) → (Nat → Int32) → MS → Int32 → Prop
  | 0, _, _, _, _, _, _ => False
  | g + 1, d, fr, li, mi, u, r => (n ≤ d ∧ u = (on, kd, sz, fr, li, st, mi) ∧ r = nI n) ∨ (d < n ∧ ∃ (j1 j2 : Nat) (t p q : Int32) (fr1 li1 : Nat → Int64) (mi1 : Nat → Int32), j1 < 6 ∧ j2 < 6 ∧ ((bw = 0 ∧ st (5 * plI bw n d) = nI j1 ∧ st (5 * plI bw n d + 2) = nI j2 ∧ p = st (5 * plI bw n d + 1) ∧ q = st (5 * plI bw n d + 3)) ∨ (¬ bw = 0 ∧ st (5 * plI bw n d + 2) = nI j1 ∧ st (5 * plI bw n d) = nI j2 ∧ p = st (5 * plI bw n d + 3) ∧ q = st (5 * plI bw n d + 1))) ∧
      MCut on kd sz fr li st mi j1 j2 p q (st (5 * plI bw n d + 4)) t (on, kd, sz, fr1, li1, st, mi1) ∧ ((t < 0 ∧ u = (on, kd, sz, fr1, li1, st, mi1) ∧ r = nI d) ∨ (¬ t < 0 ∧ MPlayRel on kd sz st n bw g (d + 1) fr1 li1 mi1 u r)))
theorem MCut_k {on kd sz : Nat → Int32} {fr li : Nat → Int64} {st mi : Nat → Int32} {j1 j2 : Nat} {p q n r : Int32} {on1 kd1 sz1 : Nat → Int32} {fr1 li1 : Nat → Int64} {st1 mi1 : Nat → Int32} (h : MCut on kd sz fr li st mi j1 j2 p q n r (on1, kd1, sz1, fr1, li1, st1, mi1)) : on = on1 ∧ kd = kd1 ∧ sz = sz1 ∧ st = st1 ∧ mi1 0 = mi 0 ∧ mi1 8 = mi 8 ∧ mi1 7 = mi 7 := by
  rcases h with h | h
  · have e := h.2.2
    cases e
    exact ⟨rfl, rfl, rfl, rfl, rfl, rfl, rfl⟩
  · obtain ⟨p1, p2, z1, z2, i1, i2, n1, k1, l1, h⟩ := h
    have h := h.2.2.2.2.2.2.2.2.2
    rcases h with h | h
    · have e := h.2.2
      cases e
      exact ⟨rfl, rfl, rfl, rfl, rfl, rfl, rfl⟩
    · have e := h.2.2
      cases e
      exact ⟨rfl, rfl, rfl, rfl, rfl, rfl, rfl⟩
theorem iw_X3_play_X3 : ∀ w ∈ wsX30, w ∈ wsX3_play := by decide +kernel
theorem lk_X3_play_Cond_fieldLink_RX3_26_SpliceRoomModel_sheet_I_ : Cond.fieldLink RX3 26 "SpliceRoomModel" "sheet" "[I" ∈ wsX3_play := by decide +kernel
theorem lk_X3_play_Cond_fieldLink_RX3_29_SpliceRoomModel_code_I_ : Cond.fieldLink RX3 29 "SpliceRoomModel" "code" "I" ∈ wsX3_play := by decide +kernel
theorem lk_X3_play_Cond_fieldLink_RX3_95_SpliceRoomModel_steps_I_ : Cond.fieldLink RX3 95 "SpliceRoomModel" "steps" "I" ∈ wsX3_play := by decide +kernel
set_option maxHeartbeats 4000000 in
set_option maxRecDepth 100000 in
theorem c_X3_play (l : Launch) {D : va_G} {cI cL cQ : ClassId} {N0 : Nat} {sa : Nat → Nat} {Hc : Heap} {m0 a0 a1 a2 a3 a4 a5 : Nat} {on kd sz : Nat → Int32} {fr li : Nat → Int64} {st : Nat → Int32} {mi : Nat → Int32} {w0 : Int32} (hP : va_P D vwCl [(m0, .inr (3, [.ref a0, .ref a1, .ref a2, .ref a3, .ref a4, .ref a5, .int (mi 0), .int (mi 1), .int (mi 2), .int (mi 3), .int (mi 4), .int (mi 5), .int (mi 6), .int (mi 7), .int (mi 8)])), (a0, .inl (cI, 6, .inl on)), (a1, .inl (cI, 7, .inl kd)), (a2, .inl (cI, 7, .inl sz)), (a3, .inl (cL, 280, .inr (.inl fr))), (a4, .inl (cL, 40, .inr (.inl li))), (a5, .inl (cI, 120, .inl st))] Hc) (hD0 : va_D nT [(m0, .inr (3, [.ref a0, .ref a1, .ref a2, .ref a3, .ref a4, .ref a5, .int (mi 0), .int (mi 1), .int (mi 2), .int (mi 3), .int (mi 4), .int (mi 5), .int (mi 6), .int (mi 7), .int (mi 8)])), (a0, .inl (cI, 6, .inl on)), (a1, .inl (cI, 7, .inl kd)), (a2, .inl (cI, 7, .inl sz)), (a3, .inl (cL, 280, .inr (.inl fr))), (a4, .inl (cL, 40, .inr (.inl li))), (a5, .inl (cI, 120, .inl st))]) (hN : ∀ q, va_A [(m0, .inr (3, [.ref a0, .ref a1, .ref a2, .ref a3, .ref a4, .ref a5, .int (mi 0), .int (mi 1), .int (mi 2), .int (mi 3), .int (mi 4), .int (mi 5), .int (mi 6), .int (mi 7), .int (mi 8)])), (a0, .inl (cI, 6, .inl on)), (a1, .inl (cI, 7, .inl kd)), (a2, .inl (cI, 7, .inl sz)), (a3, .inl (cL, 280, .inr (.inl fr))), (a4, .inl (cL, 40, .inr (.inl li))), (a5, .inl (cI, 120, .inl st))] Hc.size q → N0 ≤ q) (hO : OnOk on) (hZ : SzOk sz) (hkn : ∃ n : Nat, n ≤ 24 ∧ mi 0 = nI n) (hsh : ∀ n : Nat, n ≤ 24 → mi 0 = nI n → ∀ i : Nat, i < n → (∃ j : Nat, j < 6 ∧ st (5 * i) = nI j) ∧ ∃ j : Nat, j < 6 ∧ st (5 * i + 2) = nI j) : Met l yX3_play wsX3_play ({ frames := 3, cells := 0, slots := 0, locals := 110 }) (Pq D cI cL cQ N0 sa [.ref m0, .int w0] Hc) (va_Qi (fun (r : Int32) (u : MS) => (mi 4 = 3 ∧ r = 0 ∧ u = (on, kd, sz, fr, li, st, miC mi 1)) ∨ (¬ mi 4 = 3 ∧ ∃ n1 : Nat, n1 ≤ 24 ∧ mi 0 = nI n1 ∧ MPlayRel on kd sz st n1 w0 (n1 + 1) 0 fr li (miC mi 0) u r)) (fun (u : MS) (t : State) => va_P D vwCl [(m0, .inr (3, [.ref a0, .ref a1, .ref a2, .ref a3, .ref a4, .ref a5, .int (u.2.2.2.2.2.2 0), .int (u.2.2.2.2.2.2 1), .int (u.2.2.2.2.2.2 2), .int (u.2.2.2.2.2.2 3), .int (u.2.2.2.2.2.2 4), .int (u.2.2.2.2.2.2 5), .int (u.2.2.2.2.2.2 6), .int (u.2.2.2.2.2.2 7), .int (u.2.2.2.2.2.2 8)])), (a0, .inl (cI, 6, .inl u.1)), (a1, .inl (cI, 7, .inl u.2.1)), (a2, .inl (cI, 7, .inl u.2.2.1)), (a3, .inl (cL, 280, .inr (.inl u.2.2.2.1))), (a4, .inl (cL, 40, .inr (.inl u.2.2.2.2.1))), (a5, .inl (cI, 120, .inl u.2.2.2.2.2.1))] t.heap ∧ va_D (va_A [(m0, .inr (3, [.ref a0, .ref a1, .ref a2, .ref a3, .ref a4, .ref a5, .int (mi 0), .int (mi 1), .int (mi 2), .int (mi 3), .int (mi 4), .int (mi 5), .int (mi 6), .int (mi 7), .int (mi 8)])), (a0, .inl (cI, 6, .inl on)), (a1, .inl (cI, 7, .inl kd)), (a2, .inl (cI, 7, .inl sz)), (a3, .inl (cL, 280, .inr (.inl fr))), (a4, .inl (cL, 40, .inr (.inl li))), (a5, .inl (cI, 120, .inl st))] Hc.size) [(m0, .inr (3, [.ref a0, .ref a1, .ref a2, .ref a3, .ref a4, .ref a5, .int (u.2.2.2.2.2.2 0), .int (u.2.2.2.2.2.2 1), .int (u.2.2.2.2.2.2 2), .int (u.2.2.2.2.2.2 3), .int (u.2.2.2.2.2.2 4), .int (u.2.2.2.2.2.2 5), .int (u.2.2.2.2.2.2 6), .int (u.2.2.2.2.2.2 7), .int (u.2.2.2.2.2.2 8)])), (a0, .inl (cI, 6, .inl u.1)), (a1, .inl (cI, 7, .inl u.2.1)), (a2, .inl (cI, 7, .inl u.2.2.1)), (a3, .inl (cL, 280, .inr (.inl u.2.2.2.1))), (a4, .inl (cL, 40, .inr (.inl u.2.2.2.2.1))), (a5, .inl (cI, 120, .inl u.2.2.2.2.2.1))]) (va_A [(m0, .inr (3, [.ref a0, .ref a1, .ref a2, .ref a3, .ref a4, .ref a5, .int (mi 0), .int (mi 1), .int (mi 2), .int (mi 3), .int (mi 4), .int (mi 5), .int (mi 6), .int (mi 7), .int (mi 8)])), (a0, .inl (cI, 6, .inl on)), (a1, .inl (cI, 7, .inl kd)), (a2, .inl (cI, 7, .inl sz)), (a3, .inl (cL, 280, .inr (.inl fr))), (a4, .inl (cL, 40, .inr (.inl li))), (a5, .inl (cI, 120, .inl st))] Hc.size)) 0 0 (va_A [(m0, .inr (3, [.ref a0, .ref a1, .ref a2, .ref a3, .ref a4, .ref a5, .int (mi 0), .int (mi 1), .int (mi 2), .int (mi 3), .int (mi 4), .int (mi 5), .int (mi 6), .int (mi 7), .int (mi 8)])), (a0, .inl (cI, 6, .inl on)), (a1, .inl (cI, 7, .inl kd)), (a2, .inl (cI, 7, .inl sz)), (a3, .inl (cL, 280, .inr (.inl fr))), (a4, .inl (cL, 40, .inr (.inl li))), (a5, .inl (cI, 120, .inl st))] Hc.size) := by
  refine Met.ofW (cc := cX3_play) (maxL := 7) (ret := (some .int)) (by decide) rfl ?_
  intro p e s m args below meth c s₁ B hml hv
  obtain ⟨rfl, hH, hC⟩ := hv
  have hx := B.exec
  have hb := B.bytes
  have hr := B.returns
  have hts := atoms_spec (ws := wsX3_play) B.pre
  have hown : s.vm.findClass RX3 = some m.cls := findClass_of_methodNamed B.named
  have hlocks := B.notSynchronized
  subst hH
  have hK := hC.K
  have hl := lv_entry ([.ref m0, .int w0]) (n := 7) (Nat.le_of_ble_eq_true rfl)
  rw [lg_entry_eq]
  generalize (lg_sl ([.ref m0, .int w0]) ++ List.replicate (7 - (lg_sl ([.ref m0, .int w0])).length) Slot.unset).toArray = ls at hl ⊢
  have hl : lv_has ls 7 [(0, .ref m0), (1, .int w0)] := hl
  have hP : va_P D vwCl [(m0, .inr (3, [.ref a0, .ref a1, .ref a2, .ref a3, .ref a4, .ref a5, .int (mi 0), .int (mi 1), .int (mi 2), .int (mi 3), .int (mi 4), .int (mi 5), .int (mi 6), .int (mi 7), .int (mi 8)])), (a0, .inl (cI, 6, .inl on)), (a1, .inl (cI, 7, .inl kd)), (a2, .inl (cI, 7, .inl sz)), (a3, .inl (cL, 280, .inr (.inl fr))), (a4, .inl (cL, 40, .inr (.inl li))), (a5, .inl (cI, 120, .inl st))] s.heap := hP
  have hD := hD0.self (sz := s.heap.size)
  generalize hAe : va_A [(m0, .inr (3, [.ref a0, .ref a1, .ref a2, .ref a3, .ref a4, .ref a5, .int (mi 0), .int (mi 1), .int (mi 2), .int (mi 3), .int (mi 4), .int (mi 5), .int (mi 6), .int (mi 7), .int (mi 8)])), (a0, .inl (cI, 6, .inl on)), (a1, .inl (cI, 7, .inl kd)), (a2, .inl (cI, 7, .inl sz)), (a3, .inl (cL, 280, .inr (.inl fr))), (a4, .inl (cL, 40, .inr (.inl li))), (a5, .inl (cI, 120, .inl st))] s.heap.size = A at hD hN ⊢
  have hA : ∀ q : Nat, s.heap.size ≤ q → A q := fun q h => by rw [← hAe]; exact Or.inr h
  have hS : va_S A s.heap s.heap [] := va_S.rf
  obtain ⟨n, hn, en⟩ := hkn
  refine lv_aload_n hx hb dX3_play_0 rfl (lv_at hl 0 rfl) ?_
  refine lv_aload_n hx hb dX3_play_1 rfl (lv_at hl 0 rfl) ?_
  refine ro_i (va_runV (As := []) (rest := [.ref m0]) ⟨hx, hb, hml, hown, hts⟩ (c_X3_isBlunt l (hP.sub [0, 1, 2, 3, 4, 5, 6] rfl)) (cwV 0 hts gX3_play_X3_isBlunt rfl rfl rfl (by decide +kernel) ⟨Nat.le_of_ble_eq_true rfl, Nat.le_of_ble_eq_true rfl⟩) (Pq.V hC hS hN (va_recv hK hP (ci := 3) (q0 := 0) rfl rfl)) rfl rfl hl.1 rfl (lv_room (Nat.le_of_ble_eq_true rfl)) dX3_play_2 ⟨Nat.le_of_ble_eq_true rfl, Nat.le_of_ble_eq_true rfl⟩) hS (fun r_1 locs hw hS => ?_)
  have hw : r_1 = tB ((mi 4) = 3) := hw
  subst hw
  refine lv_if_eq (tgt := 12) hx hb dX3_play_5 (by decide) (fun c_5 => ?_) (fun c_5 => ?_)
  · have c_5 := tB_0.mp c_5
    refine lv_iconst (v := 0) hx hb dX3_play_12 (by decide) ?_
    refine va_put (D := D) (ci := 3) (v := .int 0) (ty := .int) (C := RX3) (T := TX3) (N := 15) hx hb hts iw_X3_play_X3 tyX3 tyX3_ok nmX3 hown hK hP hD hS 0 rfl rfl 14 (by decide) (hts _ lk_X3_play_Cond_fieldLink_RX3_29_SpliceRoomModel_code_I_) (fun _ h9 => h9) rfl (by decide +kernel) rfl rfl (Nat.le_of_ble_eq_true rfl) dX3_play_13 (fun H locs hP hD hS => ?_)
    have hP : va_P D vwCl [(m0, .inr (3, [.ref a0, .ref a1, .ref a2, .ref a3, .ref a4, .ref a5, .int (mi 0), .int (mi 1), .int (mi 2), .int (mi 3), .int (mi 4), .int (mi 5), .int (mi 6), .int (mi 7), .int 0])), (a0, .inl (cI, 6, .inl on)), (a1, .inl (cI, 7, .inl kd)), (a2, .inl (cI, 7, .inl sz)), (a3, .inl (cL, 280, .inr (.inl fr))), (a4, .inl (cL, 40, .inr (.inl li))), (a5, .inl (cI, 120, .inl st))] H := hP
    have hD : va_D A [(m0, .inr (3, [.ref a0, .ref a1, .ref a2, .ref a3, .ref a4, .ref a5, .int (mi 0), .int (mi 1), .int (mi 2), .int (mi 3), .int (mi 4), .int (mi 5), .int (mi 6), .int (mi 7), .int 0])), (a0, .inl (cI, 6, .inl on)), (a1, .inl (cI, 7, .inl kd)), (a2, .inl (cI, 7, .inl sz)), (a3, .inl (cL, 280, .inr (.inl fr))), (a4, .inl (cL, 40, .inr (.inl li))), (a5, .inl (cI, 120, .inl st))] := hD
    refine lv_iconst (v := 0) hx hb dX3_play_16 (by decide) ?_
    refine lv_istore_n (lv' := [(2, .int 0), (0, .ref m0), (1, .int w0)]) hx hb dX3_play_17 rfl hl (by decide) rfl (fun ls hl => ?_)
    refine lv_aload_n hx hb dX3_play_18 rfl (lv_at hl 1 rfl) ?_
    refine va_get (D := D) (ci := 3) (v := .int 0) (C := RX3) (T := TX3) (N := 15) hx hb hts iw_X3_play_X3 hown hK hP 0 rfl rfl 14 (by decide) (hts _ lk_X3_play_Cond_fieldLink_RX3_29_SpliceRoomModel_code_I_) (fun _ h9 => h9) rfl dX3_play_19 ?_
    refine lv_if_ne (tgt := 29) hx hb dX3_play_22 (by decide) (fun c9 => absurd (by decide) c9) (fun _ => ?_)
    refine lv_iconst (v := 1) hx hb dX3_play_25 (by decide) ?_
    refine lv_goto (tgt := 30) hx hb dX3_play_26 (by decide) ?_
    refine lv_istore_n (lv' := [(3, .int 1), (2, .int 0), (0, .ref m0), (1, .int w0)]) hx hb dX3_play_30 rfl hl (by decide) rfl (fun ls hl => ?_)
    refine lv_iconst (v := 0) hx hb dX3_play_31 (by decide) ?_
    refine lv_istore (lv' := [(4, .int 0), (3, .int 1), (2, .int 0), (0, .ref m0), (1, .int w0)]) hx hb dX3_play_32 hl (by decide) rfl (fun ls hl => ?_)
    have loop : ∀ (g d : Nat) (fr2 li2 : Nat → Int64) (mi2 : Nat → Int32) (H : Heap) (locs : List Loc) (ls : Array Slot), d ≤ n → n + 1 ≤ d + g → mi2 0 = nI n → (∀ u3 r3, MPlayRel on kd sz st n w0 g d fr2 li2 mi2 u3 r3 → MPlayRel on kd sz st n w0 (n + 1) 0 fr li (miC mi 0) u3 r3) → lv_has ls 7 [(4, .int (nI d)), (3, .int 1), (2, .int (nI d)), (0, .ref m0), (1, .int w0)] → va_P D vwCl [(m0, .inr (3, [.ref a0, .ref a1, .ref a2, .ref a3, .ref a4, .ref a5, .int (mi2 0), .int (mi2 1), .int (mi2 2), .int (mi2 3), .int (mi2 4), .int (mi2 5), .int (mi2 6), .int (mi2 7), .int (mi2 8)])), (a0, .inl (cI, 6, .inl on)), (a1, .inl (cI, 7, .inl kd)), (a2, .inl (cI, 7, .inl sz)), (a3, .inl (cL, 280, .inr (.inl fr2))), (a4, .inl (cL, 40, .inr (.inl li2))), (a5, .inl (cI, 120, .inl st))] H → va_D A [(m0, .inr (3, [.ref a0, .ref a1, .ref a2, .ref a3, .ref a4, .ref a5, .int (mi2 0), .int (mi2 1), .int (mi2 2), .int (mi2 3), .int (mi2 4), .int (mi2 5), .int (mi2 6), .int (mi2 7), .int (mi2 8)])), (a0, .inl (cI, 6, .inl on)), (a1, .inl (cI, 7, .inl kd)), (a2, .inl (cI, 7, .inl sz)), (a3, .inl (cL, 280, .inr (.inl fr2))), (a4, .inl (cL, 40, .inr (.inl li2))), (a5, .inl (cI, 120, .inl st))] → va_S A s.heap H locs → W p l e (headSpec wsX3_play ({ frames := 3, cells := 0, slots := 0, locals := 110 })).room s m ([.ref m0, .int w0] : List Value).toArray below meth c H locs 0 0 (MQ below (va_Qi (fun (r : Int32) (u : MS) => (mi 4 = 3 ∧ r = 0 ∧ u = (on, kd, sz, fr, li, st, miC mi 1)) ∨ (¬ mi 4 = 3 ∧ ∃ n1 : Nat, n1 ≤ 24 ∧ mi 0 = nI n1 ∧ MPlayRel on kd sz st n1 w0 (n1 + 1) 0 fr li (miC mi 0) u r)) (fun (u : MS) (t : State) => va_P D vwCl [(m0, .inr (3, [.ref a0, .ref a1, .ref a2, .ref a3, .ref a4, .ref a5, .int (u.2.2.2.2.2.2 0), .int (u.2.2.2.2.2.2 1), .int (u.2.2.2.2.2.2 2), .int (u.2.2.2.2.2.2 3), .int (u.2.2.2.2.2.2 4), .int (u.2.2.2.2.2.2 5), .int (u.2.2.2.2.2.2 6), .int (u.2.2.2.2.2.2 7), .int (u.2.2.2.2.2.2 8)])), (a0, .inl (cI, 6, .inl u.1)), (a1, .inl (cI, 7, .inl u.2.1)), (a2, .inl (cI, 7, .inl u.2.2.1)), (a3, .inl (cL, 280, .inr (.inl u.2.2.2.1))), (a4, .inl (cL, 40, .inr (.inl u.2.2.2.2.1))), (a5, .inl (cI, 120, .inl u.2.2.2.2.2.1))] t.heap ∧ va_D A [(m0, .inr (3, [.ref a0, .ref a1, .ref a2, .ref a3, .ref a4, .ref a5, .int (u.2.2.2.2.2.2 0), .int (u.2.2.2.2.2.2 1), .int (u.2.2.2.2.2.2 2), .int (u.2.2.2.2.2.2 3), .int (u.2.2.2.2.2.2 4), .int (u.2.2.2.2.2.2 5), .int (u.2.2.2.2.2.2 6), .int (u.2.2.2.2.2.2 7), .int (u.2.2.2.2.2.2 8)])), (a0, .inl (cI, 6, .inl u.1)), (a1, .inl (cI, 7, .inl u.2.1)), (a2, .inl (cI, 7, .inl u.2.2.1)), (a3, .inl (cL, 280, .inr (.inl u.2.2.2.1))), (a4, .inl (cL, 40, .inr (.inl u.2.2.2.2.1))), (a5, .inl (cI, 120, .inl u.2.2.2.2.2.1))]) A) ([.ref m0, .int w0] : List Value).toArray s 0 0 A) (F0 m 34 ls []) := by
      intro g
      induction g with
      | zero => intro d fr2 li2 mi2 H locs ls h1 h2; exact absurd h2 (by omega)
      | succ g ih =>
        intro d fr2 li2 mi2 H locs ls hd hg hm0 hgo hl hP hD hS
        refine lv_iload hx hb dX3_play_34 (lv_at hl 0 rfl) ?_
        refine lv_aload_n hx hb dX3_play_36 rfl (lv_at hl 3 rfl) ?_
        refine va_get (D := D) (ci := 3) (v := .int (mi2 0)) (C := RX3) (T := TX3) (N := 15) hx hb hts iw_X3_play_X3 hown hK hP 0 rfl rfl 6 (by decide) (hts _ lk_X3_play_Cond_fieldLink_RX3_95_SpliceRoomModel_steps_I_) (fun _ h9 => h9) rfl dX3_play_37 ?_
        refine lv_icmp_ge (tgt := 201) hx hb dX3_play_40 (by decide) (fun c_40 => ?_) (fun c_40 => ?_)
        · rw [hm0] at c_40
          have e6 : n = d := by have := (nI_leI (a := n) (b := d) (by omega) (by omega)).mp c_40; omega
          refine lv_iload_n hx hb dX3_play_201 rfl (lv_at hl 2 rfl) ?_
          exact W.iret (v := nI d) hx hb hr (fun t ht hW => ⟨⟨_, (on, kd, sz, fr2, li2, st, mi2), rfl, Or.inr ⟨c_5, n, hn, en, hgo _ _ (Or.inl ⟨by omega, rfl, by rw [e6]⟩)⟩, ⟨by rw [ht]; exact hP, hD⟩⟩, hS.F ht⟩) hS.2.2 dX3_play_202
        · rw [hm0] at c_40
          have hlt : d < n := Nat.lt_of_not_le (fun z9 => c_40 (nI_le z9 (by omega)))
          have hpl : plI w0 n d < n := by unfold plI; split <;> omega
          obtain ⟨⟨ja, la, ea⟩, ⟨jb, lb, eb⟩⟩ := hsh n hn en (plI w0 n d) hpl
          refine lv_iload_n hx hb dX3_play_43 rfl (lv_at hl 1 rfl) ?_
          refine lv_if_eq (tgt := 201) hx hb dX3_play_44 (by decide) (fun c9 => absurd c9 (by decide)) (fun _ => ?_)
          refine lv_iconst (v := 5) hx hb dX3_play_47 (by decide) ?_
          refine lv_iload_n hx hb dX3_play_48 rfl (lv_at hl 4 rfl) ?_
          refine lv_if_eq (tgt := 64) hx hb dX3_play_49 (by decide) (fun c_49 => ?_) (fun c_49 => ?_)
          · refine lv_iload hx hb dX3_play_64 (lv_at hl 0 rfl) ?_
            have epl : plI w0 n d = d := by unfold plI; rw [if_pos c_49]
            refine lv_topi (fun y_2 e9 => ?_)
            have e9 : y_2 = nI (plI w0 n d) := e9.trans (by rw [epl])
            subst e9
            refine lv_imul hx hb dX3_play_66 ?_
            refine lv_topi (fun y_3 e9 => ?_)
            have e9 : y_3 = nI (5 * plI w0 n d) := e9.trans (by rw [show (5 : Int32) = nI 5 from rfl, pk_mul])
            subst e9
            refine lv_istore (lv' := [(5, .int (nI (5 * plI w0 n d))), (4, .int (nI d)), (3, .int 1), (2, .int (nI d)), (0, .ref m0), (1, .int w0)]) hx hb dX3_play_67 hl (by decide) rfl (fun ls hl => ?_)
            refine lv_iload_n hx hb dX3_play_69 rfl (lv_at hl 5 rfl) ?_
            refine lv_if_eq (tgt := 123) hx hb dX3_play_70 (by decide) (fun _ => ?_) (fun c9 => absurd (c_49) c9)
            refine lv_aload_n hx hb dX3_play_123 rfl (lv_at hl 4 rfl) ?_
            refine lv_aload_n hx hb dX3_play_124 rfl (lv_at hl 4 rfl) ?_
            refine va_get (D := D) (ci := 3) (v := .ref a5) (C := RX3) (T := TX3) (N := 15) hx hb hts iw_X3_play_X3 hown hK hP 0 rfl rfl 5 (by decide) (hts _ lk_X3_play_Cond_fieldLink_RX3_26_SpliceRoomModel_sheet_I_) (fun _ h9 => h9) rfl dX3_play_125 ?_
            refine lv_iload hx hb dX3_play_128 (lv_at hl 0 rfl) ?_
            refine va_iald (D := D) hx hb hK hP 6 0 rfl rfl (vp_in_nI (show 5 * plI w0 n d < 120 by omega) (by decide)) dX3_play_130 ?_
            refine lv_topi (fun y_4 e9 => ?_)
            have e9 : y_4 = nI ja := e9.trans (by rw [nI_clamp (by omega)]; exact ea)
            subst e9
            refine lv_aload_n hx hb dX3_play_131 rfl (lv_at hl 4 rfl) ?_
            refine va_get (D := D) (ci := 3) (v := .ref a5) (C := RX3) (T := TX3) (N := 15) hx hb hts iw_X3_play_X3 hown hK hP 0 rfl rfl 5 (by decide) (hts _ lk_X3_play_Cond_fieldLink_RX3_26_SpliceRoomModel_sheet_I_) (fun _ h9 => h9) rfl dX3_play_132 ?_
            refine lv_iload hx hb dX3_play_135 (lv_at hl 0 rfl) ?_
            refine lv_iconst (v := 1) hx hb dX3_play_137 (by decide) ?_
            refine lv_iadd hx hb dX3_play_138 ?_
            refine va_iald (D := D) hx hb hK hP 6 0 rfl rfl (by rw [show (1 : Int32) = nI 1 from rfl, nI_add]; exact vp_in_nI (show 5 * plI w0 n d + 1 < 120 by omega) (by decide)) dX3_play_139 ?_
            refine lv_topi (fun y_5 e9 => ?_)
            have e9 : y_5 = st (5 * plI w0 n d + 1) := e9.trans (by rw [show (1 : Int32) = nI 1 from rfl, nI_add, nI_clamp (by omega)])
            subst e9
            refine lv_aload_n hx hb dX3_play_140 rfl (lv_at hl 4 rfl) ?_
            refine va_get (D := D) (ci := 3) (v := .ref a5) (C := RX3) (T := TX3) (N := 15) hx hb hts iw_X3_play_X3 hown hK hP 0 rfl rfl 5 (by decide) (hts _ lk_X3_play_Cond_fieldLink_RX3_26_SpliceRoomModel_sheet_I_) (fun _ h9 => h9) rfl dX3_play_141 ?_
            refine lv_iload hx hb dX3_play_144 (lv_at hl 0 rfl) ?_
            refine lv_iconst (v := 2) hx hb dX3_play_146 (by decide) ?_
            refine lv_iadd hx hb dX3_play_147 ?_
            refine va_iald (D := D) hx hb hK hP 6 0 rfl rfl (by rw [show (2 : Int32) = nI 2 from rfl, nI_add]; exact vp_in_nI (show 5 * plI w0 n d + 2 < 120 by omega) (by decide)) dX3_play_148 ?_
            refine lv_topi (fun y_6 e9 => ?_)
            have e9 : y_6 = nI jb := e9.trans (by rw [show (2 : Int32) = nI 2 from rfl, nI_add, nI_clamp (by omega)]; exact eb)
            subst e9
            refine lv_aload_n hx hb dX3_play_149 rfl (lv_at hl 4 rfl) ?_
            refine va_get (D := D) (ci := 3) (v := .ref a5) (C := RX3) (T := TX3) (N := 15) hx hb hts iw_X3_play_X3 hown hK hP 0 rfl rfl 5 (by decide) (hts _ lk_X3_play_Cond_fieldLink_RX3_26_SpliceRoomModel_sheet_I_) (fun _ h9 => h9) rfl dX3_play_150 ?_
            refine lv_iload hx hb dX3_play_153 (lv_at hl 0 rfl) ?_
            refine lv_iconst (v := 3) hx hb dX3_play_155 (by decide) ?_
            refine lv_iadd hx hb dX3_play_156 ?_
            refine va_iald (D := D) hx hb hK hP 6 0 rfl rfl (by rw [show (3 : Int32) = nI 3 from rfl, nI_add]; exact vp_in_nI (show 5 * plI w0 n d + 3 < 120 by omega) (by decide)) dX3_play_157 ?_
            refine lv_topi (fun y_7 e9 => ?_)
            have e9 : y_7 = st (5 * plI w0 n d + 3) := e9.trans (by rw [show (3 : Int32) = nI 3 from rfl, nI_add, nI_clamp (by omega)])
            subst e9
            refine lv_aload_n hx hb dX3_play_158 rfl (lv_at hl 4 rfl) ?_
            refine va_get (D := D) (ci := 3) (v := .ref a5) (C := RX3) (T := TX3) (N := 15) hx hb hts iw_X3_play_X3 hown hK hP 0 rfl rfl 5 (by decide) (hts _ lk_X3_play_Cond_fieldLink_RX3_26_SpliceRoomModel_sheet_I_) (fun _ h9 => h9) rfl dX3_play_159 ?_
            refine lv_iload hx hb dX3_play_162 (lv_at hl 0 rfl) ?_
            refine lv_iconst (v := 4) hx hb dX3_play_164 (by decide) ?_
            refine lv_iadd hx hb dX3_play_165 ?_
            refine va_iald (D := D) hx hb hK hP 6 0 rfl rfl (by rw [show (4 : Int32) = nI 4 from rfl, nI_add]; exact vp_in_nI (show 5 * plI w0 n d + 4 < 120 by omega) (by decide)) dX3_play_166 ?_
            refine lv_topi (fun y_8 e9 => ?_)
            have e9 : y_8 = st (5 * plI w0 n d + 4) := e9.trans (by rw [show (4 : Int32) = nI 4 from rfl, nI_add, nI_clamp (by omega)])
            subst e9
            have hFc := va_free (wc := [(m0, .inr (3, [.ref a0, .ref a1, .ref a2, .ref a3, .ref a4, .ref a5, .int (mi2 0), .int (mi2 1), .int (mi2 2), .int (mi2 3), .int (mi2 4), .int (mi2 5), .int (mi2 6), .int (mi2 7), .int (mi2 8)])), (a0, .inl (cI, 6, .inl on)), (a1, .inl (cI, 7, .inl kd)), (a2, .inl (cI, 7, .inl sz)), (a3, .inl (cL, 280, .inr (.inl fr2))), (a4, .inl (cL, 40, .inr (.inl li2))), (a5, .inl (cI, 120, .inl st))]) hD hS hA [0, 1, 2, 3, 4, 5, 6] rfl
            refine va_calli (va_runV (As := [.int (nI ja), .int (st (5 * plI w0 n d + 1)), .int (nI jb), .int (st (5 * plI w0 n d + 3)), .int (st (5 * plI w0 n d + 4))]) (rest := []) ⟨hx, hb, hml, hown, hts⟩ (c_X3_cut l (mi := mi9 (mi2 0) (mi2 1) (mi2 2) (mi2 3) (mi2 4) (mi2 5) (mi2 6) (mi2 7) (mi2 8)) (j1 := ja) (j2 := jb) (p0 := (st (5 * plI w0 n d + 1))) (q0 := (st (5 * plI w0 n d + 3))) (n0 := (st (5 * plI w0 n d + 4))) (hP.sub (ws' := [(m0, .inr (3, [.ref a0, .ref a1, .ref a2, .ref a3, .ref a4, .ref a5, .int (mi2 0), .int (mi2 1), .int (mi2 2), .int (mi2 3), .int (mi2 4), .int (mi2 5), .int (mi2 6), .int (mi2 7), .int (mi2 8)])), (a0, .inl (cI, 6, .inl on)), (a1, .inl (cI, 7, .inl kd)), (a2, .inl (cI, 7, .inl sz)), (a3, .inl (cL, 280, .inr (.inl fr2))), (a4, .inl (cL, 40, .inr (.inl li2))), (a5, .inl (cI, 120, .inl st))]) [0, 1, 2, 3, 4, 5, 6] rfl) ((hD.sub (ws' := [(m0, .inr (3, [.ref a0, .ref a1, .ref a2, .ref a3, .ref a4, .ref a5, .int (mi2 0), .int (mi2 1), .int (mi2 2), .int (mi2 3), .int (mi2 4), .int (mi2 5), .int (mi2 6), .int (mi2 7), .int (mi2 8)])), (a0, .inl (cI, 6, .inl on)), (a1, .inl (cI, 7, .inl kd)), (a2, .inl (cI, 7, .inl sz)), (a3, .inl (cL, 280, .inr (.inl fr2))), (a4, .inl (cL, 40, .inr (.inl li2))), (a5, .inl (cI, 120, .inl st))]) [0, 1, 2, 3, 4, 5, 6] (by decide) rfl).weaken (fun _ _ _ _ => trivial)) (fun q h => hN q (hFc q h)) hO hZ la lb) (cwV 5 hts gX3_play_X3_cut rfl rfl rfl (by decide +kernel) ⟨Nat.le_of_ble_eq_true rfl, Nat.le_of_ble_eq_true rfl⟩) (Pq.V hC hS hN (va_recv hK hP (ci := 3) (q0 := 0) rfl rfl)) rfl rfl hl.1 rfl (lv_room (Nat.le_of_ble_eq_true rfl)) dX3_play_167 ⟨Nat.le_of_ble_eq_true rfl, Nat.le_of_ble_eq_true rfl⟩) hS (fun q _ h => hFc q h) hFc (fun r_9 u t H1 locs ht hvm hw hB hz1 hk1 hS => ?_)
            obtain ⟨on3, kd3, sz3, fr3, li3, st3, mi3⟩ := u
            obtain ⟨hP1, hD1⟩ := hB
            rw [ht] at hP1
            obtain ⟨hP, hD⟩ := va_join (wr := []) (w1 := [(m0, .inr (3, [.ref a0, .ref a1, .ref a2, .ref a3, .ref a4, .ref a5, .int (mi3 0), .int (mi3 1), .int (mi3 2), .int (mi3 3), .int (mi3 4), .int (mi3 5), .int (mi3 6), .int (mi3 7), .int (mi3 8)])), (a0, .inl (cI, 6, .inl on3)), (a1, .inl (cI, 7, .inl kd3)), (a2, .inl (cI, 7, .inl sz3)), (a3, .inl (cL, 280, .inr (.inl fr3))), (a4, .inl (cL, 40, .inr (.inl li3))), (a5, .inl (cI, 120, .inl st3))]) hP hD [0, 1, 2, 3, 4, 5, 6] [] rfl rfl (by decide) (by decide) hk1 hFc hP1 hD1
            generalize H1 = H at hP hS ⊢
            have hP : va_P D vwCl [(m0, .inr (3, [.ref a0, .ref a1, .ref a2, .ref a3, .ref a4, .ref a5, .int (mi3 0), .int (mi3 1), .int (mi3 2), .int (mi3 3), .int (mi3 4), .int (mi3 5), .int (mi3 6), .int (mi3 7), .int (mi3 8)])), (a0, .inl (cI, 6, .inl on3)), (a1, .inl (cI, 7, .inl kd3)), (a2, .inl (cI, 7, .inl sz3)), (a3, .inl (cL, 280, .inr (.inl fr3))), (a4, .inl (cL, 40, .inr (.inl li3))), (a5, .inl (cI, 120, .inl st3))] H := hP.sub [0, 1, 2, 3, 4, 5, 6] rfl
            have hD : va_D A [(m0, .inr (3, [.ref a0, .ref a1, .ref a2, .ref a3, .ref a4, .ref a5, .int (mi3 0), .int (mi3 1), .int (mi3 2), .int (mi3 3), .int (mi3 4), .int (mi3 5), .int (mi3 6), .int (mi3 7), .int (mi3 8)])), (a0, .inl (cI, 6, .inl on3)), (a1, .inl (cI, 7, .inl kd3)), (a2, .inl (cI, 7, .inl sz3)), (a3, .inl (cL, 280, .inr (.inl fr3))), (a4, .inl (cL, 40, .inr (.inl li3))), (a5, .inl (cI, 120, .inl st3))] := hD.sub [0, 1, 2, 3, 4, 5, 6] (by decide) rfl
            have hk9 := MCut_k hw
            obtain ⟨e1, e2, e3, e4, -⟩ := id hk9
            subst e1
            subst e2
            subst e3
            subst e4
            refine lv_istore (lv' := [(6, .int r_9), (5, .int (nI (5 * plI w0 n d))), (4, .int (nI d)), (3, .int 1), (2, .int (nI d)), (0, .ref m0), (1, .int w0)]) hx hb dX3_play_170 hl (by decide) rfl (fun ls hl => ?_)
            refine lv_iload hx hb dX3_play_172 (lv_at hl 0 rfl) ?_
            refine lv_if_lt (tgt := 181) hx hb dX3_play_174 (by decide) (fun c_174 => ?_) (fun c_174 => ?_)
            · refine lv_iconst (v := 0) hx hb dX3_play_181 (by decide) ?_
              refine lv_istore_n (lv' := [(3, .int 0), (6, .int r_9), (5, .int (nI (5 * plI w0 n d))), (4, .int (nI d)), (2, .int (nI d)), (0, .ref m0), (1, .int w0)]) hx hb dX3_play_182 rfl hl (by decide) rfl (fun ls hl => ?_)
              refine lv_iload_n hx hb dX3_play_183 rfl (lv_at hl 0 rfl) ?_
              refine lv_if_eq (tgt := 193) hx hb dX3_play_184 (by decide) (fun _ => ?_) (fun c9 => absurd (by decide) c9)
              refine lv_iload_n hx hb dX3_play_193 rfl (lv_at hl 4 rfl) ?_
              refine lv_istore_n (lv' := [(2, .int (nI d)), (3, .int 0), (6, .int r_9), (5, .int (nI (5 * plI w0 n d))), (4, .int (nI d)), (0, .ref m0), (1, .int w0)]) hx hb dX3_play_194 rfl hl (by decide) rfl (fun ls hl => ?_)
              refine lv_iinc (v := nI (d + 1)) (lv' := [(4, .int (nI (d + 1))), (2, .int (nI d)), (3, .int 0), (6, .int r_9), (5, .int (nI (5 * plI w0 n d))), (0, .ref m0), (1, .int w0)]) hx hb dX3_play_195 hl (k := 4) rfl (nI_1 d) (by decide) rfl (fun ls hl => ?_)
              refine lv_goto (tgt := 34) hx hb dX3_play_198 (by decide) ?_
              refine lv_iload hx hb dX3_play_34 (lv_at hl 0 rfl) ?_
              refine lv_aload_n hx hb dX3_play_36 rfl (lv_at hl 5 rfl) ?_
              refine va_get (D := D) (ci := 3) (v := .int (mi3 0)) (C := RX3) (T := TX3) (N := 15) hx hb hts iw_X3_play_X3 hown hK hP 0 rfl rfl 6 (by decide) (hts _ lk_X3_play_Cond_fieldLink_RX3_95_SpliceRoomModel_steps_I_) (fun _ h9 => h9) rfl dX3_play_37 ?_
              refine lv_icmp_ge (tgt := 201) hx hb dX3_play_40 (by decide) (fun c_40 => ?_) (fun c_40 => ?_)
              · refine lv_iload_n hx hb dX3_play_201 rfl (lv_at hl 1 rfl) ?_
                exact W.iret (v := nI d) hx hb hr (fun t ht hW => ⟨⟨_, (on, kd, sz, fr3, li3, st, mi3), rfl, Or.inr ⟨c_5, n, hn, en, hgo _ _ (Or.inr ⟨hlt, ja, jb, r_9, _, _, fr3, li3, mi3, la, lb, Or.inl ⟨c_49, ea, eb, rfl, rfl⟩, hw, Or.inl ⟨c_174, rfl, rfl⟩⟩)⟩, ⟨by rw [ht]; exact hP, hD⟩⟩, hS.F ht⟩) hS.2.2 dX3_play_202
              · refine lv_iload_n hx hb dX3_play_43 rfl (lv_at hl 2 rfl) ?_
                refine lv_if_eq (tgt := 201) hx hb dX3_play_44 (by decide) (fun _ => ?_) (fun c9 => absurd (by decide) c9)
                refine lv_iload_n hx hb dX3_play_201 rfl (lv_at hl 1 rfl) ?_
                exact W.iret (v := nI d) hx hb hr (fun t ht hW => ⟨⟨_, (on, kd, sz, fr3, li3, st, mi3), rfl, Or.inr ⟨c_5, n, hn, en, hgo _ _ (Or.inr ⟨hlt, ja, jb, r_9, _, _, fr3, li3, mi3, la, lb, Or.inl ⟨c_49, ea, eb, rfl, rfl⟩, hw, Or.inl ⟨c_174, rfl, rfl⟩⟩)⟩, ⟨by rw [ht]; exact hP, hD⟩⟩, hS.F ht⟩) hS.2.2 dX3_play_202
            · refine lv_iconst (v := 1) hx hb dX3_play_177 (by decide) ?_
              refine lv_goto (tgt := 182) hx hb dX3_play_178 (by decide) ?_
              refine lv_istore_n (lv' := [(3, .int 1), (6, .int r_9), (5, .int (nI (5 * plI w0 n d))), (4, .int (nI d)), (2, .int (nI d)), (0, .ref m0), (1, .int w0)]) hx hb dX3_play_182 rfl hl (by decide) rfl (fun ls hl => ?_)
              refine lv_iload_n hx hb dX3_play_183 rfl (lv_at hl 0 rfl) ?_
              refine lv_if_eq (tgt := 193) hx hb dX3_play_184 (by decide) (fun c9 => absurd c9 (by decide)) (fun _ => ?_)
              refine lv_iload_n hx hb dX3_play_187 rfl (lv_at hl 4 rfl) ?_
              refine lv_iconst (v := 1) hx hb dX3_play_188 (by decide) ?_
              refine lv_iadd hx hb dX3_play_189 ?_
              refine lv_topi (fun y_10 e9 => ?_)
              have e9 : y_10 = nI (d + 1) := e9.trans (nI_1 d)
              subst e9
              refine lv_goto (tgt := 194) hx hb dX3_play_190 (by decide) ?_
              refine lv_istore_n (lv' := [(2, .int (nI (d + 1))), (3, .int 1), (6, .int r_9), (5, .int (nI (5 * plI w0 n d))), (4, .int (nI d)), (0, .ref m0), (1, .int w0)]) hx hb dX3_play_194 rfl hl (by decide) rfl (fun ls hl => ?_)
              refine lv_iinc (v := nI (d + 1)) (lv' := [(4, .int (nI (d + 1))), (2, .int (nI (d + 1))), (3, .int 1), (6, .int r_9), (5, .int (nI (5 * plI w0 n d))), (0, .ref m0), (1, .int w0)]) hx hb dX3_play_195 hl (k := 4) rfl (nI_1 d) (by decide) rfl (fun ls hl => ?_)
              refine lv_goto (tgt := 34) hx hb dX3_play_198 (by decide) ?_
              exact ih (d + 1) fr3 li3 mi3 _ _ _ (by omega) (by omega) (hk9.2.2.2.2.1.trans hm0) (fun u3 r3 z3 => hgo _ _ (Or.inr ⟨hlt, ja, jb, r_9, _, _, fr3, li3, mi3, la, lb, Or.inl ⟨c_49, ea, eb, rfl, rfl⟩, hw, Or.inr ⟨c_174, z3⟩⟩)) (lv_sub hl [0, 2, 1, 5, 6] rfl) hP hD hS
          · refine lv_aload_n hx hb dX3_play_52 rfl (lv_at hl 3 rfl) ?_
            refine va_get (D := D) (ci := 3) (v := .int (mi2 0)) (C := RX3) (T := TX3) (N := 15) hx hb hts iw_X3_play_X3 hown hK hP 0 rfl rfl 6 (by decide) (hts _ lk_X3_play_Cond_fieldLink_RX3_95_SpliceRoomModel_steps_I_) (fun _ h9 => h9) rfl dX3_play_53 ?_
            refine lv_iconst (v := 1) hx hb dX3_play_56 (by decide) ?_
            refine lv_isub hx hb dX3_play_57 ?_
            refine lv_iload hx hb dX3_play_58 (lv_at hl 0 rfl) ?_
            refine lv_isub hx hb dX3_play_60 ?_
            refine lv_goto (tgt := 66) hx hb dX3_play_61 (by decide) ?_
            have epl : plI w0 n d = n - 1 - d := by unfold plI; rw [if_neg c_49]
            refine lv_topi (fun y_11 e9 => ?_)
            have e9 : y_11 = nI (plI w0 n d) := e9.trans (by rw [hm0, show (1 : Int32) = nI 1 from rfl, pk_sub (by omega), pk_sub (by omega), epl])
            subst e9
            refine lv_imul hx hb dX3_play_66 ?_
            refine lv_topi (fun y_12 e9 => ?_)
            have e9 : y_12 = nI (5 * plI w0 n d) := e9.trans (by rw [show (5 : Int32) = nI 5 from rfl, pk_mul])
            subst e9
            refine lv_istore (lv' := [(5, .int (nI (5 * plI w0 n d))), (4, .int (nI d)), (3, .int 1), (2, .int (nI d)), (0, .ref m0), (1, .int w0)]) hx hb dX3_play_67 hl (by decide) rfl (fun ls hl => ?_)
            refine lv_iload_n hx hb dX3_play_69 rfl (lv_at hl 5 rfl) ?_
            refine lv_if_eq (tgt := 123) hx hb dX3_play_70 (by decide) (fun c9 => absurd c9 (c_49)) (fun _ => ?_)
            refine lv_aload_n hx hb dX3_play_73 rfl (lv_at hl 4 rfl) ?_
            refine lv_aload_n hx hb dX3_play_74 rfl (lv_at hl 4 rfl) ?_
            refine va_get (D := D) (ci := 3) (v := .ref a5) (C := RX3) (T := TX3) (N := 15) hx hb hts iw_X3_play_X3 hown hK hP 0 rfl rfl 5 (by decide) (hts _ lk_X3_play_Cond_fieldLink_RX3_26_SpliceRoomModel_sheet_I_) (fun _ h9 => h9) rfl dX3_play_75 ?_
            refine lv_iload hx hb dX3_play_78 (lv_at hl 0 rfl) ?_
            refine lv_iconst (v := 2) hx hb dX3_play_80 (by decide) ?_
            refine lv_iadd hx hb dX3_play_81 ?_
            refine va_iald (D := D) hx hb hK hP 6 0 rfl rfl (by rw [show (2 : Int32) = nI 2 from rfl, nI_add]; exact vp_in_nI (show 5 * plI w0 n d + 2 < 120 by omega) (by decide)) dX3_play_82 ?_
            refine lv_topi (fun y_13 e9 => ?_)
            have e9 : y_13 = nI jb := e9.trans (by rw [show (2 : Int32) = nI 2 from rfl, nI_add, nI_clamp (by omega)]; exact eb)
            subst e9
            refine lv_aload_n hx hb dX3_play_83 rfl (lv_at hl 4 rfl) ?_
            refine va_get (D := D) (ci := 3) (v := .ref a5) (C := RX3) (T := TX3) (N := 15) hx hb hts iw_X3_play_X3 hown hK hP 0 rfl rfl 5 (by decide) (hts _ lk_X3_play_Cond_fieldLink_RX3_26_SpliceRoomModel_sheet_I_) (fun _ h9 => h9) rfl dX3_play_84 ?_
            refine lv_iload hx hb dX3_play_87 (lv_at hl 0 rfl) ?_
            refine lv_iconst (v := 3) hx hb dX3_play_89 (by decide) ?_
            refine lv_iadd hx hb dX3_play_90 ?_
            refine va_iald (D := D) hx hb hK hP 6 0 rfl rfl (by rw [show (3 : Int32) = nI 3 from rfl, nI_add]; exact vp_in_nI (show 5 * plI w0 n d + 3 < 120 by omega) (by decide)) dX3_play_91 ?_
            refine lv_topi (fun y_14 e9 => ?_)
            have e9 : y_14 = st (5 * plI w0 n d + 3) := e9.trans (by rw [show (3 : Int32) = nI 3 from rfl, nI_add, nI_clamp (by omega)])
            subst e9
            refine lv_aload_n hx hb dX3_play_92 rfl (lv_at hl 4 rfl) ?_
            refine va_get (D := D) (ci := 3) (v := .ref a5) (C := RX3) (T := TX3) (N := 15) hx hb hts iw_X3_play_X3 hown hK hP 0 rfl rfl 5 (by decide) (hts _ lk_X3_play_Cond_fieldLink_RX3_26_SpliceRoomModel_sheet_I_) (fun _ h9 => h9) rfl dX3_play_93 ?_
            refine lv_iload hx hb dX3_play_96 (lv_at hl 0 rfl) ?_
            refine va_iald (D := D) hx hb hK hP 6 0 rfl rfl (vp_in_nI (show 5 * plI w0 n d < 120 by omega) (by decide)) dX3_play_98 ?_
            refine lv_topi (fun y_15 e9 => ?_)
            have e9 : y_15 = nI ja := e9.trans (by rw [nI_clamp (by omega)]; exact ea)
            subst e9
            refine lv_aload_n hx hb dX3_play_99 rfl (lv_at hl 4 rfl) ?_
            refine va_get (D := D) (ci := 3) (v := .ref a5) (C := RX3) (T := TX3) (N := 15) hx hb hts iw_X3_play_X3 hown hK hP 0 rfl rfl 5 (by decide) (hts _ lk_X3_play_Cond_fieldLink_RX3_26_SpliceRoomModel_sheet_I_) (fun _ h9 => h9) rfl dX3_play_100 ?_
            refine lv_iload hx hb dX3_play_103 (lv_at hl 0 rfl) ?_
            refine lv_iconst (v := 1) hx hb dX3_play_105 (by decide) ?_
            refine lv_iadd hx hb dX3_play_106 ?_
            refine va_iald (D := D) hx hb hK hP 6 0 rfl rfl (by rw [show (1 : Int32) = nI 1 from rfl, nI_add]; exact vp_in_nI (show 5 * plI w0 n d + 1 < 120 by omega) (by decide)) dX3_play_107 ?_
            refine lv_topi (fun y_16 e9 => ?_)
            have e9 : y_16 = st (5 * plI w0 n d + 1) := e9.trans (by rw [show (1 : Int32) = nI 1 from rfl, nI_add, nI_clamp (by omega)])
            subst e9
            refine lv_aload_n hx hb dX3_play_108 rfl (lv_at hl 4 rfl) ?_
            refine va_get (D := D) (ci := 3) (v := .ref a5) (C := RX3) (T := TX3) (N := 15) hx hb hts iw_X3_play_X3 hown hK hP 0 rfl rfl 5 (by decide) (hts _ lk_X3_play_Cond_fieldLink_RX3_26_SpliceRoomModel_sheet_I_) (fun _ h9 => h9) rfl dX3_play_109 ?_
            refine lv_iload hx hb dX3_play_112 (lv_at hl 0 rfl) ?_
            refine lv_iconst (v := 4) hx hb dX3_play_114 (by decide) ?_
            refine lv_iadd hx hb dX3_play_115 ?_
            refine va_iald (D := D) hx hb hK hP 6 0 rfl rfl (by rw [show (4 : Int32) = nI 4 from rfl, nI_add]; exact vp_in_nI (show 5 * plI w0 n d + 4 < 120 by omega) (by decide)) dX3_play_116 ?_
            refine lv_topi (fun y_17 e9 => ?_)
            have e9 : y_17 = st (5 * plI w0 n d + 4) := e9.trans (by rw [show (4 : Int32) = nI 4 from rfl, nI_add, nI_clamp (by omega)])
            subst e9
            have hFc := va_free (wc := [(m0, .inr (3, [.ref a0, .ref a1, .ref a2, .ref a3, .ref a4, .ref a5, .int (mi2 0), .int (mi2 1), .int (mi2 2), .int (mi2 3), .int (mi2 4), .int (mi2 5), .int (mi2 6), .int (mi2 7), .int (mi2 8)])), (a0, .inl (cI, 6, .inl on)), (a1, .inl (cI, 7, .inl kd)), (a2, .inl (cI, 7, .inl sz)), (a3, .inl (cL, 280, .inr (.inl fr2))), (a4, .inl (cL, 40, .inr (.inl li2))), (a5, .inl (cI, 120, .inl st))]) hD hS hA [0, 1, 2, 3, 4, 5, 6] rfl
            refine va_calli (va_runV (As := [.int (nI jb), .int (st (5 * plI w0 n d + 3)), .int (nI ja), .int (st (5 * plI w0 n d + 1)), .int (st (5 * plI w0 n d + 4))]) (rest := []) ⟨hx, hb, hml, hown, hts⟩ (c_X3_cut l (mi := mi9 (mi2 0) (mi2 1) (mi2 2) (mi2 3) (mi2 4) (mi2 5) (mi2 6) (mi2 7) (mi2 8)) (j1 := jb) (j2 := ja) (p0 := (st (5 * plI w0 n d + 3))) (q0 := (st (5 * plI w0 n d + 1))) (n0 := (st (5 * plI w0 n d + 4))) (hP.sub (ws' := [(m0, .inr (3, [.ref a0, .ref a1, .ref a2, .ref a3, .ref a4, .ref a5, .int (mi2 0), .int (mi2 1), .int (mi2 2), .int (mi2 3), .int (mi2 4), .int (mi2 5), .int (mi2 6), .int (mi2 7), .int (mi2 8)])), (a0, .inl (cI, 6, .inl on)), (a1, .inl (cI, 7, .inl kd)), (a2, .inl (cI, 7, .inl sz)), (a3, .inl (cL, 280, .inr (.inl fr2))), (a4, .inl (cL, 40, .inr (.inl li2))), (a5, .inl (cI, 120, .inl st))]) [0, 1, 2, 3, 4, 5, 6] rfl) ((hD.sub (ws' := [(m0, .inr (3, [.ref a0, .ref a1, .ref a2, .ref a3, .ref a4, .ref a5, .int (mi2 0), .int (mi2 1), .int (mi2 2), .int (mi2 3), .int (mi2 4), .int (mi2 5), .int (mi2 6), .int (mi2 7), .int (mi2 8)])), (a0, .inl (cI, 6, .inl on)), (a1, .inl (cI, 7, .inl kd)), (a2, .inl (cI, 7, .inl sz)), (a3, .inl (cL, 280, .inr (.inl fr2))), (a4, .inl (cL, 40, .inr (.inl li2))), (a5, .inl (cI, 120, .inl st))]) [0, 1, 2, 3, 4, 5, 6] (by decide) rfl).weaken (fun _ _ _ _ => trivial)) (fun q h => hN q (hFc q h)) hO hZ lb la) (cwV 5 hts gX3_play_X3_cut rfl rfl rfl (by decide +kernel) ⟨Nat.le_of_ble_eq_true rfl, Nat.le_of_ble_eq_true rfl⟩) (Pq.V hC hS hN (va_recv hK hP (ci := 3) (q0 := 0) rfl rfl)) rfl rfl hl.1 rfl (lv_room (Nat.le_of_ble_eq_true rfl)) dX3_play_117 ⟨Nat.le_of_ble_eq_true rfl, Nat.le_of_ble_eq_true rfl⟩) hS (fun q _ h => hFc q h) hFc (fun r_18 u t H1 locs ht hvm hw hB hz1 hk1 hS => ?_)
            obtain ⟨on3, kd3, sz3, fr3, li3, st3, mi3⟩ := u
            obtain ⟨hP1, hD1⟩ := hB
            rw [ht] at hP1
            obtain ⟨hP, hD⟩ := va_join (wr := []) (w1 := [(m0, .inr (3, [.ref a0, .ref a1, .ref a2, .ref a3, .ref a4, .ref a5, .int (mi3 0), .int (mi3 1), .int (mi3 2), .int (mi3 3), .int (mi3 4), .int (mi3 5), .int (mi3 6), .int (mi3 7), .int (mi3 8)])), (a0, .inl (cI, 6, .inl on3)), (a1, .inl (cI, 7, .inl kd3)), (a2, .inl (cI, 7, .inl sz3)), (a3, .inl (cL, 280, .inr (.inl fr3))), (a4, .inl (cL, 40, .inr (.inl li3))), (a5, .inl (cI, 120, .inl st3))]) hP hD [0, 1, 2, 3, 4, 5, 6] [] rfl rfl (by decide) (by decide) hk1 hFc hP1 hD1
            generalize H1 = H at hP hS ⊢
            have hP : va_P D vwCl [(m0, .inr (3, [.ref a0, .ref a1, .ref a2, .ref a3, .ref a4, .ref a5, .int (mi3 0), .int (mi3 1), .int (mi3 2), .int (mi3 3), .int (mi3 4), .int (mi3 5), .int (mi3 6), .int (mi3 7), .int (mi3 8)])), (a0, .inl (cI, 6, .inl on3)), (a1, .inl (cI, 7, .inl kd3)), (a2, .inl (cI, 7, .inl sz3)), (a3, .inl (cL, 280, .inr (.inl fr3))), (a4, .inl (cL, 40, .inr (.inl li3))), (a5, .inl (cI, 120, .inl st3))] H := hP.sub [0, 1, 2, 3, 4, 5, 6] rfl
            have hD : va_D A [(m0, .inr (3, [.ref a0, .ref a1, .ref a2, .ref a3, .ref a4, .ref a5, .int (mi3 0), .int (mi3 1), .int (mi3 2), .int (mi3 3), .int (mi3 4), .int (mi3 5), .int (mi3 6), .int (mi3 7), .int (mi3 8)])), (a0, .inl (cI, 6, .inl on3)), (a1, .inl (cI, 7, .inl kd3)), (a2, .inl (cI, 7, .inl sz3)), (a3, .inl (cL, 280, .inr (.inl fr3))), (a4, .inl (cL, 40, .inr (.inl li3))), (a5, .inl (cI, 120, .inl st3))] := hD.sub [0, 1, 2, 3, 4, 5, 6] (by decide) rfl
            have hk9 := MCut_k hw
            obtain ⟨e1, e2, e3, e4, -⟩ := id hk9
            subst e1
            subst e2
            subst e3
            subst e4
            refine lv_goto (tgt := 170) hx hb dX3_play_120 (by decide) ?_
            refine lv_istore (lv' := [(6, .int r_18), (5, .int (nI (5 * plI w0 n d))), (4, .int (nI d)), (3, .int 1), (2, .int (nI d)), (0, .ref m0), (1, .int w0)]) hx hb dX3_play_170 hl (by decide) rfl (fun ls hl => ?_)
            refine lv_iload hx hb dX3_play_172 (lv_at hl 0 rfl) ?_
            refine lv_if_lt (tgt := 181) hx hb dX3_play_174 (by decide) (fun c_174 => ?_) (fun c_174 => ?_)
            · refine lv_iconst (v := 0) hx hb dX3_play_181 (by decide) ?_
              refine lv_istore_n (lv' := [(3, .int 0), (6, .int r_18), (5, .int (nI (5 * plI w0 n d))), (4, .int (nI d)), (2, .int (nI d)), (0, .ref m0), (1, .int w0)]) hx hb dX3_play_182 rfl hl (by decide) rfl (fun ls hl => ?_)
              refine lv_iload_n hx hb dX3_play_183 rfl (lv_at hl 0 rfl) ?_
              refine lv_if_eq (tgt := 193) hx hb dX3_play_184 (by decide) (fun _ => ?_) (fun c9 => absurd (by decide) c9)
              refine lv_iload_n hx hb dX3_play_193 rfl (lv_at hl 4 rfl) ?_
              refine lv_istore_n (lv' := [(2, .int (nI d)), (3, .int 0), (6, .int r_18), (5, .int (nI (5 * plI w0 n d))), (4, .int (nI d)), (0, .ref m0), (1, .int w0)]) hx hb dX3_play_194 rfl hl (by decide) rfl (fun ls hl => ?_)
              refine lv_iinc (v := nI (d + 1)) (lv' := [(4, .int (nI (d + 1))), (2, .int (nI d)), (3, .int 0), (6, .int r_18), (5, .int (nI (5 * plI w0 n d))), (0, .ref m0), (1, .int w0)]) hx hb dX3_play_195 hl (k := 4) rfl (nI_1 d) (by decide) rfl (fun ls hl => ?_)
              refine lv_goto (tgt := 34) hx hb dX3_play_198 (by decide) ?_
              refine lv_iload hx hb dX3_play_34 (lv_at hl 0 rfl) ?_
              refine lv_aload_n hx hb dX3_play_36 rfl (lv_at hl 5 rfl) ?_
              refine va_get (D := D) (ci := 3) (v := .int (mi3 0)) (C := RX3) (T := TX3) (N := 15) hx hb hts iw_X3_play_X3 hown hK hP 0 rfl rfl 6 (by decide) (hts _ lk_X3_play_Cond_fieldLink_RX3_95_SpliceRoomModel_steps_I_) (fun _ h9 => h9) rfl dX3_play_37 ?_
              refine lv_icmp_ge (tgt := 201) hx hb dX3_play_40 (by decide) (fun c_40 => ?_) (fun c_40 => ?_)
              · refine lv_iload_n hx hb dX3_play_201 rfl (lv_at hl 1 rfl) ?_
                exact W.iret (v := nI d) hx hb hr (fun t ht hW => ⟨⟨_, (on, kd, sz, fr3, li3, st, mi3), rfl, Or.inr ⟨c_5, n, hn, en, hgo _ _ (Or.inr ⟨hlt, jb, ja, r_18, _, _, fr3, li3, mi3, lb, la, Or.inr ⟨c_49, eb, ea, rfl, rfl⟩, hw, Or.inl ⟨c_174, rfl, rfl⟩⟩)⟩, ⟨by rw [ht]; exact hP, hD⟩⟩, hS.F ht⟩) hS.2.2 dX3_play_202
              · refine lv_iload_n hx hb dX3_play_43 rfl (lv_at hl 2 rfl) ?_
                refine lv_if_eq (tgt := 201) hx hb dX3_play_44 (by decide) (fun _ => ?_) (fun c9 => absurd (by decide) c9)
                refine lv_iload_n hx hb dX3_play_201 rfl (lv_at hl 1 rfl) ?_
                exact W.iret (v := nI d) hx hb hr (fun t ht hW => ⟨⟨_, (on, kd, sz, fr3, li3, st, mi3), rfl, Or.inr ⟨c_5, n, hn, en, hgo _ _ (Or.inr ⟨hlt, jb, ja, r_18, _, _, fr3, li3, mi3, lb, la, Or.inr ⟨c_49, eb, ea, rfl, rfl⟩, hw, Or.inl ⟨c_174, rfl, rfl⟩⟩)⟩, ⟨by rw [ht]; exact hP, hD⟩⟩, hS.F ht⟩) hS.2.2 dX3_play_202
            · refine lv_iconst (v := 1) hx hb dX3_play_177 (by decide) ?_
              refine lv_goto (tgt := 182) hx hb dX3_play_178 (by decide) ?_
              refine lv_istore_n (lv' := [(3, .int 1), (6, .int r_18), (5, .int (nI (5 * plI w0 n d))), (4, .int (nI d)), (2, .int (nI d)), (0, .ref m0), (1, .int w0)]) hx hb dX3_play_182 rfl hl (by decide) rfl (fun ls hl => ?_)
              refine lv_iload_n hx hb dX3_play_183 rfl (lv_at hl 0 rfl) ?_
              refine lv_if_eq (tgt := 193) hx hb dX3_play_184 (by decide) (fun c9 => absurd c9 (by decide)) (fun _ => ?_)
              refine lv_iload_n hx hb dX3_play_187 rfl (lv_at hl 4 rfl) ?_
              refine lv_iconst (v := 1) hx hb dX3_play_188 (by decide) ?_
              refine lv_iadd hx hb dX3_play_189 ?_
              refine lv_topi (fun y_19 e9 => ?_)
              have e9 : y_19 = nI (d + 1) := e9.trans (nI_1 d)
              subst e9
              refine lv_goto (tgt := 194) hx hb dX3_play_190 (by decide) ?_
              refine lv_istore_n (lv' := [(2, .int (nI (d + 1))), (3, .int 1), (6, .int r_18), (5, .int (nI (5 * plI w0 n d))), (4, .int (nI d)), (0, .ref m0), (1, .int w0)]) hx hb dX3_play_194 rfl hl (by decide) rfl (fun ls hl => ?_)
              refine lv_iinc (v := nI (d + 1)) (lv' := [(4, .int (nI (d + 1))), (2, .int (nI (d + 1))), (3, .int 1), (6, .int r_18), (5, .int (nI (5 * plI w0 n d))), (0, .ref m0), (1, .int w0)]) hx hb dX3_play_195 hl (k := 4) rfl (nI_1 d) (by decide) rfl (fun ls hl => ?_)
              refine lv_goto (tgt := 34) hx hb dX3_play_198 (by decide) ?_
              exact ih (d + 1) fr3 li3 mi3 _ _ _ (by omega) (by omega) (hk9.2.2.2.2.1.trans hm0) (fun u3 r3 z3 => hgo _ _ (Or.inr ⟨hlt, jb, ja, r_18, _, _, fr3, li3, mi3, lb, la, Or.inr ⟨c_49, eb, ea, rfl, rfl⟩, hw, Or.inr ⟨c_174, z3⟩⟩)) (lv_sub hl [0, 2, 1, 5, 6] rfl) hP hD hS
    exact loop (n + 1) 0 _ _ (miC mi 0) _ _ _ (by omega) (by omega) en (fun _ _ z9 => z9) (lv_sub hl [0, 1, 2, 3, 4] rfl) hP hD hS
  · have c_5 := tB_n.mp c_5
    refine lv_iconst (v := 1) hx hb dX3_play_8 (by decide) ?_
    refine lv_goto (tgt := 13) hx hb dX3_play_9 (by decide) ?_
    refine va_put (D := D) (ci := 3) (v := .int 1) (ty := .int) (C := RX3) (T := TX3) (N := 15) hx hb hts iw_X3_play_X3 tyX3 tyX3_ok nmX3 hown hK hP hD hS 0 rfl rfl 14 (by decide) (hts _ lk_X3_play_Cond_fieldLink_RX3_29_SpliceRoomModel_code_I_) (fun _ h9 => h9) rfl (by decide +kernel) rfl rfl (Nat.le_of_ble_eq_true rfl) dX3_play_13 (fun H locs hP hD hS => ?_)
    have hP : va_P D vwCl [(m0, .inr (3, [.ref a0, .ref a1, .ref a2, .ref a3, .ref a4, .ref a5, .int (mi 0), .int (mi 1), .int (mi 2), .int (mi 3), .int (mi 4), .int (mi 5), .int (mi 6), .int (mi 7), .int 1])), (a0, .inl (cI, 6, .inl on)), (a1, .inl (cI, 7, .inl kd)), (a2, .inl (cI, 7, .inl sz)), (a3, .inl (cL, 280, .inr (.inl fr))), (a4, .inl (cL, 40, .inr (.inl li))), (a5, .inl (cI, 120, .inl st))] H := hP
    have hD : va_D A [(m0, .inr (3, [.ref a0, .ref a1, .ref a2, .ref a3, .ref a4, .ref a5, .int (mi 0), .int (mi 1), .int (mi 2), .int (mi 3), .int (mi 4), .int (mi 5), .int (mi 6), .int (mi 7), .int 1])), (a0, .inl (cI, 6, .inl on)), (a1, .inl (cI, 7, .inl kd)), (a2, .inl (cI, 7, .inl sz)), (a3, .inl (cL, 280, .inr (.inl fr))), (a4, .inl (cL, 40, .inr (.inl li))), (a5, .inl (cI, 120, .inl st))] := hD
    refine lv_iconst (v := 0) hx hb dX3_play_16 (by decide) ?_
    refine lv_istore_n (lv' := [(2, .int 0), (0, .ref m0), (1, .int w0)]) hx hb dX3_play_17 rfl hl (by decide) rfl (fun ls hl => ?_)
    refine lv_aload_n hx hb dX3_play_18 rfl (lv_at hl 1 rfl) ?_
    refine va_get (D := D) (ci := 3) (v := .int 1) (C := RX3) (T := TX3) (N := 15) hx hb hts iw_X3_play_X3 hown hK hP 0 rfl rfl 14 (by decide) (hts _ lk_X3_play_Cond_fieldLink_RX3_29_SpliceRoomModel_code_I_) (fun _ h9 => h9) rfl dX3_play_19 ?_
    refine lv_if_ne (tgt := 29) hx hb dX3_play_22 (by decide) (fun _ => ?_) (fun c9 => absurd c9 (by decide))
    refine lv_iconst (v := 0) hx hb dX3_play_29 (by decide) ?_
    refine lv_istore_n (lv' := [(3, .int 0), (2, .int 0), (0, .ref m0), (1, .int w0)]) hx hb dX3_play_30 rfl hl (by decide) rfl (fun ls hl => ?_)
    refine lv_iconst (v := 0) hx hb dX3_play_31 (by decide) ?_
    refine lv_istore (lv' := [(4, .int 0), (3, .int 0), (2, .int 0), (0, .ref m0), (1, .int w0)]) hx hb dX3_play_32 hl (by decide) rfl (fun ls hl => ?_)
    refine lv_iload hx hb dX3_play_34 (lv_at hl 0 rfl) ?_
    refine lv_aload_n hx hb dX3_play_36 rfl (lv_at hl 3 rfl) ?_
    refine va_get (D := D) (ci := 3) (v := .int (mi 0)) (C := RX3) (T := TX3) (N := 15) hx hb hts iw_X3_play_X3 hown hK hP 0 rfl rfl 6 (by decide) (hts _ lk_X3_play_Cond_fieldLink_RX3_95_SpliceRoomModel_steps_I_) (fun _ h9 => h9) rfl dX3_play_37 ?_
    refine lv_icmp_ge (tgt := 201) hx hb dX3_play_40 (by decide) (fun c_40 => ?_) (fun c_40 => ?_)
    · refine lv_iload_n hx hb dX3_play_201 rfl (lv_at hl 2 rfl) ?_
      exact W.iret (v := 0) hx hb hr (fun t ht hW => ⟨⟨_, (on, kd, sz, fr, li, st, mi9 (mi 0) (mi 1) (mi 2) (mi 3) (mi 4) (mi 5) (mi 6) (mi 7) 1), rfl, Or.inl ⟨c_5, rfl, rfl⟩, ⟨by rw [ht]; exact hP, hD⟩⟩, hS.F ht⟩) hS.2.2 dX3_play_202
    · refine lv_iload_n hx hb dX3_play_43 rfl (lv_at hl 1 rfl) ?_
      refine lv_if_eq (tgt := 201) hx hb dX3_play_44 (by decide) (fun _ => ?_) (fun c9 => absurd (by decide) c9)
      refine lv_iload_n hx hb dX3_play_201 rfl (lv_at hl 2 rfl) ?_
      exact W.iret (v := 0) hx hb hr (fun t ht hW => ⟨⟨_, (on, kd, sz, fr, li, st, mi9 (mi 0) (mi 1) (mi 2) (mi 3) (mi 4) (mi 5) (mi 6) (mi 7) 1), rfl, Or.inl ⟨c_5, rfl, rfl⟩, ⟨by rw [ht]; exact hP, hD⟩⟩, hS.F ht⟩) hS.2.2 dX3_play_202
theorem iw_X3_init_X3 : ∀ w ∈ wsX30, w ∈ wsX3_init := by decide +kernel
theorem lk_X3_init_Cond_arrayClass_int : Cond.arrayClass .int ∈ wsX3_init := by decide +kernel
theorem lk_X3_init_Cond_arrayClass_long : Cond.arrayClass .long ∈ wsX3_init := by decide +kernel
theorem lk_X3_init_Cond_code_objectInit_0xb1_1_none : Cond.code objectInit ⟨#[0xb1]⟩ 1 none ∈ wsX3_init := by decide +kernel
theorem lk_X3_init_Cond_fieldLink_RX3_13_SpliceRoomModel_kinds_I_ : Cond.fieldLink RX3 13 "SpliceRoomModel" "kinds" "[I" ∈ wsX3_init := by decide +kernel
theorem lk_X3_init_Cond_fieldLink_RX3_16_SpliceRoomModel_sizes_I_ : Cond.fieldLink RX3 16 "SpliceRoomModel" "sizes" "[I" ∈ wsX3_init := by decide +kernel
theorem lk_X3_init_Cond_fieldLink_RX3_19_SpliceRoomModel_frames_J_ : Cond.fieldLink RX3 19 "SpliceRoomModel" "frames" "[J" ∈ wsX3_init := by decide +kernel
theorem lk_X3_init_Cond_fieldLink_RX3_23_SpliceRoomModel_lifted_J_ : Cond.fieldLink RX3 23 "SpliceRoomModel" "lifted" "[J" ∈ wsX3_init := by decide +kernel
theorem lk_X3_init_Cond_fieldLink_RX3_26_SpliceRoomModel_sheet_I_ : Cond.fieldLink RX3 26 "SpliceRoomModel" "sheet" "[I" ∈ wsX3_init := by decide +kernel
theorem lk_X3_init_Cond_fieldLink_RX3_7_SpliceRoomModel_on_I_ : Cond.fieldLink RX3 7 "SpliceRoomModel" "on" "[I" ∈ wsX3_init := by decide +kernel
theorem lk_X3_init_Cond_instanceMethod_objectInit : Cond.instanceMethod objectInit ∈ wsX3_init := by decide +kernel
theorem lk_X3_init_Cond_methodLink_RX3_1_objectInit : Cond.methodLink RX3 1 objectInit ∈ wsX3_init := by decide +kernel
set_option maxHeartbeats 4000000 in
set_option maxRecDepth 100000 in
theorem c_X3_init (l : Launch) {D : va_G} {cI cL cQ : ClassId} {N0 : Nat} {sa : Nat → Nat} {Hc : Heap} {m0 : Nat} (hP : va_P D vwCl [(m0, .inr (3, [.null, .null, .null, .null, .null, .null, .int 0, .int 0, .int 0, .int 0, .int 0, .int 0, .int 0, .int 0, .int 0]))] Hc) (hD0 : va_D nT [(m0, .inr (3, [.null, .null, .null, .null, .null, .null, .int 0, .int 0, .int 0, .int 0, .int 0, .int 0, .int 0, .int 0, .int 0]))]) (hN : ∀ q, va_A [(m0, .inr (3, [.null, .null, .null, .null, .null, .null, .int 0, .int 0, .int 0, .int 0, .int 0, .int 0, .int 0, .int 0, .int 0]))] Hc.size q → N0 ≤ q) : Met l yX3_init wsX3_init ({ frames := 1, cells := 6, slots := 460, locals := 20 }) (Pq D cI cL cQ N0 sa [.ref m0] Hc) (va_Qv (fun (u : (Nat × Nat × Nat × Nat × Nat × Nat) × (Nat → Int32)) => ∀ t, t < 6 → u.2 t = -1) (fun (u : (Nat × Nat × Nat × Nat × Nat × Nat) × (Nat → Int32)) (t : State) => va_P D vwCl [(m0, .inr (3, [.ref u.1.1, .ref u.1.2.1, .ref u.1.2.2.1, .ref u.1.2.2.2.1, .ref u.1.2.2.2.2.1, .ref u.1.2.2.2.2.2, .int 0, .int 0, .int 0, .int 0, .int 0, .int 0, .int 0, .int 0, .int 0])), (u.1.1, .inl (cI, 6, .inl u.2)), (u.1.2.1, .inl (cI, 7, .inl (fun _ => 0))), (u.1.2.2.1, .inl (cI, 7, .inl (fun _ => 0))), (u.1.2.2.2.1, .inl (cL, 280, .inr (.inl (fun _ => 0)))), (u.1.2.2.2.2.1, .inl (cL, 40, .inr (.inl (fun _ => 0)))), (u.1.2.2.2.2.2, .inl (cI, 120, .inl (fun _ => 0)))] t.heap ∧ va_D (va_A [(m0, .inr (3, [.null, .null, .null, .null, .null, .null, .int 0, .int 0, .int 0, .int 0, .int 0, .int 0, .int 0, .int 0, .int 0]))] Hc.size) [(m0, .inr (3, [.ref u.1.1, .ref u.1.2.1, .ref u.1.2.2.1, .ref u.1.2.2.2.1, .ref u.1.2.2.2.2.1, .ref u.1.2.2.2.2.2, .int 0, .int 0, .int 0, .int 0, .int 0, .int 0, .int 0, .int 0, .int 0])), (u.1.1, .inl (cI, 6, .inl u.2)), (u.1.2.1, .inl (cI, 7, .inl (fun _ => 0))), (u.1.2.2.1, .inl (cI, 7, .inl (fun _ => 0))), (u.1.2.2.2.1, .inl (cL, 280, .inr (.inl (fun _ => 0)))), (u.1.2.2.2.2.1, .inl (cL, 40, .inr (.inl (fun _ => 0)))), (u.1.2.2.2.2.2, .inl (cI, 120, .inl (fun _ => 0)))]) (va_A [(m0, .inr (3, [.null, .null, .null, .null, .null, .null, .int 0, .int 0, .int 0, .int 0, .int 0, .int 0, .int 0, .int 0, .int 0]))] Hc.size)) 6 460 (va_A [(m0, .inr (3, [.null, .null, .null, .null, .null, .null, .int 0, .int 0, .int 0, .int 0, .int 0, .int 0, .int 0, .int 0, .int 0]))] Hc.size) := by
  refine Met.ofW (cc := cX3_init) (maxL := 2) (ret := none) (by decide) rfl ?_
  intro p e s m args below meth c s₁ B hml hv
  obtain ⟨rfl, hH, hC⟩ := hv
  have hx := B.exec
  have hb := B.bytes
  have hr := B.returns
  have hts := atoms_spec (ws := wsX3_init) B.pre
  have hown : s.vm.findClass RX3 = some m.cls := findClass_of_methodNamed B.named
  have hlocks := B.notSynchronized
  have hin : meth.name = "<init>" := (name_of_methodNamed B.named B.method).1
  subst hH
  have hK := hC.K
  have hl := lv_entry ([.ref m0]) (n := 2) (Nat.le_of_ble_eq_true rfl)
  rw [lg_entry_eq]
  generalize (lg_sl ([.ref m0]) ++ List.replicate (2 - (lg_sl ([.ref m0])).length) Slot.unset).toArray = ls at hl ⊢
  have hl : lv_has ls 2 [(0, .ref m0)] := hl
  have hP : va_P D vwCl [(m0, .inr (3, [.null, .null, .null, .null, .null, .null, .int 0, .int 0, .int 0, .int 0, .int 0, .int 0, .int 0, .int 0, .int 0]))] s.heap := hP
  have hD := hD0.self (sz := s.heap.size)
  generalize hAe : va_A [(m0, .inr (3, [.null, .null, .null, .null, .null, .null, .int 0, .int 0, .int 0, .int 0, .int 0, .int 0, .int 0, .int 0, .int 0]))] s.heap.size = A at hD hN ⊢
  have hA : ∀ q : Nat, s.heap.size ≤ q → A q := fun q h => by rw [← hAe]; exact Or.inr h
  have hS : va_S A s.heap s.heap [] := va_S.rf
  refine lv_aload_n hx hb dX3_init_0 rfl (lv_at hl 0 rfl) ?_
  refine W.objInit hx hb hown (hts _ lk_X3_init_Cond_methodLink_RX3_1_objectInit) (hts _ lk_X3_init_Cond_instanceMethod_objectInit) (hts _ lk_X3_init_Cond_code_objectInit_0xb1_1_none) rfl (by rw [hml]; exact hl.1) rfl dX3_init_1 (Nat.le_of_ble_eq_true rfl) (Nat.le_of_ble_eq_true rfl) ?_
  refine W.eq (g2 := F0 m 4 ls []) rfl ?_
  refine lv_aload_n hx hb dX3_init_4 rfl (lv_at hl 0 rfl) ?_
  refine lv_bipush (v := 6) hx hb dX3_init_5 (by decide) ?_
  refine va_newa (D := D) (atype := .int) hx hb (hts _ lk_X3_init_Cond_arrayClass_int) (ty := .int) rfl hK hP hD hS hA (N' := 6) (a0 := (6, .inl (fun _ => 0))) (fun cA => rfl) (by decide) (by decide) (by decide) (Nat.le_of_ble_eq_true rfl) (Nat.le_of_ble_eq_true rfl) dX3_init_7 (fun a0 cA H hK1 hP hD hS => ?_)
  have eK := K_idI hK hK1
  subst eK
  have hP : va_P D vwCl [(m0, .inr (3, [.null, .null, .null, .null, .null, .null, .int 0, .int 0, .int 0, .int 0, .int 0, .int 0, .int 0, .int 0, .int 0])), (a0, .inl (cI, 6, .inl (fun _ => 0)))] H := hP
  have hD : va_D A [(m0, .inr (3, [.null, .null, .null, .null, .null, .null, .int 0, .int 0, .int 0, .int 0, .int 0, .int 0, .int 0, .int 0, .int 0])), (a0, .inl (cI, 6, .inl (fun _ => 0)))] := hD
  refine va_putF (D := D) (ci := 3) (v := .ref a0) (ty := .array .int) (C := RX3) (T := TX3) (N := 15) hx hb hts iw_X3_init_X3 tyX3 tyX3_ok nmX3 hown hK hP hD hS 0 rfl rfl 0 (by decide) (hts _ lk_X3_init_Cond_fieldLink_RX3_7_SpliceRoomModel_on_I_) (fun _ h9 => h9) rfl hin rfl (by decide +kernel) rfl rfl (Nat.le_of_ble_eq_true rfl) dX3_init_9 (fun H locs hP hD hS => ?_)
  have hP : va_P D vwCl [(m0, .inr (3, [.ref a0, .null, .null, .null, .null, .null, .int 0, .int 0, .int 0, .int 0, .int 0, .int 0, .int 0, .int 0, .int 0])), (a0, .inl (cI, 6, .inl (fun _ => 0)))] H := hP
  have hD : va_D A [(m0, .inr (3, [.ref a0, .null, .null, .null, .null, .null, .int 0, .int 0, .int 0, .int 0, .int 0, .int 0, .int 0, .int 0, .int 0])), (a0, .inl (cI, 6, .inl (fun _ => 0)))] := hD
  refine lv_aload_n hx hb dX3_init_12 rfl (lv_at hl 0 rfl) ?_
  refine lv_bipush (v := 7) hx hb dX3_init_13 (by decide) ?_
  refine va_newa (D := D) (atype := .int) hx hb (hts _ lk_X3_init_Cond_arrayClass_int) (ty := .int) rfl hK hP hD hS hA (N' := 7) (a0 := (7, .inl (fun _ => 0))) (fun cA => rfl) (by decide) (by decide) (by decide) (Nat.le_of_ble_eq_true rfl) (Nat.le_of_ble_eq_true rfl) dX3_init_15 (fun a1 cA H hK1 hP hD hS => ?_)
  have eK := K_idI hK hK1
  subst eK
  have hP : va_P D vwCl [(m0, .inr (3, [.ref a0, .null, .null, .null, .null, .null, .int 0, .int 0, .int 0, .int 0, .int 0, .int 0, .int 0, .int 0, .int 0])), (a0, .inl (cI, 6, .inl (fun _ => 0))), (a1, .inl (cI, 7, .inl (fun _ => 0)))] H := hP
  have hD : va_D A [(m0, .inr (3, [.ref a0, .null, .null, .null, .null, .null, .int 0, .int 0, .int 0, .int 0, .int 0, .int 0, .int 0, .int 0, .int 0])), (a0, .inl (cI, 6, .inl (fun _ => 0))), (a1, .inl (cI, 7, .inl (fun _ => 0)))] := hD
  refine va_putF (D := D) (ci := 3) (v := .ref a1) (ty := .array .int) (C := RX3) (T := TX3) (N := 15) hx hb hts iw_X3_init_X3 tyX3 tyX3_ok nmX3 hown hK hP hD hS 0 rfl rfl 1 (by decide) (hts _ lk_X3_init_Cond_fieldLink_RX3_13_SpliceRoomModel_kinds_I_) (fun _ h9 => h9) rfl hin rfl (by decide +kernel) rfl rfl (Nat.le_of_ble_eq_true rfl) dX3_init_17 (fun H locs hP hD hS => ?_)
  have hP : va_P D vwCl [(m0, .inr (3, [.ref a0, .ref a1, .null, .null, .null, .null, .int 0, .int 0, .int 0, .int 0, .int 0, .int 0, .int 0, .int 0, .int 0])), (a0, .inl (cI, 6, .inl (fun _ => 0))), (a1, .inl (cI, 7, .inl (fun _ => 0)))] H := hP
  have hD : va_D A [(m0, .inr (3, [.ref a0, .ref a1, .null, .null, .null, .null, .int 0, .int 0, .int 0, .int 0, .int 0, .int 0, .int 0, .int 0, .int 0])), (a0, .inl (cI, 6, .inl (fun _ => 0))), (a1, .inl (cI, 7, .inl (fun _ => 0)))] := hD
  refine lv_aload_n hx hb dX3_init_20 rfl (lv_at hl 0 rfl) ?_
  refine lv_bipush (v := 7) hx hb dX3_init_21 (by decide) ?_
  refine va_newa (D := D) (atype := .int) hx hb (hts _ lk_X3_init_Cond_arrayClass_int) (ty := .int) rfl hK hP hD hS hA (N' := 7) (a0 := (7, .inl (fun _ => 0))) (fun cA => rfl) (by decide) (by decide) (by decide) (Nat.le_of_ble_eq_true rfl) (Nat.le_of_ble_eq_true rfl) dX3_init_23 (fun a2 cA H hK1 hP hD hS => ?_)
  have eK := K_idI hK hK1
  subst eK
  have hP : va_P D vwCl [(m0, .inr (3, [.ref a0, .ref a1, .null, .null, .null, .null, .int 0, .int 0, .int 0, .int 0, .int 0, .int 0, .int 0, .int 0, .int 0])), (a0, .inl (cI, 6, .inl (fun _ => 0))), (a1, .inl (cI, 7, .inl (fun _ => 0))), (a2, .inl (cI, 7, .inl (fun _ => 0)))] H := hP
  have hD : va_D A [(m0, .inr (3, [.ref a0, .ref a1, .null, .null, .null, .null, .int 0, .int 0, .int 0, .int 0, .int 0, .int 0, .int 0, .int 0, .int 0])), (a0, .inl (cI, 6, .inl (fun _ => 0))), (a1, .inl (cI, 7, .inl (fun _ => 0))), (a2, .inl (cI, 7, .inl (fun _ => 0)))] := hD
  refine va_putF (D := D) (ci := 3) (v := .ref a2) (ty := .array .int) (C := RX3) (T := TX3) (N := 15) hx hb hts iw_X3_init_X3 tyX3 tyX3_ok nmX3 hown hK hP hD hS 0 rfl rfl 2 (by decide) (hts _ lk_X3_init_Cond_fieldLink_RX3_16_SpliceRoomModel_sizes_I_) (fun _ h9 => h9) rfl hin rfl (by decide +kernel) rfl rfl (Nat.le_of_ble_eq_true rfl) dX3_init_25 (fun H locs hP hD hS => ?_)
  have hP : va_P D vwCl [(m0, .inr (3, [.ref a0, .ref a1, .ref a2, .null, .null, .null, .int 0, .int 0, .int 0, .int 0, .int 0, .int 0, .int 0, .int 0, .int 0])), (a0, .inl (cI, 6, .inl (fun _ => 0))), (a1, .inl (cI, 7, .inl (fun _ => 0))), (a2, .inl (cI, 7, .inl (fun _ => 0)))] H := hP
  have hD : va_D A [(m0, .inr (3, [.ref a0, .ref a1, .ref a2, .null, .null, .null, .int 0, .int 0, .int 0, .int 0, .int 0, .int 0, .int 0, .int 0, .int 0])), (a0, .inl (cI, 6, .inl (fun _ => 0))), (a1, .inl (cI, 7, .inl (fun _ => 0))), (a2, .inl (cI, 7, .inl (fun _ => 0)))] := hD
  refine lv_aload_n hx hb dX3_init_28 rfl (lv_at hl 0 rfl) ?_
  refine lv_sipush (v := 280) hx hb dX3_init_29 (by decide) ?_
  refine va_newa (D := D) (atype := .long) hx hb (hts _ lk_X3_init_Cond_arrayClass_long) (ty := .long) rfl hK hP hD hS hA (N' := 280) (a0 := (280, .inr (.inl (fun _ => 0)))) (fun cA => rfl) (by decide) (by decide) (by decide) (Nat.le_of_ble_eq_true rfl) (Nat.le_of_ble_eq_true rfl) dX3_init_32 (fun a3 cA H hK1 hP hD hS => ?_)
  have eK := K_idL hK hK1
  subst eK
  have hP : va_P D vwCl [(m0, .inr (3, [.ref a0, .ref a1, .ref a2, .null, .null, .null, .int 0, .int 0, .int 0, .int 0, .int 0, .int 0, .int 0, .int 0, .int 0])), (a0, .inl (cI, 6, .inl (fun _ => 0))), (a1, .inl (cI, 7, .inl (fun _ => 0))), (a2, .inl (cI, 7, .inl (fun _ => 0))), (a3, .inl (cL, 280, .inr (.inl (fun _ => 0))))] H := hP
  have hD : va_D A [(m0, .inr (3, [.ref a0, .ref a1, .ref a2, .null, .null, .null, .int 0, .int 0, .int 0, .int 0, .int 0, .int 0, .int 0, .int 0, .int 0])), (a0, .inl (cI, 6, .inl (fun _ => 0))), (a1, .inl (cI, 7, .inl (fun _ => 0))), (a2, .inl (cI, 7, .inl (fun _ => 0))), (a3, .inl (cL, 280, .inr (.inl (fun _ => 0))))] := hD
  refine va_putF (D := D) (ci := 3) (v := .ref a3) (ty := .array .long) (C := RX3) (T := TX3) (N := 15) hx hb hts iw_X3_init_X3 tyX3 tyX3_ok nmX3 hown hK hP hD hS 0 rfl rfl 3 (by decide) (hts _ lk_X3_init_Cond_fieldLink_RX3_19_SpliceRoomModel_frames_J_) (fun _ h9 => h9) rfl hin rfl (by decide +kernel) rfl rfl (Nat.le_of_ble_eq_true rfl) dX3_init_34 (fun H locs hP hD hS => ?_)
  have hP : va_P D vwCl [(m0, .inr (3, [.ref a0, .ref a1, .ref a2, .ref a3, .null, .null, .int 0, .int 0, .int 0, .int 0, .int 0, .int 0, .int 0, .int 0, .int 0])), (a0, .inl (cI, 6, .inl (fun _ => 0))), (a1, .inl (cI, 7, .inl (fun _ => 0))), (a2, .inl (cI, 7, .inl (fun _ => 0))), (a3, .inl (cL, 280, .inr (.inl (fun _ => 0))))] H := hP
  have hD : va_D A [(m0, .inr (3, [.ref a0, .ref a1, .ref a2, .ref a3, .null, .null, .int 0, .int 0, .int 0, .int 0, .int 0, .int 0, .int 0, .int 0, .int 0])), (a0, .inl (cI, 6, .inl (fun _ => 0))), (a1, .inl (cI, 7, .inl (fun _ => 0))), (a2, .inl (cI, 7, .inl (fun _ => 0))), (a3, .inl (cL, 280, .inr (.inl (fun _ => 0))))] := hD
  refine lv_aload_n hx hb dX3_init_37 rfl (lv_at hl 0 rfl) ?_
  refine lv_bipush (v := 40) hx hb dX3_init_38 (by decide) ?_
  refine va_newa (D := D) (atype := .long) hx hb (hts _ lk_X3_init_Cond_arrayClass_long) (ty := .long) rfl hK hP hD hS hA (N' := 40) (a0 := (40, .inr (.inl (fun _ => 0)))) (fun cA => rfl) (by decide) (by decide) (by decide) (Nat.le_of_ble_eq_true rfl) (Nat.le_of_ble_eq_true rfl) dX3_init_40 (fun a4 cA H hK1 hP hD hS => ?_)
  have eK := K_idL hK hK1
  subst eK
  have hP : va_P D vwCl [(m0, .inr (3, [.ref a0, .ref a1, .ref a2, .ref a3, .null, .null, .int 0, .int 0, .int 0, .int 0, .int 0, .int 0, .int 0, .int 0, .int 0])), (a0, .inl (cI, 6, .inl (fun _ => 0))), (a1, .inl (cI, 7, .inl (fun _ => 0))), (a2, .inl (cI, 7, .inl (fun _ => 0))), (a3, .inl (cL, 280, .inr (.inl (fun _ => 0)))), (a4, .inl (cL, 40, .inr (.inl (fun _ => 0))))] H := hP
  have hD : va_D A [(m0, .inr (3, [.ref a0, .ref a1, .ref a2, .ref a3, .null, .null, .int 0, .int 0, .int 0, .int 0, .int 0, .int 0, .int 0, .int 0, .int 0])), (a0, .inl (cI, 6, .inl (fun _ => 0))), (a1, .inl (cI, 7, .inl (fun _ => 0))), (a2, .inl (cI, 7, .inl (fun _ => 0))), (a3, .inl (cL, 280, .inr (.inl (fun _ => 0)))), (a4, .inl (cL, 40, .inr (.inl (fun _ => 0))))] := hD
  refine va_putF (D := D) (ci := 3) (v := .ref a4) (ty := .array .long) (C := RX3) (T := TX3) (N := 15) hx hb hts iw_X3_init_X3 tyX3 tyX3_ok nmX3 hown hK hP hD hS 0 rfl rfl 4 (by decide) (hts _ lk_X3_init_Cond_fieldLink_RX3_23_SpliceRoomModel_lifted_J_) (fun _ h9 => h9) rfl hin rfl (by decide +kernel) rfl rfl (Nat.le_of_ble_eq_true rfl) dX3_init_42 (fun H locs hP hD hS => ?_)
  have hP : va_P D vwCl [(m0, .inr (3, [.ref a0, .ref a1, .ref a2, .ref a3, .ref a4, .null, .int 0, .int 0, .int 0, .int 0, .int 0, .int 0, .int 0, .int 0, .int 0])), (a0, .inl (cI, 6, .inl (fun _ => 0))), (a1, .inl (cI, 7, .inl (fun _ => 0))), (a2, .inl (cI, 7, .inl (fun _ => 0))), (a3, .inl (cL, 280, .inr (.inl (fun _ => 0)))), (a4, .inl (cL, 40, .inr (.inl (fun _ => 0))))] H := hP
  have hD : va_D A [(m0, .inr (3, [.ref a0, .ref a1, .ref a2, .ref a3, .ref a4, .null, .int 0, .int 0, .int 0, .int 0, .int 0, .int 0, .int 0, .int 0, .int 0])), (a0, .inl (cI, 6, .inl (fun _ => 0))), (a1, .inl (cI, 7, .inl (fun _ => 0))), (a2, .inl (cI, 7, .inl (fun _ => 0))), (a3, .inl (cL, 280, .inr (.inl (fun _ => 0)))), (a4, .inl (cL, 40, .inr (.inl (fun _ => 0))))] := hD
  refine lv_aload_n hx hb dX3_init_45 rfl (lv_at hl 0 rfl) ?_
  refine lv_bipush (v := 120) hx hb dX3_init_46 (by decide) ?_
  refine va_newa (D := D) (atype := .int) hx hb (hts _ lk_X3_init_Cond_arrayClass_int) (ty := .int) rfl hK hP hD hS hA (N' := 120) (a0 := (120, .inl (fun _ => 0))) (fun cA => rfl) (by decide) (by decide) (by decide) (Nat.le_of_ble_eq_true rfl) (Nat.le_of_ble_eq_true rfl) dX3_init_48 (fun a5 cA H hK1 hP hD hS => ?_)
  have eK := K_idI hK hK1
  subst eK
  have hP : va_P D vwCl [(m0, .inr (3, [.ref a0, .ref a1, .ref a2, .ref a3, .ref a4, .null, .int 0, .int 0, .int 0, .int 0, .int 0, .int 0, .int 0, .int 0, .int 0])), (a0, .inl (cI, 6, .inl (fun _ => 0))), (a1, .inl (cI, 7, .inl (fun _ => 0))), (a2, .inl (cI, 7, .inl (fun _ => 0))), (a3, .inl (cL, 280, .inr (.inl (fun _ => 0)))), (a4, .inl (cL, 40, .inr (.inl (fun _ => 0)))), (a5, .inl (cI, 120, .inl (fun _ => 0)))] H := hP
  have hD : va_D A [(m0, .inr (3, [.ref a0, .ref a1, .ref a2, .ref a3, .ref a4, .null, .int 0, .int 0, .int 0, .int 0, .int 0, .int 0, .int 0, .int 0, .int 0])), (a0, .inl (cI, 6, .inl (fun _ => 0))), (a1, .inl (cI, 7, .inl (fun _ => 0))), (a2, .inl (cI, 7, .inl (fun _ => 0))), (a3, .inl (cL, 280, .inr (.inl (fun _ => 0)))), (a4, .inl (cL, 40, .inr (.inl (fun _ => 0)))), (a5, .inl (cI, 120, .inl (fun _ => 0)))] := hD
  refine va_putF (D := D) (ci := 3) (v := .ref a5) (ty := .array .int) (C := RX3) (T := TX3) (N := 15) hx hb hts iw_X3_init_X3 tyX3 tyX3_ok nmX3 hown hK hP hD hS 0 rfl rfl 5 (by decide) (hts _ lk_X3_init_Cond_fieldLink_RX3_26_SpliceRoomModel_sheet_I_) (fun _ h9 => h9) rfl hin rfl (by decide +kernel) rfl rfl (Nat.le_of_ble_eq_true rfl) dX3_init_50 (fun H locs hP hD hS => ?_)
  have hP : va_P D vwCl [(m0, .inr (3, [.ref a0, .ref a1, .ref a2, .ref a3, .ref a4, .ref a5, .int 0, .int 0, .int 0, .int 0, .int 0, .int 0, .int 0, .int 0, .int 0])), (a0, .inl (cI, 6, .inl (fun _ => 0))), (a1, .inl (cI, 7, .inl (fun _ => 0))), (a2, .inl (cI, 7, .inl (fun _ => 0))), (a3, .inl (cL, 280, .inr (.inl (fun _ => 0)))), (a4, .inl (cL, 40, .inr (.inl (fun _ => 0)))), (a5, .inl (cI, 120, .inl (fun _ => 0)))] H := hP
  have hD : va_D A [(m0, .inr (3, [.ref a0, .ref a1, .ref a2, .ref a3, .ref a4, .ref a5, .int 0, .int 0, .int 0, .int 0, .int 0, .int 0, .int 0, .int 0, .int 0])), (a0, .inl (cI, 6, .inl (fun _ => 0))), (a1, .inl (cI, 7, .inl (fun _ => 0))), (a2, .inl (cI, 7, .inl (fun _ => 0))), (a3, .inl (cL, 280, .inr (.inl (fun _ => 0)))), (a4, .inl (cL, 40, .inr (.inl (fun _ => 0)))), (a5, .inl (cI, 120, .inl (fun _ => 0)))] := hD
  refine lv_iconst (v := 0) hx hb dX3_init_53 (by decide) ?_
  refine lv_istore_n (lv' := [(1, .int 0), (0, .ref m0)]) hx hb dX3_init_54 rfl hl (by decide) rfl (fun ls hl => ?_)
  refine W.widen (k := 6) (n := 460) (by omega) (by omega) ?_
  have loop : ∀ (n i : Nat) (f : Nat → Int32) (H : Heap) (locs : List Loc) (ls : Array Slot), i ≤ 6 → 7 ≤ i + n → (∀ t, t < i → f t = -1) → lv_has ls 2 [(1, .int (nI i)), (0, .ref m0)] → va_P D vwCl [(m0, .inr (3, [.ref a0, .ref a1, .ref a2, .ref a3, .ref a4, .ref a5, .int 0, .int 0, .int 0, .int 0, .int 0, .int 0, .int 0, .int 0, .int 0])), (a0, .inl (cI, 6, .inl f)), (a1, .inl (cI, 7, .inl (fun _ => 0))), (a2, .inl (cI, 7, .inl (fun _ => 0))), (a3, .inl (cL, 280, .inr (.inl (fun _ => 0)))), (a4, .inl (cL, 40, .inr (.inl (fun _ => 0)))), (a5, .inl (cI, 120, .inl (fun _ => 0)))] H → va_D A [(m0, .inr (3, [.ref a0, .ref a1, .ref a2, .ref a3, .ref a4, .ref a5, .int 0, .int 0, .int 0, .int 0, .int 0, .int 0, .int 0, .int 0, .int 0])), (a0, .inl (cI, 6, .inl f)), (a1, .inl (cI, 7, .inl (fun _ => 0))), (a2, .inl (cI, 7, .inl (fun _ => 0))), (a3, .inl (cL, 280, .inr (.inl (fun _ => 0)))), (a4, .inl (cL, 40, .inr (.inl (fun _ => 0)))), (a5, .inl (cI, 120, .inl (fun _ => 0)))] → va_S A s.heap H locs → W p l e (headSpec wsX3_init ({ frames := 1, cells := 6, slots := 460, locals := 20 })).room s m ([.ref m0] : List Value).toArray below meth c H locs 6 460 (MQ below (va_Qv (fun (u : (Nat × Nat × Nat × Nat × Nat × Nat) × (Nat → Int32)) => ∀ t, t < 6 → u.2 t = -1) (fun (u : (Nat × Nat × Nat × Nat × Nat × Nat) × (Nat → Int32)) (t : State) => va_P D vwCl [(m0, .inr (3, [.ref u.1.1, .ref u.1.2.1, .ref u.1.2.2.1, .ref u.1.2.2.2.1, .ref u.1.2.2.2.2.1, .ref u.1.2.2.2.2.2, .int 0, .int 0, .int 0, .int 0, .int 0, .int 0, .int 0, .int 0, .int 0])), (u.1.1, .inl (cI, 6, .inl u.2)), (u.1.2.1, .inl (cI, 7, .inl (fun _ => 0))), (u.1.2.2.1, .inl (cI, 7, .inl (fun _ => 0))), (u.1.2.2.2.1, .inl (cL, 280, .inr (.inl (fun _ => 0)))), (u.1.2.2.2.2.1, .inl (cL, 40, .inr (.inl (fun _ => 0)))), (u.1.2.2.2.2.2, .inl (cI, 120, .inl (fun _ => 0)))] t.heap ∧ va_D A [(m0, .inr (3, [.ref u.1.1, .ref u.1.2.1, .ref u.1.2.2.1, .ref u.1.2.2.2.1, .ref u.1.2.2.2.2.1, .ref u.1.2.2.2.2.2, .int 0, .int 0, .int 0, .int 0, .int 0, .int 0, .int 0, .int 0, .int 0])), (u.1.1, .inl (cI, 6, .inl u.2)), (u.1.2.1, .inl (cI, 7, .inl (fun _ => 0))), (u.1.2.2.1, .inl (cI, 7, .inl (fun _ => 0))), (u.1.2.2.2.1, .inl (cL, 280, .inr (.inl (fun _ => 0)))), (u.1.2.2.2.2.1, .inl (cL, 40, .inr (.inl (fun _ => 0)))), (u.1.2.2.2.2.2, .inl (cI, 120, .inl (fun _ => 0)))]) A) ([.ref m0] : List Value).toArray s 6 460 A) (F0 m 55 ls []) := by
    intro n
    induction n with
    | zero => intro i f H locs ls h1 h2; exact absurd h2 (by omega)
    | succ n ih =>
      intro i f H locs ls hi hn hf hl hP hD hS
      refine lv_iload_n hx hb dX3_init_55 rfl (lv_at hl 0 rfl) ?_
      refine lv_bipush (v := 6) hx hb dX3_init_56 (by decide) ?_
      refine lv_icmp_ge (tgt := 74) hx hb dX3_init_58 (by decide) (fun c_58 => ?_) (fun c_58 => ?_)
      · have e6 : i = 6 := by have := (nI_leI (a := 6) (b := i) (by decide) (by omega)).mp c_58; omega
        subst e6
        exact W.vret hx hb hr (fun t ht hW => ⟨⟨((a0, a1, a2, a3, a4, a5), f), rfl, hf, ⟨by rw [ht]; exact hP, hD⟩⟩, hS.F ht⟩) hS.2.2 dX3_init_74
      · have hlt : i < 6 := Nat.lt_of_not_le (fun z9 => c_58 (nI_le z9 (by omega)))
        refine lv_aload_n hx hb dX3_init_61 rfl (lv_at hl 1 rfl) ?_
        refine va_get (D := D) (ci := 3) (v := .ref a0) (C := RX3) (T := TX3) (N := 15) hx hb hts iw_X3_init_X3 hown hK hP 0 rfl rfl 0 (by decide) (hts _ lk_X3_init_Cond_fieldLink_RX3_7_SpliceRoomModel_on_I_) (fun _ h9 => h9) rfl dX3_init_62 ?_
        refine lv_iload_n hx hb dX3_init_65 rfl (lv_at hl 0 rfl) ?_
        refine lv_iconst (v := (-1)) hx hb dX3_init_66 (by decide) ?_
        refine va_iast (D := D) hx hb hK hP hD hS 1 0 rfl rfl (vp_in_nI hlt (by decide)) dX3_init_67 (fun H locs hP hD hS => ?_)
        have hP : va_P D vwCl [(m0, .inr (3, [.ref a0, .ref a1, .ref a2, .ref a3, .ref a4, .ref a5, .int 0, .int 0, .int 0, .int 0, .int 0, .int 0, .int 0, .int 0, .int 0])), (a0, .inl (cI, 6, .inl (upd f ((nI i).toNatClampNeg) (-1)))), (a1, .inl (cI, 7, .inl (fun _ => 0))), (a2, .inl (cI, 7, .inl (fun _ => 0))), (a3, .inl (cL, 280, .inr (.inl (fun _ => 0)))), (a4, .inl (cL, 40, .inr (.inl (fun _ => 0)))), (a5, .inl (cI, 120, .inl (fun _ => 0)))] H := hP
        have hD : va_D A [(m0, .inr (3, [.ref a0, .ref a1, .ref a2, .ref a3, .ref a4, .ref a5, .int 0, .int 0, .int 0, .int 0, .int 0, .int 0, .int 0, .int 0, .int 0])), (a0, .inl (cI, 6, .inl (upd f ((nI i).toNatClampNeg) (-1)))), (a1, .inl (cI, 7, .inl (fun _ => 0))), (a2, .inl (cI, 7, .inl (fun _ => 0))), (a3, .inl (cL, 280, .inr (.inl (fun _ => 0)))), (a4, .inl (cL, 40, .inr (.inl (fun _ => 0)))), (a5, .inl (cI, 120, .inl (fun _ => 0)))] := hD
        rw [nI_clamp (show i < 2 ^ 31 by omega)] at hP hD
        refine lv_iinc (v := nI (i + 1)) (lv' := [(1, .int (nI (i + 1))), (0, .ref m0)]) hx hb dX3_init_68 hl (k := 0) rfl (nI_1 i) (by decide) rfl (fun ls hl => ?_)
        refine lv_goto (tgt := 55) hx hb dX3_init_71 (by decide) ?_
        refine ih (i + 1) _ _ _ _ (by omega) (by omega) (fun t ht => ?_) (lv_sub hl [0, 1] rfl) hP hD hS
        by_cases e9 : t = i
        · rw [e9, pk_us]
        · rw [pk_un e9]; exact hf t (by omega)
  exact loop 7 0 _ _ _ _ (by omega) (by omega) (fun t ht => absurd ht (by omega)) (lv_sub hl [0, 1] rfl) hP hD hS
end CModel5
