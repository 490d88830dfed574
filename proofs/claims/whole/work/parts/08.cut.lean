section CCut
theorem iw_X0_cut_X0 : ∀ w ∈ wsX00, w ∈ wsX0_cut := by decide +kernel
theorem lk_X0_cut_Cond_fieldLink_RX0_18_SpliceRoom_Knife_far_I_ : Cond.fieldLink RX0 18 "SpliceRoom$Knife" "far" "I" ∈ wsX0_cut := by decide +kernel
theorem lk_X0_cut_Cond_fieldLink_RX0_25_SpliceRoom_Knife_told_I_ : Cond.fieldLink RX0 25 "SpliceRoom$Knife" "told" "I" ∈ wsX0_cut := by decide +kernel
theorem lk_X0_cut_Cond_fieldLink_RX0_28_SpliceRoom_Knife_laid_I_ : Cond.fieldLink RX0 28 "SpliceRoom$Knife" "laid" "I" ∈ wsX0_cut := by decide +kernel
theorem lk_X0_cut_Cond_fieldLink_RX0_31_SpliceRoom_Knife_jams_I_ : Cond.fieldLink RX0 31 "SpliceRoom$Knife" "jams" "I" ∈ wsX0_cut := by decide +kernel
theorem lk_X0_cut_Cond_fieldLink_RX0_9_SpliceRoom_Knife_jamsInRow_I_ : Cond.fieldLink RX0 9 "SpliceRoom$Knife" "jamsInRow" "I" ∈ wsX0_cut := by decide +kernel
set_option maxHeartbeats 4000000 in
set_option maxRecDepth 100000 in
theorem c_X0_cutNN (l : Launch) {D : va_G} {cI cL cQ : ClassId} {N0 : Nat} {sa : Nat → Nat} {Hc : Heap} {h0 : Nat} {f0 f1 f2 f3 f4 f5 f6 : Int32} {p0 q0 n0 : Int32} (hP : va_P D vwCl [(h0, .inr (0, [.int f0, .int f1, .int f2, .int f3, .int f4, .int f5, .int f6]))] Hc) (hD0 : va_D nT [(h0, .inr (0, [.int f0, .int f1, .int f2, .int f3, .int f4, .int f5, .int f6]))]) (hN : ∀ q, va_A [(h0, .inr (0, [.int f0, .int f1, .int f2, .int f3, .int f4, .int f5, .int f6]))] Hc.size q → N0 ≤ q) : Met l yX0_cut wsX0_cut ({ frames := 3, cells := 0, slots := 0, locals := 90 }) (Pq D cI cL cQ N0 sa [.ref h0, .null, .int p0, .null, .int q0, .int n0] Hc) (va_Qi (fun (r : Int32) (u : Unit) => r = -1) (fun (u : Unit) (t : State) => va_P D vwCl [(h0, .inr (0, [.int f0, .int (f1 + 0), .int (f2 + 1), .int (f3 + 1), .int 0, .int (-1), .int f6]))] t.heap ∧ va_D (va_A [(h0, .inr (0, [.int f0, .int f1, .int f2, .int f3, .int f4, .int f5, .int f6]))] Hc.size) [(h0, .inr (0, [.int f0, .int (f1 + 0), .int (f2 + 1), .int (f3 + 1), .int 0, .int (-1), .int f6]))]) (va_A [(h0, .inr (0, [.int f0, .int f1, .int f2, .int f3, .int f4, .int f5, .int f6]))] Hc.size)) 0 0 (va_A [(h0, .inr (0, [.int f0, .int f1, .int f2, .int f3, .int f4, .int f5, .int f6]))] Hc.size) := by
  refine Met.ofW (cc := cX0_cut) (maxL := 6) (ret := (some .int)) (by decide) rfl ?_
  intro p e s m args below meth c s₁ B hml hv
  obtain ⟨rfl, hH, hC⟩ := hv
  have hx := B.exec
  have hb := B.bytes
  have hr := B.returns
  have hts := atoms_spec (ws := wsX0_cut) B.pre
  have hown : s.vm.findClass RX0 = some m.cls := findClass_of_methodNamed B.named
  have hlocks := B.notSynchronized
  subst hH
  have hK := hC.K
  have hl := lv_entry ([.ref h0, .null, .int p0, .null, .int q0, .int n0]) (n := 6) (Nat.le_of_ble_eq_true rfl)
  rw [lg_entry_eq]
  generalize (lg_sl ([.ref h0, .null, .int p0, .null, .int q0, .int n0]) ++ List.replicate (6 - (lg_sl ([.ref h0, .null, .int p0, .null, .int q0, .int n0])).length) Slot.unset).toArray = ls at hl ⊢
  have hl : lv_has ls 6 [(0, .ref h0), (1, .null), (2, .int p0), (3, .null), (4, .int q0), (5, .int n0)] := hl
  have hP : va_P D vwCl [(h0, .inr (0, [.int f0, .int f1, .int f2, .int f3, .int f4, .int f5, .int f6]))] s.heap := hP
  have hD := hD0.self (sz := s.heap.size)
  generalize hAe : va_A [(h0, .inr (0, [.int f0, .int f1, .int f2, .int f3, .int f4, .int f5, .int f6]))] s.heap.size = A at hD hN ⊢
  have hA : ∀ q : Nat, s.heap.size ≤ q → A q := fun q h => by rw [← hAe]; exact Or.inr h
  have hS : va_S A s.heap s.heap [] := va_S.rf
  refine lv_aload_n hx hb dX0_cut_0 rfl (lv_at hl 0 rfl) ?_
  refine lv_iconst (v := 0) hx hb dX0_cut_1 (by decide) ?_
  refine va_put (D := D) (ci := 0) (v := .int 0) (ty := .int) (C := RX0) (T := TX0) (N := 7) hx hb hts iw_X0_cut_X0 tyX0 tyX0_ok nmX0 hown hK hP hD hS 0 rfl rfl 4 (by decide) (hts _ lk_X0_cut_Cond_fieldLink_RX0_18_SpliceRoom_Knife_far_I_) (fun _ h9 => h9) rfl (by decide +kernel) rfl rfl (Nat.le_of_ble_eq_true rfl) dX0_cut_2 (fun H locs hP hD hS => ?_)
  have hP : va_P D vwCl [(h0, .inr (0, [.int f0, .int f1, .int f2, .int f3, .int 0, .int f5, .int f6]))] H := hP
  have hD : va_D A [(h0, .inr (0, [.int f0, .int f1, .int f2, .int f3, .int 0, .int f5, .int f6]))] := hD
  refine lv_aload_n hx hb dX0_cut_5 rfl (lv_at hl 0 rfl) ?_
  refine lv_aload_n hx hb dX0_cut_6 rfl (lv_at hl 0 rfl) ?_
  refine lv_aload_nN hx hb dX0_cut_7 rfl (lv_at hl 1 rfl) ?_
  refine lv_iload_n hx hb dX0_cut_8 rfl (lv_at hl 2 rfl) ?_
  refine lv_aload_nN hx hb dX0_cut_9 rfl (lv_at hl 3 rfl) ?_
  refine lv_iload hx hb dX0_cut_10 (lv_at hl 4 rfl) ?_
  refine lv_iload hx hb dX0_cut_12 (lv_at hl 5 rfl) ?_
  refine ro_i (va_runV (As := [.null, .int p0, .null, .int q0, .int n0]) (rest := [.ref h0]) ⟨hx, hb, hml, hown, hts⟩ (c_X0_layNN l (h0 := h0) (p0 := p0) (q0 := q0) (n0 := n0)) (cwV 5 hts gX0_cut_X0_lay rfl rfl rfl (by decide +kernel) ⟨Nat.le_of_ble_eq_true rfl, Nat.le_of_ble_eq_true rfl⟩) (Pq.V hC hS hN (va_recv hK hP (ci := 0) (q0 := 0) rfl rfl)) rfl rfl hl.1 rfl (lv_room (Nat.le_of_ble_eq_true rfl)) dX0_cut_14 ⟨Nat.le_of_ble_eq_true rfl, Nat.le_of_ble_eq_true rfl⟩) hS (fun r_1 locs hw hS => ?_)
  have hw : r_1 = -1 := hw
  subst hw
  refine va_put (D := D) (ci := 0) (v := .int (-1)) (ty := .int) (C := RX0) (T := TX0) (N := 7) hx hb hts iw_X0_cut_X0 tyX0 tyX0_ok nmX0 hown hK hP hD hS 0 rfl rfl 5 (by decide) (hts _ lk_X0_cut_Cond_fieldLink_RX0_25_SpliceRoom_Knife_told_I_) (fun _ h9 => h9) rfl (by decide +kernel) rfl rfl (Nat.le_of_ble_eq_true rfl) dX0_cut_17 (fun H locs hP hD hS => ?_)
  have hP : va_P D vwCl [(h0, .inr (0, [.int f0, .int f1, .int f2, .int f3, .int 0, .int (-1), .int f6]))] H := hP
  have hD : va_D A [(h0, .inr (0, [.int f0, .int f1, .int f2, .int f3, .int 0, .int (-1), .int f6]))] := hD
  refine lv_aload_n hx hb dX0_cut_20 rfl (lv_at hl 0 rfl) ?_
  refine lv_dup hx hb dX0_cut_21 rfl ?_
  refine va_get (D := D) (ci := 0) (v := .int f1) (C := RX0) (T := TX0) (N := 7) hx hb hts iw_X0_cut_X0 hown hK hP 0 rfl rfl 1 (by decide) (hts _ lk_X0_cut_Cond_fieldLink_RX0_28_SpliceRoom_Knife_laid_I_) (fun _ h9 => h9) rfl dX0_cut_22 ?_
  refine lv_aload_n hx hb dX0_cut_25 rfl (lv_at hl 0 rfl) ?_
  refine va_get (D := D) (ci := 0) (v := .int 0) (C := RX0) (T := TX0) (N := 7) hx hb hts iw_X0_cut_X0 hown hK hP 0 rfl rfl 4 (by decide) (hts _ lk_X0_cut_Cond_fieldLink_RX0_18_SpliceRoom_Knife_far_I_) (fun _ h9 => h9) rfl dX0_cut_26 ?_
  refine lv_iadd hx hb dX0_cut_29 ?_
  refine va_put (D := D) (ci := 0) (v := .int (f1 + 0)) (ty := .int) (C := RX0) (T := TX0) (N := 7) hx hb hts iw_X0_cut_X0 tyX0 tyX0_ok nmX0 hown hK hP hD hS 0 rfl rfl 1 (by decide) (hts _ lk_X0_cut_Cond_fieldLink_RX0_28_SpliceRoom_Knife_laid_I_) (fun _ h9 => h9) rfl (by decide +kernel) rfl rfl (Nat.le_of_ble_eq_true rfl) dX0_cut_30 (fun H locs hP hD hS => ?_)
  have hP : va_P D vwCl [(h0, .inr (0, [.int f0, .int (f1 + 0), .int f2, .int f3, .int 0, .int (-1), .int f6]))] H := hP
  have hD : va_D A [(h0, .inr (0, [.int f0, .int (f1 + 0), .int f2, .int f3, .int 0, .int (-1), .int f6]))] := hD
  refine lv_aload_n hx hb dX0_cut_33 rfl (lv_at hl 0 rfl) ?_
  refine va_get (D := D) (ci := 0) (v := .int (-1)) (C := RX0) (T := TX0) (N := 7) hx hb hts iw_X0_cut_X0 hown hK hP 0 rfl rfl 5 (by decide) (hts _ lk_X0_cut_Cond_fieldLink_RX0_25_SpliceRoom_Knife_told_I_) (fun _ h9 => h9) rfl dX0_cut_34 ?_
  refine lv_if_ge (tgt := 63) hx hb dX0_cut_37 (by decide) (fun c9 => absurd c9 (by decide)) (fun _ => ?_)
  refine lv_aload_n hx hb dX0_cut_40 rfl (lv_at hl 0 rfl) ?_
  refine lv_dup hx hb dX0_cut_41 rfl ?_
  refine va_get (D := D) (ci := 0) (v := .int f2) (C := RX0) (T := TX0) (N := 7) hx hb hts iw_X0_cut_X0 hown hK hP 0 rfl rfl 2 (by decide) (hts _ lk_X0_cut_Cond_fieldLink_RX0_31_SpliceRoom_Knife_jams_I_) (fun _ h9 => h9) rfl dX0_cut_42 ?_
  refine lv_iconst (v := 1) hx hb dX0_cut_45 (by decide) ?_
  refine lv_iadd hx hb dX0_cut_46 ?_
  refine va_put (D := D) (ci := 0) (v := .int (f2 + 1)) (ty := .int) (C := RX0) (T := TX0) (N := 7) hx hb hts iw_X0_cut_X0 tyX0 tyX0_ok nmX0 hown hK hP hD hS 0 rfl rfl 2 (by decide) (hts _ lk_X0_cut_Cond_fieldLink_RX0_31_SpliceRoom_Knife_jams_I_) (fun _ h9 => h9) rfl (by decide +kernel) rfl rfl (Nat.le_of_ble_eq_true rfl) dX0_cut_47 (fun H locs hP hD hS => ?_)
  have hP : va_P D vwCl [(h0, .inr (0, [.int f0, .int (f1 + 0), .int (f2 + 1), .int f3, .int 0, .int (-1), .int f6]))] H := hP
  have hD : va_D A [(h0, .inr (0, [.int f0, .int (f1 + 0), .int (f2 + 1), .int f3, .int 0, .int (-1), .int f6]))] := hD
  refine lv_aload_n hx hb dX0_cut_50 rfl (lv_at hl 0 rfl) ?_
  refine lv_dup hx hb dX0_cut_51 rfl ?_
  refine va_get (D := D) (ci := 0) (v := .int f3) (C := RX0) (T := TX0) (N := 7) hx hb hts iw_X0_cut_X0 hown hK hP 0 rfl rfl 3 (by decide) (hts _ lk_X0_cut_Cond_fieldLink_RX0_9_SpliceRoom_Knife_jamsInRow_I_) (fun _ h9 => h9) rfl dX0_cut_52 ?_
  refine lv_iconst (v := 1) hx hb dX0_cut_55 (by decide) ?_
  refine lv_iadd hx hb dX0_cut_56 ?_
  refine va_put (D := D) (ci := 0) (v := .int (f3 + 1)) (ty := .int) (C := RX0) (T := TX0) (N := 7) hx hb hts iw_X0_cut_X0 tyX0 tyX0_ok nmX0 hown hK hP hD hS 0 rfl rfl 3 (by decide) (hts _ lk_X0_cut_Cond_fieldLink_RX0_9_SpliceRoom_Knife_jamsInRow_I_) (fun _ h9 => h9) rfl (by decide +kernel) rfl rfl (Nat.le_of_ble_eq_true rfl) dX0_cut_57 (fun H locs hP hD hS => ?_)
  have hP : va_P D vwCl [(h0, .inr (0, [.int f0, .int (f1 + 0), .int (f2 + 1), .int (f3 + 1), .int 0, .int (-1), .int f6]))] H := hP
  have hD : va_D A [(h0, .inr (0, [.int f0, .int (f1 + 0), .int (f2 + 1), .int (f3 + 1), .int 0, .int (-1), .int f6]))] := hD
  refine lv_goto (tgt := 78) hx hb dX0_cut_60 (by decide) ?_
  refine lv_aload_n hx hb dX0_cut_78 rfl (lv_at hl 0 rfl) ?_
  refine va_get (D := D) (ci := 0) (v := .int (-1)) (C := RX0) (T := TX0) (N := 7) hx hb hts iw_X0_cut_X0 hown hK hP 0 rfl rfl 5 (by decide) (hts _ lk_X0_cut_Cond_fieldLink_RX0_25_SpliceRoom_Knife_told_I_) (fun _ h9 => h9) rfl dX0_cut_79 ?_
  exact W.iret (v := -1) hx hb hr (fun t ht hW => ⟨⟨_, (), rfl, rfl, ⟨by rw [ht]; exact hP, hD⟩⟩, hS.F ht⟩) hS.2.2 dX0_cut_82
set_option maxHeartbeats 4000000 in
set_option maxRecDepth 100000 in
theorem c_X0_cutNR (l : Launch) {D : va_G} {cI cL cQ : ClassId} {N0 : Nat} {sa : Nat → Nat} {Hc : Heap} {h0 b0 : Nat} {f0 f1 f2 f3 f4 f5 f6 : Int32} {p0 q0 n0 : Int32} (hP : va_P D vwCl [(h0, .inr (0, [.int f0, .int f1, .int f2, .int f3, .int f4, .int f5, .int f6]))] Hc) (hD0 : va_D nT [(h0, .inr (0, [.int f0, .int f1, .int f2, .int f3, .int f4, .int f5, .int f6]))]) (hN : ∀ q, va_A [(h0, .inr (0, [.int f0, .int f1, .int f2, .int f3, .int f4, .int f5, .int f6]))] Hc.size q → N0 ≤ q) : Met l yX0_cut wsX0_cut ({ frames := 3, cells := 0, slots := 0, locals := 90 }) (Pq D cI cL cQ N0 sa [.ref h0, .null, .int p0, .ref b0, .int q0, .int n0] Hc) (va_Qi (fun (r : Int32) (u : Unit) => r = -1) (fun (u : Unit) (t : State) => va_P D vwCl [(h0, .inr (0, [.int f0, .int (f1 + 0), .int (f2 + 1), .int (f3 + 1), .int 0, .int (-1), .int f6]))] t.heap ∧ va_D (va_A [(h0, .inr (0, [.int f0, .int f1, .int f2, .int f3, .int f4, .int f5, .int f6]))] Hc.size) [(h0, .inr (0, [.int f0, .int (f1 + 0), .int (f2 + 1), .int (f3 + 1), .int 0, .int (-1), .int f6]))]) (va_A [(h0, .inr (0, [.int f0, .int f1, .int f2, .int f3, .int f4, .int f5, .int f6]))] Hc.size)) 0 0 (va_A [(h0, .inr (0, [.int f0, .int f1, .int f2, .int f3, .int f4, .int f5, .int f6]))] Hc.size) := by
  refine Met.ofW (cc := cX0_cut) (maxL := 6) (ret := (some .int)) (by decide) rfl ?_
  intro p e s m args below meth c s₁ B hml hv
  obtain ⟨rfl, hH, hC⟩ := hv
  have hx := B.exec
  have hb := B.bytes
  have hr := B.returns
  have hts := atoms_spec (ws := wsX0_cut) B.pre
  have hown : s.vm.findClass RX0 = some m.cls := findClass_of_methodNamed B.named
  have hlocks := B.notSynchronized
  subst hH
  have hK := hC.K
  have hl := lv_entry ([.ref h0, .null, .int p0, .ref b0, .int q0, .int n0]) (n := 6) (Nat.le_of_ble_eq_true rfl)
  rw [lg_entry_eq]
  generalize (lg_sl ([.ref h0, .null, .int p0, .ref b0, .int q0, .int n0]) ++ List.replicate (6 - (lg_sl ([.ref h0, .null, .int p0, .ref b0, .int q0, .int n0])).length) Slot.unset).toArray = ls at hl ⊢
  have hl : lv_has ls 6 [(0, .ref h0), (1, .null), (2, .int p0), (3, .ref b0), (4, .int q0), (5, .int n0)] := hl
  have hP : va_P D vwCl [(h0, .inr (0, [.int f0, .int f1, .int f2, .int f3, .int f4, .int f5, .int f6]))] s.heap := hP
  have hD := hD0.self (sz := s.heap.size)
  generalize hAe : va_A [(h0, .inr (0, [.int f0, .int f1, .int f2, .int f3, .int f4, .int f5, .int f6]))] s.heap.size = A at hD hN ⊢
  have hA : ∀ q : Nat, s.heap.size ≤ q → A q := fun q h => by rw [← hAe]; exact Or.inr h
  have hS : va_S A s.heap s.heap [] := va_S.rf
  refine lv_aload_n hx hb dX0_cut_0 rfl (lv_at hl 0 rfl) ?_
  refine lv_iconst (v := 0) hx hb dX0_cut_1 (by decide) ?_
  refine va_put (D := D) (ci := 0) (v := .int 0) (ty := .int) (C := RX0) (T := TX0) (N := 7) hx hb hts iw_X0_cut_X0 tyX0 tyX0_ok nmX0 hown hK hP hD hS 0 rfl rfl 4 (by decide) (hts _ lk_X0_cut_Cond_fieldLink_RX0_18_SpliceRoom_Knife_far_I_) (fun _ h9 => h9) rfl (by decide +kernel) rfl rfl (Nat.le_of_ble_eq_true rfl) dX0_cut_2 (fun H locs hP hD hS => ?_)
  have hP : va_P D vwCl [(h0, .inr (0, [.int f0, .int f1, .int f2, .int f3, .int 0, .int f5, .int f6]))] H := hP
  have hD : va_D A [(h0, .inr (0, [.int f0, .int f1, .int f2, .int f3, .int 0, .int f5, .int f6]))] := hD
  refine lv_aload_n hx hb dX0_cut_5 rfl (lv_at hl 0 rfl) ?_
  refine lv_aload_n hx hb dX0_cut_6 rfl (lv_at hl 0 rfl) ?_
  refine lv_aload_nN hx hb dX0_cut_7 rfl (lv_at hl 1 rfl) ?_
  refine lv_iload_n hx hb dX0_cut_8 rfl (lv_at hl 2 rfl) ?_
  refine lv_aload_n hx hb dX0_cut_9 rfl (lv_at hl 3 rfl) ?_
  refine lv_iload hx hb dX0_cut_10 (lv_at hl 4 rfl) ?_
  refine lv_iload hx hb dX0_cut_12 (lv_at hl 5 rfl) ?_
  refine ro_i (va_runV (As := [.null, .int p0, .ref b0, .int q0, .int n0]) (rest := [.ref h0]) ⟨hx, hb, hml, hown, hts⟩ (c_X0_layNR l (h0 := h0) (b0 := b0) (p0 := p0) (q0 := q0) (n0 := n0)) (cwV 5 hts gX0_cut_X0_lay rfl rfl rfl (by decide +kernel) ⟨Nat.le_of_ble_eq_true rfl, Nat.le_of_ble_eq_true rfl⟩) (Pq.V hC hS hN (va_recv hK hP (ci := 0) (q0 := 0) rfl rfl)) rfl rfl hl.1 rfl (lv_room (Nat.le_of_ble_eq_true rfl)) dX0_cut_14 ⟨Nat.le_of_ble_eq_true rfl, Nat.le_of_ble_eq_true rfl⟩) hS (fun r_1 locs hw hS => ?_)
  have hw : r_1 = -1 := hw
  subst hw
  refine va_put (D := D) (ci := 0) (v := .int (-1)) (ty := .int) (C := RX0) (T := TX0) (N := 7) hx hb hts iw_X0_cut_X0 tyX0 tyX0_ok nmX0 hown hK hP hD hS 0 rfl rfl 5 (by decide) (hts _ lk_X0_cut_Cond_fieldLink_RX0_25_SpliceRoom_Knife_told_I_) (fun _ h9 => h9) rfl (by decide +kernel) rfl rfl (Nat.le_of_ble_eq_true rfl) dX0_cut_17 (fun H locs hP hD hS => ?_)
  have hP : va_P D vwCl [(h0, .inr (0, [.int f0, .int f1, .int f2, .int f3, .int 0, .int (-1), .int f6]))] H := hP
  have hD : va_D A [(h0, .inr (0, [.int f0, .int f1, .int f2, .int f3, .int 0, .int (-1), .int f6]))] := hD
  refine lv_aload_n hx hb dX0_cut_20 rfl (lv_at hl 0 rfl) ?_
  refine lv_dup hx hb dX0_cut_21 rfl ?_
  refine va_get (D := D) (ci := 0) (v := .int f1) (C := RX0) (T := TX0) (N := 7) hx hb hts iw_X0_cut_X0 hown hK hP 0 rfl rfl 1 (by decide) (hts _ lk_X0_cut_Cond_fieldLink_RX0_28_SpliceRoom_Knife_laid_I_) (fun _ h9 => h9) rfl dX0_cut_22 ?_
  refine lv_aload_n hx hb dX0_cut_25 rfl (lv_at hl 0 rfl) ?_
  refine va_get (D := D) (ci := 0) (v := .int 0) (C := RX0) (T := TX0) (N := 7) hx hb hts iw_X0_cut_X0 hown hK hP 0 rfl rfl 4 (by decide) (hts _ lk_X0_cut_Cond_fieldLink_RX0_18_SpliceRoom_Knife_far_I_) (fun _ h9 => h9) rfl dX0_cut_26 ?_
  refine lv_iadd hx hb dX0_cut_29 ?_
  refine va_put (D := D) (ci := 0) (v := .int (f1 + 0)) (ty := .int) (C := RX0) (T := TX0) (N := 7) hx hb hts iw_X0_cut_X0 tyX0 tyX0_ok nmX0 hown hK hP hD hS 0 rfl rfl 1 (by decide) (hts _ lk_X0_cut_Cond_fieldLink_RX0_28_SpliceRoom_Knife_laid_I_) (fun _ h9 => h9) rfl (by decide +kernel) rfl rfl (Nat.le_of_ble_eq_true rfl) dX0_cut_30 (fun H locs hP hD hS => ?_)
  have hP : va_P D vwCl [(h0, .inr (0, [.int f0, .int (f1 + 0), .int f2, .int f3, .int 0, .int (-1), .int f6]))] H := hP
  have hD : va_D A [(h0, .inr (0, [.int f0, .int (f1 + 0), .int f2, .int f3, .int 0, .int (-1), .int f6]))] := hD
  refine lv_aload_n hx hb dX0_cut_33 rfl (lv_at hl 0 rfl) ?_
  refine va_get (D := D) (ci := 0) (v := .int (-1)) (C := RX0) (T := TX0) (N := 7) hx hb hts iw_X0_cut_X0 hown hK hP 0 rfl rfl 5 (by decide) (hts _ lk_X0_cut_Cond_fieldLink_RX0_25_SpliceRoom_Knife_told_I_) (fun _ h9 => h9) rfl dX0_cut_34 ?_
  refine lv_if_ge (tgt := 63) hx hb dX0_cut_37 (by decide) (fun c9 => absurd c9 (by decide)) (fun _ => ?_)
  refine lv_aload_n hx hb dX0_cut_40 rfl (lv_at hl 0 rfl) ?_
  refine lv_dup hx hb dX0_cut_41 rfl ?_
  refine va_get (D := D) (ci := 0) (v := .int f2) (C := RX0) (T := TX0) (N := 7) hx hb hts iw_X0_cut_X0 hown hK hP 0 rfl rfl 2 (by decide) (hts _ lk_X0_cut_Cond_fieldLink_RX0_31_SpliceRoom_Knife_jams_I_) (fun _ h9 => h9) rfl dX0_cut_42 ?_
  refine lv_iconst (v := 1) hx hb dX0_cut_45 (by decide) ?_
  refine lv_iadd hx hb dX0_cut_46 ?_
  refine va_put (D := D) (ci := 0) (v := .int (f2 + 1)) (ty := .int) (C := RX0) (T := TX0) (N := 7) hx hb hts iw_X0_cut_X0 tyX0 tyX0_ok nmX0 hown hK hP hD hS 0 rfl rfl 2 (by decide) (hts _ lk_X0_cut_Cond_fieldLink_RX0_31_SpliceRoom_Knife_jams_I_) (fun _ h9 => h9) rfl (by decide +kernel) rfl rfl (Nat.le_of_ble_eq_true rfl) dX0_cut_47 (fun H locs hP hD hS => ?_)
  have hP : va_P D vwCl [(h0, .inr (0, [.int f0, .int (f1 + 0), .int (f2 + 1), .int f3, .int 0, .int (-1), .int f6]))] H := hP
  have hD : va_D A [(h0, .inr (0, [.int f0, .int (f1 + 0), .int (f2 + 1), .int f3, .int 0, .int (-1), .int f6]))] := hD
  refine lv_aload_n hx hb dX0_cut_50 rfl (lv_at hl 0 rfl) ?_
  refine lv_dup hx hb dX0_cut_51 rfl ?_
  refine va_get (D := D) (ci := 0) (v := .int f3) (C := RX0) (T := TX0) (N := 7) hx hb hts iw_X0_cut_X0 hown hK hP 0 rfl rfl 3 (by decide) (hts _ lk_X0_cut_Cond_fieldLink_RX0_9_SpliceRoom_Knife_jamsInRow_I_) (fun _ h9 => h9) rfl dX0_cut_52 ?_
  refine lv_iconst (v := 1) hx hb dX0_cut_55 (by decide) ?_
  refine lv_iadd hx hb dX0_cut_56 ?_
  refine va_put (D := D) (ci := 0) (v := .int (f3 + 1)) (ty := .int) (C := RX0) (T := TX0) (N := 7) hx hb hts iw_X0_cut_X0 tyX0 tyX0_ok nmX0 hown hK hP hD hS 0 rfl rfl 3 (by decide) (hts _ lk_X0_cut_Cond_fieldLink_RX0_9_SpliceRoom_Knife_jamsInRow_I_) (fun _ h9 => h9) rfl (by decide +kernel) rfl rfl (Nat.le_of_ble_eq_true rfl) dX0_cut_57 (fun H locs hP hD hS => ?_)
  have hP : va_P D vwCl [(h0, .inr (0, [.int f0, .int (f1 + 0), .int (f2 + 1), .int (f3 + 1), .int 0, .int (-1), .int f6]))] H := hP
  have hD : va_D A [(h0, .inr (0, [.int f0, .int (f1 + 0), .int (f2 + 1), .int (f3 + 1), .int 0, .int (-1), .int f6]))] := hD
  refine lv_goto (tgt := 78) hx hb dX0_cut_60 (by decide) ?_
  refine lv_aload_n hx hb dX0_cut_78 rfl (lv_at hl 0 rfl) ?_
  refine va_get (D := D) (ci := 0) (v := .int (-1)) (C := RX0) (T := TX0) (N := 7) hx hb hts iw_X0_cut_X0 hown hK hP 0 rfl rfl 5 (by decide) (hts _ lk_X0_cut_Cond_fieldLink_RX0_25_SpliceRoom_Knife_told_I_) (fun _ h9 => h9) rfl dX0_cut_79 ?_
  exact W.iret (v := -1) hx hb hr (fun t ht hW => ⟨⟨_, (), rfl, rfl, ⟨by rw [ht]; exact hP, hD⟩⟩, hS.F ht⟩) hS.2.2 dX0_cut_82
set_option maxHeartbeats 4000000 in
set_option maxRecDepth 100000 in
theorem c_X0_cutRN (l : Launch) {D : va_G} {cI cL cQ : ClassId} {N0 : Nat} {sa : Nat → Nat} {Hc : Heap} {h0 a0 : Nat} {f0 f1 f2 f3 f4 f5 f6 : Int32} {p0 q0 n0 : Int32} (hP : va_P D vwCl [(h0, .inr (0, [.int f0, .int f1, .int f2, .int f3, .int f4, .int f5, .int f6]))] Hc) (hD0 : va_D nT [(h0, .inr (0, [.int f0, .int f1, .int f2, .int f3, .int f4, .int f5, .int f6]))]) (hN : ∀ q, va_A [(h0, .inr (0, [.int f0, .int f1, .int f2, .int f3, .int f4, .int f5, .int f6]))] Hc.size q → N0 ≤ q) : Met l yX0_cut wsX0_cut ({ frames := 3, cells := 0, slots := 0, locals := 90 }) (Pq D cI cL cQ N0 sa [.ref h0, .ref a0, .int p0, .null, .int q0, .int n0] Hc) (va_Qi (fun (r : Int32) (u : Unit) => r = -1) (fun (u : Unit) (t : State) => va_P D vwCl [(h0, .inr (0, [.int f0, .int (f1 + 0), .int (f2 + 1), .int (f3 + 1), .int 0, .int (-1), .int f6]))] t.heap ∧ va_D (va_A [(h0, .inr (0, [.int f0, .int f1, .int f2, .int f3, .int f4, .int f5, .int f6]))] Hc.size) [(h0, .inr (0, [.int f0, .int (f1 + 0), .int (f2 + 1), .int (f3 + 1), .int 0, .int (-1), .int f6]))]) (va_A [(h0, .inr (0, [.int f0, .int f1, .int f2, .int f3, .int f4, .int f5, .int f6]))] Hc.size)) 0 0 (va_A [(h0, .inr (0, [.int f0, .int f1, .int f2, .int f3, .int f4, .int f5, .int f6]))] Hc.size) := by
  refine Met.ofW (cc := cX0_cut) (maxL := 6) (ret := (some .int)) (by decide) rfl ?_
  intro p e s m args below meth c s₁ B hml hv
  obtain ⟨rfl, hH, hC⟩ := hv
  have hx := B.exec
  have hb := B.bytes
  have hr := B.returns
  have hts := atoms_spec (ws := wsX0_cut) B.pre
  have hown : s.vm.findClass RX0 = some m.cls := findClass_of_methodNamed B.named
  have hlocks := B.notSynchronized
  subst hH
  have hK := hC.K
  have hl := lv_entry ([.ref h0, .ref a0, .int p0, .null, .int q0, .int n0]) (n := 6) (Nat.le_of_ble_eq_true rfl)
  rw [lg_entry_eq]
  generalize (lg_sl ([.ref h0, .ref a0, .int p0, .null, .int q0, .int n0]) ++ List.replicate (6 - (lg_sl ([.ref h0, .ref a0, .int p0, .null, .int q0, .int n0])).length) Slot.unset).toArray = ls at hl ⊢
  have hl : lv_has ls 6 [(0, .ref h0), (1, .ref a0), (2, .int p0), (3, .null), (4, .int q0), (5, .int n0)] := hl
  have hP : va_P D vwCl [(h0, .inr (0, [.int f0, .int f1, .int f2, .int f3, .int f4, .int f5, .int f6]))] s.heap := hP
  have hD := hD0.self (sz := s.heap.size)
  generalize hAe : va_A [(h0, .inr (0, [.int f0, .int f1, .int f2, .int f3, .int f4, .int f5, .int f6]))] s.heap.size = A at hD hN ⊢
  have hA : ∀ q : Nat, s.heap.size ≤ q → A q := fun q h => by rw [← hAe]; exact Or.inr h
  have hS : va_S A s.heap s.heap [] := va_S.rf
  refine lv_aload_n hx hb dX0_cut_0 rfl (lv_at hl 0 rfl) ?_
  refine lv_iconst (v := 0) hx hb dX0_cut_1 (by decide) ?_
  refine va_put (D := D) (ci := 0) (v := .int 0) (ty := .int) (C := RX0) (T := TX0) (N := 7) hx hb hts iw_X0_cut_X0 tyX0 tyX0_ok nmX0 hown hK hP hD hS 0 rfl rfl 4 (by decide) (hts _ lk_X0_cut_Cond_fieldLink_RX0_18_SpliceRoom_Knife_far_I_) (fun _ h9 => h9) rfl (by decide +kernel) rfl rfl (Nat.le_of_ble_eq_true rfl) dX0_cut_2 (fun H locs hP hD hS => ?_)
  have hP : va_P D vwCl [(h0, .inr (0, [.int f0, .int f1, .int f2, .int f3, .int 0, .int f5, .int f6]))] H := hP
  have hD : va_D A [(h0, .inr (0, [.int f0, .int f1, .int f2, .int f3, .int 0, .int f5, .int f6]))] := hD
  refine lv_aload_n hx hb dX0_cut_5 rfl (lv_at hl 0 rfl) ?_
  refine lv_aload_n hx hb dX0_cut_6 rfl (lv_at hl 0 rfl) ?_
  refine lv_aload_n hx hb dX0_cut_7 rfl (lv_at hl 1 rfl) ?_
  refine lv_iload_n hx hb dX0_cut_8 rfl (lv_at hl 2 rfl) ?_
  refine lv_aload_nN hx hb dX0_cut_9 rfl (lv_at hl 3 rfl) ?_
  refine lv_iload hx hb dX0_cut_10 (lv_at hl 4 rfl) ?_
  refine lv_iload hx hb dX0_cut_12 (lv_at hl 5 rfl) ?_
  refine ro_i (va_runV (As := [.ref a0, .int p0, .null, .int q0, .int n0]) (rest := [.ref h0]) ⟨hx, hb, hml, hown, hts⟩ (c_X0_layRN l (h0 := h0) (a0 := a0) (p0 := p0) (q0 := q0) (n0 := n0)) (cwV 5 hts gX0_cut_X0_lay rfl rfl rfl (by decide +kernel) ⟨Nat.le_of_ble_eq_true rfl, Nat.le_of_ble_eq_true rfl⟩) (Pq.V hC hS hN (va_recv hK hP (ci := 0) (q0 := 0) rfl rfl)) rfl rfl hl.1 rfl (lv_room (Nat.le_of_ble_eq_true rfl)) dX0_cut_14 ⟨Nat.le_of_ble_eq_true rfl, Nat.le_of_ble_eq_true rfl⟩) hS (fun r_1 locs hw hS => ?_)
  have hw : r_1 = -1 := hw
  subst hw
  refine va_put (D := D) (ci := 0) (v := .int (-1)) (ty := .int) (C := RX0) (T := TX0) (N := 7) hx hb hts iw_X0_cut_X0 tyX0 tyX0_ok nmX0 hown hK hP hD hS 0 rfl rfl 5 (by decide) (hts _ lk_X0_cut_Cond_fieldLink_RX0_25_SpliceRoom_Knife_told_I_) (fun _ h9 => h9) rfl (by decide +kernel) rfl rfl (Nat.le_of_ble_eq_true rfl) dX0_cut_17 (fun H locs hP hD hS => ?_)
  have hP : va_P D vwCl [(h0, .inr (0, [.int f0, .int f1, .int f2, .int f3, .int 0, .int (-1), .int f6]))] H := hP
  have hD : va_D A [(h0, .inr (0, [.int f0, .int f1, .int f2, .int f3, .int 0, .int (-1), .int f6]))] := hD
  refine lv_aload_n hx hb dX0_cut_20 rfl (lv_at hl 0 rfl) ?_
  refine lv_dup hx hb dX0_cut_21 rfl ?_
  refine va_get (D := D) (ci := 0) (v := .int f1) (C := RX0) (T := TX0) (N := 7) hx hb hts iw_X0_cut_X0 hown hK hP 0 rfl rfl 1 (by decide) (hts _ lk_X0_cut_Cond_fieldLink_RX0_28_SpliceRoom_Knife_laid_I_) (fun _ h9 => h9) rfl dX0_cut_22 ?_
  refine lv_aload_n hx hb dX0_cut_25 rfl (lv_at hl 0 rfl) ?_
  refine va_get (D := D) (ci := 0) (v := .int 0) (C := RX0) (T := TX0) (N := 7) hx hb hts iw_X0_cut_X0 hown hK hP 0 rfl rfl 4 (by decide) (hts _ lk_X0_cut_Cond_fieldLink_RX0_18_SpliceRoom_Knife_far_I_) (fun _ h9 => h9) rfl dX0_cut_26 ?_
  refine lv_iadd hx hb dX0_cut_29 ?_
  refine va_put (D := D) (ci := 0) (v := .int (f1 + 0)) (ty := .int) (C := RX0) (T := TX0) (N := 7) hx hb hts iw_X0_cut_X0 tyX0 tyX0_ok nmX0 hown hK hP hD hS 0 rfl rfl 1 (by decide) (hts _ lk_X0_cut_Cond_fieldLink_RX0_28_SpliceRoom_Knife_laid_I_) (fun _ h9 => h9) rfl (by decide +kernel) rfl rfl (Nat.le_of_ble_eq_true rfl) dX0_cut_30 (fun H locs hP hD hS => ?_)
  have hP : va_P D vwCl [(h0, .inr (0, [.int f0, .int (f1 + 0), .int f2, .int f3, .int 0, .int (-1), .int f6]))] H := hP
  have hD : va_D A [(h0, .inr (0, [.int f0, .int (f1 + 0), .int f2, .int f3, .int 0, .int (-1), .int f6]))] := hD
  refine lv_aload_n hx hb dX0_cut_33 rfl (lv_at hl 0 rfl) ?_
  refine va_get (D := D) (ci := 0) (v := .int (-1)) (C := RX0) (T := TX0) (N := 7) hx hb hts iw_X0_cut_X0 hown hK hP 0 rfl rfl 5 (by decide) (hts _ lk_X0_cut_Cond_fieldLink_RX0_25_SpliceRoom_Knife_told_I_) (fun _ h9 => h9) rfl dX0_cut_34 ?_
  refine lv_if_ge (tgt := 63) hx hb dX0_cut_37 (by decide) (fun c9 => absurd c9 (by decide)) (fun _ => ?_)
  refine lv_aload_n hx hb dX0_cut_40 rfl (lv_at hl 0 rfl) ?_
  refine lv_dup hx hb dX0_cut_41 rfl ?_
  refine va_get (D := D) (ci := 0) (v := .int f2) (C := RX0) (T := TX0) (N := 7) hx hb hts iw_X0_cut_X0 hown hK hP 0 rfl rfl 2 (by decide) (hts _ lk_X0_cut_Cond_fieldLink_RX0_31_SpliceRoom_Knife_jams_I_) (fun _ h9 => h9) rfl dX0_cut_42 ?_
  refine lv_iconst (v := 1) hx hb dX0_cut_45 (by decide) ?_
  refine lv_iadd hx hb dX0_cut_46 ?_
  refine va_put (D := D) (ci := 0) (v := .int (f2 + 1)) (ty := .int) (C := RX0) (T := TX0) (N := 7) hx hb hts iw_X0_cut_X0 tyX0 tyX0_ok nmX0 hown hK hP hD hS 0 rfl rfl 2 (by decide) (hts _ lk_X0_cut_Cond_fieldLink_RX0_31_SpliceRoom_Knife_jams_I_) (fun _ h9 => h9) rfl (by decide +kernel) rfl rfl (Nat.le_of_ble_eq_true rfl) dX0_cut_47 (fun H locs hP hD hS => ?_)
  have hP : va_P D vwCl [(h0, .inr (0, [.int f0, .int (f1 + 0), .int (f2 + 1), .int f3, .int 0, .int (-1), .int f6]))] H := hP
  have hD : va_D A [(h0, .inr (0, [.int f0, .int (f1 + 0), .int (f2 + 1), .int f3, .int 0, .int (-1), .int f6]))] := hD
  refine lv_aload_n hx hb dX0_cut_50 rfl (lv_at hl 0 rfl) ?_
  refine lv_dup hx hb dX0_cut_51 rfl ?_
  refine va_get (D := D) (ci := 0) (v := .int f3) (C := RX0) (T := TX0) (N := 7) hx hb hts iw_X0_cut_X0 hown hK hP 0 rfl rfl 3 (by decide) (hts _ lk_X0_cut_Cond_fieldLink_RX0_9_SpliceRoom_Knife_jamsInRow_I_) (fun _ h9 => h9) rfl dX0_cut_52 ?_
  refine lv_iconst (v := 1) hx hb dX0_cut_55 (by decide) ?_
  refine lv_iadd hx hb dX0_cut_56 ?_
  refine va_put (D := D) (ci := 0) (v := .int (f3 + 1)) (ty := .int) (C := RX0) (T := TX0) (N := 7) hx hb hts iw_X0_cut_X0 tyX0 tyX0_ok nmX0 hown hK hP hD hS 0 rfl rfl 3 (by decide) (hts _ lk_X0_cut_Cond_fieldLink_RX0_9_SpliceRoom_Knife_jamsInRow_I_) (fun _ h9 => h9) rfl (by decide +kernel) rfl rfl (Nat.le_of_ble_eq_true rfl) dX0_cut_57 (fun H locs hP hD hS => ?_)
  have hP : va_P D vwCl [(h0, .inr (0, [.int f0, .int (f1 + 0), .int (f2 + 1), .int (f3 + 1), .int 0, .int (-1), .int f6]))] H := hP
  have hD : va_D A [(h0, .inr (0, [.int f0, .int (f1 + 0), .int (f2 + 1), .int (f3 + 1), .int 0, .int (-1), .int f6]))] := hD
  refine lv_goto (tgt := 78) hx hb dX0_cut_60 (by decide) ?_
  refine lv_aload_n hx hb dX0_cut_78 rfl (lv_at hl 0 rfl) ?_
  refine va_get (D := D) (ci := 0) (v := .int (-1)) (C := RX0) (T := TX0) (N := 7) hx hb hts iw_X0_cut_X0 hown hK hP 0 rfl rfl 5 (by decide) (hts _ lk_X0_cut_Cond_fieldLink_RX0_25_SpliceRoom_Knife_told_I_) (fun _ h9 => h9) rfl dX0_cut_79 ?_
  exact W.iret (v := -1) hx hb hr (fun t ht hW => ⟨⟨_, (), rfl, rfl, ⟨by rw [ht]; exact hP, hD⟩⟩, hS.F ht⟩) hS.2.2 dX0_cut_82
theorem lk_X0_cut_Cond_fieldLink_RX0_34_SpliceRoom_Knife_wentWell_I_ : Cond.fieldLink RX0 34 "SpliceRoom$Knife" "wentWell" "I" ∈ wsX0_cut := by decide +kernel
set_option maxHeartbeats 4000000 in
set_option maxRecDepth 100000 in
theorem c_X0_cutD (l : Launch) {D : va_G} {cI cL cQ : ClassId} {N0 : Nat} {sa : Nat → Nat} {Hc : Heap} {h0 a0 wa b0 wb : Nat} {f0 f1 f2 f3 f4 f5 f6 ka kb : Int32} {za zb : Nat} {f g : Nat → Int64} {p0 q0 n0 : Int32} (hP : va_P D vwCl [(h0, .inr (0, [.int f0, .int f1, .int f2, .int f3, .int f4, .int f5, .int f6])), (a0, .inr (1, [.int ka, .ref wa])), (wa, .inl (cL, za, .inr (.inl f))), (b0, .inr (1, [.int kb, .ref wb])), (wb, .inl (cL, zb, .inr (.inl g)))] Hc) (hD0 : va_D nT [(h0, .inr (0, [.int f0, .int f1, .int f2, .int f3, .int f4, .int f5, .int f6])), (a0, .inr (1, [.int ka, .ref wa])), (wa, .inl (cL, za, .inr (.inl f))), (b0, .inr (1, [.int kb, .ref wb])), (wb, .inl (cL, zb, .inr (.inl g)))]) (hN : ∀ q, va_A [(h0, .inr (0, [.int f0, .int f1, .int f2, .int f3, .int f4, .int f5, .int f6])), (a0, .inr (1, [.int ka, .ref wa])), (wa, .inl (cL, za, .inr (.inl f))), (b0, .inr (1, [.int kb, .ref wb])), (wb, .inl (cL, zb, .inr (.inl g)))] Hc.size q → N0 ≤ q) (hza : za ≤ 40) (hzb : zb ≤ 40) : Met l yX0_cut wsX0_cut ({ frames := 3, cells := 0, slots := 0, locals := 90 }) (Pq D cI cL cQ N0 sa [.ref h0, .ref a0, .int p0, .ref b0, .int q0, .int n0] Hc) (va_Qi (fun (r : Int32) (u : Nat × Int32) => r = u.2 ∧ LayRel ka kb za zb f p0 q0 n0 u.1 u.2) (fun (u : Nat × Int32) (t : State) => va_P D vwCl [(h0, .inr (0, [.int (if u.2 < 0 then f0 else f0 + 1), .int (f1 + nI u.1), .int (if u.2 < 0 then f2 + 1 else f2), .int (if u.2 < 0 then f3 + 1 else 0), .int (nI u.1), .int u.2, .int f6])), (a0, .inr (1, [.int ka, .ref wa])), (wa, .inl (cL, za, .inr (.inl f))), (b0, .inr (1, [.int kb, .ref wb])), (wb, .inl (cL, zb, .inr (.inl (va_cpy f g p0.toNatClampNeg q0.toNatClampNeg u.1))))] t.heap ∧ va_D (va_A [(h0, .inr (0, [.int f0, .int f1, .int f2, .int f3, .int f4, .int f5, .int f6])), (a0, .inr (1, [.int ka, .ref wa])), (wa, .inl (cL, za, .inr (.inl f))), (b0, .inr (1, [.int kb, .ref wb])), (wb, .inl (cL, zb, .inr (.inl g)))] Hc.size) [(h0, .inr (0, [.int (if u.2 < 0 then f0 else f0 + 1), .int (f1 + nI u.1), .int (if u.2 < 0 then f2 + 1 else f2), .int (if u.2 < 0 then f3 + 1 else 0), .int (nI u.1), .int u.2, .int f6])), (a0, .inr (1, [.int ka, .ref wa])), (wa, .inl (cL, za, .inr (.inl f))), (b0, .inr (1, [.int kb, .ref wb])), (wb, .inl (cL, zb, .inr (.inl (va_cpy f g p0.toNatClampNeg q0.toNatClampNeg u.1))))]) (va_A [(h0, .inr (0, [.int f0, .int f1, .int f2, .int f3, .int f4, .int f5, .int f6])), (a0, .inr (1, [.int ka, .ref wa])), (wa, .inl (cL, za, .inr (.inl f))), (b0, .inr (1, [.int kb, .ref wb])), (wb, .inl (cL, zb, .inr (.inl g)))] Hc.size)) 0 0 (va_A [(h0, .inr (0, [.int f0, .int f1, .int f2, .int f3, .int f4, .int f5, .int f6])), (a0, .inr (1, [.int ka, .ref wa])), (wa, .inl (cL, za, .inr (.inl f))), (b0, .inr (1, [.int kb, .ref wb])), (wb, .inl (cL, zb, .inr (.inl g)))] Hc.size) := by
  refine Met.ofW (cc := cX0_cut) (maxL := 6) (ret := (some .int)) (by decide) rfl ?_
  intro p e s m args below meth c s₁ B hml hv
  obtain ⟨rfl, hH, hC⟩ := hv
  have hx := B.exec
  have hb := B.bytes
  have hr := B.returns
  have hts := atoms_spec (ws := wsX0_cut) B.pre
  have hown : s.vm.findClass RX0 = some m.cls := findClass_of_methodNamed B.named
  have hlocks := B.notSynchronized
  subst hH
  have hK := hC.K
  have hl := lv_entry ([.ref h0, .ref a0, .int p0, .ref b0, .int q0, .int n0]) (n := 6) (Nat.le_of_ble_eq_true rfl)
  rw [lg_entry_eq]
  generalize (lg_sl ([.ref h0, .ref a0, .int p0, .ref b0, .int q0, .int n0]) ++ List.replicate (6 - (lg_sl ([.ref h0, .ref a0, .int p0, .ref b0, .int q0, .int n0])).length) Slot.unset).toArray = ls at hl ⊢
  have hl : lv_has ls 6 [(0, .ref h0), (1, .ref a0), (2, .int p0), (3, .ref b0), (4, .int q0), (5, .int n0)] := hl
  have hP : va_P D vwCl [(h0, .inr (0, [.int f0, .int f1, .int f2, .int f3, .int f4, .int f5, .int f6])), (a0, .inr (1, [.int ka, .ref wa])), (wa, .inl (cL, za, .inr (.inl f))), (b0, .inr (1, [.int kb, .ref wb])), (wb, .inl (cL, zb, .inr (.inl g)))] s.heap := hP
  have hD := hD0.self (sz := s.heap.size)
  generalize hAe : va_A [(h0, .inr (0, [.int f0, .int f1, .int f2, .int f3, .int f4, .int f5, .int f6])), (a0, .inr (1, [.int ka, .ref wa])), (wa, .inl (cL, za, .inr (.inl f))), (b0, .inr (1, [.int kb, .ref wb])), (wb, .inl (cL, zb, .inr (.inl g)))] s.heap.size = A at hD hN ⊢
  have hA : ∀ q : Nat, s.heap.size ≤ q → A q := fun q h => by rw [← hAe]; exact Or.inr h
  have hS : va_S A s.heap s.heap [] := va_S.rf
  refine lv_aload_n hx hb dX0_cut_0 rfl (lv_at hl 0 rfl) ?_
  refine lv_iconst (v := 0) hx hb dX0_cut_1 (by decide) ?_
  refine va_put (D := D) (ci := 0) (v := .int 0) (ty := .int) (C := RX0) (T := TX0) (N := 7) hx hb hts iw_X0_cut_X0 tyX0 tyX0_ok nmX0 hown hK hP hD hS 0 rfl rfl 4 (by decide) (hts _ lk_X0_cut_Cond_fieldLink_RX0_18_SpliceRoom_Knife_far_I_) (fun _ h9 => h9) rfl (by decide +kernel) rfl rfl (Nat.le_of_ble_eq_true rfl) dX0_cut_2 (fun H locs hP hD hS => ?_)
  have hP : va_P D vwCl [(h0, .inr (0, [.int f0, .int f1, .int f2, .int f3, .int 0, .int f5, .int f6])), (a0, .inr (1, [.int ka, .ref wa])), (wa, .inl (cL, za, .inr (.inl f))), (b0, .inr (1, [.int kb, .ref wb])), (wb, .inl (cL, zb, .inr (.inl g)))] H := hP
  have hD : va_D A [(h0, .inr (0, [.int f0, .int f1, .int f2, .int f3, .int 0, .int f5, .int f6])), (a0, .inr (1, [.int ka, .ref wa])), (wa, .inl (cL, za, .inr (.inl f))), (b0, .inr (1, [.int kb, .ref wb])), (wb, .inl (cL, zb, .inr (.inl g)))] := hD
  refine lv_aload_n hx hb dX0_cut_5 rfl (lv_at hl 0 rfl) ?_
  refine lv_aload_n hx hb dX0_cut_6 rfl (lv_at hl 0 rfl) ?_
  refine lv_aload_n hx hb dX0_cut_7 rfl (lv_at hl 1 rfl) ?_
  refine lv_iload_n hx hb dX0_cut_8 rfl (lv_at hl 2 rfl) ?_
  refine lv_aload_n hx hb dX0_cut_9 rfl (lv_at hl 3 rfl) ?_
  refine lv_iload hx hb dX0_cut_10 (lv_at hl 4 rfl) ?_
  refine lv_iload hx hb dX0_cut_12 (lv_at hl 5 rfl) ?_
  have hFc := va_free (wc := [(h0, .inr (0, [.int f0, .int f1, .int f2, .int f3, .int 0, .int f5, .int f6])), (a0, .inr (1, [.int ka, .ref wa])), (wa, .inl (cL, za, .inr (.inl f))), (b0, .inr (1, [.int kb, .ref wb])), (wb, .inl (cL, zb, .inr (.inl g)))]) hD hS hA [0, 1, 2, 3, 4] rfl
  refine va_calli (va_runV (As := [.ref a0, .int p0, .ref b0, .int q0, .int n0]) (rest := [.ref h0]) ⟨hx, hb, hml, hown, hts⟩ (c_X0_lay l (hP.sub (ws' := [(h0, .inr (0, [.int f0, .int f1, .int f2, .int f3, .int 0, .int f5, .int f6])), (a0, .inr (1, [.int ka, .ref wa])), (wa, .inl (cL, za, .inr (.inl f))), (b0, .inr (1, [.int kb, .ref wb])), (wb, .inl (cL, zb, .inr (.inl g)))]) [0, 1, 2, 3, 4] rfl) ((hD.sub (ws' := [(h0, .inr (0, [.int f0, .int f1, .int f2, .int f3, .int 0, .int f5, .int f6])), (a0, .inr (1, [.int ka, .ref wa])), (wa, .inl (cL, za, .inr (.inl f))), (b0, .inr (1, [.int kb, .ref wb])), (wb, .inl (cL, zb, .inr (.inl g)))]) [0, 1, 2, 3, 4] (by decide) rfl).weaken (fun _ _ _ _ => trivial)) (fun q h => hN q (hFc q h)) hza hzb) (cwV 5 hts gX0_cut_X0_lay rfl rfl rfl (by decide +kernel) ⟨Nat.le_of_ble_eq_true rfl, Nat.le_of_ble_eq_true rfl⟩) (Pq.V hC hS hN (va_recv hK hP (ci := 0) (q0 := 0) rfl rfl)) rfl rfl hl.1 rfl (lv_room (Nat.le_of_ble_eq_true rfl)) dX0_cut_14 ⟨Nat.le_of_ble_eq_true rfl, Nat.le_of_ble_eq_true rfl⟩) hS (fun q _ h => hFc q h) hFc (fun r_1 u t H1 locs ht hvm hw hB hz1 hk1 hS => ?_)
  obtain ⟨k1, rfl⟩ : ∃ z : Nat, z = u := ⟨u, rfl⟩
  obtain ⟨hP1, hD1⟩ := hB
  rw [ht] at hP1
  have hw : LayRel ka kb za zb f p0 q0 n0 k1 r_1 := hw
  obtain ⟨hP, hD⟩ := va_join (wr := []) (w1 := [(h0, .inr (0, [.int f0, .int f1, .int f2, .int f3, .int (nI k1), .int f5, .int f6])), (a0, .inr (1, [.int ka, .ref wa])), (wa, .inl (cL, za, .inr (.inl f))), (b0, .inr (1, [.int kb, .ref wb])), (wb, .inl (cL, zb, .inr (.inl (va_cpy f g p0.toNatClampNeg q0.toNatClampNeg k1))))]) hP hD [0, 1, 2, 3, 4] [] rfl rfl (by decide) (by decide) hk1 hFc hP1 hD1
  generalize H1 = H at hP hS ⊢
  have hP : va_P D vwCl [(h0, .inr (0, [.int f0, .int f1, .int f2, .int f3, .int (nI k1), .int f5, .int f6])), (a0, .inr (1, [.int ka, .ref wa])), (wa, .inl (cL, za, .inr (.inl f))), (b0, .inr (1, [.int kb, .ref wb])), (wb, .inl (cL, zb, .inr (.inl (va_cpy f g p0.toNatClampNeg q0.toNatClampNeg k1))))] H := hP.sub [0, 1, 2, 3, 4] rfl
  have hD : va_D A [(h0, .inr (0, [.int f0, .int f1, .int f2, .int f3, .int (nI k1), .int f5, .int f6])), (a0, .inr (1, [.int ka, .ref wa])), (wa, .inl (cL, za, .inr (.inl f))), (b0, .inr (1, [.int kb, .ref wb])), (wb, .inl (cL, zb, .inr (.inl (va_cpy f g p0.toNatClampNeg q0.toNatClampNeg k1))))] := hD.sub [0, 1, 2, 3, 4] (by decide) rfl
  refine va_put (D := D) (ci := 0) (v := .int r_1) (ty := .int) (C := RX0) (T := TX0) (N := 7) hx hb hts iw_X0_cut_X0 tyX0 tyX0_ok nmX0 hown hK hP hD hS 0 rfl rfl 5 (by decide) (hts _ lk_X0_cut_Cond_fieldLink_RX0_25_SpliceRoom_Knife_told_I_) (fun _ h9 => h9) rfl (by decide +kernel) rfl rfl (Nat.le_of_ble_eq_true rfl) dX0_cut_17 (fun H locs hP hD hS => ?_)
  have hP : va_P D vwCl [(h0, .inr (0, [.int f0, .int f1, .int f2, .int f3, .int (nI k1), .int r_1, .int f6])), (a0, .inr (1, [.int ka, .ref wa])), (wa, .inl (cL, za, .inr (.inl f))), (b0, .inr (1, [.int kb, .ref wb])), (wb, .inl (cL, zb, .inr (.inl (va_cpy f g p0.toNatClampNeg q0.toNatClampNeg k1))))] H := hP
  have hD : va_D A [(h0, .inr (0, [.int f0, .int f1, .int f2, .int f3, .int (nI k1), .int r_1, .int f6])), (a0, .inr (1, [.int ka, .ref wa])), (wa, .inl (cL, za, .inr (.inl f))), (b0, .inr (1, [.int kb, .ref wb])), (wb, .inl (cL, zb, .inr (.inl (va_cpy f g p0.toNatClampNeg q0.toNatClampNeg k1))))] := hD
  refine lv_aload_n hx hb dX0_cut_20 rfl (lv_at hl 0 rfl) ?_
  refine lv_dup hx hb dX0_cut_21 rfl ?_
  refine va_get (D := D) (ci := 0) (v := .int f1) (C := RX0) (T := TX0) (N := 7) hx hb hts iw_X0_cut_X0 hown hK hP 0 rfl rfl 1 (by decide) (hts _ lk_X0_cut_Cond_fieldLink_RX0_28_SpliceRoom_Knife_laid_I_) (fun _ h9 => h9) rfl dX0_cut_22 ?_
  refine lv_aload_n hx hb dX0_cut_25 rfl (lv_at hl 0 rfl) ?_
  refine va_get (D := D) (ci := 0) (v := .int (nI k1)) (C := RX0) (T := TX0) (N := 7) hx hb hts iw_X0_cut_X0 hown hK hP 0 rfl rfl 4 (by decide) (hts _ lk_X0_cut_Cond_fieldLink_RX0_18_SpliceRoom_Knife_far_I_) (fun _ h9 => h9) rfl dX0_cut_26 ?_
  refine lv_iadd hx hb dX0_cut_29 ?_
  refine va_put (D := D) (ci := 0) (v := .int (f1 + (nI k1))) (ty := .int) (C := RX0) (T := TX0) (N := 7) hx hb hts iw_X0_cut_X0 tyX0 tyX0_ok nmX0 hown hK hP hD hS 0 rfl rfl 1 (by decide) (hts _ lk_X0_cut_Cond_fieldLink_RX0_28_SpliceRoom_Knife_laid_I_) (fun _ h9 => h9) rfl (by decide +kernel) rfl rfl (Nat.le_of_ble_eq_true rfl) dX0_cut_30 (fun H locs hP hD hS => ?_)
  have hP : va_P D vwCl [(h0, .inr (0, [.int f0, .int (f1 + (nI k1)), .int f2, .int f3, .int (nI k1), .int r_1, .int f6])), (a0, .inr (1, [.int ka, .ref wa])), (wa, .inl (cL, za, .inr (.inl f))), (b0, .inr (1, [.int kb, .ref wb])), (wb, .inl (cL, zb, .inr (.inl (va_cpy f g p0.toNatClampNeg q0.toNatClampNeg k1))))] H := hP
  have hD : va_D A [(h0, .inr (0, [.int f0, .int (f1 + (nI k1)), .int f2, .int f3, .int (nI k1), .int r_1, .int f6])), (a0, .inr (1, [.int ka, .ref wa])), (wa, .inl (cL, za, .inr (.inl f))), (b0, .inr (1, [.int kb, .ref wb])), (wb, .inl (cL, zb, .inr (.inl (va_cpy f g p0.toNatClampNeg q0.toNatClampNeg k1))))] := hD
  refine lv_aload_n hx hb dX0_cut_33 rfl (lv_at hl 0 rfl) ?_
  refine va_get (D := D) (ci := 0) (v := .int r_1) (C := RX0) (T := TX0) (N := 7) hx hb hts iw_X0_cut_X0 hown hK hP 0 rfl rfl 5 (by decide) (hts _ lk_X0_cut_Cond_fieldLink_RX0_25_SpliceRoom_Knife_told_I_) (fun _ h9 => h9) rfl dX0_cut_34 ?_
  refine lv_if_ge (tgt := 63) hx hb dX0_cut_37 (by decide) (fun c_37 => ?_) (fun c_37 => ?_)
  · have hr0 : ¬ r_1 < 0 := Int32.not_lt.mpr c_37
    refine lv_aload_n hx hb dX0_cut_63 rfl (lv_at hl 0 rfl) ?_
    refine lv_dup hx hb dX0_cut_64 rfl ?_
    refine va_get (D := D) (ci := 0) (v := .int f0) (C := RX0) (T := TX0) (N := 7) hx hb hts iw_X0_cut_X0 hown hK hP 0 rfl rfl 0 (by decide) (hts _ lk_X0_cut_Cond_fieldLink_RX0_34_SpliceRoom_Knife_wentWell_I_) (fun _ h9 => h9) rfl dX0_cut_65 ?_
    refine lv_iconst (v := 1) hx hb dX0_cut_68 (by decide) ?_
    refine lv_iadd hx hb dX0_cut_69 ?_
    refine va_put (D := D) (ci := 0) (v := .int (f0 + 1)) (ty := .int) (C := RX0) (T := TX0) (N := 7) hx hb hts iw_X0_cut_X0 tyX0 tyX0_ok nmX0 hown hK hP hD hS 0 rfl rfl 0 (by decide) (hts _ lk_X0_cut_Cond_fieldLink_RX0_34_SpliceRoom_Knife_wentWell_I_) (fun _ h9 => h9) rfl (by decide +kernel) rfl rfl (Nat.le_of_ble_eq_true rfl) dX0_cut_70 (fun H locs hP hD hS => ?_)
    have hP : va_P D vwCl [(h0, .inr (0, [.int (f0 + 1), .int (f1 + (nI k1)), .int f2, .int f3, .int (nI k1), .int r_1, .int f6])), (a0, .inr (1, [.int ka, .ref wa])), (wa, .inl (cL, za, .inr (.inl f))), (b0, .inr (1, [.int kb, .ref wb])), (wb, .inl (cL, zb, .inr (.inl (va_cpy f g p0.toNatClampNeg q0.toNatClampNeg k1))))] H := hP
    have hD : va_D A [(h0, .inr (0, [.int (f0 + 1), .int (f1 + (nI k1)), .int f2, .int f3, .int (nI k1), .int r_1, .int f6])), (a0, .inr (1, [.int ka, .ref wa])), (wa, .inl (cL, za, .inr (.inl f))), (b0, .inr (1, [.int kb, .ref wb])), (wb, .inl (cL, zb, .inr (.inl (va_cpy f g p0.toNatClampNeg q0.toNatClampNeg k1))))] := hD
    refine lv_aload_n hx hb dX0_cut_73 rfl (lv_at hl 0 rfl) ?_
    refine lv_iconst (v := 0) hx hb dX0_cut_74 (by decide) ?_
    refine va_put (D := D) (ci := 0) (v := .int 0) (ty := .int) (C := RX0) (T := TX0) (N := 7) hx hb hts iw_X0_cut_X0 tyX0 tyX0_ok nmX0 hown hK hP hD hS 0 rfl rfl 3 (by decide) (hts _ lk_X0_cut_Cond_fieldLink_RX0_9_SpliceRoom_Knife_jamsInRow_I_) (fun _ h9 => h9) rfl (by decide +kernel) rfl rfl (Nat.le_of_ble_eq_true rfl) dX0_cut_75 (fun H locs hP hD hS => ?_)
    have hP : va_P D vwCl [(h0, .inr (0, [.int (f0 + 1), .int (f1 + (nI k1)), .int f2, .int 0, .int (nI k1), .int r_1, .int f6])), (a0, .inr (1, [.int ka, .ref wa])), (wa, .inl (cL, za, .inr (.inl f))), (b0, .inr (1, [.int kb, .ref wb])), (wb, .inl (cL, zb, .inr (.inl (va_cpy f g p0.toNatClampNeg q0.toNatClampNeg k1))))] H := hP
    have hD : va_D A [(h0, .inr (0, [.int (f0 + 1), .int (f1 + (nI k1)), .int f2, .int 0, .int (nI k1), .int r_1, .int f6])), (a0, .inr (1, [.int ka, .ref wa])), (wa, .inl (cL, za, .inr (.inl f))), (b0, .inr (1, [.int kb, .ref wb])), (wb, .inl (cL, zb, .inr (.inl (va_cpy f g p0.toNatClampNeg q0.toNatClampNeg k1))))] := hD
    refine lv_aload_n hx hb dX0_cut_78 rfl (lv_at hl 0 rfl) ?_
    refine va_get (D := D) (ci := 0) (v := .int r_1) (C := RX0) (T := TX0) (N := 7) hx hb hts iw_X0_cut_X0 hown hK hP 0 rfl rfl 5 (by decide) (hts _ lk_X0_cut_Cond_fieldLink_RX0_25_SpliceRoom_Knife_told_I_) (fun _ h9 => h9) rfl dX0_cut_79 ?_
    exact W.iret (v := r_1) hx hb hr (fun t ht hW => ⟨⟨_, (k1, r_1), rfl, ⟨rfl, hw⟩, ⟨by rw [ht]; exact by simp only [if_neg hr0]; exact hP, by simp only [if_neg hr0]; exact hD⟩⟩, hS.F ht⟩) hS.2.2 dX0_cut_82
  · have hr0 : r_1 < 0 := Int32.not_le.mp c_37
    refine lv_aload_n hx hb dX0_cut_40 rfl (lv_at hl 0 rfl) ?_
    refine lv_dup hx hb dX0_cut_41 rfl ?_
    refine va_get (D := D) (ci := 0) (v := .int f2) (C := RX0) (T := TX0) (N := 7) hx hb hts iw_X0_cut_X0 hown hK hP 0 rfl rfl 2 (by decide) (hts _ lk_X0_cut_Cond_fieldLink_RX0_31_SpliceRoom_Knife_jams_I_) (fun _ h9 => h9) rfl dX0_cut_42 ?_
    refine lv_iconst (v := 1) hx hb dX0_cut_45 (by decide) ?_
    refine lv_iadd hx hb dX0_cut_46 ?_
    refine va_put (D := D) (ci := 0) (v := .int (f2 + 1)) (ty := .int) (C := RX0) (T := TX0) (N := 7) hx hb hts iw_X0_cut_X0 tyX0 tyX0_ok nmX0 hown hK hP hD hS 0 rfl rfl 2 (by decide) (hts _ lk_X0_cut_Cond_fieldLink_RX0_31_SpliceRoom_Knife_jams_I_) (fun _ h9 => h9) rfl (by decide +kernel) rfl rfl (Nat.le_of_ble_eq_true rfl) dX0_cut_47 (fun H locs hP hD hS => ?_)
    have hP : va_P D vwCl [(h0, .inr (0, [.int f0, .int (f1 + (nI k1)), .int (f2 + 1), .int f3, .int (nI k1), .int r_1, .int f6])), (a0, .inr (1, [.int ka, .ref wa])), (wa, .inl (cL, za, .inr (.inl f))), (b0, .inr (1, [.int kb, .ref wb])), (wb, .inl (cL, zb, .inr (.inl (va_cpy f g p0.toNatClampNeg q0.toNatClampNeg k1))))] H := hP
    have hD : va_D A [(h0, .inr (0, [.int f0, .int (f1 + (nI k1)), .int (f2 + 1), .int f3, .int (nI k1), .int r_1, .int f6])), (a0, .inr (1, [.int ka, .ref wa])), (wa, .inl (cL, za, .inr (.inl f))), (b0, .inr (1, [.int kb, .ref wb])), (wb, .inl (cL, zb, .inr (.inl (va_cpy f g p0.toNatClampNeg q0.toNatClampNeg k1))))] := hD
    refine lv_aload_n hx hb dX0_cut_50 rfl (lv_at hl 0 rfl) ?_
    refine lv_dup hx hb dX0_cut_51 rfl ?_
    refine va_get (D := D) (ci := 0) (v := .int f3) (C := RX0) (T := TX0) (N := 7) hx hb hts iw_X0_cut_X0 hown hK hP 0 rfl rfl 3 (by decide) (hts _ lk_X0_cut_Cond_fieldLink_RX0_9_SpliceRoom_Knife_jamsInRow_I_) (fun _ h9 => h9) rfl dX0_cut_52 ?_
    refine lv_iconst (v := 1) hx hb dX0_cut_55 (by decide) ?_
    refine lv_iadd hx hb dX0_cut_56 ?_
    refine va_put (D := D) (ci := 0) (v := .int (f3 + 1)) (ty := .int) (C := RX0) (T := TX0) (N := 7) hx hb hts iw_X0_cut_X0 tyX0 tyX0_ok nmX0 hown hK hP hD hS 0 rfl rfl 3 (by decide) (hts _ lk_X0_cut_Cond_fieldLink_RX0_9_SpliceRoom_Knife_jamsInRow_I_) (fun _ h9 => h9) rfl (by decide +kernel) rfl rfl (Nat.le_of_ble_eq_true rfl) dX0_cut_57 (fun H locs hP hD hS => ?_)
    have hP : va_P D vwCl [(h0, .inr (0, [.int f0, .int (f1 + (nI k1)), .int (f2 + 1), .int (f3 + 1), .int (nI k1), .int r_1, .int f6])), (a0, .inr (1, [.int ka, .ref wa])), (wa, .inl (cL, za, .inr (.inl f))), (b0, .inr (1, [.int kb, .ref wb])), (wb, .inl (cL, zb, .inr (.inl (va_cpy f g p0.toNatClampNeg q0.toNatClampNeg k1))))] H := hP
    have hD : va_D A [(h0, .inr (0, [.int f0, .int (f1 + (nI k1)), .int (f2 + 1), .int (f3 + 1), .int (nI k1), .int r_1, .int f6])), (a0, .inr (1, [.int ka, .ref wa])), (wa, .inl (cL, za, .inr (.inl f))), (b0, .inr (1, [.int kb, .ref wb])), (wb, .inl (cL, zb, .inr (.inl (va_cpy f g p0.toNatClampNeg q0.toNatClampNeg k1))))] := hD
    refine lv_goto (tgt := 78) hx hb dX0_cut_60 (by decide) ?_
    refine lv_aload_n hx hb dX0_cut_78 rfl (lv_at hl 0 rfl) ?_
    refine va_get (D := D) (ci := 0) (v := .int r_1) (C := RX0) (T := TX0) (N := 7) hx hb hts iw_X0_cut_X0 hown hK hP 0 rfl rfl 5 (by decide) (hts _ lk_X0_cut_Cond_fieldLink_RX0_25_SpliceRoom_Knife_told_I_) (fun _ h9 => h9) rfl dX0_cut_79 ?_
    exact W.iret (v := r_1) hx hb hr (fun t ht hW => ⟨⟨_, (k1, r_1), rfl, ⟨rfl, hw⟩, ⟨by rw [ht]; exact by simp only [if_pos hr0]; exact hP, by simp only [if_pos hr0]; exact hD⟩⟩, hS.F ht⟩) hS.2.2 dX0_cut_82
set_option maxHeartbeats 4000000 in
set_option maxRecDepth 100000 in
theorem c_X0_cutS (l : Launch) {D : va_G} {cI cL cQ : ClassId} {N0 : Nat} {sa : Nat → Nat} {Hc : Heap} {h0 a0 wa : Nat} {f0 f1 f2 f3 f4 f5 f6 ka : Int32} {za : Nat} {f : Nat → Int64} {p0 q0 n0 : Int32} (hP : va_P D vwCl [(h0, .inr (0, [.int f0, .int f1, .int f2, .int f3, .int f4, .int f5, .int f6])), (a0, .inr (1, [.int ka, .ref wa])), (wa, .inl (cL, za, .inr (.inl f)))] Hc) (hD0 : va_D nT [(h0, .inr (0, [.int f0, .int f1, .int f2, .int f3, .int f4, .int f5, .int f6])), (a0, .inr (1, [.int ka, .ref wa])), (wa, .inl (cL, za, .inr (.inl f)))]) (hN : ∀ q, va_A [(h0, .inr (0, [.int f0, .int f1, .int f2, .int f3, .int f4, .int f5, .int f6])), (a0, .inr (1, [.int ka, .ref wa])), (wa, .inl (cL, za, .inr (.inl f)))] Hc.size q → N0 ≤ q) (hza : za ≤ 40) : Met l yX0_cut wsX0_cut ({ frames := 3, cells := 0, slots := 0, locals := 90 }) (Pq D cI cL cQ N0 sa [.ref h0, .ref a0, .int p0, .ref a0, .int q0, .int n0] Hc) (va_Qi (fun (r : Int32) (u : Nat × Int32) => r = u.2 ∧ LayRel ka ka za za f p0 q0 n0 u.1 u.2) (fun (u : Nat × Int32) (t : State) => va_P D vwCl [(h0, .inr (0, [.int (if u.2 < 0 then f0 else f0 + 1), .int (f1 + nI u.1), .int (if u.2 < 0 then f2 + 1 else f2), .int (if u.2 < 0 then f3 + 1 else 0), .int (nI u.1), .int u.2, .int f6])), (a0, .inr (1, [.int ka, .ref wa])), (wa, .inl (cL, za, .inr (.inl (va_cpy f f p0.toNatClampNeg q0.toNatClampNeg u.1))))] t.heap ∧ va_D (va_A [(h0, .inr (0, [.int f0, .int f1, .int f2, .int f3, .int f4, .int f5, .int f6])), (a0, .inr (1, [.int ka, .ref wa])), (wa, .inl (cL, za, .inr (.inl f)))] Hc.size) [(h0, .inr (0, [.int (if u.2 < 0 then f0 else f0 + 1), .int (f1 + nI u.1), .int (if u.2 < 0 then f2 + 1 else f2), .int (if u.2 < 0 then f3 + 1 else 0), .int (nI u.1), .int u.2, .int f6])), (a0, .inr (1, [.int ka, .ref wa])), (wa, .inl (cL, za, .inr (.inl (va_cpy f f p0.toNatClampNeg q0.toNatClampNeg u.1))))]) (va_A [(h0, .inr (0, [.int f0, .int f1, .int f2, .int f3, .int f4, .int f5, .int f6])), (a0, .inr (1, [.int ka, .ref wa])), (wa, .inl (cL, za, .inr (.inl f)))] Hc.size)) 0 0 (va_A [(h0, .inr (0, [.int f0, .int f1, .int f2, .int f3, .int f4, .int f5, .int f6])), (a0, .inr (1, [.int ka, .ref wa])), (wa, .inl (cL, za, .inr (.inl f)))] Hc.size) := by
  refine Met.ofW (cc := cX0_cut) (maxL := 6) (ret := (some .int)) (by decide) rfl ?_
  intro p e s m args below meth c s₁ B hml hv
  obtain ⟨rfl, hH, hC⟩ := hv
  have hx := B.exec
  have hb := B.bytes
  have hr := B.returns
  have hts := atoms_spec (ws := wsX0_cut) B.pre
  have hown : s.vm.findClass RX0 = some m.cls := findClass_of_methodNamed B.named
  have hlocks := B.notSynchronized
  subst hH
  have hK := hC.K
  have hl := lv_entry ([.ref h0, .ref a0, .int p0, .ref a0, .int q0, .int n0]) (n := 6) (Nat.le_of_ble_eq_true rfl)
  rw [lg_entry_eq]
  generalize (lg_sl ([.ref h0, .ref a0, .int p0, .ref a0, .int q0, .int n0]) ++ List.replicate (6 - (lg_sl ([.ref h0, .ref a0, .int p0, .ref a0, .int q0, .int n0])).length) Slot.unset).toArray = ls at hl ⊢
  have hl : lv_has ls 6 [(0, .ref h0), (1, .ref a0), (2, .int p0), (3, .ref a0), (4, .int q0), (5, .int n0)] := hl
  have hP : va_P D vwCl [(h0, .inr (0, [.int f0, .int f1, .int f2, .int f3, .int f4, .int f5, .int f6])), (a0, .inr (1, [.int ka, .ref wa])), (wa, .inl (cL, za, .inr (.inl f)))] s.heap := hP
  have hD := hD0.self (sz := s.heap.size)
  generalize hAe : va_A [(h0, .inr (0, [.int f0, .int f1, .int f2, .int f3, .int f4, .int f5, .int f6])), (a0, .inr (1, [.int ka, .ref wa])), (wa, .inl (cL, za, .inr (.inl f)))] s.heap.size = A at hD hN ⊢
  have hA : ∀ q : Nat, s.heap.size ≤ q → A q := fun q h => by rw [← hAe]; exact Or.inr h
  have hS : va_S A s.heap s.heap [] := va_S.rf
  refine lv_aload_n hx hb dX0_cut_0 rfl (lv_at hl 0 rfl) ?_
  refine lv_iconst (v := 0) hx hb dX0_cut_1 (by decide) ?_
  refine va_put (D := D) (ci := 0) (v := .int 0) (ty := .int) (C := RX0) (T := TX0) (N := 7) hx hb hts iw_X0_cut_X0 tyX0 tyX0_ok nmX0 hown hK hP hD hS 0 rfl rfl 4 (by decide) (hts _ lk_X0_cut_Cond_fieldLink_RX0_18_SpliceRoom_Knife_far_I_) (fun _ h9 => h9) rfl (by decide +kernel) rfl rfl (Nat.le_of_ble_eq_true rfl) dX0_cut_2 (fun H locs hP hD hS => ?_)
  have hP : va_P D vwCl [(h0, .inr (0, [.int f0, .int f1, .int f2, .int f3, .int 0, .int f5, .int f6])), (a0, .inr (1, [.int ka, .ref wa])), (wa, .inl (cL, za, .inr (.inl f)))] H := hP
  have hD : va_D A [(h0, .inr (0, [.int f0, .int f1, .int f2, .int f3, .int 0, .int f5, .int f6])), (a0, .inr (1, [.int ka, .ref wa])), (wa, .inl (cL, za, .inr (.inl f)))] := hD
  refine lv_aload_n hx hb dX0_cut_5 rfl (lv_at hl 0 rfl) ?_
  refine lv_aload_n hx hb dX0_cut_6 rfl (lv_at hl 0 rfl) ?_
  refine lv_aload_n hx hb dX0_cut_7 rfl (lv_at hl 1 rfl) ?_
  refine lv_iload_n hx hb dX0_cut_8 rfl (lv_at hl 2 rfl) ?_
  refine lv_aload_n hx hb dX0_cut_9 rfl (lv_at hl 3 rfl) ?_
  refine lv_iload hx hb dX0_cut_10 (lv_at hl 4 rfl) ?_
  refine lv_iload hx hb dX0_cut_12 (lv_at hl 5 rfl) ?_
  have hFc := va_free (wc := [(h0, .inr (0, [.int f0, .int f1, .int f2, .int f3, .int 0, .int f5, .int f6])), (a0, .inr (1, [.int ka, .ref wa])), (wa, .inl (cL, za, .inr (.inl f)))]) hD hS hA [0, 1, 2] rfl
  refine va_calli (va_runV (As := [.ref a0, .int p0, .ref a0, .int q0, .int n0]) (rest := [.ref h0]) ⟨hx, hb, hml, hown, hts⟩ (c_X0_layS l (hP.sub (ws' := [(h0, .inr (0, [.int f0, .int f1, .int f2, .int f3, .int 0, .int f5, .int f6])), (a0, .inr (1, [.int ka, .ref wa])), (wa, .inl (cL, za, .inr (.inl f)))]) [0, 1, 2] rfl) ((hD.sub (ws' := [(h0, .inr (0, [.int f0, .int f1, .int f2, .int f3, .int 0, .int f5, .int f6])), (a0, .inr (1, [.int ka, .ref wa])), (wa, .inl (cL, za, .inr (.inl f)))]) [0, 1, 2] (by decide) rfl).weaken (fun _ _ _ _ => trivial)) (fun q h => hN q (hFc q h)) hza) (cwV 5 hts gX0_cut_X0_lay rfl rfl rfl (by decide +kernel) ⟨Nat.le_of_ble_eq_true rfl, Nat.le_of_ble_eq_true rfl⟩) (Pq.V hC hS hN (va_recv hK hP (ci := 0) (q0 := 0) rfl rfl)) rfl rfl hl.1 rfl (lv_room (Nat.le_of_ble_eq_true rfl)) dX0_cut_14 ⟨Nat.le_of_ble_eq_true rfl, Nat.le_of_ble_eq_true rfl⟩) hS (fun q _ h => hFc q h) hFc (fun r_1 u t H1 locs ht hvm hw hB hz1 hk1 hS => ?_)
  obtain ⟨k1, rfl⟩ : ∃ z : Nat, z = u := ⟨u, rfl⟩
  obtain ⟨hP1, hD1⟩ := hB
  rw [ht] at hP1
  have hw : LayRel ka ka za za f p0 q0 n0 k1 r_1 := hw
  obtain ⟨hP, hD⟩ := va_join (wr := []) (w1 := [(h0, .inr (0, [.int f0, .int f1, .int f2, .int f3, .int (nI k1), .int f5, .int f6])), (a0, .inr (1, [.int ka, .ref wa])), (wa, .inl (cL, za, .inr (.inl (va_cpy f f p0.toNatClampNeg q0.toNatClampNeg k1))))]) hP hD [0, 1, 2] [] rfl rfl (by decide) (by decide) hk1 hFc hP1 hD1
  generalize H1 = H at hP hS ⊢
  have hP : va_P D vwCl [(h0, .inr (0, [.int f0, .int f1, .int f2, .int f3, .int (nI k1), .int f5, .int f6])), (a0, .inr (1, [.int ka, .ref wa])), (wa, .inl (cL, za, .inr (.inl (va_cpy f f p0.toNatClampNeg q0.toNatClampNeg k1))))] H := hP.sub [0, 1, 2] rfl
  have hD : va_D A [(h0, .inr (0, [.int f0, .int f1, .int f2, .int f3, .int (nI k1), .int f5, .int f6])), (a0, .inr (1, [.int ka, .ref wa])), (wa, .inl (cL, za, .inr (.inl (va_cpy f f p0.toNatClampNeg q0.toNatClampNeg k1))))] := hD.sub [0, 1, 2] (by decide) rfl
  refine va_put (D := D) (ci := 0) (v := .int r_1) (ty := .int) (C := RX0) (T := TX0) (N := 7) hx hb hts iw_X0_cut_X0 tyX0 tyX0_ok nmX0 hown hK hP hD hS 0 rfl rfl 5 (by decide) (hts _ lk_X0_cut_Cond_fieldLink_RX0_25_SpliceRoom_Knife_told_I_) (fun _ h9 => h9) rfl (by decide +kernel) rfl rfl (Nat.le_of_ble_eq_true rfl) dX0_cut_17 (fun H locs hP hD hS => ?_)
  have hP : va_P D vwCl [(h0, .inr (0, [.int f0, .int f1, .int f2, .int f3, .int (nI k1), .int r_1, .int f6])), (a0, .inr (1, [.int ka, .ref wa])), (wa, .inl (cL, za, .inr (.inl (va_cpy f f p0.toNatClampNeg q0.toNatClampNeg k1))))] H := hP
  have hD : va_D A [(h0, .inr (0, [.int f0, .int f1, .int f2, .int f3, .int (nI k1), .int r_1, .int f6])), (a0, .inr (1, [.int ka, .ref wa])), (wa, .inl (cL, za, .inr (.inl (va_cpy f f p0.toNatClampNeg q0.toNatClampNeg k1))))] := hD
  refine lv_aload_n hx hb dX0_cut_20 rfl (lv_at hl 0 rfl) ?_
  refine lv_dup hx hb dX0_cut_21 rfl ?_
  refine va_get (D := D) (ci := 0) (v := .int f1) (C := RX0) (T := TX0) (N := 7) hx hb hts iw_X0_cut_X0 hown hK hP 0 rfl rfl 1 (by decide) (hts _ lk_X0_cut_Cond_fieldLink_RX0_28_SpliceRoom_Knife_laid_I_) (fun _ h9 => h9) rfl dX0_cut_22 ?_
  refine lv_aload_n hx hb dX0_cut_25 rfl (lv_at hl 0 rfl) ?_
  refine va_get (D := D) (ci := 0) (v := .int (nI k1)) (C := RX0) (T := TX0) (N := 7) hx hb hts iw_X0_cut_X0 hown hK hP 0 rfl rfl 4 (by decide) (hts _ lk_X0_cut_Cond_fieldLink_RX0_18_SpliceRoom_Knife_far_I_) (fun _ h9 => h9) rfl dX0_cut_26 ?_
  refine lv_iadd hx hb dX0_cut_29 ?_
  refine va_put (D := D) (ci := 0) (v := .int (f1 + (nI k1))) (ty := .int) (C := RX0) (T := TX0) (N := 7) hx hb hts iw_X0_cut_X0 tyX0 tyX0_ok nmX0 hown hK hP hD hS 0 rfl rfl 1 (by decide) (hts _ lk_X0_cut_Cond_fieldLink_RX0_28_SpliceRoom_Knife_laid_I_) (fun _ h9 => h9) rfl (by decide +kernel) rfl rfl (Nat.le_of_ble_eq_true rfl) dX0_cut_30 (fun H locs hP hD hS => ?_)
  have hP : va_P D vwCl [(h0, .inr (0, [.int f0, .int (f1 + (nI k1)), .int f2, .int f3, .int (nI k1), .int r_1, .int f6])), (a0, .inr (1, [.int ka, .ref wa])), (wa, .inl (cL, za, .inr (.inl (va_cpy f f p0.toNatClampNeg q0.toNatClampNeg k1))))] H := hP
  have hD : va_D A [(h0, .inr (0, [.int f0, .int (f1 + (nI k1)), .int f2, .int f3, .int (nI k1), .int r_1, .int f6])), (a0, .inr (1, [.int ka, .ref wa])), (wa, .inl (cL, za, .inr (.inl (va_cpy f f p0.toNatClampNeg q0.toNatClampNeg k1))))] := hD
  refine lv_aload_n hx hb dX0_cut_33 rfl (lv_at hl 0 rfl) ?_
  refine va_get (D := D) (ci := 0) (v := .int r_1) (C := RX0) (T := TX0) (N := 7) hx hb hts iw_X0_cut_X0 hown hK hP 0 rfl rfl 5 (by decide) (hts _ lk_X0_cut_Cond_fieldLink_RX0_25_SpliceRoom_Knife_told_I_) (fun _ h9 => h9) rfl dX0_cut_34 ?_
  refine lv_if_ge (tgt := 63) hx hb dX0_cut_37 (by decide) (fun c_37 => ?_) (fun c_37 => ?_)
  · have hr0 : ¬ r_1 < 0 := Int32.not_lt.mpr c_37
    refine lv_aload_n hx hb dX0_cut_63 rfl (lv_at hl 0 rfl) ?_
    refine lv_dup hx hb dX0_cut_64 rfl ?_
    refine va_get (D := D) (ci := 0) (v := .int f0) (C := RX0) (T := TX0) (N := 7) hx hb hts iw_X0_cut_X0 hown hK hP 0 rfl rfl 0 (by decide) (hts _ lk_X0_cut_Cond_fieldLink_RX0_34_SpliceRoom_Knife_wentWell_I_) (fun _ h9 => h9) rfl dX0_cut_65 ?_
    refine lv_iconst (v := 1) hx hb dX0_cut_68 (by decide) ?_
    refine lv_iadd hx hb dX0_cut_69 ?_
    refine va_put (D := D) (ci := 0) (v := .int (f0 + 1)) (ty := .int) (C := RX0) (T := TX0) (N := 7) hx hb hts iw_X0_cut_X0 tyX0 tyX0_ok nmX0 hown hK hP hD hS 0 rfl rfl 0 (by decide) (hts _ lk_X0_cut_Cond_fieldLink_RX0_34_SpliceRoom_Knife_wentWell_I_) (fun _ h9 => h9) rfl (by decide +kernel) rfl rfl (Nat.le_of_ble_eq_true rfl) dX0_cut_70 (fun H locs hP hD hS => ?_)
    have hP : va_P D vwCl [(h0, .inr (0, [.int (f0 + 1), .int (f1 + (nI k1)), .int f2, .int f3, .int (nI k1), .int r_1, .int f6])), (a0, .inr (1, [.int ka, .ref wa])), (wa, .inl (cL, za, .inr (.inl (va_cpy f f p0.toNatClampNeg q0.toNatClampNeg k1))))] H := hP
    have hD : va_D A [(h0, .inr (0, [.int (f0 + 1), .int (f1 + (nI k1)), .int f2, .int f3, .int (nI k1), .int r_1, .int f6])), (a0, .inr (1, [.int ka, .ref wa])), (wa, .inl (cL, za, .inr (.inl (va_cpy f f p0.toNatClampNeg q0.toNatClampNeg k1))))] := hD
    refine lv_aload_n hx hb dX0_cut_73 rfl (lv_at hl 0 rfl) ?_
    refine lv_iconst (v := 0) hx hb dX0_cut_74 (by decide) ?_
    refine va_put (D := D) (ci := 0) (v := .int 0) (ty := .int) (C := RX0) (T := TX0) (N := 7) hx hb hts iw_X0_cut_X0 tyX0 tyX0_ok nmX0 hown hK hP hD hS 0 rfl rfl 3 (by decide) (hts _ lk_X0_cut_Cond_fieldLink_RX0_9_SpliceRoom_Knife_jamsInRow_I_) (fun _ h9 => h9) rfl (by decide +kernel) rfl rfl (Nat.le_of_ble_eq_true rfl) dX0_cut_75 (fun H locs hP hD hS => ?_)
    have hP : va_P D vwCl [(h0, .inr (0, [.int (f0 + 1), .int (f1 + (nI k1)), .int f2, .int 0, .int (nI k1), .int r_1, .int f6])), (a0, .inr (1, [.int ka, .ref wa])), (wa, .inl (cL, za, .inr (.inl (va_cpy f f p0.toNatClampNeg q0.toNatClampNeg k1))))] H := hP
    have hD : va_D A [(h0, .inr (0, [.int (f0 + 1), .int (f1 + (nI k1)), .int f2, .int 0, .int (nI k1), .int r_1, .int f6])), (a0, .inr (1, [.int ka, .ref wa])), (wa, .inl (cL, za, .inr (.inl (va_cpy f f p0.toNatClampNeg q0.toNatClampNeg k1))))] := hD
    refine lv_aload_n hx hb dX0_cut_78 rfl (lv_at hl 0 rfl) ?_
    refine va_get (D := D) (ci := 0) (v := .int r_1) (C := RX0) (T := TX0) (N := 7) hx hb hts iw_X0_cut_X0 hown hK hP 0 rfl rfl 5 (by decide) (hts _ lk_X0_cut_Cond_fieldLink_RX0_25_SpliceRoom_Knife_told_I_) (fun _ h9 => h9) rfl dX0_cut_79 ?_
    exact W.iret (v := r_1) hx hb hr (fun t ht hW => ⟨⟨_, (k1, r_1), rfl, ⟨rfl, hw⟩, ⟨by rw [ht]; exact by simp only [if_neg hr0]; exact hP, by simp only [if_neg hr0]; exact hD⟩⟩, hS.F ht⟩) hS.2.2 dX0_cut_82
  · have hr0 : r_1 < 0 := Int32.not_le.mp c_37
    refine lv_aload_n hx hb dX0_cut_40 rfl (lv_at hl 0 rfl) ?_
    refine lv_dup hx hb dX0_cut_41 rfl ?_
    refine va_get (D := D) (ci := 0) (v := .int f2) (C := RX0) (T := TX0) (N := 7) hx hb hts iw_X0_cut_X0 hown hK hP 0 rfl rfl 2 (by decide) (hts _ lk_X0_cut_Cond_fieldLink_RX0_31_SpliceRoom_Knife_jams_I_) (fun _ h9 => h9) rfl dX0_cut_42 ?_
    refine lv_iconst (v := 1) hx hb dX0_cut_45 (by decide) ?_
    refine lv_iadd hx hb dX0_cut_46 ?_
    refine va_put (D := D) (ci := 0) (v := .int (f2 + 1)) (ty := .int) (C := RX0) (T := TX0) (N := 7) hx hb hts iw_X0_cut_X0 tyX0 tyX0_ok nmX0 hown hK hP hD hS 0 rfl rfl 2 (by decide) (hts _ lk_X0_cut_Cond_fieldLink_RX0_31_SpliceRoom_Knife_jams_I_) (fun _ h9 => h9) rfl (by decide +kernel) rfl rfl (Nat.le_of_ble_eq_true rfl) dX0_cut_47 (fun H locs hP hD hS => ?_)
    have hP : va_P D vwCl [(h0, .inr (0, [.int f0, .int (f1 + (nI k1)), .int (f2 + 1), .int f3, .int (nI k1), .int r_1, .int f6])), (a0, .inr (1, [.int ka, .ref wa])), (wa, .inl (cL, za, .inr (.inl (va_cpy f f p0.toNatClampNeg q0.toNatClampNeg k1))))] H := hP
    have hD : va_D A [(h0, .inr (0, [.int f0, .int (f1 + (nI k1)), .int (f2 + 1), .int f3, .int (nI k1), .int r_1, .int f6])), (a0, .inr (1, [.int ka, .ref wa])), (wa, .inl (cL, za, .inr (.inl (va_cpy f f p0.toNatClampNeg q0.toNatClampNeg k1))))] := hD
    refine lv_aload_n hx hb dX0_cut_50 rfl (lv_at hl 0 rfl) ?_
    refine lv_dup hx hb dX0_cut_51 rfl ?_
    refine va_get (D := D) (ci := 0) (v := .int f3) (C := RX0) (T := TX0) (N := 7) hx hb hts iw_X0_cut_X0 hown hK hP 0 rfl rfl 3 (by decide) (hts _ lk_X0_cut_Cond_fieldLink_RX0_9_SpliceRoom_Knife_jamsInRow_I_) (fun _ h9 => h9) rfl dX0_cut_52 ?_
    refine lv_iconst (v := 1) hx hb dX0_cut_55 (by decide) ?_
    refine lv_iadd hx hb dX0_cut_56 ?_
    refine va_put (D := D) (ci := 0) (v := .int (f3 + 1)) (ty := .int) (C := RX0) (T := TX0) (N := 7) hx hb hts iw_X0_cut_X0 tyX0 tyX0_ok nmX0 hown hK hP hD hS 0 rfl rfl 3 (by decide) (hts _ lk_X0_cut_Cond_fieldLink_RX0_9_SpliceRoom_Knife_jamsInRow_I_) (fun _ h9 => h9) rfl (by decide +kernel) rfl rfl (Nat.le_of_ble_eq_true rfl) dX0_cut_57 (fun H locs hP hD hS => ?_)
    have hP : va_P D vwCl [(h0, .inr (0, [.int f0, .int (f1 + (nI k1)), .int (f2 + 1), .int (f3 + 1), .int (nI k1), .int r_1, .int f6])), (a0, .inr (1, [.int ka, .ref wa])), (wa, .inl (cL, za, .inr (.inl (va_cpy f f p0.toNatClampNeg q0.toNatClampNeg k1))))] H := hP
    have hD : va_D A [(h0, .inr (0, [.int f0, .int (f1 + (nI k1)), .int (f2 + 1), .int (f3 + 1), .int (nI k1), .int r_1, .int f6])), (a0, .inr (1, [.int ka, .ref wa])), (wa, .inl (cL, za, .inr (.inl (va_cpy f f p0.toNatClampNeg q0.toNatClampNeg k1))))] := hD
    refine lv_goto (tgt := 78) hx hb dX0_cut_60 (by decide) ?_
    refine lv_aload_n hx hb dX0_cut_78 rfl (lv_at hl 0 rfl) ?_
    refine va_get (D := D) (ci := 0) (v := .int r_1) (C := RX0) (T := TX0) (N := 7) hx hb hts iw_X0_cut_X0 hown hK hP 0 rfl rfl 5 (by decide) (hts _ lk_X0_cut_Cond_fieldLink_RX0_25_SpliceRoom_Knife_told_I_) (fun _ h9 => h9) rfl dX0_cut_79 ?_
    exact W.iret (v := r_1) hx hb hr (fun t ht hW => ⟨⟨_, (k1, r_1), rfl, ⟨rfl, hw⟩, ⟨by rw [ht]; exact by simp only [if_pos hr0]; exact hP, by simp only [if_pos hr0]; exact hD⟩⟩, hS.F ht⟩) hS.2.2 dX0_cut_82
/-- the knife behind a cut that laid k frames and told r -/
def knUp (kn : Nat → Int32) (k : Nat) (r : Int32) : Nat → Int32 := fun i => match i with
  | 0 => if r < 0 then kn 0 else kn 0 + 1
  | 1 => kn 1 + nI k
  | 2 => if r < 0 then kn 2 + 1 else kn 2
  | 3 => if r < 0 then kn 3 + 1 else 0
  | 4 => nI k
  | 5 => r
  | _ => kn 6
/-- a cut between two hooks' reels: k frames are laid, r is told -/
def CutRel (re : Nat → RE) (o1 o2 : Option Nat) (p q n : Int32) (k : Nat) (r : Int32) : Prop := match o1, o2 with
  | some a, some b => LayRel (re a).1 (re b).1 (re a).2.2.1 (re b).2.2.1 (re a).2.2.2 p q n k r
  | _, _ => k = 0 ∧ r = -1
def cutRe (re : Nat → RE) (o1 o2 : Option Nat) (p q : Int32) (k : Nat) : Nat → RE := match o1, o2 with
  | some a, some b => va_up re b ((re b).1, (re b).2.1, (re b).2.2.1, va_cpy (re a).2.2.2 (re b).2.2.2 p.toNatClampNeg q.toNatClampNeg k)
  | _, _ => re
theorem nd_k {x ah ak b0 b1 b2 b3 b4 : Nat} (h : [x, ah, ak, b0, b1, b2, b3, b4].Nodup) {q : Nat} (hq : q ∈ [x, ah, b0, b1, b2, b3, b4]) : q ≠ ak := by
  simp only [List.nodup_cons, List.mem_cons, List.not_mem_nil, or_false, not_or] at h hq
  rintro rfl
  rcases hq with e | e | e | e | e | e | e <;> simp_all
section L
variable {D : va_G} {cI cL cQ : ClassId} {x ah ak b0 b1 b2 b3 b4 : Nat} {F : Nat → Prop} {hk : Nat → Option Nat} {re : Nat → RE} {kn : Nat → Int32} {sh : Nat → Nat → Int32} {k : Int32} {H : Heap}
theorem RSB.P8k (h : RSB D cI cL cQ x ah ak b0 b1 b2 b3 b4 F (hk, re, kn, sh, k) H) {H1 : Heap} {kn' : Nat → Int32} (hPk : va_P D vwCl [(ak, .inr (0, [.int (kn' 0), .int (kn' 1), .int (kn' 2), .int (kn' 3), .int (kn' 4), .int (kn' 5), .int (kn' 6)]))] H1)
    (hq : ∀ q : Nat, q < H.size → q ∈ [x, ah, b0, b1, b2, b3, b4] → H1[q]? = H[q]?) : va_P D vwCl (w8 cI cQ x ah ak b0 b1 b2 b3 b4 hk kn' sh k) H1 := by
  have kp : ∀ (i : Nat) (z : Nat × va_E), (w8 cI cQ x ah ak b0 b1 b2 b3 b4 hk kn sh k)[i]? = some z → z.1 ∈ [x, ah, b0, b1, b2, b3, b4] → va_at D vwCl z H1 := fun i z hi hm => (h.1 i z hi).kept (hq z.1 (h.1 i z hi).lt hm)
  intro i z hi
  match i, hi with
  | 0, hi => cases hi; exact kp 0 _ rfl (by simp)
  | 1, hi => cases hi; exact kp 1 _ rfl (by simp)
  | 2, hi => cases hi; exact hPk 0 _ rfl
  | 3, hi => cases hi; exact kp 3 _ rfl (by simp)
  | 4, hi => cases hi; exact kp 4 _ rfl (by simp)
  | 5, hi => cases hi; exact kp 5 _ rfl (by simp)
  | 6, hi => cases hi; exact kp 6 _ rfl (by simp)
  | 7, hi => cases hi; exact kp 7 _ rfl (by simp)
  | i + 8, hi => simp [w8] at hi
theorem RSB.Fak (h : RSB D cI cL cQ x ah ak b0 b1 b2 b3 b4 F (hk, re, kn, sh, k) H) : F ak := h.2.1 ak (by simp)
theorem in1 {ws : va_W} {sz q : Nat} (h : va_A ws sz q) : q ∈ ws.map (·.1) ∨ sz ≤ q := by
  rcases h with ⟨i, e, hi⟩ | h
  · exact Or.inl (List.mem_map_of_mem (f := fun z : Nat × va_E => z.1) (List.mem_of_getElem? hi))
  · exact Or.inr h
theorem out1 {ws : va_W} {sz q : Nat} (h : q < sz) (hn : q ∉ ws.map (·.1)) : ¬ va_A ws sz q := fun z => (in1 z).elim hn (fun z => by omega)
theorem RSB.PK (h : RSB D cI cL cQ x ah ak b0 b1 b2 b3 b4 F (hk, re, kn, sh, k) H) : va_P D vwCl [(ak, .inr (0, [.int (kn 0), .int (kn 1), .int (kn 2), .int (kn 3), .int (kn 4), .int (kn 5), .int (kn 6)]))] H := h.1.sub [2] rfl
/-- only the knife is new -/
theorem RSB.putK (h : RSB D cI cL cQ x ah ak b0 b1 b2 b3 b4 F (hk, re, kn, sh, k) H) {H1 : Heap} {kn' : Nat → Int32} (hPk : va_P D vwCl [(ak, .inr (0, [.int (kn' 0), .int (kn' 1), .int (kn' 2), .int (kn' 3), .int (kn' 4), .int (kn' 5), .int (kn' 6)]))] H1)
    (hq : ∀ q : Nat, q < H.size → q ≠ ak → H1[q]? = H[q]?) : RSB D cI cL cQ x ah ak b0 b1 b2 b3 b4 F (hk, re, kn', sh, k) H1 :=
  h.put8 (h.P8k hPk (fun q hs hm => hq q hs (nd_k h.2.2.1 hm))) (fun _ z => z) (fun q hs hm => hq q hs (fun e => hm (by rw [e]; simp)))
end L
set_option maxHeartbeats 4000000 in
/-- Knife.cut, between two hooks of the room -/
theorem c_X0_cut (l : Launch) {D : va_G} {cI cL cQ : ClassId} {N0 : Nat} {sa : Nat → Nat} {Hc : Heap} {x ah ak b0 b1 b2 b3 b4 : Nat} {F : Nat → Prop} {hk : Nat → Option Nat} {re : Nat → RE} {kn : Nat → Int32} {sh : Nat → Nat → Int32} {k : Int32} (h : RSB D cI cL cQ x ah ak b0 b1 b2 b3 b4 F (hk, re, kn, sh, k) Hc) (hN : ∀ q, F q ∨ Hc.size ≤ q → N0 ≤ q) {i1 i2 : Nat} (h1 : i1 < 6) (h2 : i2 < 6) {p0 q0 n0 : Int32} :
    Met l yX0_cut wsX0_cut ({ frames := 3, cells := 0, slots := 0, locals := 90 }) (Pq D cI cL cQ N0 sa [.ref ak, va_rf (hk i1), .int p0, va_rf (hk i2), .int q0, .int n0] Hc) (va_Qi (fun (r : Int32) (u : Nat × Int32) => r = u.2 ∧ CutRel re (hk i1) (hk i2) p0 q0 n0 u.1 u.2) (fun u t => RSB D cI cL cQ x ah ak b0 b1 b2 b3 b4 F (hk, cutRe re (hk i1) (hk i2) p0 q0 u.1, knUp kn u.1 u.2, sh, k) t.heap) (fun q => F q ∨ Hc.size ≤ q)) 0 0 (fun q => F q ∨ Hc.size ≤ q) := by
  have l1 : ∀ r, hk i1 = some r → Live hk r := fun r e => ⟨i1, h1, e⟩
  have l2 : ∀ r, hk i2 = some r → Live hk r := fun r e => ⟨i2, h2, e⟩
  have nul : ∀ {st t : State}, st.heap = Hc → va_P D vwCl [(ak, .inr (0, [.int (kn 0), .int (kn 1 + 0), .int (kn 2 + 1), .int (kn 3 + 1), .int 0, .int (-1), .int (kn 6)]))] t.heap → va_F (va_A [(ak, .inr (0, [.int (kn 0), .int (kn 1), .int (kn 2), .int (kn 3), .int (kn 4), .int (kn 5), .int (kn 6)]))] Hc.size) st t → RSB D cI cL cQ x ah ak b0 b1 b2 b3 b4 F (hk, re, knUp kn 0 (-1), sh, k) t.heap := by
    intro st t e hP hF
    refine h.putK (kn' := knUp kn 0 (-1)) ?_ (fun q hs hne => ?_)
    · have e1 : knUp kn 0 (-1) 0 = kn 0 := by simp only [knUp]; exact if_pos (by decide)
      have e2 : knUp kn 0 (-1) 2 = kn 2 + 1 := by simp only [knUp]; exact if_pos (by decide)
      have e3 : knUp kn 0 (-1) 3 = kn 3 + 1 := by simp only [knUp]; exact if_pos (by decide)
      rw [e1, e2, e3]
      exact hP
    · rw [hF.2 q (by rw [e]; exact hs) (out1 hs (by simpa using hne)), e]
  have nF : ∀ q, va_A [(ak, .inr (0, [.int (kn 0), .int (kn 1), .int (kn 2), .int (kn 3), .int (kn 4), .int (kn 5), .int (kn 6)]))] Hc.size q → F q ∨ Hc.size ≤ q := fun q z => (in1 z).elim (fun z => Or.inl (by have z : q = ak := (by simpa using z); exact z ▸ h.Fak)) Or.inr
  have wF : ∀ {A : Nat → Prop} {st t : State}, (∀ q, A q → F q ∨ Hc.size ≤ q) → va_F A st t → va_F (fun q => F q ∨ Hc.size ≤ q) st t := fun hA hF => ⟨hF.1, fun q hs hn => hF.2 q hs (fun z => hn (hA q z))⟩
  have hDk : va_D nT [(ak, .inr (0, [.int (kn 0), .int (kn 1), .int (kn 2), .int (kn 3), .int (kn 4), .int (kn 5), .int (kn 6)]))] := D_of (by simp) (fun _ _ => trivial)
  cases e1 : hk i1 with
  | none =>
    cases e2 : hk i2 with
    | none =>
      refine Met.cons (c_X0_cutNN l (p0 := p0) (q0 := q0) (n0 := n0) h.PK hDk (fun q z => hN q (nF q z))) (fun a st o t hPc hq => ?_) nF
      obtain ⟨⟨r, u, eo, hr, hP, -⟩, hF⟩ := hq
      exact ⟨⟨r, (0, -1), eo, ⟨hr, rfl, rfl⟩, nul hPc.2.1 hP hF⟩, wF nF hF⟩
    | some b =>
      refine Met.cons (c_X0_cutNR l (p0 := p0) (q0 := q0) (n0 := n0) h.PK hDk (fun q z => hN q (nF q z))) (fun a st o t hPc hq => ?_) nF
      obtain ⟨⟨r, u, eo, hr, hP, -⟩, hF⟩ := hq
      exact ⟨⟨r, (0, -1), eo, ⟨hr, rfl, rfl⟩, nul hPc.2.1 hP hF⟩, wF nF hF⟩
  | some a =>
    have la := l1 a e1
    cases e2 : hk i2 with
    | none =>
      refine Met.cons (c_X0_cutRN l (p0 := p0) (q0 := q0) (n0 := n0) h.PK hDk (fun q z => hN q (nF q z))) (fun a st o t hPc hq => ?_) nF
      obtain ⟨⟨r, u, eo, hr, hP, -⟩, hF⟩ := hq
      exact ⟨⟨r, (0, -1), eo, ⟨hr, rfl, rfl⟩, nul hPc.2.1 hP hF⟩, wF nF hF⟩
    | some b =>
      have lb := l2 b e2
      obtain ⟨pa, fa, xa, za, ya⟩ := h.2.2.2 a la
      obtain ⟨pb, fb, xb, zb, yb⟩ := h.2.2.2 b lb
      by_cases hab : a = b
      · subst hab
        have hsub : va_P D vwCl ([(ak, .inr (0, [.int (kn 0), .int (kn 1), .int (kn 2), .int (kn 3), .int (kn 4), .int (kn 5), .int (kn 6)]))] ++ reW cL re a) Hc := (h.P10 la).sub [2, 8, 9] rfl
        have hsd : va_D nT ([(ak, .inr (0, [.int (kn 0), .int (kn 1), .int (kn 2), .int (kn 3), .int (kn 4), .int (kn 5), .int (kn 6)]))] ++ reW cL re a) := (h.D10 la).sub [2, 8, 9] (by decide) rfl
        have nF2 : ∀ q, va_A ([(ak, .inr (0, [.int (kn 0), .int (kn 1), .int (kn 2), .int (kn 3), .int (kn 4), .int (kn 5), .int (kn 6)]))] ++ reW cL re a) Hc.size q → F q ∨ Hc.size ≤ q := fun q z => (in1 z).elim (fun z => Or.inl (by
          have z : q = ak ∨ q = a ∨ q = (re a).2.1 := by simpa using z
          rcases z with z | z | z
          · exact z ▸ h.Fak
          · exact z ▸ fa.1
          · exact z ▸ fa.2)) Or.inr
        refine Met.cons (c_X0_cutS l (p0 := p0) (q0 := q0) (n0 := n0) hsub hsd (fun q z => hN q (nF2 q z)) za) (fun a' st o t hPc hq => ?_) nF2
        obtain ⟨⟨r, ⟨k1, r1⟩, eo, ⟨hr, hL⟩, hP, -⟩, hF⟩ := hq
        have hs0 : st.heap = Hc := hPc.2.1
        refine ⟨⟨r, (k1, r1), eo, ⟨hr, hL⟩, ?_⟩, wF nF2 hF⟩
        have hPk : va_P D vwCl [(ak, .inr (0, [.int (knUp kn k1 r1 0), .int (knUp kn k1 r1 1), .int (knUp kn k1 r1 2), .int (knUp kn k1 r1 3), .int (knUp kn k1 r1 4), .int (knUp kn k1 r1 5), .int (knUp kn k1 r1 6)]))] t.heap := hP.sub [0] rfl
        have hkp : ∀ q : Nat, q < Hc.size → ¬ (q = ak ∨ q = a ∨ q = (re a).2.1) → t.heap[q]? = Hc[q]? := fun q hs n1 => by rw [hF.2 q (by rw [hs0]; exact hs) (out1 hs (by simpa using n1)), hs0]
        have fx7 : ∀ q, q ∈ [x, ah, b0, b1, b2, b3, b4] → q ∈ [x, ah, ak, b0, b1, b2, b3, b4] := fun q hm => by simp only [List.mem_cons, List.not_mem_nil, or_false] at hm ⊢; rcases hm with hm | hm | hm | hm | hm | hm | hm <;> simp [hm]
        refine h.putR (h.P8k hPk (fun q hs hm => hkp q hs (fun z => ?_))) ?_ (fun r' hr' hne => h.keepR hr' hkp (fun z => ?_) (fun z => ?_))
        · rcases z with z | z | z
          · exact nd_k h.2.2.1 hm z
          · exact xa.1 (z ▸ fx7 q hm)
          · exact xa.2 (z ▸ fx7 q hm)
        · simp only [reW, va_up_self]
          exact hP.sub [1, 2] rfl
        · obtain ⟨-, -, x1, -, y1⟩ := h.2.2.2 r' hr'
          rcases z with z | z | z
          · exact x1.1 (by rw [z]; simp)
          · exact hne z
          · exact (y1 a la).1 z
        · obtain ⟨-, -, x1, -, y1⟩ := h.2.2.2 r' hr'
          rcases z with z | z | z
          · exact x1.2 (by rw [z]; simp)
          · exact (ya r' hr').1 z.symm
          · exact hne ((y1 a la).2 z)
      · have hsub : va_P D vwCl ([(ak, .inr (0, [.int (kn 0), .int (kn 1), .int (kn 2), .int (kn 3), .int (kn 4), .int (kn 5), .int (kn 6)]))] ++ reW cL re a ++ reW cL re b) Hc := (h.P12 la lb).sub [2, 8, 9, 10, 11] rfl
        have hsd : va_D nT ([(ak, .inr (0, [.int (kn 0), .int (kn 1), .int (kn 2), .int (kn 3), .int (kn 4), .int (kn 5), .int (kn 6)]))] ++ reW cL re a ++ reW cL re b) := (h.D12 la lb hab).sub [2, 8, 9, 10, 11] (by decide) rfl
        have nF2 : ∀ q, va_A ([(ak, .inr (0, [.int (kn 0), .int (kn 1), .int (kn 2), .int (kn 3), .int (kn 4), .int (kn 5), .int (kn 6)]))] ++ reW cL re a ++ reW cL re b) Hc.size q → F q ∨ Hc.size ≤ q := fun q z => (in1 z).elim (fun z => Or.inl (by
          have z : q = ak ∨ q = a ∨ q = (re a).2.1 ∨ q = b ∨ q = (re b).2.1 := by simpa using z
          rcases z with z | z | z | z | z
          · exact z ▸ h.Fak
          · exact z ▸ fa.1
          · exact z ▸ fa.2
          · exact z ▸ fb.1
          · exact z ▸ fb.2)) Or.inr
        refine Met.cons (c_X0_cutD l (p0 := p0) (q0 := q0) (n0 := n0) hsub hsd (fun q z => hN q (nF2 q z)) za zb) (fun a' st o t hPc hq => ?_) nF2
        obtain ⟨⟨r, ⟨k1, r1⟩, eo, ⟨hr, hL⟩, hP, -⟩, hF⟩ := hq
        have hs0 : st.heap = Hc := hPc.2.1
        refine ⟨⟨r, (k1, r1), eo, ⟨hr, hL⟩, ?_⟩, wF nF2 hF⟩
        have hPk : va_P D vwCl [(ak, .inr (0, [.int (knUp kn k1 r1 0), .int (knUp kn k1 r1 1), .int (knUp kn k1 r1 2), .int (knUp kn k1 r1 3), .int (knUp kn k1 r1 4), .int (knUp kn k1 r1 5), .int (knUp kn k1 r1 6)]))] t.heap := hP.sub [0] rfl
        have hkp : ∀ q : Nat, q < Hc.size → ¬ (q = ak ∨ q = a ∨ q = (re a).2.1 ∨ q = b ∨ q = (re b).2.1) → t.heap[q]? = Hc[q]? := fun q hs n1 => by rw [hF.2 q (by rw [hs0]; exact hs) (out1 hs (by simpa using n1)), hs0]
        have fx7 : ∀ q, q ∈ [x, ah, b0, b1, b2, b3, b4] → q ∈ [x, ah, ak, b0, b1, b2, b3, b4] := fun q hm => by simp only [List.mem_cons, List.not_mem_nil, or_false] at hm ⊢; rcases hm with hm | hm | hm | hm | hm | hm | hm <;> simp [hm]
        refine h.putR (r := b) (h.P8k hPk (fun q hs hm => hkp q hs (fun z => ?_))) ?_ (fun r' hr' hne => ?_)
        · rcases z with z | z | z | z | z
          · exact nd_k h.2.2.1 hm z
          · exact xa.1 (z ▸ fx7 q hm)
          · exact xa.2 (z ▸ fx7 q hm)
          · exact xb.1 (z ▸ fx7 q hm)
          · exact xb.2 (z ▸ fx7 q hm)
        · simp only [reW, va_up_self]
          exact hP.sub [3, 4] rfl
        · by_cases e3 : r' = a
          · subst e3; exact hP.sub [1, 2] rfl
          · obtain ⟨-, -, x1, -, y1⟩ := h.2.2.2 r' hr'
            refine h.keepR hr' hkp (fun z => ?_) (fun z => ?_)
            · rcases z with z | z | z | z | z
              · exact x1.1 (by rw [z]; simp)
              · exact e3 z
              · exact (y1 a la).1 z
              · exact hne z
              · exact (y1 b lb).1 z
            · rcases z with z | z | z | z | z
              · exact x1.2 (by rw [z]; simp)
              · exact (ya r' hr').1 z.symm
              · exact e3 ((y1 a la).2 z)
              · exact (yb r' hr').1 z.symm
              · exact hne ((y1 b lb).2 z)
end CCut
