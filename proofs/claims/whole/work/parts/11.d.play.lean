section CPlay
theorem iw_X2_cutAsWritten_X2 : ∀ w ∈ wsX20, w ∈ wsX2_cutAsWritten := by decide +kernel
theorem lk_X2_cutAsWritten_Cond_fieldLink_RX2_11_SpliceRoom_hooks_LSpliceRoom_Reel_ : Cond.fieldLink RX2 11 "SpliceRoom" "hooks" "[LSpliceRoom$Reel;" ∈ wsX2_cutAsWritten := by decide +kernel
theorem lk_X2_cutAsWritten_Cond_fieldLink_RX2_18_SpliceRoom_knife_LSpliceRoom_Knife_ : Cond.fieldLink RX2 18 "SpliceRoom" "knife" "LSpliceRoom$Knife;" ∈ wsX2_cutAsWritten := by decide +kernel
theorem lk_X2_cutAsWritten_Cond_fieldLink_RX2_22_SpliceRoom_stepFrom_I_ : Cond.fieldLink RX2 22 "SpliceRoom" "stepFrom" "[I" ∈ wsX2_cutAsWritten := by decide +kernel
theorem lk_X2_cutAsWritten_Cond_fieldLink_RX2_26_SpliceRoom_stepP_I_ : Cond.fieldLink RX2 26 "SpliceRoom" "stepP" "[I" ∈ wsX2_cutAsWritten := by decide +kernel
theorem lk_X2_cutAsWritten_Cond_fieldLink_RX2_29_SpliceRoom_stepTo_I_ : Cond.fieldLink RX2 29 "SpliceRoom" "stepTo" "[I" ∈ wsX2_cutAsWritten := by decide +kernel
theorem lk_X2_cutAsWritten_Cond_fieldLink_RX2_32_SpliceRoom_stepQ_I_ : Cond.fieldLink RX2 32 "SpliceRoom" "stepQ" "[I" ∈ wsX2_cutAsWritten := by decide +kernel
theorem lk_X2_cutAsWritten_Cond_fieldLink_RX2_35_SpliceRoom_stepN_I_ : Cond.fieldLink RX2 35 "SpliceRoom" "stepN" "[I" ∈ wsX2_cutAsWritten := by decide +kernel
set_option maxHeartbeats 4000000 in
set_option maxRecDepth 100000 in
theorem c_X2_cutAsWritten (l : Launch) {D : va_G} {cI cL cQ : ClassId} {N0 : Nat} {sa : Nat → Nat} {Hc : Heap} {x ah ak b0 b1 b2 b3 b4 : Nat} {F : Nat → Prop} {hk : Nat → Option Nat} {re : Nat → RE} {kn : Nat → Int32} {sh : Nat → Nat → Int32} {k : Int32} (h : RSB D cI cL cQ x ah ak b0 b1 b2 b3 b4 F (hk, re, kn, sh, k) Hc) (hNF : ∀ q, F q ∨ Hc.size ≤ q → N0 ≤ q) {i j1 j2 : Nat} (hi : i < 24) (h1 : j1 < 6) (h2 : j2 < 6) (e1 : sh 0 i = nI j1) (e2 : sh 2 i = nI j2) : Met l yX2_cutAsWritten wsX2_cutAsWritten ({ frames := 4, cells := 0, slots := 0, locals := 120 }) (Pq D cI cL cQ N0 sa [.ref x, .int (nI i)] Hc) (va_Qi (fun (rr : Int32) (u : Nat × Int32) => rr = u.2 ∧ CutRel re (hk j1) (hk j2) (sh 1 i) (sh 3 i) (sh 4 i) u.1 u.2) (fun (u : Nat × Int32) t => RSB D cI cL cQ x ah ak b0 b1 b2 b3 b4 F (hk, cutRe re (hk j1) (hk j2) (sh 1 i) (sh 3 i) u.1, knUp kn u.1 u.2, sh, k) t.heap) (fun q => F q ∨ Hc.size ≤ q)) 0 0 (fun q => F q ∨ Hc.size ≤ q) := by
  refine Met.ofW (cc := cX2_cutAsWritten) (maxL := 2) (ret := (some .int)) (by decide) rfl ?_
  intro p e s m args below meth c s₁ B hml hv
  obtain ⟨rfl, hH, hC⟩ := hv
  have hx := B.exec
  have hb := B.bytes
  have hr := B.returns
  have hts := atoms_spec (ws := wsX2_cutAsWritten) B.pre
  have hown : s.vm.findClass RX2 = some m.cls := findClass_of_methodNamed B.named
  have hlocks := B.notSynchronized
  subst hH
  have hK := hC.K
  have hl := lv_entry ([.ref x, .int (nI i)]) (n := 2) (Nat.le_of_ble_eq_true rfl)
  rw [lg_entry_eq]
  generalize (lg_sl ([.ref x, .int (nI i)]) ++ List.replicate (2 - (lg_sl ([.ref x, .int (nI i)])).length) Slot.unset).toArray = ls at hl ⊢
  have hl : lv_has ls 2 [(0, .ref x), (1, .int (nI i))] := hl
  have hP : va_P D vwCl [(x, .inr (2, [.ref ah, .ref ak, .ref b0, .ref b1, .ref b2, .ref b3, .ref b4, .int k])), (ah, .inl (cQ, 6, .inr (.inr (.inr (.inr hk))))), (ak, .inr (0, [.int (kn 0), .int (kn 1), .int (kn 2), .int (kn 3), .int (kn 4), .int (kn 5), .int (kn 6)])), (b0, .inl (cI, 24, .inl (sh 0))), (b1, .inl (cI, 24, .inl (sh 1))), (b2, .inl (cI, 24, .inl (sh 2))), (b3, .inl (cI, 24, .inl (sh 3))), (b4, .inl (cI, 24, .inl (sh 4)))] s.heap := h.P8
  have hS : va_S nA s.heap s.heap [] := va_S.rf
  have hN : ∀ q, nA q → N0 ≤ q := nA_N
  refine lv_aload_n hx hb dX2_cutAsWritten_0 rfl (lv_at hl 0 rfl) ?_
  refine va_get (D := D) (ci := 2) (v := .ref ak) (C := RX2) (T := TX2) (N := 8) hx hb hts iw_X2_cutAsWritten_X2 hown hK hP 0 rfl rfl 1 (by decide) (hts _ lk_X2_cutAsWritten_Cond_fieldLink_RX2_18_SpliceRoom_knife_LSpliceRoom_Knife_) (fun _ h9 => h9) rfl dX2_cutAsWritten_1 ?_
  refine lv_aload_n hx hb dX2_cutAsWritten_4 rfl (lv_at hl 0 rfl) ?_
  refine va_get (D := D) (ci := 2) (v := .ref ah) (C := RX2) (T := TX2) (N := 8) hx hb hts iw_X2_cutAsWritten_X2 hown hK hP 0 rfl rfl 0 (by decide) (hts _ lk_X2_cutAsWritten_Cond_fieldLink_RX2_11_SpliceRoom_hooks_LSpliceRoom_Reel_) (fun _ h9 => h9) rfl dX2_cutAsWritten_5 ?_
  refine lv_aload_n hx hb dX2_cutAsWritten_8 rfl (lv_at hl 0 rfl) ?_
  refine va_get (D := D) (ci := 2) (v := .ref b0) (C := RX2) (T := TX2) (N := 8) hx hb hts iw_X2_cutAsWritten_X2 hown hK hP 0 rfl rfl 2 (by decide) (hts _ lk_X2_cutAsWritten_Cond_fieldLink_RX2_22_SpliceRoom_stepFrom_I_) (fun _ h9 => h9) rfl dX2_cutAsWritten_9 ?_
  refine lv_iload_n hx hb dX2_cutAsWritten_12 rfl (lv_at hl 1 rfl) ?_
  refine va_iald (D := D) hx hb hK hP 3 0 rfl rfl (vp_in_nI hi (by decide)) dX2_cutAsWritten_13 ?_
  refine lv_topi (fun y_1 e9 => ?_)
  have e9 : y_1 = nI j1 := e9.trans (by rw [nI_clamp (by omega)]; exact e1)
  subst e9
  refine va_aldq (D := D) hx hb hK hP 1 2 rfl rfl (vp_in_nI h1 (by decide)) dX2_cutAsWritten_14 ?_
  refine W.eq (g2 := F0 m 15 ls (va_rf (hk j1) :: [.ref ak])) (by rw [nI_clamp (by omega)]) ?_
  refine lv_aload_n hx hb dX2_cutAsWritten_15 rfl (lv_at hl 0 rfl) ?_
  refine va_get (D := D) (ci := 2) (v := .ref b1) (C := RX2) (T := TX2) (N := 8) hx hb hts iw_X2_cutAsWritten_X2 hown hK hP 0 rfl rfl 3 (by decide) (hts _ lk_X2_cutAsWritten_Cond_fieldLink_RX2_26_SpliceRoom_stepP_I_) (fun _ h9 => h9) rfl dX2_cutAsWritten_16 ?_
  refine lv_iload_n hx hb dX2_cutAsWritten_19 rfl (lv_at hl 1 rfl) ?_
  refine va_iald (D := D) hx hb hK hP 4 0 rfl rfl (vp_in_nI hi (by decide)) dX2_cutAsWritten_20 ?_
  refine lv_topi (fun y_2 e9 => ?_)
  have e9 : y_2 = sh 1 i := e9.trans (by rw [nI_clamp (by omega)])
  subst e9
  refine lv_aload_n hx hb dX2_cutAsWritten_21 rfl (lv_at hl 0 rfl) ?_
  refine va_get (D := D) (ci := 2) (v := .ref ah) (C := RX2) (T := TX2) (N := 8) hx hb hts iw_X2_cutAsWritten_X2 hown hK hP 0 rfl rfl 0 (by decide) (hts _ lk_X2_cutAsWritten_Cond_fieldLink_RX2_11_SpliceRoom_hooks_LSpliceRoom_Reel_) (fun _ h9 => h9) rfl dX2_cutAsWritten_22 ?_
  refine lv_aload_n hx hb dX2_cutAsWritten_25 rfl (lv_at hl 0 rfl) ?_
  refine va_get (D := D) (ci := 2) (v := .ref b2) (C := RX2) (T := TX2) (N := 8) hx hb hts iw_X2_cutAsWritten_X2 hown hK hP 0 rfl rfl 4 (by decide) (hts _ lk_X2_cutAsWritten_Cond_fieldLink_RX2_29_SpliceRoom_stepTo_I_) (fun _ h9 => h9) rfl dX2_cutAsWritten_26 ?_
  refine lv_iload_n hx hb dX2_cutAsWritten_29 rfl (lv_at hl 1 rfl) ?_
  refine va_iald (D := D) hx hb hK hP 5 0 rfl rfl (vp_in_nI hi (by decide)) dX2_cutAsWritten_30 ?_
  refine lv_topi (fun y_3 e9 => ?_)
  have e9 : y_3 = nI j2 := e9.trans (by rw [nI_clamp (by omega)]; exact e2)
  subst e9
  refine va_aldq (D := D) hx hb hK hP 1 2 rfl rfl (vp_in_nI h2 (by decide)) dX2_cutAsWritten_31 ?_
  refine W.eq (g2 := F0 m 32 ls (va_rf (hk j2) :: [.int (sh 1 i), va_rf (hk j1), .ref ak])) (by rw [nI_clamp (by omega)]) ?_
  refine lv_aload_n hx hb dX2_cutAsWritten_32 rfl (lv_at hl 0 rfl) ?_
  refine va_get (D := D) (ci := 2) (v := .ref b3) (C := RX2) (T := TX2) (N := 8) hx hb hts iw_X2_cutAsWritten_X2 hown hK hP 0 rfl rfl 5 (by decide) (hts _ lk_X2_cutAsWritten_Cond_fieldLink_RX2_32_SpliceRoom_stepQ_I_) (fun _ h9 => h9) rfl dX2_cutAsWritten_33 ?_
  refine lv_iload_n hx hb dX2_cutAsWritten_36 rfl (lv_at hl 1 rfl) ?_
  refine va_iald (D := D) hx hb hK hP 6 0 rfl rfl (vp_in_nI hi (by decide)) dX2_cutAsWritten_37 ?_
  refine lv_topi (fun y_4 e9 => ?_)
  have e9 : y_4 = sh 3 i := e9.trans (by rw [nI_clamp (by omega)])
  subst e9
  refine lv_aload_n hx hb dX2_cutAsWritten_38 rfl (lv_at hl 0 rfl) ?_
  refine va_get (D := D) (ci := 2) (v := .ref b4) (C := RX2) (T := TX2) (N := 8) hx hb hts iw_X2_cutAsWritten_X2 hown hK hP 0 rfl rfl 6 (by decide) (hts _ lk_X2_cutAsWritten_Cond_fieldLink_RX2_35_SpliceRoom_stepN_I_) (fun _ h9 => h9) rfl dX2_cutAsWritten_39 ?_
  refine lv_iload_n hx hb dX2_cutAsWritten_42 rfl (lv_at hl 1 rfl) ?_
  refine va_iald (D := D) hx hb hK hP 7 0 rfl rfl (vp_in_nI hi (by decide)) dX2_cutAsWritten_43 ?_
  refine lv_topi (fun y_5 e9 => ?_)
  have e9 : y_5 = sh 4 i := e9.trans (by rw [nI_clamp (by omega)])
  subst e9
  refine va_calli (va_runV (As := [va_rf (hk j1), .int (sh 1 i), va_rf (hk j2), .int (sh 3 i), .int (sh 4 i)]) (rest := []) ⟨hx, hb, hml, hown, hts⟩ (c_X0_cut l h hNF h1 h2) (cwV 5 hts gX2_cutAsWritten_X0_cut rfl rfl rfl (by decide +kernel) ⟨Nat.le_of_ble_eq_true rfl, Nat.le_of_ble_eq_true rfl⟩) (Pq.V hC hS hN (va_recv hK hP (ci := 0) (q0 := 2) rfl rfl)) rfl rfl hl.1 rfl (lv_room (Nat.le_of_ble_eq_true rfl)) dX2_cutAsWritten_44 ⟨Nat.le_of_ble_eq_true rfl, Nat.le_of_ble_eq_true rfl⟩) (S_mono hS (fun _ z => z.elim)) (fun q _ z => z) (fun q z => z) (fun r1 u t H locs ht hvm hw hB hz1 hk1 hS => ?_)
  obtain ⟨k1, r2⟩ := u
  rw [ht] at hB
  have hw1 : r1 = r2 := hw.1
  subst hw1
  exact W.iret (v := r1) hx hb hr (fun t ht hW => ⟨⟨_, (k1, r1), rfl, ⟨rfl, hw.2⟩, by dsimp only; rw [ht]; exact hB⟩, hS.F ht⟩) hS.2.2 dX2_cutAsWritten_47
theorem iw_X2_cutTurned_X2 : ∀ w ∈ wsX20, w ∈ wsX2_cutTurned := by decide +kernel
theorem lk_X2_cutTurned_Cond_fieldLink_RX2_11_SpliceRoom_hooks_LSpliceRoom_Reel_ : Cond.fieldLink RX2 11 "SpliceRoom" "hooks" "[LSpliceRoom$Reel;" ∈ wsX2_cutTurned := by decide +kernel
theorem lk_X2_cutTurned_Cond_fieldLink_RX2_18_SpliceRoom_knife_LSpliceRoom_Knife_ : Cond.fieldLink RX2 18 "SpliceRoom" "knife" "LSpliceRoom$Knife;" ∈ wsX2_cutTurned := by decide +kernel
theorem lk_X2_cutTurned_Cond_fieldLink_RX2_22_SpliceRoom_stepFrom_I_ : Cond.fieldLink RX2 22 "SpliceRoom" "stepFrom" "[I" ∈ wsX2_cutTurned := by decide +kernel
theorem lk_X2_cutTurned_Cond_fieldLink_RX2_26_SpliceRoom_stepP_I_ : Cond.fieldLink RX2 26 "SpliceRoom" "stepP" "[I" ∈ wsX2_cutTurned := by decide +kernel
theorem lk_X2_cutTurned_Cond_fieldLink_RX2_29_SpliceRoom_stepTo_I_ : Cond.fieldLink RX2 29 "SpliceRoom" "stepTo" "[I" ∈ wsX2_cutTurned := by decide +kernel
theorem lk_X2_cutTurned_Cond_fieldLink_RX2_32_SpliceRoom_stepQ_I_ : Cond.fieldLink RX2 32 "SpliceRoom" "stepQ" "[I" ∈ wsX2_cutTurned := by decide +kernel
theorem lk_X2_cutTurned_Cond_fieldLink_RX2_35_SpliceRoom_stepN_I_ : Cond.fieldLink RX2 35 "SpliceRoom" "stepN" "[I" ∈ wsX2_cutTurned := by decide +kernel
set_option maxHeartbeats 4000000 in
set_option maxRecDepth 100000 in
theorem c_X2_cutTurned (l : Launch) {D : va_G} {cI cL cQ : ClassId} {N0 : Nat} {sa : Nat → Nat} {Hc : Heap} {x ah ak b0 b1 b2 b3 b4 : Nat} {F : Nat → Prop} {hk : Nat → Option Nat} {re : Nat → RE} {kn : Nat → Int32} {sh : Nat → Nat → Int32} {k : Int32} (h : RSB D cI cL cQ x ah ak b0 b1 b2 b3 b4 F (hk, re, kn, sh, k) Hc) (hNF : ∀ q, F q ∨ Hc.size ≤ q → N0 ≤ q) {i j1 j2 : Nat} (hi : i < 24) (h1 : j1 < 6) (h2 : j2 < 6) (e1 : sh 2 i = nI j1) (e2 : sh 0 i = nI j2) : Met l yX2_cutTurned wsX2_cutTurned ({ frames := 4, cells := 0, slots := 0, locals := 120 }) (Pq D cI cL cQ N0 sa [.ref x, .int (nI i)] Hc) (va_Qi (fun (rr : Int32) (u : Nat × Int32) => rr = u.2 ∧ CutRel re (hk j1) (hk j2) (sh 3 i) (sh 1 i) (sh 4 i) u.1 u.2) (fun (u : Nat × Int32) t => RSB D cI cL cQ x ah ak b0 b1 b2 b3 b4 F (hk, cutRe re (hk j1) (hk j2) (sh 3 i) (sh 1 i) u.1, knUp kn u.1 u.2, sh, k) t.heap) (fun q => F q ∨ Hc.size ≤ q)) 0 0 (fun q => F q ∨ Hc.size ≤ q) := by
  refine Met.ofW (cc := cX2_cutTurned) (maxL := 2) (ret := (some .int)) (by decide) rfl ?_
  intro p e s m args below meth c s₁ B hml hv
  obtain ⟨rfl, hH, hC⟩ := hv
  have hx := B.exec
  have hb := B.bytes
  have hr := B.returns
  have hts := atoms_spec (ws := wsX2_cutTurned) B.pre
  have hown : s.vm.findClass RX2 = some m.cls := findClass_of_methodNamed B.named
  have hlocks := B.notSynchronized
  subst hH
  have hK := hC.K
  have hl := lv_entry ([.ref x, .int (nI i)]) (n := 2) (Nat.le_of_ble_eq_true rfl)
  rw [lg_entry_eq]
  generalize (lg_sl ([.ref x, .int (nI i)]) ++ List.replicate (2 - (lg_sl ([.ref x, .int (nI i)])).length) Slot.unset).toArray = ls at hl ⊢
  have hl : lv_has ls 2 [(0, .ref x), (1, .int (nI i))] := hl
  have hP : va_P D vwCl [(x, .inr (2, [.ref ah, .ref ak, .ref b0, .ref b1, .ref b2, .ref b3, .ref b4, .int k])), (ah, .inl (cQ, 6, .inr (.inr (.inr (.inr hk))))), (ak, .inr (0, [.int (kn 0), .int (kn 1), .int (kn 2), .int (kn 3), .int (kn 4), .int (kn 5), .int (kn 6)])), (b0, .inl (cI, 24, .inl (sh 0))), (b1, .inl (cI, 24, .inl (sh 1))), (b2, .inl (cI, 24, .inl (sh 2))), (b3, .inl (cI, 24, .inl (sh 3))), (b4, .inl (cI, 24, .inl (sh 4)))] s.heap := h.P8
  have hS : va_S nA s.heap s.heap [] := va_S.rf
  have hN : ∀ q, nA q → N0 ≤ q := nA_N
  refine lv_aload_n hx hb dX2_cutTurned_0 rfl (lv_at hl 0 rfl) ?_
  refine va_get (D := D) (ci := 2) (v := .ref ak) (C := RX2) (T := TX2) (N := 8) hx hb hts iw_X2_cutTurned_X2 hown hK hP 0 rfl rfl 1 (by decide) (hts _ lk_X2_cutTurned_Cond_fieldLink_RX2_18_SpliceRoom_knife_LSpliceRoom_Knife_) (fun _ h9 => h9) rfl dX2_cutTurned_1 ?_
  refine lv_aload_n hx hb dX2_cutTurned_4 rfl (lv_at hl 0 rfl) ?_
  refine va_get (D := D) (ci := 2) (v := .ref ah) (C := RX2) (T := TX2) (N := 8) hx hb hts iw_X2_cutTurned_X2 hown hK hP 0 rfl rfl 0 (by decide) (hts _ lk_X2_cutTurned_Cond_fieldLink_RX2_11_SpliceRoom_hooks_LSpliceRoom_Reel_) (fun _ h9 => h9) rfl dX2_cutTurned_5 ?_
  refine lv_aload_n hx hb dX2_cutTurned_8 rfl (lv_at hl 0 rfl) ?_
  refine va_get (D := D) (ci := 2) (v := .ref b2) (C := RX2) (T := TX2) (N := 8) hx hb hts iw_X2_cutTurned_X2 hown hK hP 0 rfl rfl 4 (by decide) (hts _ lk_X2_cutTurned_Cond_fieldLink_RX2_29_SpliceRoom_stepTo_I_) (fun _ h9 => h9) rfl dX2_cutTurned_9 ?_
  refine lv_iload_n hx hb dX2_cutTurned_12 rfl (lv_at hl 1 rfl) ?_
  refine va_iald (D := D) hx hb hK hP 5 0 rfl rfl (vp_in_nI hi (by decide)) dX2_cutTurned_13 ?_
  refine lv_topi (fun y_1 e9 => ?_)
  have e9 : y_1 = nI j1 := e9.trans (by rw [nI_clamp (by omega)]; exact e1)
  subst e9
  refine va_aldq (D := D) hx hb hK hP 1 2 rfl rfl (vp_in_nI h1 (by decide)) dX2_cutTurned_14 ?_
  refine W.eq (g2 := F0 m 15 ls (va_rf (hk j1) :: [.ref ak])) (by rw [nI_clamp (by omega)]) ?_
  refine lv_aload_n hx hb dX2_cutTurned_15 rfl (lv_at hl 0 rfl) ?_
  refine va_get (D := D) (ci := 2) (v := .ref b3) (C := RX2) (T := TX2) (N := 8) hx hb hts iw_X2_cutTurned_X2 hown hK hP 0 rfl rfl 5 (by decide) (hts _ lk_X2_cutTurned_Cond_fieldLink_RX2_32_SpliceRoom_stepQ_I_) (fun _ h9 => h9) rfl dX2_cutTurned_16 ?_
  refine lv_iload_n hx hb dX2_cutTurned_19 rfl (lv_at hl 1 rfl) ?_
  refine va_iald (D := D) hx hb hK hP 6 0 rfl rfl (vp_in_nI hi (by decide)) dX2_cutTurned_20 ?_
  refine lv_topi (fun y_2 e9 => ?_)
  have e9 : y_2 = sh 3 i := e9.trans (by rw [nI_clamp (by omega)])
  subst e9
  refine lv_aload_n hx hb dX2_cutTurned_21 rfl (lv_at hl 0 rfl) ?_
  refine va_get (D := D) (ci := 2) (v := .ref ah) (C := RX2) (T := TX2) (N := 8) hx hb hts iw_X2_cutTurned_X2 hown hK hP 0 rfl rfl 0 (by decide) (hts _ lk_X2_cutTurned_Cond_fieldLink_RX2_11_SpliceRoom_hooks_LSpliceRoom_Reel_) (fun _ h9 => h9) rfl dX2_cutTurned_22 ?_
  refine lv_aload_n hx hb dX2_cutTurned_25 rfl (lv_at hl 0 rfl) ?_
  refine va_get (D := D) (ci := 2) (v := .ref b0) (C := RX2) (T := TX2) (N := 8) hx hb hts iw_X2_cutTurned_X2 hown hK hP 0 rfl rfl 2 (by decide) (hts _ lk_X2_cutTurned_Cond_fieldLink_RX2_22_SpliceRoom_stepFrom_I_) (fun _ h9 => h9) rfl dX2_cutTurned_26 ?_
  refine lv_iload_n hx hb dX2_cutTurned_29 rfl (lv_at hl 1 rfl) ?_
  refine va_iald (D := D) hx hb hK hP 3 0 rfl rfl (vp_in_nI hi (by decide)) dX2_cutTurned_30 ?_
  refine lv_topi (fun y_3 e9 => ?_)
  have e9 : y_3 = nI j2 := e9.trans (by rw [nI_clamp (by omega)]; exact e2)
  subst e9
  refine va_aldq (D := D) hx hb hK hP 1 2 rfl rfl (vp_in_nI h2 (by decide)) dX2_cutTurned_31 ?_
  refine W.eq (g2 := F0 m 32 ls (va_rf (hk j2) :: [.int (sh 3 i), va_rf (hk j1), .ref ak])) (by rw [nI_clamp (by omega)]) ?_
  refine lv_aload_n hx hb dX2_cutTurned_32 rfl (lv_at hl 0 rfl) ?_
  refine va_get (D := D) (ci := 2) (v := .ref b1) (C := RX2) (T := TX2) (N := 8) hx hb hts iw_X2_cutTurned_X2 hown hK hP 0 rfl rfl 3 (by decide) (hts _ lk_X2_cutTurned_Cond_fieldLink_RX2_26_SpliceRoom_stepP_I_) (fun _ h9 => h9) rfl dX2_cutTurned_33 ?_
  refine lv_iload_n hx hb dX2_cutTurned_36 rfl (lv_at hl 1 rfl) ?_
  refine va_iald (D := D) hx hb hK hP 4 0 rfl rfl (vp_in_nI hi (by decide)) dX2_cutTurned_37 ?_
  refine lv_topi (fun y_4 e9 => ?_)
  have e9 : y_4 = sh 1 i := e9.trans (by rw [nI_clamp (by omega)])
  subst e9
  refine lv_aload_n hx hb dX2_cutTurned_38 rfl (lv_at hl 0 rfl) ?_
  refine va_get (D := D) (ci := 2) (v := .ref b4) (C := RX2) (T := TX2) (N := 8) hx hb hts iw_X2_cutTurned_X2 hown hK hP 0 rfl rfl 6 (by decide) (hts _ lk_X2_cutTurned_Cond_fieldLink_RX2_35_SpliceRoom_stepN_I_) (fun _ h9 => h9) rfl dX2_cutTurned_39 ?_
  refine lv_iload_n hx hb dX2_cutTurned_42 rfl (lv_at hl 1 rfl) ?_
  refine va_iald (D := D) hx hb hK hP 7 0 rfl rfl (vp_in_nI hi (by decide)) dX2_cutTurned_43 ?_
  refine lv_topi (fun y_5 e9 => ?_)
  have e9 : y_5 = sh 4 i := e9.trans (by rw [nI_clamp (by omega)])
  subst e9
  refine va_calli (va_runV (As := [va_rf (hk j1), .int (sh 3 i), va_rf (hk j2), .int (sh 1 i), .int (sh 4 i)]) (rest := []) ⟨hx, hb, hml, hown, hts⟩ (c_X0_cut l h hNF h1 h2) (cwV 5 hts gX2_cutTurned_X0_cut rfl rfl rfl (by decide +kernel) ⟨Nat.le_of_ble_eq_true rfl, Nat.le_of_ble_eq_true rfl⟩) (Pq.V hC hS hN (va_recv hK hP (ci := 0) (q0 := 2) rfl rfl)) rfl rfl hl.1 rfl (lv_room (Nat.le_of_ble_eq_true rfl)) dX2_cutTurned_44 ⟨Nat.le_of_ble_eq_true rfl, Nat.le_of_ble_eq_true rfl⟩) (S_mono hS (fun _ z => z.elim)) (fun q _ z => z) (fun q z => z) (fun r1 u t H locs ht hvm hw hB hz1 hk1 hS => ?_)
  obtain ⟨k1, r2⟩ := u
  rw [ht] at hB
  have hw1 : r1 = r2 := hw.1
  subst hw1
  exact W.iret (v := r1) hx hb hr (fun t ht hW => ⟨⟨_, (k1, r1), rfl, ⟨rfl, hw.2⟩, by dsimp only; rw [ht]; exact hB⟩, hS.F ht⟩) hS.2.2 dX2_cutTurned_47
/-- a step of the sheet that is played: its place, as it is played forwards or backwards -/
def plI (bw : Int32) (n d : Nat) : Nat := if bw = 0 then d else n - 1 - d
/-- the sheet is played from its d-th cut on: reels, knife and answer behind it -/
def PlayRel (hk : Nat → Option Nat) (sh : Nat → Nat → Int32) (n : Nat) (bw : Int32) : Nat → Nat → (Nat → RE) → (Nat → Int32) → (Nat → RE) → (Nat → Int32) → Int32 → Prop
  | 0, _, _, _, _, _, _ => False
  | g + 1, d, re, kn, re', kn', r => (n ≤ d ∧ re' = re ∧ kn' = kn ∧ r = nI n) ∨ (d < n ∧ ∃ (j1 j2 k1 : Nat) (t p q : Int32), j1 < 6 ∧ j2 < 6 ∧ ((bw = 0 ∧ sh 0 (plI bw n d) = nI j1 ∧ sh 2 (plI bw n d) = nI j2 ∧ p = sh 1 (plI bw n d) ∧ q = sh 3 (plI bw n d)) ∨ (¬ bw = 0 ∧ sh 2 (plI bw n d) = nI j1 ∧ sh 0 (plI bw n d) = nI j2 ∧ p = sh 3 (plI bw n d) ∧ q = sh 1 (plI bw n d))) ∧
      CutRel re (hk j1) (hk j2) p q (sh 4 (plI bw n d)) k1 t ∧ ((t < 0 ∧ re' = cutRe re (hk j1) (hk j2) p q k1 ∧ kn' = knUp kn k1 t ∧ r = nI d) ∨ (¬ t < 0 ∧ PlayRel hk sh n bw g (d + 1) (cutRe re (hk j1) (hk j2) p q k1) (knUp kn k1 t) re' kn' r)))
theorem iw_X2_play_X2 : ∀ w ∈ wsX20, w ∈ wsX2_play := by decide +kernel
theorem lk_X2_play_Cond_fieldLink_RX2_38_SpliceRoom_steps_I_ : Cond.fieldLink RX2 38 "SpliceRoom" "steps" "I" ∈ wsX2_play := by decide +kernel
set_option maxHeartbeats 4000000 in
set_option maxRecDepth 100000 in
theorem c_X2_play (l : Launch) {D : va_G} {cI cL cQ : ClassId} {N0 : Nat} {sa : Nat → Nat} {Hc : Heap} (hl0 : l.stackTraces = false) {x ah ak b0 b1 b2 b3 b4 : Nat} {F : Nat → Prop} {hk : Nat → Option Nat} {re : Nat → RE} {kn : Nat → Int32} {sh : Nat → Nat → Int32} {k : Int32} (h : RSB D cI cL cQ x ah ak b0 b1 b2 b3 b4 F (hk, re, kn, sh, k) Hc) (hNF : ∀ q, F q ∨ Hc.size ≤ q → N0 ≤ q) {w0 : Int32} (hkn : ∃ n : Nat, n ≤ 24 ∧ k = nI n) (hsh : ∀ n : Nat, n ≤ 24 → k = nI n → ∀ i : Nat, i < n → (∃ j : Nat, j < 6 ∧ sh 0 i = nI j) ∧ ∃ j : Nat, j < 6 ∧ sh 2 i = nI j) : vx_Met l yX2_play wsX2_play ({ frames := 7, cells := 1, slots := 6, locals := 145 }) (Pq D cI cL cQ N0 sa [.ref x, .int w0] Hc) (va_Qi (fun (rr : Int32) (u : CS) => ¬ 3 ≤ kn 3 ∧ ∃ n1 : Nat, n1 ≤ 24 ∧ k = nI n1 ∧ ∃ (re1 : Nat → RE) (kn1 : Nat → Int32), PlayRel hk sh n1 w0 (n1 + 1) 0 re kn re1 kn1 rr ∧ u = (hk, re1, kn1, sh, k)) (fun u t => RSB D cI cL cQ x ah ak b0 b1 b2 b3 b4 (fun q => F q ∨ Hc.size ≤ q) u t.heap) (fun q => F q ∨ Hc.size ≤ q)) (vx_X (fun (_ : Unit) => True) (fun E _ t => (E = eS ∧ 3 ≤ kn 3) ∧ RSB D cI cL cQ x ah ak b0 b1 b2 b3 b4 (fun q => F q ∨ Hc.size ≤ q) (hk, re, kn, sh, k) t.heap) (fun q => F q ∨ Hc.size ≤ q)) 1 6 (fun q => F q ∨ Hc.size ≤ q) := by
  refine vx_ofW (cc := cX2_play) (maxL := 4) (ret := (some .int)) (by decide) rfl ?_
  intro p e s m args below meth c s₁ B hml hxt hv
  obtain ⟨rfl, hH, hC⟩ := hv
  have hx := B.exec
  have hb := B.bytes
  have hr := B.returns
  have hts := atoms_spec (ws := wsX2_play) B.pre
  have hown : s.vm.findClass RX2 = some m.cls := findClass_of_methodNamed B.named
  have hlocks := B.notSynchronized
  subst hH
  have hK := hC.K
  have hl := lv_entry ([.ref x, .int w0]) (n := 4) (Nat.le_of_ble_eq_true rfl)
  rw [lg_entry_eq]
  generalize (lg_sl ([.ref x, .int w0]) ++ List.replicate (4 - (lg_sl ([.ref x, .int w0])).length) Slot.unset).toArray = ls at hl ⊢
  have hl : lv_has ls 4 [(0, .ref x), (1, .int w0)] := hl
  have hP : va_P D vwCl [(x, .inr (2, [.ref ah, .ref ak, .ref b0, .ref b1, .ref b2, .ref b3, .ref b4, .int k])), (ah, .inl (cQ, 6, .inr (.inr (.inr (.inr hk))))), (ak, .inr (0, [.int (kn 0), .int (kn 1), .int (kn 2), .int (kn 3), .int (kn 4), .int (kn 5), .int (kn 6)])), (b0, .inl (cI, 24, .inl (sh 0))), (b1, .inl (cI, 24, .inl (sh 1))), (b2, .inl (cI, 24, .inl (sh 2))), (b3, .inl (cI, 24, .inl (sh 3))), (b4, .inl (cI, 24, .inl (sh 4)))] s.heap := h.P8
  have hS : va_S nA s.heap s.heap [] := va_S.rf
  have hN : ∀ q, nA q → N0 ≤ q := nA_N
  obtain ⟨n, hn, rfl⟩ := hkn
  have hsh := hsh n hn rfl
  have hP : va_P D vwCl [(x, .inr (2, [.ref ah, .ref ak, .ref b0, .ref b1, .ref b2, .ref b3, .ref b4, .int (nI n)])), (ah, .inl (cQ, 6, .inr (.inr (.inr (.inr hk))))), (ak, .inr (0, [.int (kn 0), .int (kn 1), .int (kn 2), .int (kn 3), .int (kn 4), .int (kn 5), .int (kn 6)])), (b0, .inl (cI, 24, .inl (sh 0))), (b1, .inl (cI, 24, .inl (sh 1))), (b2, .inl (cI, 24, .inl (sh 2))), (b3, .inl (cI, 24, .inl (sh 3))), (b4, .inl (cI, 24, .inl (sh 4)))] s.heap := h.P8
  refine lv_aload_n hx hb dX2_play_0 rfl (lv_at hl 0 rfl) ?_
  refine rx_v (vx_runV (As := []) (rest := []) ⟨hx, hb, hml, hown, hts⟩ (c_X2_requireSharpKnife l hl0 (hP.sub [0, 2] rfl)) (cwV 0 hts gX2_play_X2_requireSharpKnife rfl rfl rfl (by decide +kernel) ⟨Nat.le_of_ble_eq_true rfl, Nat.le_of_ble_eq_true rfl⟩) (Pq.V hC hS hN (va_recv hK hP (ci := 2) (q0 := 0) rfl rfl)) rfl rfl hl.1 rfl (lv_room (Nat.le_of_ble_eq_true rfl)) dX2_play_1 ⟨Nat.le_of_ble_eq_true rfl, Nat.le_of_ble_eq_true rfl⟩) hS (fun ce q9 H9 locs hx9 hz9 hk9 hS hcell hv9 hcl => ?_) (fun locs hw hS => ?_)
  · have hx9 : 3 ≤ (kn 3) := hx9
    refine vx_widen (k := 1) (n := 6) (by omega) (by omega) ?_
    exact vx_out (fun x9 h9 => (hxt x9 h9).elim) hlocks hcell hv9 hcl (fun t ht hvm => ⟨(), trivial, ⟨⟨rfl, hx9⟩, by rw [ht]; exact h.xo hk9⟩, by rw [ht]; exact hz9, fun q hs _ => by rw [ht]; exact hk9 q hs⟩) (fun z9 h9 => (hS.2.2 z9 h9).elim) (Nat.le_refl _) (Nat.le_refl _)
  · have hw : ¬ 3 ≤ (kn 3) := hw
    have hblunt := hw
    refine lv_iconst (v := 0) hx hb dX2_play_4 (by decide) ?_
    refine lv_istore_n (lv' := [(2, .int 0), (0, .ref x), (1, .int w0)]) hx hb dX2_play_5 rfl hl (by decide) rfl (fun ls hl => ?_)
    have hS : va_S (fun q => F q ∨ s.heap.size ≤ q) s.heap s.heap locs := S_mono hS (fun _ z => z.elim)
    have loop : ∀ (g d : Nat) (re2 : Nat → RE) (kn2 : Nat → Int32) (H : Heap) (locs : List Loc) (ls : Array Slot), d ≤ n → n + 1 ≤ d + g → RSB D cI cL cQ x ah ak b0 b1 b2 b3 b4 F (hk, re2, kn2, sh, nI n) H → (∀ re3 kn3 r3, PlayRel hk sh n w0 g d re2 kn2 re3 kn3 r3 → PlayRel hk sh n w0 (n + 1) 0 re kn re3 kn3 r3) → lv_has ls 4 [(2, .int (nI d)), (0, .ref x), (1, .int w0)] → va_S (fun q => F q ∨ s.heap.size ≤ q) s.heap H locs → W p l e (headSpec wsX2_play ({ frames := 7, cells := 1, slots := 6, locals := 145 })).room s m ([.ref x, .int w0] : List Value).toArray below meth c H locs 1 6 (vx_MQ below (va_Qi (fun (rr : Int32) (u : CS) => ¬ 3 ≤ kn 3 ∧ ∃ n1 : Nat, n1 ≤ 24 ∧ (nI n) = nI n1 ∧ ∃ (re1 : Nat → RE) (kn1 : Nat → Int32), PlayRel hk sh n1 w0 (n1 + 1) 0 re kn re1 kn1 rr ∧ u = (hk, re1, kn1, sh, (nI n))) (fun u t => RSB D cI cL cQ x ah ak b0 b1 b2 b3 b4 (fun q => F q ∨ s.heap.size ≤ q) u t.heap) (fun q => F q ∨ s.heap.size ≤ q)) (vx_X (fun (_ : Unit) => True) (fun E _ t => (E = eS ∧ 3 ≤ kn 3) ∧ RSB D cI cL cQ x ah ak b0 b1 b2 b3 b4 (fun q => F q ∨ s.heap.size ≤ q) (hk, re, kn, sh, (nI n)) t.heap) (fun q => F q ∨ s.heap.size ≤ q)) ([.ref x, .int w0] : List Value).toArray s 1 6 (fun q => F q ∨ s.heap.size ≤ q)) (F0 m 6 ls []) := by
      intro g
      induction g with
      | zero => intro d re2 kn2 H locs ls h1 h2; exact absurd h2 (by omega)
      | succ g ih =>
        intro d re2 kn2 H locs ls hd hg h2 hgo hl hS
        have hP : va_P D vwCl [(x, .inr (2, [.ref ah, .ref ak, .ref b0, .ref b1, .ref b2, .ref b3, .ref b4, .int (nI n)])), (ah, .inl (cQ, 6, .inr (.inr (.inr (.inr hk))))), (ak, .inr (0, [.int (kn2 0), .int (kn2 1), .int (kn2 2), .int (kn2 3), .int (kn2 4), .int (kn2 5), .int (kn2 6)])), (b0, .inl (cI, 24, .inl (sh 0))), (b1, .inl (cI, 24, .inl (sh 1))), (b2, .inl (cI, 24, .inl (sh 2))), (b3, .inl (cI, 24, .inl (sh 3))), (b4, .inl (cI, 24, .inl (sh 4)))] H := h2.P8
        have hN : ∀ q, (fun q => F q ∨ s.heap.size ≤ q) q → N0 ≤ q := hNF
        have hNF2 : ∀ q, F q ∨ H.size ≤ q → N0 ≤ q := fun q z => hNF q (z.elim Or.inl (fun z => Or.inr (Nat.le_trans hS.1 z)))
        refine lv_iload_n hx hb dX2_play_6 rfl (lv_at hl 0 rfl) ?_
        refine lv_aload_n hx hb dX2_play_7 rfl (lv_at hl 1 rfl) ?_
        refine va_get (D := D) (ci := 2) (v := .int (nI n)) (C := RX2) (T := TX2) (N := 8) hx hb hts iw_X2_play_X2 hown hK hP 0 rfl rfl 7 (by decide) (hts _ lk_X2_play_Cond_fieldLink_RX2_38_SpliceRoom_steps_I_) (fun _ h9 => h9) rfl dX2_play_8 ?_
        refine lv_icmp_ge (tgt := 51) hx hb dX2_play_11 (by decide) (fun c_11 => ?_) (fun c_11 => ?_)
        · have e6 : n ≤ d := (nI_leI (by omega) (by omega)).mp c_11
          refine lv_aload_n hx hb dX2_play_51 rfl (lv_at hl 1 rfl) ?_
          refine va_get (D := D) (ci := 2) (v := .int (nI n)) (C := RX2) (T := TX2) (N := 8) hx hb hts iw_X2_play_X2 hown hK hP 0 rfl rfl 7 (by decide) (hts _ lk_X2_play_Cond_fieldLink_RX2_38_SpliceRoom_steps_I_) (fun _ h9 => h9) rfl dX2_play_52 ?_
          exact vx_ret (W.iret (v := nI n) hx hb hr (fun t ht hW => ⟨⟨_, (hk, re2, kn2, sh, nI n), rfl, ⟨hblunt, n, hn, rfl, re2, kn2, hgo _ _ _ (Or.inl ⟨e6, rfl, rfl, rfl⟩), rfl⟩, by dsimp only; rw [ht]; exact h2.mono (fun _ z => Or.inl z)⟩, hS.F ht⟩) hS.2.2 dX2_play_55)
        · have hlt : d < n := Nat.lt_of_not_le (fun z => c_11 (nI_le z (by omega)))
          have hpl : plI w0 n d < n := by unfold plI; split <;> omega
          obtain ⟨⟨ja, la, ea⟩, ⟨jb, lb, eb⟩⟩ := hsh (plI w0 n d) hpl
          refine lv_iload_n hx hb dX2_play_14 rfl (lv_at hl 2 rfl) ?_
          refine lv_if_eq (tgt := 33) hx hb dX2_play_15 (by decide) (fun c_15 => ?_) (fun c_15 => ?_)
          · refine lv_aload_n hx hb dX2_play_33 rfl (lv_at hl 1 rfl) ?_
            refine lv_iload_n hx hb dX2_play_34 rfl (lv_at hl 0 rfl) ?_
            have epl : plI w0 n d = d := by unfold plI; rw [if_pos c_15]
            refine lv_topi (fun y_1 e9 => ?_)
            have e9 : y_1 = nI (plI w0 n d) := e9.trans (by rw [epl])
            subst e9
            refine va_calli (va_runV (As := [.int (nI (plI w0 n d))]) (rest := []) ⟨hx, hb, hml, hown, hts⟩ (c_X2_cutAsWritten l h2 hNF2 (i := plI w0 n d) (by omega) la lb ea eb) (cwV 1 hts gX2_play_X2_cutAsWritten rfl rfl rfl (by decide +kernel) ⟨Nat.le_of_ble_eq_true rfl, Nat.le_of_ble_eq_true rfl⟩) (Pq.V hC hS hN (va_recv hK hP (ci := 2) (q0 := 0) rfl rfl)) rfl rfl hl.1 rfl (lv_room (Nat.le_of_ble_eq_true rfl)) dX2_play_35 ⟨Nat.le_of_ble_eq_true rfl, Nat.le_of_ble_eq_true rfl⟩) hS (fun q _ z => z.elim Or.inl (fun z => Or.inr (Nat.le_trans hS.1 z))) (fun q z => z.elim Or.inl (fun z => Or.inr (Nat.le_trans hS.1 z))) (fun r1 u t H locs ht hvm hw hB hz1 hk1 hS => ?_)
            obtain ⟨k1, r2⟩ := u
            rw [ht] at hB
            have hw1 : r1 = r2 := hw.1
            subst hw1
            refine lv_istore_n (lv' := [(3, .int r1), (2, .int (nI d)), (0, .ref x), (1, .int w0)]) hx hb dX2_play_38 rfl hl (by decide) rfl (fun ls hl => ?_)
            refine lv_iload_n hx hb dX2_play_39 rfl (lv_at hl 0 rfl) ?_
            refine lv_if_ge (tgt := 45) hx hb dX2_play_40 (by decide) (fun c_40 => ?_) (fun c_40 => ?_)
            · refine lv_iinc (v := nI (d + 1)) (lv' := [(2, .int (nI (d + 1))), (3, .int r1), (0, .ref x), (1, .int w0)]) hx hb dX2_play_45 hl (k := 1) rfl (nI_1 d) (by decide) rfl (fun ls hl => ?_)
              refine lv_goto (tgt := 6) hx hb dX2_play_48 (by decide) ?_
              exact ih (d + 1) _ _ _ _ _ (by omega) (by omega) hB (fun re3 kn3 r3 z3 => hgo _ _ _ (Or.inr ⟨hlt, ja, jb, k1, r1, sh 1 (plI w0 n d), sh 3 (plI w0 n d), la, lb, Or.inl ⟨c_15, ea, eb, rfl, rfl⟩, hw.2, Or.inr ⟨Int32.not_lt.mpr c_40, z3⟩⟩)) (lv_sub hl [0, 2, 3] rfl) hS
            · refine lv_iload_n hx hb dX2_play_43 rfl (lv_at hl 1 rfl) ?_
              exact vx_ret (W.iret (v := nI d) hx hb hr (fun t ht hW => ⟨⟨_, (hk, cutRe re2 (hk ja) (hk jb) (sh 1 (plI w0 n d)) (sh 3 (plI w0 n d)) k1, knUp kn2 k1 r1, sh, nI n), rfl, ⟨hblunt, n, hn, rfl, _, _, hgo _ _ _ (Or.inr ⟨hlt, ja, jb, k1, r1, sh 1 (plI w0 n d), sh 3 (plI w0 n d), la, lb, Or.inl ⟨c_15, ea, eb, rfl, rfl⟩, hw.2, Or.inl ⟨Int32.not_le.mp c_40, rfl, rfl, rfl⟩⟩), rfl⟩, by dsimp only; rw [ht]; exact hB.mono (fun _ z => Or.inl z)⟩, hS.F ht⟩) hS.2.2 dX2_play_44)
          · refine lv_aload_n hx hb dX2_play_18 rfl (lv_at hl 1 rfl) ?_
            refine lv_aload_n hx hb dX2_play_19 rfl (lv_at hl 1 rfl) ?_
            refine va_get (D := D) (ci := 2) (v := .int (nI n)) (C := RX2) (T := TX2) (N := 8) hx hb hts iw_X2_play_X2 hown hK hP 0 rfl rfl 7 (by decide) (hts _ lk_X2_play_Cond_fieldLink_RX2_38_SpliceRoom_steps_I_) (fun _ h9 => h9) rfl dX2_play_20 ?_
            refine lv_iconst (v := 1) hx hb dX2_play_23 (by decide) ?_
            refine lv_isub hx hb dX2_play_24 ?_
            refine lv_iload_n hx hb dX2_play_25 rfl (lv_at hl 0 rfl) ?_
            refine lv_isub hx hb dX2_play_26 ?_
            have epl : plI w0 n d = n - 1 - d := by unfold plI; rw [if_neg c_15]
            refine lv_topi (fun y_2 e9 => ?_)
            have e9 : y_2 = nI (plI w0 n d) := e9.trans (by rw [show (1 : Int32) = nI 1 from rfl, pk_sub (by omega), pk_sub (by omega), epl])
            subst e9
            refine va_calli (va_runV (As := [.int (nI (plI w0 n d))]) (rest := []) ⟨hx, hb, hml, hown, hts⟩ (c_X2_cutTurned l h2 hNF2 (i := plI w0 n d) (by omega) lb la eb ea) (cwV 1 hts gX2_play_X2_cutTurned rfl rfl rfl (by decide +kernel) ⟨Nat.le_of_ble_eq_true rfl, Nat.le_of_ble_eq_true rfl⟩) (Pq.V hC hS hN (va_recv hK hP (ci := 2) (q0 := 0) rfl rfl)) rfl rfl hl.1 rfl (lv_room (Nat.le_of_ble_eq_true rfl)) dX2_play_27 ⟨Nat.le_of_ble_eq_true rfl, Nat.le_of_ble_eq_true rfl⟩) hS (fun q _ z => z.elim Or.inl (fun z => Or.inr (Nat.le_trans hS.1 z))) (fun q z => z.elim Or.inl (fun z => Or.inr (Nat.le_trans hS.1 z))) (fun r1 u t H locs ht hvm hw hB hz1 hk1 hS => ?_)
            obtain ⟨k1, r2⟩ := u
            rw [ht] at hB
            have hw1 : r1 = r2 := hw.1
            subst hw1
            refine lv_goto (tgt := 38) hx hb dX2_play_30 (by decide) ?_
            refine lv_istore_n (lv' := [(3, .int r1), (2, .int (nI d)), (0, .ref x), (1, .int w0)]) hx hb dX2_play_38 rfl hl (by decide) rfl (fun ls hl => ?_)
            refine lv_iload_n hx hb dX2_play_39 rfl (lv_at hl 0 rfl) ?_
            refine lv_if_ge (tgt := 45) hx hb dX2_play_40 (by decide) (fun c_40 => ?_) (fun c_40 => ?_)
            · refine lv_iinc (v := nI (d + 1)) (lv' := [(2, .int (nI (d + 1))), (3, .int r1), (0, .ref x), (1, .int w0)]) hx hb dX2_play_45 hl (k := 1) rfl (nI_1 d) (by decide) rfl (fun ls hl => ?_)
              refine lv_goto (tgt := 6) hx hb dX2_play_48 (by decide) ?_
              exact ih (d + 1) _ _ _ _ _ (by omega) (by omega) hB (fun re3 kn3 r3 z3 => hgo _ _ _ (Or.inr ⟨hlt, jb, ja, k1, r1, sh 3 (plI w0 n d), sh 1 (plI w0 n d), lb, la, Or.inr ⟨c_15, eb, ea, rfl, rfl⟩, hw.2, Or.inr ⟨Int32.not_lt.mpr c_40, z3⟩⟩)) (lv_sub hl [0, 2, 3] rfl) hS
            · refine lv_iload_n hx hb dX2_play_43 rfl (lv_at hl 1 rfl) ?_
              exact vx_ret (W.iret (v := nI d) hx hb hr (fun t ht hW => ⟨⟨_, (hk, cutRe re2 (hk jb) (hk ja) (sh 3 (plI w0 n d)) (sh 1 (plI w0 n d)) k1, knUp kn2 k1 r1, sh, nI n), rfl, ⟨hblunt, n, hn, rfl, _, _, hgo _ _ _ (Or.inr ⟨hlt, jb, ja, k1, r1, sh 3 (plI w0 n d), sh 1 (plI w0 n d), lb, la, Or.inr ⟨c_15, eb, ea, rfl, rfl⟩, hw.2, Or.inl ⟨Int32.not_le.mp c_40, rfl, rfl, rfl⟩⟩), rfl⟩, by dsimp only; rw [ht]; exact hB.mono (fun _ z => Or.inl z)⟩, hS.F ht⟩) hS.2.2 dX2_play_44)
    exact loop (n + 1) 0 _ _ _ _ _ (by omega) (by omega) h (fun _ _ _ z => z) (lv_sub hl [0, 1, 2] rfl) hS
theorem K_idQ {D : va_G} {cI cL cQ cA : ClassId} {s : State} (h0 : va_K D vwCl [(cI, .int), (cL, .long), (cQ, .object RX1)] s) (h : va_K D vwCl ([(cI, .int), (cL, .long), (cQ, .object RX1)] ++ [(cA, .object RX1)]) s) : cQ = cA := by
  obtain ⟨_, _, _, _, _, h1⟩ := (h0.2 2 _ rfl).2
  obtain ⟨_, _, _, _, _, h2⟩ := (h.2 3 _ rfl).2
  exact Option.some.inj (h1.symm.trans h2)
theorem iw_X2_init_X0 : ∀ w ∈ wsX00, w ∈ wsX2_init := by decide +kernel
theorem iw_X2_init_X2 : ∀ w ∈ wsX20, w ∈ wsX2_init := by decide +kernel
theorem lk_X2_init_Cond_arrayClass_int : Cond.arrayClass .int ∈ wsX2_init := by decide +kernel
theorem lk_X2_init_Cond_classLink_RX2_15_RX0 : Cond.classLink RX2 15 RX0 ∈ wsX2_init := by decide +kernel
theorem lk_X2_init_Cond_classLink_RX2_9_RX1 : Cond.classLink RX2 9 RX1 ∈ wsX2_init := by decide +kernel
theorem lk_X2_init_Cond_code_objectInit_0xb1_1_none : Cond.code objectInit ⟨#[0xb1]⟩ 1 none ∈ wsX2_init := by decide +kernel
theorem lk_X2_init_Cond_fieldLink_RX2_11_SpliceRoom_hooks_LSpliceRoom_Reel_ : Cond.fieldLink RX2 11 "SpliceRoom" "hooks" "[LSpliceRoom$Reel;" ∈ wsX2_init := by decide +kernel
theorem lk_X2_init_Cond_fieldLink_RX2_18_SpliceRoom_knife_LSpliceRoom_Knife_ : Cond.fieldLink RX2 18 "SpliceRoom" "knife" "LSpliceRoom$Knife;" ∈ wsX2_init := by decide +kernel
theorem lk_X2_init_Cond_fieldLink_RX2_22_SpliceRoom_stepFrom_I_ : Cond.fieldLink RX2 22 "SpliceRoom" "stepFrom" "[I" ∈ wsX2_init := by decide +kernel
theorem lk_X2_init_Cond_fieldLink_RX2_26_SpliceRoom_stepP_I_ : Cond.fieldLink RX2 26 "SpliceRoom" "stepP" "[I" ∈ wsX2_init := by decide +kernel
theorem lk_X2_init_Cond_fieldLink_RX2_29_SpliceRoom_stepTo_I_ : Cond.fieldLink RX2 29 "SpliceRoom" "stepTo" "[I" ∈ wsX2_init := by decide +kernel
theorem lk_X2_init_Cond_fieldLink_RX2_32_SpliceRoom_stepQ_I_ : Cond.fieldLink RX2 32 "SpliceRoom" "stepQ" "[I" ∈ wsX2_init := by decide +kernel
theorem lk_X2_init_Cond_fieldLink_RX2_35_SpliceRoom_stepN_I_ : Cond.fieldLink RX2 35 "SpliceRoom" "stepN" "[I" ∈ wsX2_init := by decide +kernel
theorem lk_X2_init_Cond_fieldLink_RX2_38_SpliceRoom_steps_I_ : Cond.fieldLink RX2 38 "SpliceRoom" "steps" "I" ∈ wsX2_init := by decide +kernel
theorem lk_X2_init_Cond_initialized_RX0 : Cond.initialized RX0 ∈ wsX2_init := by decide +kernel
theorem lk_X2_init_Cond_instanceMethod_objectInit : Cond.instanceMethod objectInit ∈ wsX2_init := by decide +kernel
theorem lk_X2_init_Cond_instanceMethod_yX0_init : Cond.instanceMethod yX0_init ∈ wsX2_init := by decide +kernel
theorem lk_X2_init_Cond_instantiable_RX0_7 : Cond.instantiable RX0 7 ∈ wsX2_init := by decide +kernel
theorem lk_X2_init_Cond_methodLink_RX2_1_objectInit : Cond.methodLink RX2 1 objectInit ∈ wsX2_init := by decide +kernel
set_option maxHeartbeats 4000000 in
set_option maxRecDepth 100000 in
theorem c_X2_init (l : Launch) {D : va_G} {cI cL cQ : ClassId} {N0 : Nat} {sa : Nat → Nat} {Hc : Heap} {x : Nat} (hP : va_P D vwCl [(x, .inr (2, [.null, .null, .null, .null, .null, .null, .null, .int 0]))] Hc) (hD0 : va_D nT [(x, .inr (2, [.null, .null, .null, .null, .null, .null, .null, .int 0]))]) (hN : ∀ q, va_A [(x, .inr (2, [.null, .null, .null, .null, .null, .null, .null, .int 0]))] Hc.size q → N0 ≤ q) : Met l yX2_init wsX2_init ({ frames := 2, cells := 7, slots := 133, locals := 40 }) (Pq D cI cL cQ N0 sa [.ref x] Hc) (va_Qv (fun (u : Nat × Nat × Nat × Nat × Nat × Nat × Nat) => True) (fun (u : Nat × Nat × Nat × Nat × Nat × Nat × Nat) (t : State) => va_P D vwCl [(x, .inr (2, [.ref u.1, .ref u.2.1, .ref u.2.2.1, .ref u.2.2.2.1, .ref u.2.2.2.2.1, .ref u.2.2.2.2.2.1, .ref u.2.2.2.2.2.2, .int 0])), (u.1, .inl (cQ, 6, .inr (.inr (.inr (.inr (fun _ => none)))))), (u.2.1, .inr (0, [.int 0, .int 0, .int 0, .int 0, .int 0, .int 0, .int 0])), (u.2.2.1, .inl (cI, 24, .inl (fun _ => 0))), (u.2.2.2.1, .inl (cI, 24, .inl (fun _ => 0))), (u.2.2.2.2.1, .inl (cI, 24, .inl (fun _ => 0))), (u.2.2.2.2.2.1, .inl (cI, 24, .inl (fun _ => 0))), (u.2.2.2.2.2.2, .inl (cI, 24, .inl (fun _ => 0)))] t.heap ∧ va_D (va_A [(x, .inr (2, [.null, .null, .null, .null, .null, .null, .null, .int 0]))] Hc.size) [(x, .inr (2, [.ref u.1, .ref u.2.1, .ref u.2.2.1, .ref u.2.2.2.1, .ref u.2.2.2.2.1, .ref u.2.2.2.2.2.1, .ref u.2.2.2.2.2.2, .int 0])), (u.1, .inl (cQ, 6, .inr (.inr (.inr (.inr (fun _ => none)))))), (u.2.1, .inr (0, [.int 0, .int 0, .int 0, .int 0, .int 0, .int 0, .int 0])), (u.2.2.1, .inl (cI, 24, .inl (fun _ => 0))), (u.2.2.2.1, .inl (cI, 24, .inl (fun _ => 0))), (u.2.2.2.2.1, .inl (cI, 24, .inl (fun _ => 0))), (u.2.2.2.2.2.1, .inl (cI, 24, .inl (fun _ => 0))), (u.2.2.2.2.2.2, .inl (cI, 24, .inl (fun _ => 0)))]) (va_A [(x, .inr (2, [.null, .null, .null, .null, .null, .null, .null, .int 0]))] Hc.size)) 7 133 (va_A [(x, .inr (2, [.null, .null, .null, .null, .null, .null, .null, .int 0]))] Hc.size) := by
  refine Met.ofW (cc := cX2_init) (maxL := 1) (ret := none) (by decide) rfl ?_
  intro p e s m args below meth c s₁ B hml hv
  obtain ⟨rfl, hH, hC⟩ := hv
  have hx := B.exec
  have hb := B.bytes
  have hr := B.returns
  have hts := atoms_spec (ws := wsX2_init) B.pre
  have hown : s.vm.findClass RX2 = some m.cls := findClass_of_methodNamed B.named
  have hlocks := B.notSynchronized
  have hin : meth.name = "<init>" := (name_of_methodNamed B.named B.method).1
  subst hH
  have hK := hC.K
  have hl := lv_entry ([.ref x]) (n := 1) (Nat.le_of_ble_eq_true rfl)
  rw [lg_entry_eq]
  generalize (lg_sl ([.ref x]) ++ List.replicate (1 - (lg_sl ([.ref x])).length) Slot.unset).toArray = ls at hl ⊢
  have hl : lv_has ls 1 [(0, .ref x)] := hl
  have hP : va_P D vwCl [(x, .inr (2, [.null, .null, .null, .null, .null, .null, .null, .int 0]))] s.heap := hP
  have hD := hD0.self (sz := s.heap.size)
  generalize hAe : va_A [(x, .inr (2, [.null, .null, .null, .null, .null, .null, .null, .int 0]))] s.heap.size = A at hD hN ⊢
  have hA : ∀ q : Nat, s.heap.size ≤ q → A q := fun q h => by rw [← hAe]; exact Or.inr h
  have hS : va_S A s.heap s.heap [] := va_S.rf
  refine lv_aload_n hx hb dX2_init_0 rfl (lv_at hl 0 rfl) ?_
  refine W.objInit hx hb hown (hts _ lk_X2_init_Cond_methodLink_RX2_1_objectInit) (hts _ lk_X2_init_Cond_instanceMethod_objectInit) (hts _ lk_X2_init_Cond_code_objectInit_0xb1_1_none) rfl (by rw [hml]; exact hl.1) rfl dX2_init_1 (Nat.le_of_ble_eq_true rfl) (Nat.le_of_ble_eq_true rfl) ?_
  refine W.eq (g2 := F0 m 4 ls []) rfl ?_
  refine lv_aload_n hx hb dX2_init_4 rfl (lv_at hl 0 rfl) ?_
  refine lv_bipush (v := 6) hx hb dX2_init_5 (by decide) ?_
  refine va_newq (D := D) hx hb hown (hts _ lk_X2_init_Cond_classLink_RX2_9_RX1) hC.2.1 hK hP hD hS hA (N' := 6) (by decide) (by decide) (by decide) (Nat.le_of_ble_eq_true rfl) (Nat.le_of_ble_eq_true rfl) dX2_init_7 (fun ah cA H hK1 hP hD hS => ?_)
  have eK := K_idQ hK hK1
  subst eK
  have hP : va_P D vwCl [(x, .inr (2, [.null, .null, .null, .null, .null, .null, .null, .int 0])), (ah, .inl (cQ, 6, .inr (.inr (.inr (.inr (fun _ => none))))))] H := hP
  have hD : va_D A [(x, .inr (2, [.null, .null, .null, .null, .null, .null, .null, .int 0])), (ah, .inl (cQ, 6, .inr (.inr (.inr (.inr (fun _ => none))))))] := hD
  refine va_putF (D := D) (ci := 2) (v := .ref ah) (ty := .array (.object "SpliceRoom$Reel")) (C := RX2) (T := TX2) (N := 8) hx hb hts iw_X2_init_X2 tyX2 tyX2_ok nmX2 hown hK hP hD hS 0 rfl rfl 0 (by decide) (hts _ lk_X2_init_Cond_fieldLink_RX2_11_SpliceRoom_hooks_LSpliceRoom_Reel_) (fun _ h9 => h9) rfl hin rfl (by decide +kernel) rfl rfl (Nat.le_of_ble_eq_true rfl) dX2_init_10 (fun H locs hP hD hS => ?_)
  have hP : va_P D vwCl [(x, .inr (2, [.ref ah, .null, .null, .null, .null, .null, .null, .int 0])), (ah, .inl (cQ, 6, .inr (.inr (.inr (.inr (fun _ => none))))))] H := hP
  have hD : va_D A [(x, .inr (2, [.ref ah, .null, .null, .null, .null, .null, .null, .int 0])), (ah, .inl (cQ, 6, .inr (.inr (.inr (.inr (fun _ => none))))))] := hD
  refine lv_aload_n hx hb dX2_init_13 rfl (lv_at hl 0 rfl) ?_
  refine va_new (D := D) (ci := 0) (fs := [.int 0, .int 0, .int 0, .int 0, .int 0, .int 0, .int 0]) (C := RX0) (T := TX0) (N := 7) hx hb hts iw_X2_init_X0 tyX0 tyX0_ok hown (hts _ lk_X2_init_Cond_classLink_RX2_15_RX0) (hts _ lk_X2_init_Cond_instantiable_RX0_7) (hts _ lk_X2_init_Cond_initialized_RX0) hK hP hD hS hA rfl (fun j9 h9 => by rcases (show j9 = 0 ∨ j9 = 1 ∨ j9 = 2 ∨ j9 = 3 ∨ j9 = 4 ∨ j9 = 5 ∨ j9 = 6 by omega) with rfl | rfl | rfl | rfl | rfl | rfl | rfl <;> rfl) (Nat.le_of_ble_eq_true rfl) (Nat.le_of_ble_eq_true rfl) dX2_init_14 (fun ak H hP hD hS => ?_)
  have hP : va_P D vwCl [(x, .inr (2, [.ref ah, .null, .null, .null, .null, .null, .null, .int 0])), (ah, .inl (cQ, 6, .inr (.inr (.inr (.inr (fun _ => none)))))), (ak, .inr (0, [.int 0, .int 0, .int 0, .int 0, .int 0, .int 0, .int 0]))] H := hP
  have hD : va_D A [(x, .inr (2, [.ref ah, .null, .null, .null, .null, .null, .null, .int 0])), (ah, .inl (cQ, 6, .inr (.inr (.inr (.inr (fun _ => none)))))), (ak, .inr (0, [.int 0, .int 0, .int 0, .int 0, .int 0, .int 0, .int 0]))] := hD
  refine lv_dup hx hb dX2_init_17 rfl ?_
  refine ro_v (va_runIN (As := []) (rest := [.ref ak, .ref x]) ⟨hx, hb, hml, hown, hts⟩ (c_X0_init l (h0 := ak)) ⟨va_cnB (host := "SpliceRoom") 0 hts gX2_init_X0_init_n17 rfl rfl rfl hC.2.2.2.1 (hts _ lk_X2_init_Cond_initialized_RX0) (by decide +kernel) ⟨Nat.le_of_ble_eq_true rfl, Nat.le_of_ble_eq_true rfl⟩, rfl, (hts _ lk_X2_init_Cond_instanceMethod_yX0_init)⟩ (Pq.S hC hS hN) rfl rfl hl.1 rfl (lv_room (Nat.le_of_ble_eq_true rfl)) dX2_init_18 ⟨Nat.le_of_ble_eq_true rfl, Nat.le_of_ble_eq_true rfl⟩) hS (fun locs hw hS => ?_)
  refine va_putF (D := D) (ci := 2) (v := .ref ak) (ty := .object "SpliceRoom$Knife") (C := RX2) (T := TX2) (N := 8) hx hb hts iw_X2_init_X2 tyX2 tyX2_ok nmX2 hown hK hP hD hS 0 rfl rfl 1 (by decide) (hts _ lk_X2_init_Cond_fieldLink_RX2_18_SpliceRoom_knife_LSpliceRoom_Knife_) (fun _ h9 => h9) rfl hin rfl (by decide +kernel) rfl rfl (Nat.le_of_ble_eq_true rfl) dX2_init_21 (fun H locs hP hD hS => ?_)
  have hP : va_P D vwCl [(x, .inr (2, [.ref ah, .ref ak, .null, .null, .null, .null, .null, .int 0])), (ah, .inl (cQ, 6, .inr (.inr (.inr (.inr (fun _ => none)))))), (ak, .inr (0, [.int 0, .int 0, .int 0, .int 0, .int 0, .int 0, .int 0]))] H := hP
  have hD : va_D A [(x, .inr (2, [.ref ah, .ref ak, .null, .null, .null, .null, .null, .int 0])), (ah, .inl (cQ, 6, .inr (.inr (.inr (.inr (fun _ => none)))))), (ak, .inr (0, [.int 0, .int 0, .int 0, .int 0, .int 0, .int 0, .int 0]))] := hD
  refine lv_aload_n hx hb dX2_init_24 rfl (lv_at hl 0 rfl) ?_
  refine lv_bipush (v := 24) hx hb dX2_init_25 (by decide) ?_
  refine va_newa (D := D) (atype := .int) hx hb (hts _ lk_X2_init_Cond_arrayClass_int) (ty := .int) rfl hK hP hD hS hA (N' := 24) (a0 := (24, .inl (fun _ => 0))) (fun cA => rfl) (by decide) (by decide) (by decide) (Nat.le_of_ble_eq_true rfl) (Nat.le_of_ble_eq_true rfl) dX2_init_27 (fun b0 cA H hK1 hP hD hS => ?_)
  have eK := K_idI hK hK1
  subst eK
  have hP : va_P D vwCl [(x, .inr (2, [.ref ah, .ref ak, .null, .null, .null, .null, .null, .int 0])), (ah, .inl (cQ, 6, .inr (.inr (.inr (.inr (fun _ => none)))))), (ak, .inr (0, [.int 0, .int 0, .int 0, .int 0, .int 0, .int 0, .int 0])), (b0, .inl (cI, 24, .inl (fun _ => 0)))] H := hP
  have hD : va_D A [(x, .inr (2, [.ref ah, .ref ak, .null, .null, .null, .null, .null, .int 0])), (ah, .inl (cQ, 6, .inr (.inr (.inr (.inr (fun _ => none)))))), (ak, .inr (0, [.int 0, .int 0, .int 0, .int 0, .int 0, .int 0, .int 0])), (b0, .inl (cI, 24, .inl (fun _ => 0)))] := hD
  refine va_putF (D := D) (ci := 2) (v := .ref b0) (ty := .array .int) (C := RX2) (T := TX2) (N := 8) hx hb hts iw_X2_init_X2 tyX2 tyX2_ok nmX2 hown hK hP hD hS 0 rfl rfl 2 (by decide) (hts _ lk_X2_init_Cond_fieldLink_RX2_22_SpliceRoom_stepFrom_I_) (fun _ h9 => h9) rfl hin rfl (by decide +kernel) rfl rfl (Nat.le_of_ble_eq_true rfl) dX2_init_29 (fun H locs hP hD hS => ?_)
  have hP : va_P D vwCl [(x, .inr (2, [.ref ah, .ref ak, .ref b0, .null, .null, .null, .null, .int 0])), (ah, .inl (cQ, 6, .inr (.inr (.inr (.inr (fun _ => none)))))), (ak, .inr (0, [.int 0, .int 0, .int 0, .int 0, .int 0, .int 0, .int 0])), (b0, .inl (cI, 24, .inl (fun _ => 0)))] H := hP
  have hD : va_D A [(x, .inr (2, [.ref ah, .ref ak, .ref b0, .null, .null, .null, .null, .int 0])), (ah, .inl (cQ, 6, .inr (.inr (.inr (.inr (fun _ => none)))))), (ak, .inr (0, [.int 0, .int 0, .int 0, .int 0, .int 0, .int 0, .int 0])), (b0, .inl (cI, 24, .inl (fun _ => 0)))] := hD
  refine lv_aload_n hx hb dX2_init_32 rfl (lv_at hl 0 rfl) ?_
  refine lv_bipush (v := 24) hx hb dX2_init_33 (by decide) ?_
  refine va_newa (D := D) (atype := .int) hx hb (hts _ lk_X2_init_Cond_arrayClass_int) (ty := .int) rfl hK hP hD hS hA (N' := 24) (a0 := (24, .inl (fun _ => 0))) (fun cA => rfl) (by decide) (by decide) (by decide) (Nat.le_of_ble_eq_true rfl) (Nat.le_of_ble_eq_true rfl) dX2_init_35 (fun b1 cA H hK1 hP hD hS => ?_)
  have eK := K_idI hK hK1
  subst eK
  have hP : va_P D vwCl [(x, .inr (2, [.ref ah, .ref ak, .ref b0, .null, .null, .null, .null, .int 0])), (ah, .inl (cQ, 6, .inr (.inr (.inr (.inr (fun _ => none)))))), (ak, .inr (0, [.int 0, .int 0, .int 0, .int 0, .int 0, .int 0, .int 0])), (b0, .inl (cI, 24, .inl (fun _ => 0))), (b1, .inl (cI, 24, .inl (fun _ => 0)))] H := hP
  have hD : va_D A [(x, .inr (2, [.ref ah, .ref ak, .ref b0, .null, .null, .null, .null, .int 0])), (ah, .inl (cQ, 6, .inr (.inr (.inr (.inr (fun _ => none)))))), (ak, .inr (0, [.int 0, .int 0, .int 0, .int 0, .int 0, .int 0, .int 0])), (b0, .inl (cI, 24, .inl (fun _ => 0))), (b1, .inl (cI, 24, .inl (fun _ => 0)))] := hD
  refine va_putF (D := D) (ci := 2) (v := .ref b1) (ty := .array .int) (C := RX2) (T := TX2) (N := 8) hx hb hts iw_X2_init_X2 tyX2 tyX2_ok nmX2 hown hK hP hD hS 0 rfl rfl 3 (by decide) (hts _ lk_X2_init_Cond_fieldLink_RX2_26_SpliceRoom_stepP_I_) (fun _ h9 => h9) rfl hin rfl (by decide +kernel) rfl rfl (Nat.le_of_ble_eq_true rfl) dX2_init_37 (fun H locs hP hD hS => ?_)
  have hP : va_P D vwCl [(x, .inr (2, [.ref ah, .ref ak, .ref b0, .ref b1, .null, .null, .null, .int 0])), (ah, .inl (cQ, 6, .inr (.inr (.inr (.inr (fun _ => none)))))), (ak, .inr (0, [.int 0, .int 0, .int 0, .int 0, .int 0, .int 0, .int 0])), (b0, .inl (cI, 24, .inl (fun _ => 0))), (b1, .inl (cI, 24, .inl (fun _ => 0)))] H := hP
  have hD : va_D A [(x, .inr (2, [.ref ah, .ref ak, .ref b0, .ref b1, .null, .null, .null, .int 0])), (ah, .inl (cQ, 6, .inr (.inr (.inr (.inr (fun _ => none)))))), (ak, .inr (0, [.int 0, .int 0, .int 0, .int 0, .int 0, .int 0, .int 0])), (b0, .inl (cI, 24, .inl (fun _ => 0))), (b1, .inl (cI, 24, .inl (fun _ => 0)))] := hD
  refine lv_aload_n hx hb dX2_init_40 rfl (lv_at hl 0 rfl) ?_
  refine lv_bipush (v := 24) hx hb dX2_init_41 (by decide) ?_
  refine va_newa (D := D) (atype := .int) hx hb (hts _ lk_X2_init_Cond_arrayClass_int) (ty := .int) rfl hK hP hD hS hA (N' := 24) (a0 := (24, .inl (fun _ => 0))) (fun cA => rfl) (by decide) (by decide) (by decide) (Nat.le_of_ble_eq_true rfl) (Nat.le_of_ble_eq_true rfl) dX2_init_43 (fun b2 cA H hK1 hP hD hS => ?_)
  have eK := K_idI hK hK1
  subst eK
  have hP : va_P D vwCl [(x, .inr (2, [.ref ah, .ref ak, .ref b0, .ref b1, .null, .null, .null, .int 0])), (ah, .inl (cQ, 6, .inr (.inr (.inr (.inr (fun _ => none)))))), (ak, .inr (0, [.int 0, .int 0, .int 0, .int 0, .int 0, .int 0, .int 0])), (b0, .inl (cI, 24, .inl (fun _ => 0))), (b1, .inl (cI, 24, .inl (fun _ => 0))), (b2, .inl (cI, 24, .inl (fun _ => 0)))] H := hP
  have hD : va_D A [(x, .inr (2, [.ref ah, .ref ak, .ref b0, .ref b1, .null, .null, .null, .int 0])), (ah, .inl (cQ, 6, .inr (.inr (.inr (.inr (fun _ => none)))))), (ak, .inr (0, [.int 0, .int 0, .int 0, .int 0, .int 0, .int 0, .int 0])), (b0, .inl (cI, 24, .inl (fun _ => 0))), (b1, .inl (cI, 24, .inl (fun _ => 0))), (b2, .inl (cI, 24, .inl (fun _ => 0)))] := hD
  refine va_putF (D := D) (ci := 2) (v := .ref b2) (ty := .array .int) (C := RX2) (T := TX2) (N := 8) hx hb hts iw_X2_init_X2 tyX2 tyX2_ok nmX2 hown hK hP hD hS 0 rfl rfl 4 (by decide) (hts _ lk_X2_init_Cond_fieldLink_RX2_29_SpliceRoom_stepTo_I_) (fun _ h9 => h9) rfl hin rfl (by decide +kernel) rfl rfl (Nat.le_of_ble_eq_true rfl) dX2_init_45 (fun H locs hP hD hS => ?_)
  have hP : va_P D vwCl [(x, .inr (2, [.ref ah, .ref ak, .ref b0, .ref b1, .ref b2, .null, .null, .int 0])), (ah, .inl (cQ, 6, .inr (.inr (.inr (.inr (fun _ => none)))))), (ak, .inr (0, [.int 0, .int 0, .int 0, .int 0, .int 0, .int 0, .int 0])), (b0, .inl (cI, 24, .inl (fun _ => 0))), (b1, .inl (cI, 24, .inl (fun _ => 0))), (b2, .inl (cI, 24, .inl (fun _ => 0)))] H := hP
  have hD : va_D A [(x, .inr (2, [.ref ah, .ref ak, .ref b0, .ref b1, .ref b2, .null, .null, .int 0])), (ah, .inl (cQ, 6, .inr (.inr (.inr (.inr (fun _ => none)))))), (ak, .inr (0, [.int 0, .int 0, .int 0, .int 0, .int 0, .int 0, .int 0])), (b0, .inl (cI, 24, .inl (fun _ => 0))), (b1, .inl (cI, 24, .inl (fun _ => 0))), (b2, .inl (cI, 24, .inl (fun _ => 0)))] := hD
  refine lv_aload_n hx hb dX2_init_48 rfl (lv_at hl 0 rfl) ?_
  refine lv_bipush (v := 24) hx hb dX2_init_49 (by decide) ?_
  refine va_newa (D := D) (atype := .int) hx hb (hts _ lk_X2_init_Cond_arrayClass_int) (ty := .int) rfl hK hP hD hS hA (N' := 24) (a0 := (24, .inl (fun _ => 0))) (fun cA => rfl) (by decide) (by decide) (by decide) (Nat.le_of_ble_eq_true rfl) (Nat.le_of_ble_eq_true rfl) dX2_init_51 (fun b3 cA H hK1 hP hD hS => ?_)
  have eK := K_idI hK hK1
  subst eK
  have hP : va_P D vwCl [(x, .inr (2, [.ref ah, .ref ak, .ref b0, .ref b1, .ref b2, .null, .null, .int 0])), (ah, .inl (cQ, 6, .inr (.inr (.inr (.inr (fun _ => none)))))), (ak, .inr (0, [.int 0, .int 0, .int 0, .int 0, .int 0, .int 0, .int 0])), (b0, .inl (cI, 24, .inl (fun _ => 0))), (b1, .inl (cI, 24, .inl (fun _ => 0))), (b2, .inl (cI, 24, .inl (fun _ => 0))), (b3, .inl (cI, 24, .inl (fun _ => 0)))] H := hP
  have hD : va_D A [(x, .inr (2, [.ref ah, .ref ak, .ref b0, .ref b1, .ref b2, .null, .null, .int 0])), (ah, .inl (cQ, 6, .inr (.inr (.inr (.inr (fun _ => none)))))), (ak, .inr (0, [.int 0, .int 0, .int 0, .int 0, .int 0, .int 0, .int 0])), (b0, .inl (cI, 24, .inl (fun _ => 0))), (b1, .inl (cI, 24, .inl (fun _ => 0))), (b2, .inl (cI, 24, .inl (fun _ => 0))), (b3, .inl (cI, 24, .inl (fun _ => 0)))] := hD
  refine va_putF (D := D) (ci := 2) (v := .ref b3) (ty := .array .int) (C := RX2) (T := TX2) (N := 8) hx hb hts iw_X2_init_X2 tyX2 tyX2_ok nmX2 hown hK hP hD hS 0 rfl rfl 5 (by decide) (hts _ lk_X2_init_Cond_fieldLink_RX2_32_SpliceRoom_stepQ_I_) (fun _ h9 => h9) rfl hin rfl (by decide +kernel) rfl rfl (Nat.le_of_ble_eq_true rfl) dX2_init_53 (fun H locs hP hD hS => ?_)
  have hP : va_P D vwCl [(x, .inr (2, [.ref ah, .ref ak, .ref b0, .ref b1, .ref b2, .ref b3, .null, .int 0])), (ah, .inl (cQ, 6, .inr (.inr (.inr (.inr (fun _ => none)))))), (ak, .inr (0, [.int 0, .int 0, .int 0, .int 0, .int 0, .int 0, .int 0])), (b0, .inl (cI, 24, .inl (fun _ => 0))), (b1, .inl (cI, 24, .inl (fun _ => 0))), (b2, .inl (cI, 24, .inl (fun _ => 0))), (b3, .inl (cI, 24, .inl (fun _ => 0)))] H := hP
  have hD : va_D A [(x, .inr (2, [.ref ah, .ref ak, .ref b0, .ref b1, .ref b2, .ref b3, .null, .int 0])), (ah, .inl (cQ, 6, .inr (.inr (.inr (.inr (fun _ => none)))))), (ak, .inr (0, [.int 0, .int 0, .int 0, .int 0, .int 0, .int 0, .int 0])), (b0, .inl (cI, 24, .inl (fun _ => 0))), (b1, .inl (cI, 24, .inl (fun _ => 0))), (b2, .inl (cI, 24, .inl (fun _ => 0))), (b3, .inl (cI, 24, .inl (fun _ => 0)))] := hD
  refine lv_aload_n hx hb dX2_init_56 rfl (lv_at hl 0 rfl) ?_
  refine lv_bipush (v := 24) hx hb dX2_init_57 (by decide) ?_
  refine va_newa (D := D) (atype := .int) hx hb (hts _ lk_X2_init_Cond_arrayClass_int) (ty := .int) rfl hK hP hD hS hA (N' := 24) (a0 := (24, .inl (fun _ => 0))) (fun cA => rfl) (by decide) (by decide) (by decide) (Nat.le_of_ble_eq_true rfl) (Nat.le_of_ble_eq_true rfl) dX2_init_59 (fun b4 cA H hK1 hP hD hS => ?_)
  have eK := K_idI hK hK1
  subst eK
  have hP : va_P D vwCl [(x, .inr (2, [.ref ah, .ref ak, .ref b0, .ref b1, .ref b2, .ref b3, .null, .int 0])), (ah, .inl (cQ, 6, .inr (.inr (.inr (.inr (fun _ => none)))))), (ak, .inr (0, [.int 0, .int 0, .int 0, .int 0, .int 0, .int 0, .int 0])), (b0, .inl (cI, 24, .inl (fun _ => 0))), (b1, .inl (cI, 24, .inl (fun _ => 0))), (b2, .inl (cI, 24, .inl (fun _ => 0))), (b3, .inl (cI, 24, .inl (fun _ => 0))), (b4, .inl (cI, 24, .inl (fun _ => 0)))] H := hP
  have hD : va_D A [(x, .inr (2, [.ref ah, .ref ak, .ref b0, .ref b1, .ref b2, .ref b3, .null, .int 0])), (ah, .inl (cQ, 6, .inr (.inr (.inr (.inr (fun _ => none)))))), (ak, .inr (0, [.int 0, .int 0, .int 0, .int 0, .int 0, .int 0, .int 0])), (b0, .inl (cI, 24, .inl (fun _ => 0))), (b1, .inl (cI, 24, .inl (fun _ => 0))), (b2, .inl (cI, 24, .inl (fun _ => 0))), (b3, .inl (cI, 24, .inl (fun _ => 0))), (b4, .inl (cI, 24, .inl (fun _ => 0)))] := hD
  refine va_putF (D := D) (ci := 2) (v := .ref b4) (ty := .array .int) (C := RX2) (T := TX2) (N := 8) hx hb hts iw_X2_init_X2 tyX2 tyX2_ok nmX2 hown hK hP hD hS 0 rfl rfl 6 (by decide) (hts _ lk_X2_init_Cond_fieldLink_RX2_35_SpliceRoom_stepN_I_) (fun _ h9 => h9) rfl hin rfl (by decide +kernel) rfl rfl (Nat.le_of_ble_eq_true rfl) dX2_init_61 (fun H locs hP hD hS => ?_)
  have hP : va_P D vwCl [(x, .inr (2, [.ref ah, .ref ak, .ref b0, .ref b1, .ref b2, .ref b3, .ref b4, .int 0])), (ah, .inl (cQ, 6, .inr (.inr (.inr (.inr (fun _ => none)))))), (ak, .inr (0, [.int 0, .int 0, .int 0, .int 0, .int 0, .int 0, .int 0])), (b0, .inl (cI, 24, .inl (fun _ => 0))), (b1, .inl (cI, 24, .inl (fun _ => 0))), (b2, .inl (cI, 24, .inl (fun _ => 0))), (b3, .inl (cI, 24, .inl (fun _ => 0))), (b4, .inl (cI, 24, .inl (fun _ => 0)))] H := hP
  have hD : va_D A [(x, .inr (2, [.ref ah, .ref ak, .ref b0, .ref b1, .ref b2, .ref b3, .ref b4, .int 0])), (ah, .inl (cQ, 6, .inr (.inr (.inr (.inr (fun _ => none)))))), (ak, .inr (0, [.int 0, .int 0, .int 0, .int 0, .int 0, .int 0, .int 0])), (b0, .inl (cI, 24, .inl (fun _ => 0))), (b1, .inl (cI, 24, .inl (fun _ => 0))), (b2, .inl (cI, 24, .inl (fun _ => 0))), (b3, .inl (cI, 24, .inl (fun _ => 0))), (b4, .inl (cI, 24, .inl (fun _ => 0)))] := hD
  refine lv_aload_n hx hb dX2_init_64 rfl (lv_at hl 0 rfl) ?_
  refine lv_iconst (v := 0) hx hb dX2_init_65 (by decide) ?_
  refine va_put (D := D) (ci := 2) (v := .int 0) (ty := .int) (C := RX2) (T := TX2) (N := 8) hx hb hts iw_X2_init_X2 tyX2 tyX2_ok nmX2 hown hK hP hD hS 0 rfl rfl 7 (by decide) (hts _ lk_X2_init_Cond_fieldLink_RX2_38_SpliceRoom_steps_I_) (fun _ h9 => h9) rfl (by decide +kernel) rfl rfl (Nat.le_of_ble_eq_true rfl) dX2_init_66 (fun H locs hP hD hS => ?_)
  have hP : va_P D vwCl [(x, .inr (2, [.ref ah, .ref ak, .ref b0, .ref b1, .ref b2, .ref b3, .ref b4, .int 0])), (ah, .inl (cQ, 6, .inr (.inr (.inr (.inr (fun _ => none)))))), (ak, .inr (0, [.int 0, .int 0, .int 0, .int 0, .int 0, .int 0, .int 0])), (b0, .inl (cI, 24, .inl (fun _ => 0))), (b1, .inl (cI, 24, .inl (fun _ => 0))), (b2, .inl (cI, 24, .inl (fun _ => 0))), (b3, .inl (cI, 24, .inl (fun _ => 0))), (b4, .inl (cI, 24, .inl (fun _ => 0)))] H := hP
  have hD : va_D A [(x, .inr (2, [.ref ah, .ref ak, .ref b0, .ref b1, .ref b2, .ref b3, .ref b4, .int 0])), (ah, .inl (cQ, 6, .inr (.inr (.inr (.inr (fun _ => none)))))), (ak, .inr (0, [.int 0, .int 0, .int 0, .int 0, .int 0, .int 0, .int 0])), (b0, .inl (cI, 24, .inl (fun _ => 0))), (b1, .inl (cI, 24, .inl (fun _ => 0))), (b2, .inl (cI, 24, .inl (fun _ => 0))), (b3, .inl (cI, 24, .inl (fun _ => 0))), (b4, .inl (cI, 24, .inl (fun _ => 0)))] := hD
  exact W.vret hx hb hr (fun t ht hW => ⟨⟨(ah, ak, b0, b1, b2, b3, b4), rfl, trivial, ⟨by rw [ht]; exact hP, hD⟩⟩, hS.F ht⟩) hS.2.2 dX2_init_69
end CPlay
