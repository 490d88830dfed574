section CModel
abbrev MS : Type := (Nat → Int32) × (Nat → Int32) × (Nat → Int32) × (Nat → Int64) × (Nat → Int64) × (Nat → Int32) × (Nat → Int32)
/-- the nine numbers of the model -/
def mi9 (a b c d e f g h i : Int32) : Nat → Int32 := fun n => match n with
  | 0 => a
  | 1 => b
  | 2 => c
  | 3 => d
  | 4 => e
  | 5 => f
  | 6 => g
  | 7 => h
  | _ => i
abbrev miC (mi : Nat → Int32) (c : Int32) : Nat → Int32 := mi9 (mi 0) (mi 1) (mi 2) (mi 3) (mi 4) (mi 5) (mi 6) (mi 7) c
/-- where the hooks point, and how long the places are -/
def OnOk (on : Nat → Int32) : Prop := ∀ j, j < 6 → on j = -1 ∨ ∃ p : Nat, p < 7 ∧ on j = nI p
def SzOk (sz : Nat → Int32) : Prop := ∀ p, p < 7 → ∃ z : Nat, z ≤ 40 ∧ sz p = nI z
/-- the kind at a hook, as the model has it -/
def mK (on kd : Nat → Int32) (j : Nat) : Int32 := if on j = -1 then 0 else kd (on j).toNatClampNeg
theorem mK_z {on kd : Nat → Int32} {j : Nat} (h : on j = -1) : mK on kd j = 0 := if_pos h
theorem nI_nm {p : Nat} (h : p < 7) : ¬ nI p = -1 := by
  intro e
  have h1 := nI_toInt (n := p) (by omega)
  rw [e] at h1
  have h2 : (-1 : Int32).toInt = -1 := by decide
  omega
theorem mK_p {on kd : Nat → Int32} {j p : Nat} (hp : p < 7) (h : on j = nI p) : mK on kd j = kd p := by rw [mK, h, if_neg (nI_nm hp), nI_clamp (by omega)]
theorem mK_n {on kd : Nat → Int32} (hO : OnOk on) {j : Nat} (hj : j < 6) (h : ¬ mK on kd j = 0) : ∃ p : Nat, p < 7 ∧ on j = nI p := (hO j hj).elim (fun e => absurd (mK_z e) h) id
theorem okH_iff {h : Int32} : (0 ≤ h ∧ h ≤ 5) ↔ okH h := by
  constructor
  · rintro ⟨h1, h2⟩
    obtain ⟨j, hj, rfl⟩ := nI_of (Int32.not_lt.mpr h1)
    exact ⟨j, by have := (nI_leI (a := j) (b := 5) hj (by decide)).mp h2; omega, rfl⟩
  · rintro ⟨j, hj, rfl⟩
    exact ⟨nI_pos' (by omega), nI_le (b := 5) (by omega) (by decide)⟩
theorem okF_iff {i : Int32} {z : Nat} (hz : z ≤ 40) : (0 ≤ i ∧ i ≤ nI z - 1) ↔ okF i z := by
  constructor
  · rintro ⟨h1, h2⟩
    obtain ⟨j, hj, rfl⟩ := nI_of (Int32.not_lt.mpr h1)
    cases z with
    | zero => rw [nI_0] at h2; exact absurd (Int32.le_trans h1 h2) (by decide)
    | succ z => rw [nI_pred] at h2; exact ⟨j, by have := (nI_leI (a := j) (b := z) hj (by omega)).mp h2; omega, rfl⟩
  · rintro ⟨j, hj, rfl⟩
    cases z with
    | zero => omega
    | succ z => rw [nI_pred]; exact ⟨nI_pos' (by omega), nI_le (by omega) (by omega)⟩
theorem idx40 {p i : Nat} : (40 : Int32) * nI p + nI i = nI (40 * p + i) := by rw [show (40 : Int32) = nI 40 from rfl, pk_mul, nI_add]
set_option maxHeartbeats 4000000 in
set_option maxRecDepth 100000 in
theorem c_X3_in (l : Launch) {D : va_G} {cI cL cQ : ClassId} {N0 : Nat} {sa : Nat → Nat} {Hc : Heap} {v0 l0 u0 : Int32} : Met l yX3_in wsX3_in ({ frames := 0, cells := 0, slots := 0, locals := 0 }) (Pq D cI cL cQ N0 sa [.int v0, .int l0, .int u0] Hc) (va_Qi (fun (r : Int32) (_ : Unit) => r = tB (l0 ≤ v0 ∧ v0 ≤ u0)) (fun _ t => t.heap = Hc) nA) 0 0 nA := by
  refine Met.ofW (cc := cX3_in) (maxL := 3) (ret := (some .boolean)) (by decide) rfl ?_
  intro p e s m args below meth c s₁ B hml hv
  obtain ⟨rfl, hH, hC⟩ := hv
  have hx := B.exec
  have hb := B.bytes
  have hr := B.returns
  have hts := atoms_spec (ws := wsX3_in) B.pre
  have hown : s.vm.findClass RX3 = some m.cls := findClass_of_methodNamed B.named
  have hlocks := B.notSynchronized
  subst hH
  have hK := hC.K
  have hl := lv_entry ([.int v0, .int l0, .int u0]) (n := 3) (Nat.le_of_ble_eq_true rfl)
  rw [lg_entry_eq]
  generalize (lg_sl ([.int v0, .int l0, .int u0]) ++ List.replicate (3 - (lg_sl ([.int v0, .int l0, .int u0])).length) Slot.unset).toArray = ls at hl ⊢
  have hl : lv_has ls 3 [(0, .int v0), (1, .int l0), (2, .int u0)] := hl
  have hS : va_S nA s.heap s.heap [] := va_S.rf
  have hN : ∀ q, nA q → N0 ≤ q := nA_N
  refine lv_iload_n hx hb dX3_in_0 rfl (lv_at hl 0 rfl) ?_
  refine lv_iload_n hx hb dX3_in_1 rfl (lv_at hl 1 rfl) ?_
  refine lv_icmp_lt (tgt := 14) hx hb dX3_in_2 (by decide) (fun c_2 => ?_) (fun c_2 => ?_)
  · refine lv_iconst (v := 0) hx hb dX3_in_14 (by decide) ?_
    exact W.zret (v := 0) hx hb hr (rfl) (fun t ht hW => ⟨⟨_, (), rfl, (tB_f (fun h9 => Int32.not_lt.mpr h9.1 c_2)).symm, ht⟩, hS.F ht⟩) hS.2.2 dX3_in_15
  · refine lv_iload_n hx hb dX3_in_5 rfl (lv_at hl 0 rfl) ?_
    refine lv_iload_n hx hb dX3_in_6 rfl (lv_at hl 2 rfl) ?_
    refine lv_icmp_gt (tgt := 14) hx hb dX3_in_7 (by decide) (fun c_7 => ?_) (fun c_7 => ?_)
    · refine lv_iconst (v := 0) hx hb dX3_in_14 (by decide) ?_
      exact W.zret (v := 0) hx hb hr (rfl) (fun t ht hW => ⟨⟨_, (), rfl, (tB_f (fun h9 => Int32.not_lt.mpr h9.2 c_7)).symm, ht⟩, hS.F ht⟩) hS.2.2 dX3_in_15
    · refine lv_iconst (v := 1) hx hb dX3_in_10 (by decide) ?_
      refine lv_goto (tgt := 15) hx hb dX3_in_11 (by decide) ?_
      exact W.zret (v := 1) hx hb hr (rfl) (fun t ht hW => ⟨⟨_, (), rfl, (tB_t ⟨Int32.not_lt.mp c_2, Int32.not_lt.mp c_7⟩).symm, ht⟩, hS.F ht⟩) hS.2.2 dX3_in_15
set_option maxHeartbeats 4000000 in
set_option maxRecDepth 100000 in
theorem c_X3_isHook (l : Launch) {D : va_G} {cI cL cQ : ClassId} {N0 : Nat} {sa : Nat → Nat} {Hc : Heap} {v0 : Int32} : Met l yX3_isHook wsX3_isHook ({ frames := 1, cells := 0, slots := 0, locals := 22 }) (Pq D cI cL cQ N0 sa [.int v0] Hc) (va_Qi (fun (r : Int32) (_ : Unit) => r = tB (0 ≤ v0 ∧ v0 ≤ 5)) (fun _ t => t.heap = Hc) nA) 0 0 nA := by
  refine Met.ofW (cc := cX3_isHook) (maxL := 1) (ret := (some .boolean)) (by decide) rfl ?_
  intro p e s m args below meth c s₁ B hml hv
  obtain ⟨rfl, hH, hC⟩ := hv
  have hx := B.exec
  have hb := B.bytes
  have hr := B.returns
  have hts := atoms_spec (ws := wsX3_isHook) B.pre
  have hown : s.vm.findClass RX3 = some m.cls := findClass_of_methodNamed B.named
  have hlocks := B.notSynchronized
  subst hH
  have hK := hC.K
  have hl := lv_entry ([.int v0]) (n := 1) (Nat.le_of_ble_eq_true rfl)
  rw [lg_entry_eq]
  generalize (lg_sl ([.int v0]) ++ List.replicate (1 - (lg_sl ([.int v0])).length) Slot.unset).toArray = ls at hl ⊢
  have hl : lv_has ls 1 [(0, .int v0)] := hl
  have hS : va_S nA s.heap s.heap [] := va_S.rf
  have hN : ∀ q, nA q → N0 ≤ q := nA_N
  refine lv_iload_n hx hb dX3_isHook_0 rfl (lv_at hl 0 rfl) ?_
  refine lv_iconst (v := 0) hx hb dX3_isHook_1 (by decide) ?_
  refine lv_iconst (v := 5) hx hb dX3_isHook_2 (by decide) ?_
  refine ro_i (va_runS (As := [.int v0, .int 0, .int 5]) (rest := []) ⟨hx, hb, hml, hown, hts⟩ (c_X3_in l (v0 := v0) (l0 := 0) (u0 := 5)) (va_cwS 3 hts gX3_isHook_X3_in rfl rfl rfl (by decide +kernel) ⟨Nat.le_of_ble_eq_true rfl, Nat.le_of_ble_eq_true rfl⟩) (Pq.S hC hS hN) rfl rfl hl.1 rfl (lv_room (Nat.le_of_ble_eq_true rfl)) dX3_isHook_3 ⟨Nat.le_of_ble_eq_true rfl, Nat.le_of_ble_eq_true rfl⟩) hS (fun r_1 locs hw hS => ?_)
  have hw : r_1 = tB (0 ≤ v0 ∧ v0 ≤ 5) := hw
  subst hw
  exact W.zret (v := tB (0 ≤ v0 ∧ v0 ≤ 5)) hx hb hr (tB_nar _) (fun t ht hW => ⟨⟨_, (), rfl, rfl, ht⟩, hS.F ht⟩) hS.2.2 dX3_isHook_6
theorem iw_X3_kindAt_X3 : ∀ w ∈ wsX30, w ∈ wsX3_kindAt := by decide +kernel
theorem lk_X3_kindAt_Cond_fieldLink_RX3_13_SpliceRoomModel_kinds_I_ : Cond.fieldLink RX3 13 "SpliceRoomModel" "kinds" "[I" ∈ wsX3_kindAt := by decide +kernel
theorem lk_X3_kindAt_Cond_fieldLink_RX3_7_SpliceRoomModel_on_I_ : Cond.fieldLink RX3 7 "SpliceRoomModel" "on" "[I" ∈ wsX3_kindAt := by decide +kernel
set_option maxHeartbeats 4000000 in
set_option maxRecDepth 100000 in
theorem c_X3_kindAt (l : Launch) {D : va_G} {cI cL cQ : ClassId} {N0 : Nat} {sa : Nat → Nat} {Hc : Heap} {m0 a0 a1 a2 a3 a4 a5 : Nat} {on kd sz : Nat → Int32} {fr li : Nat → Int64} {st : Nat → Int32} {mi : Nat → Int32} {j : Nat} (hP : va_P D vwCl [(m0, .inr (3, [.ref a0, .ref a1, .ref a2, .ref a3, .ref a4, .ref a5, .int (mi 0), .int (mi 1), .int (mi 2), .int (mi 3), .int (mi 4), .int (mi 5), .int (mi 6), .int (mi 7), .int (mi 8)])), (a0, .inl (cI, 6, .inl on)), (a1, .inl (cI, 7, .inl kd)), (a2, .inl (cI, 7, .inl sz)), (a3, .inl (cL, 280, .inr (.inl fr))), (a4, .inl (cL, 40, .inr (.inl li))), (a5, .inl (cI, 120, .inl st))] Hc) (hO : OnOk on) (hj : j < 6) : Met l yX3_kindAt wsX3_kindAt ({ frames := 0, cells := 0, slots := 0, locals := 0 }) (Pq D cI cL cQ N0 sa [.ref m0, .int (nI j)] Hc) (va_Qi (fun (r : Int32) (_ : Unit) => r = mK on kd j) (fun _ t => t.heap = Hc) nA) 0 0 nA := by
  refine Met.ofW (cc := cX3_kindAt) (maxL := 2) (ret := (some .int)) (by decide) rfl ?_
  intro p e s m args below meth c s₁ B hml hv
  obtain ⟨rfl, hH, hC⟩ := hv
  have hx := B.exec
  have hb := B.bytes
  have hr := B.returns
  have hts := atoms_spec (ws := wsX3_kindAt) B.pre
  have hown : s.vm.findClass RX3 = some m.cls := findClass_of_methodNamed B.named
  have hlocks := B.notSynchronized
  subst hH
  have hK := hC.K
  have hl := lv_entry ([.ref m0, .int (nI j)]) (n := 2) (Nat.le_of_ble_eq_true rfl)
  rw [lg_entry_eq]
  generalize (lg_sl ([.ref m0, .int (nI j)]) ++ List.replicate (2 - (lg_sl ([.ref m0, .int (nI j)])).length) Slot.unset).toArray = ls at hl ⊢
  have hl : lv_has ls 2 [(0, .ref m0), (1, .int (nI j))] := hl
  have hP : va_P D vwCl [(m0, .inr (3, [.ref a0, .ref a1, .ref a2, .ref a3, .ref a4, .ref a5, .int (mi 0), .int (mi 1), .int (mi 2), .int (mi 3), .int (mi 4), .int (mi 5), .int (mi 6), .int (mi 7), .int (mi 8)])), (a0, .inl (cI, 6, .inl on)), (a1, .inl (cI, 7, .inl kd)), (a2, .inl (cI, 7, .inl sz)), (a3, .inl (cL, 280, .inr (.inl fr))), (a4, .inl (cL, 40, .inr (.inl li))), (a5, .inl (cI, 120, .inl st))] s.heap := hP
  have hS : va_S nA s.heap s.heap [] := va_S.rf
  have hN : ∀ q, nA q → N0 ≤ q := nA_N
  refine lv_aload_n hx hb dX3_kindAt_0 rfl (lv_at hl 0 rfl) ?_
  refine va_get (D := D) (ci := 3) (v := .ref a0) (C := RX3) (T := TX3) (N := 15) hx hb hts iw_X3_kindAt_X3 hown hK hP 0 rfl rfl 0 (by decide) (hts _ lk_X3_kindAt_Cond_fieldLink_RX3_7_SpliceRoomModel_on_I_) (fun _ h9 => h9) rfl dX3_kindAt_1 ?_
  refine lv_iload_n hx hb dX3_kindAt_4 rfl (lv_at hl 1 rfl) ?_
  refine va_iald (D := D) hx hb hK hP 1 0 rfl rfl (vp_in_nI hj (by decide)) dX3_kindAt_5 ?_
  refine lv_topi (fun y_1 e9 => ?_)
  have e9 : y_1 = on j := e9.trans (by rw [nI_clamp (by omega)])
  subst e9
  refine lv_iconst (v := (-1)) hx hb dX3_kindAt_6 (by decide) ?_
  refine lv_icmp_ne (tgt := 14) hx hb dX3_kindAt_7 (by decide) (fun c_7 => ?_) (fun c_7 => ?_)
  · obtain ⟨pp, hp, ep⟩ := (hO j hj).resolve_left c_7
    refine lv_aload_n hx hb dX3_kindAt_14 rfl (lv_at hl 0 rfl) ?_
    refine va_get (D := D) (ci := 3) (v := .ref a1) (C := RX3) (T := TX3) (N := 15) hx hb hts iw_X3_kindAt_X3 hown hK hP 0 rfl rfl 1 (by decide) (hts _ lk_X3_kindAt_Cond_fieldLink_RX3_13_SpliceRoomModel_kinds_I_) (fun _ h9 => h9) rfl dX3_kindAt_15 ?_
    refine lv_aload_n hx hb dX3_kindAt_18 rfl (lv_at hl 0 rfl) ?_
    refine va_get (D := D) (ci := 3) (v := .ref a0) (C := RX3) (T := TX3) (N := 15) hx hb hts iw_X3_kindAt_X3 hown hK hP 0 rfl rfl 0 (by decide) (hts _ lk_X3_kindAt_Cond_fieldLink_RX3_7_SpliceRoomModel_on_I_) (fun _ h9 => h9) rfl dX3_kindAt_19 ?_
    refine lv_iload_n hx hb dX3_kindAt_22 rfl (lv_at hl 1 rfl) ?_
    refine va_iald (D := D) hx hb hK hP 1 0 rfl rfl (vp_in_nI hj (by decide)) dX3_kindAt_23 ?_
    refine lv_topi (fun y_2 e9 => ?_)
    have e9 : y_2 = on j := e9.trans (by rw [nI_clamp (by omega)])
    subst e9
    refine va_iald (D := D) hx hb hK hP 2 0 rfl rfl (by rw [ep]; exact vp_in_nI hp (by decide)) dX3_kindAt_24 ?_
    exact W.iret (v := kd ((on j).toNatClampNeg)) hx hb hr (fun t ht hW => ⟨⟨_, (), rfl, (if_neg c_7).symm, ht⟩, hS.F ht⟩) hS.2.2 dX3_kindAt_25
  · refine lv_iconst (v := 0) hx hb dX3_kindAt_10 (by decide) ?_
    refine lv_goto (tgt := 25) hx hb dX3_kindAt_11 (by decide) ?_
    exact W.iret (v := 0) hx hb hr (fun t ht hW => ⟨⟨_, (), rfl, (mK_z c_7).symm, ht⟩, hS.F ht⟩) hS.2.2 dX3_kindAt_25
set_option maxHeartbeats 4000000 in
set_option maxRecDepth 100000 in
theorem c_X3_hasRow (l : Launch) {D : va_G} {cI cL cQ : ClassId} {N0 : Nat} {sa : Nat → Nat} {Hc : Heap} {m0 a0 a1 a2 a3 a4 a5 : Nat} {on kd sz : Nat → Int32} {fr li : Nat → Int64} {st : Nat → Int32} {mi : Nat → Int32} {j : Nat} (hP : va_P D vwCl [(m0, .inr (3, [.ref a0, .ref a1, .ref a2, .ref a3, .ref a4, .ref a5, .int (mi 0), .int (mi 1), .int (mi 2), .int (mi 3), .int (mi 4), .int (mi 5), .int (mi 6), .int (mi 7), .int (mi 8)])), (a0, .inl (cI, 6, .inl on)), (a1, .inl (cI, 7, .inl kd)), (a2, .inl (cI, 7, .inl sz)), (a3, .inl (cL, 280, .inr (.inl fr))), (a4, .inl (cL, 40, .inr (.inl li))), (a5, .inl (cI, 120, .inl st))] Hc) (hO : OnOk on) (hj : j < 6) : Met l yX3_hasRow wsX3_hasRow ({ frames := 1, cells := 0, slots := 0, locals := 22 }) (Pq D cI cL cQ N0 sa [.ref m0, .int (nI j)] Hc) (va_Qi (fun (r : Int32) (_ : Unit) => r = tB (1 ≤ mK on kd j ∧ mK on kd j ≤ 4)) (fun _ t => t.heap = Hc) nA) 0 0 nA := by
  refine Met.ofW (cc := cX3_hasRow) (maxL := 2) (ret := (some .boolean)) (by decide) rfl ?_
  intro p e s m args below meth c s₁ B hml hv
  obtain ⟨rfl, hH, hC⟩ := hv
  have hx := B.exec
  have hb := B.bytes
  have hr := B.returns
  have hts := atoms_spec (ws := wsX3_hasRow) B.pre
  have hown : s.vm.findClass RX3 = some m.cls := findClass_of_methodNamed B.named
  have hlocks := B.notSynchronized
  subst hH
  have hK := hC.K
  have hl := lv_entry ([.ref m0, .int (nI j)]) (n := 2) (Nat.le_of_ble_eq_true rfl)
  rw [lg_entry_eq]
  generalize (lg_sl ([.ref m0, .int (nI j)]) ++ List.replicate (2 - (lg_sl ([.ref m0, .int (nI j)])).length) Slot.unset).toArray = ls at hl ⊢
  have hl : lv_has ls 2 [(0, .ref m0), (1, .int (nI j))] := hl
  have hP : va_P D vwCl [(m0, .inr (3, [.ref a0, .ref a1, .ref a2, .ref a3, .ref a4, .ref a5, .int (mi 0), .int (mi 1), .int (mi 2), .int (mi 3), .int (mi 4), .int (mi 5), .int (mi 6), .int (mi 7), .int (mi 8)])), (a0, .inl (cI, 6, .inl on)), (a1, .inl (cI, 7, .inl kd)), (a2, .inl (cI, 7, .inl sz)), (a3, .inl (cL, 280, .inr (.inl fr))), (a4, .inl (cL, 40, .inr (.inl li))), (a5, .inl (cI, 120, .inl st))] s.heap := hP
  have hS : va_S nA s.heap s.heap [] := va_S.rf
  have hN : ∀ q, nA q → N0 ≤ q := nA_N
  refine lv_aload_n hx hb dX3_hasRow_0 rfl (lv_at hl 0 rfl) ?_
  refine lv_iload_n hx hb dX3_hasRow_1 rfl (lv_at hl 1 rfl) ?_
  refine ro_i (va_runV (As := [.int (nI j)]) (rest := []) ⟨hx, hb, hml, hown, hts⟩ (c_X3_kindAt l (j := j) (hP.sub [0, 1, 2, 3, 4, 5, 6] rfl) hO hj) (cwV 1 hts gX3_hasRow_X3_kindAt rfl rfl rfl (by decide +kernel) ⟨Nat.le_of_ble_eq_true rfl, Nat.le_of_ble_eq_true rfl⟩) (Pq.V hC hS hN (va_recv hK hP (ci := 3) (q0 := 0) rfl rfl)) rfl rfl hl.1 rfl (lv_room (Nat.le_of_ble_eq_true rfl)) dX3_hasRow_2 ⟨Nat.le_of_ble_eq_true rfl, Nat.le_of_ble_eq_true rfl⟩) hS (fun r_1 locs hw hS => ?_)
  have hw : r_1 = mK on kd j := hw
  subst hw
  refine lv_iconst (v := 1) hx hb dX3_hasRow_5 (by decide) ?_
  refine lv_iconst (v := 4) hx hb dX3_hasRow_6 (by decide) ?_
  refine ro_i (va_runS (As := [.int (mK on kd j), .int 1, .int 4]) (rest := []) ⟨hx, hb, hml, hown, hts⟩ (c_X3_in l (v0 := mK on kd j) (l0 := 1) (u0 := 4)) (va_cwS 3 hts gX3_hasRow_X3_in rfl rfl rfl (by decide +kernel) ⟨Nat.le_of_ble_eq_true rfl, Nat.le_of_ble_eq_true rfl⟩) (Pq.S hC hS hN) rfl rfl hl.1 rfl (lv_room (Nat.le_of_ble_eq_true rfl)) dX3_hasRow_7 ⟨Nat.le_of_ble_eq_true rfl, Nat.le_of_ble_eq_true rfl⟩) hS (fun r_2 locs hw hS => ?_)
  have hw : r_2 = tB (1 ≤ (mK on kd j) ∧ (mK on kd j) ≤ 4) := hw
  subst hw
  exact W.zret (v := tB (1 ≤ (mK on kd j) ∧ (mK on kd j) ≤ 4)) hx hb hr (tB_nar _) (fun t ht hW => ⟨⟨_, (), rfl, rfl, ht⟩, hS.F ht⟩) hS.2.2 dX3_hasRow_10
set_option maxHeartbeats 4000000 in
set_option maxRecDepth 100000 in
theorem c_X3_hasCards (l : Launch) {D : va_G} {cI cL cQ : ClassId} {N0 : Nat} {sa : Nat → Nat} {Hc : Heap} {m0 a0 a1 a2 a3 a4 a5 : Nat} {on kd sz : Nat → Int32} {fr li : Nat → Int64} {st : Nat → Int32} {mi : Nat → Int32} {j : Nat} (hP : va_P D vwCl [(m0, .inr (3, [.ref a0, .ref a1, .ref a2, .ref a3, .ref a4, .ref a5, .int (mi 0), .int (mi 1), .int (mi 2), .int (mi 3), .int (mi 4), .int (mi 5), .int (mi 6), .int (mi 7), .int (mi 8)])), (a0, .inl (cI, 6, .inl on)), (a1, .inl (cI, 7, .inl kd)), (a2, .inl (cI, 7, .inl sz)), (a3, .inl (cL, 280, .inr (.inl fr))), (a4, .inl (cL, 40, .inr (.inl li))), (a5, .inl (cI, 120, .inl st))] Hc) (hO : OnOk on) (hj : j < 6) : Met l yX3_hasCards wsX3_hasCards ({ frames := 1, cells := 0, slots := 0, locals := 22 }) (Pq D cI cL cQ N0 sa [.ref m0, .int (nI j)] Hc) (va_Qi (fun (r : Int32) (_ : Unit) => r = tB (3 ≤ mK on kd j ∧ mK on kd j ≤ 4)) (fun _ t => t.heap = Hc) nA) 0 0 nA := by
  refine Met.ofW (cc := cX3_hasCards) (maxL := 2) (ret := (some .boolean)) (by decide) rfl ?_
  intro p e s m args below meth c s₁ B hml hv
  obtain ⟨rfl, hH, hC⟩ := hv
  have hx := B.exec
  have hb := B.bytes
  have hr := B.returns
  have hts := atoms_spec (ws := wsX3_hasCards) B.pre
  have hown : s.vm.findClass RX3 = some m.cls := findClass_of_methodNamed B.named
  have hlocks := B.notSynchronized
  subst hH
  have hK := hC.K
  have hl := lv_entry ([.ref m0, .int (nI j)]) (n := 2) (Nat.le_of_ble_eq_true rfl)
  rw [lg_entry_eq]
  generalize (lg_sl ([.ref m0, .int (nI j)]) ++ List.replicate (2 - (lg_sl ([.ref m0, .int (nI j)])).length) Slot.unset).toArray = ls at hl ⊢
  have hl : lv_has ls 2 [(0, .ref m0), (1, .int (nI j))] := hl
  have hP : va_P D vwCl [(m0, .inr (3, [.ref a0, .ref a1, .ref a2, .ref a3, .ref a4, .ref a5, .int (mi 0), .int (mi 1), .int (mi 2), .int (mi 3), .int (mi 4), .int (mi 5), .int (mi 6), .int (mi 7), .int (mi 8)])), (a0, .inl (cI, 6, .inl on)), (a1, .inl (cI, 7, .inl kd)), (a2, .inl (cI, 7, .inl sz)), (a3, .inl (cL, 280, .inr (.inl fr))), (a4, .inl (cL, 40, .inr (.inl li))), (a5, .inl (cI, 120, .inl st))] s.heap := hP
  have hS : va_S nA s.heap s.heap [] := va_S.rf
  have hN : ∀ q, nA q → N0 ≤ q := nA_N
  refine lv_aload_n hx hb dX3_hasCards_0 rfl (lv_at hl 0 rfl) ?_
  refine lv_iload_n hx hb dX3_hasCards_1 rfl (lv_at hl 1 rfl) ?_
  refine ro_i (va_runV (As := [.int (nI j)]) (rest := []) ⟨hx, hb, hml, hown, hts⟩ (c_X3_kindAt l (j := j) (hP.sub [0, 1, 2, 3, 4, 5, 6] rfl) hO hj) (cwV 1 hts gX3_hasCards_X3_kindAt rfl rfl rfl (by decide +kernel) ⟨Nat.le_of_ble_eq_true rfl, Nat.le_of_ble_eq_true rfl⟩) (Pq.V hC hS hN (va_recv hK hP (ci := 3) (q0 := 0) rfl rfl)) rfl rfl hl.1 rfl (lv_room (Nat.le_of_ble_eq_true rfl)) dX3_hasCards_2 ⟨Nat.le_of_ble_eq_true rfl, Nat.le_of_ble_eq_true rfl⟩) hS (fun r_1 locs hw hS => ?_)
  have hw : r_1 = mK on kd j := hw
  subst hw
  refine lv_iconst (v := 3) hx hb dX3_hasCards_5 (by decide) ?_
  refine lv_iconst (v := 4) hx hb dX3_hasCards_6 (by decide) ?_
  refine ro_i (va_runS (As := [.int (mK on kd j), .int 3, .int 4]) (rest := []) ⟨hx, hb, hml, hown, hts⟩ (c_X3_in l (v0 := mK on kd j) (l0 := 3) (u0 := 4)) (va_cwS 3 hts gX3_hasCards_X3_in rfl rfl rfl (by decide +kernel) ⟨Nat.le_of_ble_eq_true rfl, Nat.le_of_ble_eq_true rfl⟩) (Pq.S hC hS hN) rfl rfl hl.1 rfl (lv_room (Nat.le_of_ble_eq_true rfl)) dX3_hasCards_7 ⟨Nat.le_of_ble_eq_true rfl, Nat.le_of_ble_eq_true rfl⟩) hS (fun r_2 locs hw hS => ?_)
  have hw : r_2 = tB (3 ≤ (mK on kd j) ∧ (mK on kd j) ≤ 4) := hw
  subst hw
  exact W.zret (v := tB (3 ≤ (mK on kd j) ∧ (mK on kd j) ≤ 4)) hx hb hr (tB_nar _) (fun t ht hW => ⟨⟨_, (), rfl, rfl, ht⟩, hS.F ht⟩) hS.2.2 dX3_hasCards_10
theorem iw_X3_sizeAt_X3 : ∀ w ∈ wsX30, w ∈ wsX3_sizeAt := by decide +kernel
theorem lk_X3_sizeAt_Cond_fieldLink_RX3_16_SpliceRoomModel_sizes_I_ : Cond.fieldLink RX3 16 "SpliceRoomModel" "sizes" "[I" ∈ wsX3_sizeAt := by decide +kernel
theorem lk_X3_sizeAt_Cond_fieldLink_RX3_7_SpliceRoomModel_on_I_ : Cond.fieldLink RX3 7 "SpliceRoomModel" "on" "[I" ∈ wsX3_sizeAt := by decide +kernel
set_option maxHeartbeats 4000000 in
set_option maxRecDepth 100000 in
theorem c_X3_sizeAt (l : Launch) {D : va_G} {cI cL cQ : ClassId} {N0 : Nat} {sa : Nat → Nat} {Hc : Heap} {m0 a0 a1 a2 a3 a4 a5 : Nat} {on kd sz : Nat → Int32} {fr li : Nat → Int64} {st : Nat → Int32} {mi : Nat → Int32} {j pp : Nat} (hP : va_P D vwCl [(m0, .inr (3, [.ref a0, .ref a1, .ref a2, .ref a3, .ref a4, .ref a5, .int (mi 0), .int (mi 1), .int (mi 2), .int (mi 3), .int (mi 4), .int (mi 5), .int (mi 6), .int (mi 7), .int (mi 8)])), (a0, .inl (cI, 6, .inl on)), (a1, .inl (cI, 7, .inl kd)), (a2, .inl (cI, 7, .inl sz)), (a3, .inl (cL, 280, .inr (.inl fr))), (a4, .inl (cL, 40, .inr (.inl li))), (a5, .inl (cI, 120, .inl st))] Hc) (hj : j < 6) (hp : pp < 7) (ep : on j = nI pp) : Met l yX3_sizeAt wsX3_sizeAt ({ frames := 0, cells := 0, slots := 0, locals := 0 }) (Pq D cI cL cQ N0 sa [.ref m0, .int (nI j)] Hc) (va_Qi (fun (r : Int32) (_ : Unit) => r = sz pp) (fun _ t => t.heap = Hc) nA) 0 0 nA := by
  refine Met.ofW (cc := cX3_sizeAt) (maxL := 2) (ret := (some .int)) (by decide) rfl ?_
  intro p e s m args below meth c s₁ B hml hv
  obtain ⟨rfl, hH, hC⟩ := hv
  have hx := B.exec
  have hb := B.bytes
  have hr := B.returns
  have hts := atoms_spec (ws := wsX3_sizeAt) B.pre
  have hown : s.vm.findClass RX3 = some m.cls := findClass_of_methodNamed B.named
  have hlocks := B.notSynchronized
  subst hH
  have hK := hC.K
  have hl := lv_entry ([.ref m0, .int (nI j)]) (n := 2) (Nat.le_of_ble_eq_true rfl)
  rw [lg_entry_eq]
  generalize (lg_sl ([.ref m0, .int (nI j)]) ++ List.replicate (2 - (lg_sl ([.ref m0, .int (nI j)])).length) Slot.unset).toArray = ls at hl ⊢
  have hl : lv_has ls 2 [(0, .ref m0), (1, .int (nI j))] := hl
  have hP : va_P D vwCl [(m0, .inr (3, [.ref a0, .ref a1, .ref a2, .ref a3, .ref a4, .ref a5, .int (mi 0), .int (mi 1), .int (mi 2), .int (mi 3), .int (mi 4), .int (mi 5), .int (mi 6), .int (mi 7), .int (mi 8)])), (a0, .inl (cI, 6, .inl on)), (a1, .inl (cI, 7, .inl kd)), (a2, .inl (cI, 7, .inl sz)), (a3, .inl (cL, 280, .inr (.inl fr))), (a4, .inl (cL, 40, .inr (.inl li))), (a5, .inl (cI, 120, .inl st))] s.heap := hP
  have hS : va_S nA s.heap s.heap [] := va_S.rf
  have hN : ∀ q, nA q → N0 ≤ q := nA_N
  refine lv_aload_n hx hb dX3_sizeAt_0 rfl (lv_at hl 0 rfl) ?_
  refine va_get (D := D) (ci := 3) (v := .ref a2) (C := RX3) (T := TX3) (N := 15) hx hb hts iw_X3_sizeAt_X3 hown hK hP 0 rfl rfl 2 (by decide) (hts _ lk_X3_sizeAt_Cond_fieldLink_RX3_16_SpliceRoomModel_sizes_I_) (fun _ h9 => h9) rfl dX3_sizeAt_1 ?_
  refine lv_aload_n hx hb dX3_sizeAt_4 rfl (lv_at hl 0 rfl) ?_
  refine va_get (D := D) (ci := 3) (v := .ref a0) (C := RX3) (T := TX3) (N := 15) hx hb hts iw_X3_sizeAt_X3 hown hK hP 0 rfl rfl 0 (by decide) (hts _ lk_X3_sizeAt_Cond_fieldLink_RX3_7_SpliceRoomModel_on_I_) (fun _ h9 => h9) rfl dX3_sizeAt_5 ?_
  refine lv_iload_n hx hb dX3_sizeAt_8 rfl (lv_at hl 1 rfl) ?_
  refine va_iald (D := D) hx hb hK hP 1 0 rfl rfl (vp_in_nI hj (by decide)) dX3_sizeAt_9 ?_
  refine lv_topi (fun y_1 e9 => ?_)
  have e9 : y_1 = nI pp := e9.trans (by rw [nI_clamp (by omega)]; exact ep)
  subst e9
  refine va_iald (D := D) hx hb hK hP 3 0 rfl rfl (vp_in_nI hp (by decide)) dX3_sizeAt_10 ?_
  refine lv_topi (fun y_2 e9 => ?_)
  have e9 : y_2 = sz pp := e9.trans (by rw [nI_clamp (by omega)])
  subst e9
  exact W.iret (v := sz pp) hx hb hr (fun t ht hW => ⟨⟨_, (), rfl, rfl, ht⟩, hS.F ht⟩) hS.2.2 dX3_sizeAt_11
theorem iw_X3_isBlunt_X3 : ∀ w ∈ wsX30, w ∈ wsX3_isBlunt := by decide +kernel
theorem lk_X3_isBlunt_Cond_fieldLink_RX3_79_SpliceRoomModel_inRow_I_ : Cond.fieldLink RX3 79 "SpliceRoomModel" "inRow" "I" ∈ wsX3_isBlunt := by decide +kernel
set_option maxHeartbeats 4000000 in
set_option maxRecDepth 100000 in
theorem c_X3_isBlunt (l : Launch) {D : va_G} {cI cL cQ : ClassId} {N0 : Nat} {sa : Nat → Nat} {Hc : Heap} {m0 a0 a1 a2 a3 a4 a5 : Nat} {on kd sz : Nat → Int32} {fr li : Nat → Int64} {st : Nat → Int32} {mi : Nat → Int32} (hP : va_P D vwCl [(m0, .inr (3, [.ref a0, .ref a1, .ref a2, .ref a3, .ref a4, .ref a5, .int (mi 0), .int (mi 1), .int (mi 2), .int (mi 3), .int (mi 4), .int (mi 5), .int (mi 6), .int (mi 7), .int (mi 8)])), (a0, .inl (cI, 6, .inl on)), (a1, .inl (cI, 7, .inl kd)), (a2, .inl (cI, 7, .inl sz)), (a3, .inl (cL, 280, .inr (.inl fr))), (a4, .inl (cL, 40, .inr (.inl li))), (a5, .inl (cI, 120, .inl st))] Hc) : Met l yX3_isBlunt wsX3_isBlunt ({ frames := 0, cells := 0, slots := 0, locals := 0 }) (Pq D cI cL cQ N0 sa [.ref m0] Hc) (va_Qi (fun (r : Int32) (_ : Unit) => r = tB (mi 4 = 3)) (fun _ t => t.heap = Hc) nA) 0 0 nA := by
  refine Met.ofW (cc := cX3_isBlunt) (maxL := 1) (ret := (some .boolean)) (by decide) rfl ?_
  intro p e s m args below meth c s₁ B hml hv
  obtain ⟨rfl, hH, hC⟩ := hv
  have hx := B.exec
  have hb := B.bytes
  have hr := B.returns
  have hts := atoms_spec (ws := wsX3_isBlunt) B.pre
  have hown : s.vm.findClass RX3 = some m.cls := findClass_of_methodNamed B.named
  have hlocks := B.notSynchronized
  subst hH
  have hK := hC.K
  have hl := lv_entry ([.ref m0]) (n := 1) (Nat.le_of_ble_eq_true rfl)
  rw [lg_entry_eq]
  generalize (lg_sl ([.ref m0]) ++ List.replicate (1 - (lg_sl ([.ref m0])).length) Slot.unset).toArray = ls at hl ⊢
  have hl : lv_has ls 1 [(0, .ref m0)] := hl
  have hP : va_P D vwCl [(m0, .inr (3, [.ref a0, .ref a1, .ref a2, .ref a3, .ref a4, .ref a5, .int (mi 0), .int (mi 1), .int (mi 2), .int (mi 3), .int (mi 4), .int (mi 5), .int (mi 6), .int (mi 7), .int (mi 8)])), (a0, .inl (cI, 6, .inl on)), (a1, .inl (cI, 7, .inl kd)), (a2, .inl (cI, 7, .inl sz)), (a3, .inl (cL, 280, .inr (.inl fr))), (a4, .inl (cL, 40, .inr (.inl li))), (a5, .inl (cI, 120, .inl st))] s.heap := hP
  have hS : va_S nA s.heap s.heap [] := va_S.rf
  have hN : ∀ q, nA q → N0 ≤ q := nA_N
  refine lv_aload_n hx hb dX3_isBlunt_0 rfl (lv_at hl 0 rfl) ?_
  refine va_get (D := D) (ci := 3) (v := .int (mi 4)) (C := RX3) (T := TX3) (N := 15) hx hb hts iw_X3_isBlunt_X3 hown hK hP 0 rfl rfl 10 (by decide) (hts _ lk_X3_isBlunt_Cond_fieldLink_RX3_79_SpliceRoomModel_inRow_I_) (fun _ h9 => h9) rfl dX3_isBlunt_1 ?_
  refine lv_iconst (v := 3) hx hb dX3_isBlunt_4 (by decide) ?_
  refine lv_icmp_ne (tgt := 12) hx hb dX3_isBlunt_5 (by decide) (fun c_5 => ?_) (fun c_5 => ?_)
  · refine lv_iconst (v := 0) hx hb dX3_isBlunt_12 (by decide) ?_
    exact W.zret (v := 0) hx hb hr (rfl) (fun t ht hW => ⟨⟨_, (), rfl, (tB_f c_5).symm, ht⟩, hS.F ht⟩) hS.2.2 dX3_isBlunt_13
  · refine lv_iconst (v := 1) hx hb dX3_isBlunt_8 (by decide) ?_
    refine lv_goto (tgt := 13) hx hb dX3_isBlunt_9 (by decide) ?_
    exact W.zret (v := 1) hx hb hr (rfl) (fun t ht hW => ⟨⟨_, (), rfl, (tB_t c_5).symm, ht⟩, hS.F ht⟩) hS.2.2 dX3_isBlunt_13
theorem iw_X3_thrown_X3 : ∀ w ∈ wsX30, w ∈ wsX3_thrown := by decide +kernel
theorem lk_X3_thrown_Cond_fieldLink_RX3_29_SpliceRoomModel_code_I_ : Cond.fieldLink RX3 29 "SpliceRoomModel" "code" "I" ∈ wsX3_thrown := by decide +kernel
set_option maxHeartbeats 4000000 in
set_option maxRecDepth 100000 in
theorem c_X3_thrown (l : Launch) {D : va_G} {cI cL cQ : ClassId} {N0 : Nat} {sa : Nat → Nat} {Hc : Heap} {m0 a0 a1 a2 a3 a4 a5 : Nat} {on kd sz : Nat → Int32} {fr li : Nat → Int64} {st : Nat → Int32} {mi : Nat → Int32} (hP : va_P D vwCl [(m0, .inr (3, [.ref a0, .ref a1, .ref a2, .ref a3, .ref a4, .ref a5, .int (mi 0), .int (mi 1), .int (mi 2), .int (mi 3), .int (mi 4), .int (mi 5), .int (mi 6), .int (mi 7), .int (mi 8)])), (a0, .inl (cI, 6, .inl on)), (a1, .inl (cI, 7, .inl kd)), (a2, .inl (cI, 7, .inl sz)), (a3, .inl (cL, 280, .inr (.inl fr))), (a4, .inl (cL, 40, .inr (.inl li))), (a5, .inl (cI, 120, .inl st))] Hc) : Met l yX3_thrown wsX3_thrown ({ frames := 0, cells := 0, slots := 0, locals := 0 }) (Pq D cI cL cQ N0 sa [.ref m0] Hc) (va_Qi (fun (r : Int32) (_ : Unit) => r = mi 8) (fun _ t => t.heap = Hc) nA) 0 0 nA := by
  refine Met.ofW (cc := cX3_thrown) (maxL := 1) (ret := (some .int)) (by decide) rfl ?_
  intro p e s m args below meth c s₁ B hml hv
  obtain ⟨rfl, hH, hC⟩ := hv
  have hx := B.exec
  have hb := B.bytes
  have hr := B.returns
  have hts := atoms_spec (ws := wsX3_thrown) B.pre
  have hown : s.vm.findClass RX3 = some m.cls := findClass_of_methodNamed B.named
  have hlocks := B.notSynchronized
  subst hH
  have hK := hC.K
  have hl := lv_entry ([.ref m0]) (n := 1) (Nat.le_of_ble_eq_true rfl)
  rw [lg_entry_eq]
  generalize (lg_sl ([.ref m0]) ++ List.replicate (1 - (lg_sl ([.ref m0])).length) Slot.unset).toArray = ls at hl ⊢
  have hl : lv_has ls 1 [(0, .ref m0)] := hl
  have hP : va_P D vwCl [(m0, .inr (3, [.ref a0, .ref a1, .ref a2, .ref a3, .ref a4, .ref a5, .int (mi 0), .int (mi 1), .int (mi 2), .int (mi 3), .int (mi 4), .int (mi 5), .int (mi 6), .int (mi 7), .int (mi 8)])), (a0, .inl (cI, 6, .inl on)), (a1, .inl (cI, 7, .inl kd)), (a2, .inl (cI, 7, .inl sz)), (a3, .inl (cL, 280, .inr (.inl fr))), (a4, .inl (cL, 40, .inr (.inl li))), (a5, .inl (cI, 120, .inl st))] s.heap := hP
  have hS : va_S nA s.heap s.heap [] := va_S.rf
  have hN : ∀ q, nA q → N0 ≤ q := nA_N
  refine lv_aload_n hx hb dX3_thrown_0 rfl (lv_at hl 0 rfl) ?_
  refine va_get (D := D) (ci := 3) (v := .int (mi 8)) (C := RX3) (T := TX3) (N := 15) hx hb hts iw_X3_thrown_X3 hown hK hP 0 rfl rfl 14 (by decide) (hts _ lk_X3_thrown_Cond_fieldLink_RX3_29_SpliceRoomModel_code_I_) (fun _ h9 => h9) rfl dX3_thrown_1 ?_
  exact W.iret (v := mi 8) hx hb hr (fun t ht hW => ⟨⟨_, (), rfl, rfl, ht⟩, hS.F ht⟩) hS.2.2 dX3_thrown_4
set_option maxHeartbeats 4000000 in
set_option maxRecDepth 100000 in
theorem c_X3_cardCode2 (l : Launch) {D : va_G} {cI cL cQ : ClassId} {N0 : Nat} {sa : Nat → Nat} {Hc : Heap} {m0 a0 a1 a2 a3 a4 a5 : Nat} {on kd sz : Nat → Int32} {fr li : Nat → Int64} {st : Nat → Int32} {mi : Nat → Int32} {j : Nat} {i0 : Int32} (hP : va_P D vwCl [(m0, .inr (3, [.ref a0, .ref a1, .ref a2, .ref a3, .ref a4, .ref a5, .int (mi 0), .int (mi 1), .int (mi 2), .int (mi 3), .int (mi 4), .int (mi 5), .int (mi 6), .int (mi 7), .int (mi 8)])), (a0, .inl (cI, 6, .inl on)), (a1, .inl (cI, 7, .inl kd)), (a2, .inl (cI, 7, .inl sz)), (a3, .inl (cL, 280, .inr (.inl fr))), (a4, .inl (cL, 40, .inr (.inl li))), (a5, .inl (cI, 120, .inl st))] Hc) (hO : OnOk on) (hj : j < 6) (hc : ¬ (3 ≤ mK on kd j ∧ mK on kd j ≤ 4)) : Met l yX3_cardCode wsX3_cardCode ({ frames := 2, cells := 0, slots := 0, locals := 43 }) (Pq D cI cL cQ N0 sa [.ref m0, .int (nI j), .int i0] Hc) (va_Qi (fun (r : Int32) (_ : Unit) => r = 2) (fun _ t => t.heap = Hc) nA) 0 0 nA := by
  refine Met.ofW (cc := cX3_cardCode) (maxL := 3) (ret := (some .int)) (by decide) rfl ?_
  intro p e s m args below meth c s₁ B hml hv
  obtain ⟨rfl, hH, hC⟩ := hv
  have hx := B.exec
  have hb := B.bytes
  have hr := B.returns
  have hts := atoms_spec (ws := wsX3_cardCode) B.pre
  have hown : s.vm.findClass RX3 = some m.cls := findClass_of_methodNamed B.named
  have hlocks := B.notSynchronized
  subst hH
  have hK := hC.K
  have hl := lv_entry ([.ref m0, .int (nI j), .int i0]) (n := 3) (Nat.le_of_ble_eq_true rfl)
  rw [lg_entry_eq]
  generalize (lg_sl ([.ref m0, .int (nI j), .int i0]) ++ List.replicate (3 - (lg_sl ([.ref m0, .int (nI j), .int i0])).length) Slot.unset).toArray = ls at hl ⊢
  have hl : lv_has ls 3 [(0, .ref m0), (1, .int (nI j)), (2, .int i0)] := hl
  have hP : va_P D vwCl [(m0, .inr (3, [.ref a0, .ref a1, .ref a2, .ref a3, .ref a4, .ref a5, .int (mi 0), .int (mi 1), .int (mi 2), .int (mi 3), .int (mi 4), .int (mi 5), .int (mi 6), .int (mi 7), .int (mi 8)])), (a0, .inl (cI, 6, .inl on)), (a1, .inl (cI, 7, .inl kd)), (a2, .inl (cI, 7, .inl sz)), (a3, .inl (cL, 280, .inr (.inl fr))), (a4, .inl (cL, 40, .inr (.inl li))), (a5, .inl (cI, 120, .inl st))] s.heap := hP
  have hS : va_S nA s.heap s.heap [] := va_S.rf
  have hN : ∀ q, nA q → N0 ≤ q := nA_N
  refine lv_aload_n hx hb dX3_cardCode_0 rfl (lv_at hl 0 rfl) ?_
  refine lv_iload_n hx hb dX3_cardCode_1 rfl (lv_at hl 1 rfl) ?_
  refine ro_i (va_runV (As := [.int (nI j)]) (rest := []) ⟨hx, hb, hml, hown, hts⟩ (c_X3_hasCards l (j := j) (hP.sub [0, 1, 2, 3, 4, 5, 6] rfl) hO hj) (cwV 1 hts gX3_cardCode_X3_hasCards rfl rfl rfl (by decide +kernel) ⟨Nat.le_of_ble_eq_true rfl, Nat.le_of_ble_eq_true rfl⟩) (Pq.V hC hS hN (va_recv hK hP (ci := 3) (q0 := 0) rfl rfl)) rfl rfl hl.1 rfl (lv_room (Nat.le_of_ble_eq_true rfl)) dX3_cardCode_2 ⟨Nat.le_of_ble_eq_true rfl, Nat.le_of_ble_eq_true rfl⟩) hS (fun r_1 locs hw hS => ?_)
  have hw : r_1 = tB (3 ≤ mK on kd j ∧ mK on kd j ≤ 4) := hw
  subst hw
  refine lv_if_ne (tgt := 12) hx hb dX3_cardCode_5 (by decide) (fun c9 => absurd (tB_0.mpr (hc)) c9) (fun _ => ?_)
  refine lv_iconst (v := 2) hx hb dX3_cardCode_8 (by decide) ?_
  refine lv_goto (tgt := 32) hx hb dX3_cardCode_9 (by decide) ?_
  exact W.iret (v := 2) hx hb hr (fun t ht hW => ⟨⟨_, (), rfl, rfl, ht⟩, hS.F ht⟩) hS.2.2 dX3_cardCode_32
set_option maxHeartbeats 4000000 in
set_option maxRecDepth 100000 in
theorem c_X3_cardCode3 (l : Launch) {D : va_G} {cI cL cQ : ClassId} {N0 : Nat} {sa : Nat → Nat} {Hc : Heap} {m0 a0 a1 a2 a3 a4 a5 : Nat} {on kd sz : Nat → Int32} {fr li : Nat → Int64} {st : Nat → Int32} {mi : Nat → Int32} {j pp z : Nat} {i0 : Int32} (hP : va_P D vwCl [(m0, .inr (3, [.ref a0, .ref a1, .ref a2, .ref a3, .ref a4, .ref a5, .int (mi 0), .int (mi 1), .int (mi 2), .int (mi 3), .int (mi 4), .int (mi 5), .int (mi 6), .int (mi 7), .int (mi 8)])), (a0, .inl (cI, 6, .inl on)), (a1, .inl (cI, 7, .inl kd)), (a2, .inl (cI, 7, .inl sz)), (a3, .inl (cL, 280, .inr (.inl fr))), (a4, .inl (cL, 40, .inr (.inl li))), (a5, .inl (cI, 120, .inl st))] Hc) (hO : OnOk on) (hj : j < 6) (hp : pp < 7) (ep : on j = nI pp) (hz : z ≤ 40) (ez : sz pp = nI z) (hc : 3 ≤ mK on kd j ∧ mK on kd j ≤ 4) (hi : ¬ okF i0 z) : Met l yX3_cardCode wsX3_cardCode ({ frames := 2, cells := 0, slots := 0, locals := 43 }) (Pq D cI cL cQ N0 sa [.ref m0, .int (nI j), .int i0] Hc) (va_Qi (fun (r : Int32) (_ : Unit) => r = 3) (fun _ t => t.heap = Hc) nA) 0 0 nA := by
  refine Met.ofW (cc := cX3_cardCode) (maxL := 3) (ret := (some .int)) (by decide) rfl ?_
  intro p e s m args below meth c s₁ B hml hv
  obtain ⟨rfl, hH, hC⟩ := hv
  have hx := B.exec
  have hb := B.bytes
  have hr := B.returns
  have hts := atoms_spec (ws := wsX3_cardCode) B.pre
  have hown : s.vm.findClass RX3 = some m.cls := findClass_of_methodNamed B.named
  have hlocks := B.notSynchronized
  subst hH
  have hK := hC.K
  have hl := lv_entry ([.ref m0, .int (nI j), .int i0]) (n := 3) (Nat.le_of_ble_eq_true rfl)
  rw [lg_entry_eq]
  generalize (lg_sl ([.ref m0, .int (nI j), .int i0]) ++ List.replicate (3 - (lg_sl ([.ref m0, .int (nI j), .int i0])).length) Slot.unset).toArray = ls at hl ⊢
  have hl : lv_has ls 3 [(0, .ref m0), (1, .int (nI j)), (2, .int i0)] := hl
  have hP : va_P D vwCl [(m0, .inr (3, [.ref a0, .ref a1, .ref a2, .ref a3, .ref a4, .ref a5, .int (mi 0), .int (mi 1), .int (mi 2), .int (mi 3), .int (mi 4), .int (mi 5), .int (mi 6), .int (mi 7), .int (mi 8)])), (a0, .inl (cI, 6, .inl on)), (a1, .inl (cI, 7, .inl kd)), (a2, .inl (cI, 7, .inl sz)), (a3, .inl (cL, 280, .inr (.inl fr))), (a4, .inl (cL, 40, .inr (.inl li))), (a5, .inl (cI, 120, .inl st))] s.heap := hP
  have hS : va_S nA s.heap s.heap [] := va_S.rf
  have hN : ∀ q, nA q → N0 ≤ q := nA_N
  refine lv_aload_n hx hb dX3_cardCode_0 rfl (lv_at hl 0 rfl) ?_
  refine lv_iload_n hx hb dX3_cardCode_1 rfl (lv_at hl 1 rfl) ?_
  refine ro_i (va_runV (As := [.int (nI j)]) (rest := []) ⟨hx, hb, hml, hown, hts⟩ (c_X3_hasCards l (j := j) (hP.sub [0, 1, 2, 3, 4, 5, 6] rfl) hO hj) (cwV 1 hts gX3_cardCode_X3_hasCards rfl rfl rfl (by decide +kernel) ⟨Nat.le_of_ble_eq_true rfl, Nat.le_of_ble_eq_true rfl⟩) (Pq.V hC hS hN (va_recv hK hP (ci := 3) (q0 := 0) rfl rfl)) rfl rfl hl.1 rfl (lv_room (Nat.le_of_ble_eq_true rfl)) dX3_cardCode_2 ⟨Nat.le_of_ble_eq_true rfl, Nat.le_of_ble_eq_true rfl⟩) hS (fun r_1 locs hw hS => ?_)
  have hw : r_1 = tB (3 ≤ mK on kd j ∧ mK on kd j ≤ 4) := hw
  subst hw
  refine lv_if_ne (tgt := 12) hx hb dX3_cardCode_5 (by decide) (fun _ => ?_) (fun c9 => absurd c9 (tB_n.mpr (hc)))
  refine lv_iload_n hx hb dX3_cardCode_12 rfl (lv_at hl 2 rfl) ?_
  refine lv_iconst (v := 0) hx hb dX3_cardCode_13 (by decide) ?_
  refine lv_aload_n hx hb dX3_cardCode_14 rfl (lv_at hl 0 rfl) ?_
  refine lv_iload_n hx hb dX3_cardCode_15 rfl (lv_at hl 1 rfl) ?_
  refine ro_i (va_runV (As := [.int (nI j)]) (rest := [.int 0, .int i0]) ⟨hx, hb, hml, hown, hts⟩ (c_X3_sizeAt l (j := j) (hP.sub [0, 1, 2, 3, 4, 5, 6] rfl) hj hp ep) (cwV 1 hts gX3_cardCode_X3_sizeAt rfl rfl rfl (by decide +kernel) ⟨Nat.le_of_ble_eq_true rfl, Nat.le_of_ble_eq_true rfl⟩) (Pq.V hC hS hN (va_recv hK hP (ci := 3) (q0 := 0) rfl rfl)) rfl rfl hl.1 rfl (lv_room (Nat.le_of_ble_eq_true rfl)) dX3_cardCode_16 ⟨Nat.le_of_ble_eq_true rfl, Nat.le_of_ble_eq_true rfl⟩) hS (fun r_2 locs hw hS => ?_)
  have hw : r_2 = sz pp := hw
  subst hw
  refine lv_iconst (v := 1) hx hb dX3_cardCode_19 (by decide) ?_
  refine lv_isub hx hb dX3_cardCode_20 ?_
  refine ro_i (va_runS (As := [.int i0, .int 0, .int ((sz pp) - 1)]) (rest := []) ⟨hx, hb, hml, hown, hts⟩ (c_X3_in l (v0 := i0) (l0 := 0) (u0 := (sz pp) - 1)) (va_cwS 3 hts gX3_cardCode_X3_in rfl rfl rfl (by decide +kernel) ⟨Nat.le_of_ble_eq_true rfl, Nat.le_of_ble_eq_true rfl⟩) (Pq.S hC hS hN) rfl rfl hl.1 rfl (lv_room (Nat.le_of_ble_eq_true rfl)) dX3_cardCode_21 ⟨Nat.le_of_ble_eq_true rfl, Nat.le_of_ble_eq_true rfl⟩) hS (fun r_3 locs hw hS => ?_)
  have hw : r_3 = tB (0 ≤ i0 ∧ i0 ≤ ((sz pp) - 1)) := hw
  subst hw
  refine lv_if_ne (tgt := 31) hx hb dX3_cardCode_24 (by decide) (fun c9 => absurd (tB_0.mpr (show ¬ (0 ≤ i0 ∧ i0 ≤ sz pp - 1) by rw [ez]; exact fun h9 => hi ((okF_iff hz).mp h9))) c9) (fun _ => ?_)
  refine lv_iconst (v := 3) hx hb dX3_cardCode_27 (by decide) ?_
  refine lv_goto (tgt := 32) hx hb dX3_cardCode_28 (by decide) ?_
  exact W.iret (v := 3) hx hb hr (fun t ht hW => ⟨⟨_, (), rfl, rfl, ht⟩, hS.F ht⟩) hS.2.2 dX3_cardCode_32
set_option maxHeartbeats 4000000 in
set_option maxRecDepth 100000 in
theorem c_X3_cardCode0 (l : Launch) {D : va_G} {cI cL cQ : ClassId} {N0 : Nat} {sa : Nat → Nat} {Hc : Heap} {m0 a0 a1 a2 a3 a4 a5 : Nat} {on kd sz : Nat → Int32} {fr li : Nat → Int64} {st : Nat → Int32} {mi : Nat → Int32} {j pp z : Nat} {i0 : Int32} (hP : va_P D vwCl [(m0, .inr (3, [.ref a0, .ref a1, .ref a2, .ref a3, .ref a4, .ref a5, .int (mi 0), .int (mi 1), .int (mi 2), .int (mi 3), .int (mi 4), .int (mi 5), .int (mi 6), .int (mi 7), .int (mi 8)])), (a0, .inl (cI, 6, .inl on)), (a1, .inl (cI, 7, .inl kd)), (a2, .inl (cI, 7, .inl sz)), (a3, .inl (cL, 280, .inr (.inl fr))), (a4, .inl (cL, 40, .inr (.inl li))), (a5, .inl (cI, 120, .inl st))] Hc) (hO : OnOk on) (hj : j < 6) (hp : pp < 7) (ep : on j = nI pp) (hz : z ≤ 40) (ez : sz pp = nI z) (hc : 3 ≤ mK on kd j ∧ mK on kd j ≤ 4) (hi : okF i0 z) : Met l yX3_cardCode wsX3_cardCode ({ frames := 2, cells := 0, slots := 0, locals := 43 }) (Pq D cI cL cQ N0 sa [.ref m0, .int (nI j), .int i0] Hc) (va_Qi (fun (r : Int32) (_ : Unit) => r = 0) (fun _ t => t.heap = Hc) nA) 0 0 nA := by
  refine Met.ofW (cc := cX3_cardCode) (maxL := 3) (ret := (some .int)) (by decide) rfl ?_
  intro p e s m args below meth c s₁ B hml hv
  obtain ⟨rfl, hH, hC⟩ := hv
  have hx := B.exec
  have hb := B.bytes
  have hr := B.returns
  have hts := atoms_spec (ws := wsX3_cardCode) B.pre
  have hown : s.vm.findClass RX3 = some m.cls := findClass_of_methodNamed B.named
  have hlocks := B.notSynchronized
  subst hH
  have hK := hC.K
  have hl := lv_entry ([.ref m0, .int (nI j), .int i0]) (n := 3) (Nat.le_of_ble_eq_true rfl)
  rw [lg_entry_eq]
  generalize (lg_sl ([.ref m0, .int (nI j), .int i0]) ++ List.replicate (3 - (lg_sl ([.ref m0, .int (nI j), .int i0])).length) Slot.unset).toArray = ls at hl ⊢
  have hl : lv_has ls 3 [(0, .ref m0), (1, .int (nI j)), (2, .int i0)] := hl
  have hP : va_P D vwCl [(m0, .inr (3, [.ref a0, .ref a1, .ref a2, .ref a3, .ref a4, .ref a5, .int (mi 0), .int (mi 1), .int (mi 2), .int (mi 3), .int (mi 4), .int (mi 5), .int (mi 6), .int (mi 7), .int (mi 8)])), (a0, .inl (cI, 6, .inl on)), (a1, .inl (cI, 7, .inl kd)), (a2, .inl (cI, 7, .inl sz)), (a3, .inl (cL, 280, .inr (.inl fr))), (a4, .inl (cL, 40, .inr (.inl li))), (a5, .inl (cI, 120, .inl st))] s.heap := hP
  have hS : va_S nA s.heap s.heap [] := va_S.rf
  have hN : ∀ q, nA q → N0 ≤ q := nA_N
  refine lv_aload_n hx hb dX3_cardCode_0 rfl (lv_at hl 0 rfl) ?_
  refine lv_iload_n hx hb dX3_cardCode_1 rfl (lv_at hl 1 rfl) ?_
  refine ro_i (va_runV (As := [.int (nI j)]) (rest := []) ⟨hx, hb, hml, hown, hts⟩ (c_X3_hasCards l (j := j) (hP.sub [0, 1, 2, 3, 4, 5, 6] rfl) hO hj) (cwV 1 hts gX3_cardCode_X3_hasCards rfl rfl rfl (by decide +kernel) ⟨Nat.le_of_ble_eq_true rfl, Nat.le_of_ble_eq_true rfl⟩) (Pq.V hC hS hN (va_recv hK hP (ci := 3) (q0 := 0) rfl rfl)) rfl rfl hl.1 rfl (lv_room (Nat.le_of_ble_eq_true rfl)) dX3_cardCode_2 ⟨Nat.le_of_ble_eq_true rfl, Nat.le_of_ble_eq_true rfl⟩) hS (fun r_1 locs hw hS => ?_)
  have hw : r_1 = tB (3 ≤ mK on kd j ∧ mK on kd j ≤ 4) := hw
  subst hw
  refine lv_if_ne (tgt := 12) hx hb dX3_cardCode_5 (by decide) (fun _ => ?_) (fun c9 => absurd c9 (tB_n.mpr (hc)))
  refine lv_iload_n hx hb dX3_cardCode_12 rfl (lv_at hl 2 rfl) ?_
  refine lv_iconst (v := 0) hx hb dX3_cardCode_13 (by decide) ?_
  refine lv_aload_n hx hb dX3_cardCode_14 rfl (lv_at hl 0 rfl) ?_
  refine lv_iload_n hx hb dX3_cardCode_15 rfl (lv_at hl 1 rfl) ?_
  refine ro_i (va_runV (As := [.int (nI j)]) (rest := [.int 0, .int i0]) ⟨hx, hb, hml, hown, hts⟩ (c_X3_sizeAt l (j := j) (hP.sub [0, 1, 2, 3, 4, 5, 6] rfl) hj hp ep) (cwV 1 hts gX3_cardCode_X3_sizeAt rfl rfl rfl (by decide +kernel) ⟨Nat.le_of_ble_eq_true rfl, Nat.le_of_ble_eq_true rfl⟩) (Pq.V hC hS hN (va_recv hK hP (ci := 3) (q0 := 0) rfl rfl)) rfl rfl hl.1 rfl (lv_room (Nat.le_of_ble_eq_true rfl)) dX3_cardCode_16 ⟨Nat.le_of_ble_eq_true rfl, Nat.le_of_ble_eq_true rfl⟩) hS (fun r_2 locs hw hS => ?_)
  have hw : r_2 = sz pp := hw
  subst hw
  refine lv_iconst (v := 1) hx hb dX3_cardCode_19 (by decide) ?_
  refine lv_isub hx hb dX3_cardCode_20 ?_
  refine ro_i (va_runS (As := [.int i0, .int 0, .int ((sz pp) - 1)]) (rest := []) ⟨hx, hb, hml, hown, hts⟩ (c_X3_in l (v0 := i0) (l0 := 0) (u0 := (sz pp) - 1)) (va_cwS 3 hts gX3_cardCode_X3_in rfl rfl rfl (by decide +kernel) ⟨Nat.le_of_ble_eq_true rfl, Nat.le_of_ble_eq_true rfl⟩) (Pq.S hC hS hN) rfl rfl hl.1 rfl (lv_room (Nat.le_of_ble_eq_true rfl)) dX3_cardCode_21 ⟨Nat.le_of_ble_eq_true rfl, Nat.le_of_ble_eq_true rfl⟩) hS (fun r_3 locs hw hS => ?_)
  have hw : r_3 = tB (0 ≤ i0 ∧ i0 ≤ ((sz pp) - 1)) := hw
  subst hw
  refine lv_if_ne (tgt := 31) hx hb dX3_cardCode_24 (by decide) (fun _ => ?_) (fun c9 => absurd c9 (tB_n.mpr (show 0 ≤ i0 ∧ i0 ≤ sz pp - 1 by rw [ez]; exact (okF_iff hz).mpr hi)))
  refine lv_iconst (v := 0) hx hb dX3_cardCode_31 (by decide) ?_
  exact W.iret (v := 0) hx hb hr (fun t ht hW => ⟨⟨_, (), rfl, rfl, ht⟩, hS.F ht⟩) hS.2.2 dX3_cardCode_32
end CModel
