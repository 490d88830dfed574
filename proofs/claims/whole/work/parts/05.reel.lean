section CReel
/-- kinds of reels -/
def kCards (k : Int32) : Prop := k = 3 ∨ k = 4
def kNums (k : Int32) : Prop := k = 1 ∨ k = 2
theorem kCards_iff (k : Int32) : kCards k ↔ k = 3 ∨ k = 4 := Iff.rfl
theorem kNums_iff (k : Int32) : kNums k ↔ k = 1 ∨ k = 2 := Iff.rfl
theorem iw_X1_holdsCards_X1 : ∀ w ∈ wsX10, w ∈ wsX1_holdsCards := by decide +kernel
theorem lk_X1_holdsCards_Cond_fieldLink_RX1_9_SpliceRoom_Reel_kind_I_ : Cond.fieldLink RX1 9 "SpliceRoom$Reel" "kind" "I" ∈ wsX1_holdsCards := by decide +kernel
set_option maxHeartbeats 4000000 in
set_option maxRecDepth 100000 in
theorem c_X1_holdsCards (l : Launch) {D : va_G} {cI cL cQ : ClassId} {N0 : Nat} {sa : Nat → Nat} {Hc : Heap} {h0 w0 : Nat} {kd : Int32} (hP : va_P D vwCl [(h0, .inr (1, [.int kd, .ref w0]))] Hc) : Met l yX1_holdsCards wsX1_holdsCards ({ frames := 0, cells := 0, slots := 0, locals := 0 }) (Pq D cI cL cQ N0 sa [.ref h0] Hc) (va_Qi (fun (r : Int32) (_ : Unit) => r = tB (kd = 3 ∨ kd = 4)) (fun _ t => t.heap = Hc) nA) 0 0 nA := by
  refine Met.ofW (cc := cX1_holdsCards) (maxL := 1) (ret := (some .boolean)) (by decide) rfl ?_
  intro p e s m args below meth c s₁ B hml hv
  obtain ⟨rfl, hH, hC⟩ := hv
  have hx := B.exec
  have hb := B.bytes
  have hr := B.returns
  have hts := atoms_spec (ws := wsX1_holdsCards) B.pre
  have hown : s.vm.findClass RX1 = some m.cls := findClass_of_methodNamed B.named
  have hlocks := B.notSynchronized
  subst hH
  have hK := hC.K
  have hl := lv_entry ([.ref h0]) (n := 1) (Nat.le_of_ble_eq_true rfl)
  rw [lg_entry_eq]
  generalize (lg_sl ([.ref h0]) ++ List.replicate (1 - (lg_sl ([.ref h0])).length) Slot.unset).toArray = ls at hl ⊢
  have hl : lv_has ls 1 [(0, .ref h0)] := hl
  have hP : va_P D vwCl [(h0, .inr (1, [.int kd, .ref w0]))] s.heap := hP
  have hS : va_S nA s.heap s.heap [] := va_S.rf
  have hN : ∀ q, nA q → N0 ≤ q := nA_N
  refine lv_aload_n hx hb dX1_holdsCards_0 rfl (lv_at hl 0 rfl) ?_
  refine va_get (D := D) (ci := 1) (v := .int kd) (C := RX1) (T := TX1) (N := 2) hx hb hts iw_X1_holdsCards_X1 hown hK hP 0 rfl rfl 0 (by decide) (hts _ lk_X1_holdsCards_Cond_fieldLink_RX1_9_SpliceRoom_Reel_kind_I_) (fun _ h9 => h9) rfl dX1_holdsCards_1 ?_
  refine lv_iconst (v := 3) hx hb dX1_holdsCards_4 (by decide) ?_
  refine lv_icmp_eq (tgt := 16) hx hb dX1_holdsCards_5 (by decide) (fun c_5 => ?_) (fun c_5 => ?_)
  · refine lv_iconst (v := 1) hx hb dX1_holdsCards_16 (by decide) ?_
    refine lv_goto (tgt := 21) hx hb dX1_holdsCards_17 (by decide) ?_
    exact W.zret (v := 1) hx hb hr (rfl) (fun t ht hW => ⟨⟨_, (), rfl, (tB_t (by simp [c_5])).symm, ht⟩, hS.F ht⟩) hS.2.2 dX1_holdsCards_21
  · refine lv_aload_n hx hb dX1_holdsCards_8 rfl (lv_at hl 0 rfl) ?_
    refine va_get (D := D) (ci := 1) (v := .int kd) (C := RX1) (T := TX1) (N := 2) hx hb hts iw_X1_holdsCards_X1 hown hK hP 0 rfl rfl 0 (by decide) (hts _ lk_X1_holdsCards_Cond_fieldLink_RX1_9_SpliceRoom_Reel_kind_I_) (fun _ h9 => h9) rfl dX1_holdsCards_9 ?_
    refine lv_iconst (v := 4) hx hb dX1_holdsCards_12 (by decide) ?_
    refine lv_icmp_ne (tgt := 20) hx hb dX1_holdsCards_13 (by decide) (fun c_13 => ?_) (fun c_13 => ?_)
    · refine lv_iconst (v := 0) hx hb dX1_holdsCards_20 (by decide) ?_
      exact W.zret (v := 0) hx hb hr (rfl) (fun t ht hW => ⟨⟨_, (), rfl, (tB_f (by simp [c_5, c_13])).symm, ht⟩, hS.F ht⟩) hS.2.2 dX1_holdsCards_21
    · refine lv_iconst (v := 1) hx hb dX1_holdsCards_16 (by decide) ?_
      refine lv_goto (tgt := 21) hx hb dX1_holdsCards_17 (by decide) ?_
      exact W.zret (v := 1) hx hb hr (rfl) (fun t ht hW => ⟨⟨_, (), rfl, (tB_t (by simp [c_5, c_13])).symm, ht⟩, hS.F ht⟩) hS.2.2 dX1_holdsCards_21
theorem iw_X1_holdsNumbers_X1 : ∀ w ∈ wsX10, w ∈ wsX1_holdsNumbers := by decide +kernel
theorem lk_X1_holdsNumbers_Cond_fieldLink_RX1_9_SpliceRoom_Reel_kind_I_ : Cond.fieldLink RX1 9 "SpliceRoom$Reel" "kind" "I" ∈ wsX1_holdsNumbers := by decide +kernel
set_option maxHeartbeats 4000000 in
set_option maxRecDepth 100000 in
theorem c_X1_holdsNumbers (l : Launch) {D : va_G} {cI cL cQ : ClassId} {N0 : Nat} {sa : Nat → Nat} {Hc : Heap} {h0 w0 : Nat} {kd : Int32} (hP : va_P D vwCl [(h0, .inr (1, [.int kd, .ref w0]))] Hc) : Met l yX1_holdsNumbers wsX1_holdsNumbers ({ frames := 0, cells := 0, slots := 0, locals := 0 }) (Pq D cI cL cQ N0 sa [.ref h0] Hc) (va_Qi (fun (r : Int32) (_ : Unit) => r = tB (kd = 1 ∨ kd = 2)) (fun _ t => t.heap = Hc) nA) 0 0 nA := by
  refine Met.ofW (cc := cX1_holdsNumbers) (maxL := 1) (ret := (some .boolean)) (by decide) rfl ?_
  intro p e s m args below meth c s₁ B hml hv
  obtain ⟨rfl, hH, hC⟩ := hv
  have hx := B.exec
  have hb := B.bytes
  have hr := B.returns
  have hts := atoms_spec (ws := wsX1_holdsNumbers) B.pre
  have hown : s.vm.findClass RX1 = some m.cls := findClass_of_methodNamed B.named
  have hlocks := B.notSynchronized
  subst hH
  have hK := hC.K
  have hl := lv_entry ([.ref h0]) (n := 1) (Nat.le_of_ble_eq_true rfl)
  rw [lg_entry_eq]
  generalize (lg_sl ([.ref h0]) ++ List.replicate (1 - (lg_sl ([.ref h0])).length) Slot.unset).toArray = ls at hl ⊢
  have hl : lv_has ls 1 [(0, .ref h0)] := hl
  have hP : va_P D vwCl [(h0, .inr (1, [.int kd, .ref w0]))] s.heap := hP
  have hS : va_S nA s.heap s.heap [] := va_S.rf
  have hN : ∀ q, nA q → N0 ≤ q := nA_N
  refine lv_aload_n hx hb dX1_holdsNumbers_0 rfl (lv_at hl 0 rfl) ?_
  refine va_get (D := D) (ci := 1) (v := .int kd) (C := RX1) (T := TX1) (N := 2) hx hb hts iw_X1_holdsNumbers_X1 hown hK hP 0 rfl rfl 0 (by decide) (hts _ lk_X1_holdsNumbers_Cond_fieldLink_RX1_9_SpliceRoom_Reel_kind_I_) (fun _ h9 => h9) rfl dX1_holdsNumbers_1 ?_
  refine lv_iconst (v := 1) hx hb dX1_holdsNumbers_4 (by decide) ?_
  refine lv_icmp_eq (tgt := 16) hx hb dX1_holdsNumbers_5 (by decide) (fun c_5 => ?_) (fun c_5 => ?_)
  · refine lv_iconst (v := 1) hx hb dX1_holdsNumbers_16 (by decide) ?_
    refine lv_goto (tgt := 21) hx hb dX1_holdsNumbers_17 (by decide) ?_
    exact W.zret (v := 1) hx hb hr (rfl) (fun t ht hW => ⟨⟨_, (), rfl, (tB_t (by simp [c_5])).symm, ht⟩, hS.F ht⟩) hS.2.2 dX1_holdsNumbers_21
  · refine lv_aload_n hx hb dX1_holdsNumbers_8 rfl (lv_at hl 0 rfl) ?_
    refine va_get (D := D) (ci := 1) (v := .int kd) (C := RX1) (T := TX1) (N := 2) hx hb hts iw_X1_holdsNumbers_X1 hown hK hP 0 rfl rfl 0 (by decide) (hts _ lk_X1_holdsNumbers_Cond_fieldLink_RX1_9_SpliceRoom_Reel_kind_I_) (fun _ h9 => h9) rfl dX1_holdsNumbers_9 ?_
    refine lv_iconst (v := 2) hx hb dX1_holdsNumbers_12 (by decide) ?_
    refine lv_icmp_ne (tgt := 20) hx hb dX1_holdsNumbers_13 (by decide) (fun c_13 => ?_) (fun c_13 => ?_)
    · refine lv_iconst (v := 0) hx hb dX1_holdsNumbers_20 (by decide) ?_
      exact W.zret (v := 0) hx hb hr (rfl) (fun t ht hW => ⟨⟨_, (), rfl, (tB_f (by simp [c_5, c_13])).symm, ht⟩, hS.F ht⟩) hS.2.2 dX1_holdsNumbers_21
    · refine lv_iconst (v := 1) hx hb dX1_holdsNumbers_16 (by decide) ?_
      refine lv_goto (tgt := 21) hx hb dX1_holdsNumbers_17 (by decide) ?_
      exact W.zret (v := 1) hx hb hr (rfl) (fun t ht hW => ⟨⟨_, (), rfl, (tB_t (by simp [c_5, c_13])).symm, ht⟩, hS.F ht⟩) hS.2.2 dX1_holdsNumbers_21
/-- two reels that a cut may go between -/
abbrev kLike (a b : Int32) : Prop := ((a = 3 ∨ a = 4) ∧ (b = 3 ∨ b = 4)) ∨ ((a = 1 ∨ a = 2) ∧ a = b)
theorem kLike_n {a b : Int32} (h : ¬ (a = 3 ∨ a = 4)) : kLike a b ↔ ((a = 1 ∨ a = 2) ∧ a = b) := ⟨fun q => q.elim (fun z => absurd z.1 h) id, Or.inr⟩
theorem kLike_c {a b : Int32} (h : a = 3 ∨ a = 4) : kLike a b ↔ (b = 3 ∨ b = 4) := ⟨fun q => q.elim (fun z => z.2) (fun z => by rcases h with rfl | rfl <;> rcases z.1 with h9 | h9 <;> exact absurd h9 (by decide)), fun z => Or.inl ⟨h, z⟩⟩
theorem tB_c {c d : Prop} [Decidable c] [Decidable d] (h : c ↔ d) : tB c = tB d := by
  by_cases q : c
  · rw [tB_t q, tB_t (h.mp q)]
  · rw [tB_f q, tB_f (fun z => q (h.mpr z))]
theorem iw_X1_isLike_X1 : ∀ w ∈ wsX10, w ∈ wsX1_isLike := by decide +kernel
theorem lk_X1_isLike_Cond_fieldLink_RX1_9_SpliceRoom_Reel_kind_I_ : Cond.fieldLink RX1 9 "SpliceRoom$Reel" "kind" "I" ∈ wsX1_isLike := by decide +kernel
set_option maxHeartbeats 4000000 in
set_option maxRecDepth 100000 in
theorem c_X1_isLike (l : Launch) {D : va_G} {cI cL cQ : ClassId} {N0 : Nat} {sa : Nat → Nat} {Hc : Heap} {h0 w0 : Nat} {kd : Int32} {h1 w1 : Nat} {ke : Int32} (hP : va_P D vwCl [(h0, .inr (1, [.int kd, .ref w0])), (h1, .inr (1, [.int ke, .ref w1]))] Hc) : Met l yX1_isLike wsX1_isLike ({ frames := 1, cells := 0, slots := 0, locals := 20 }) (Pq D cI cL cQ N0 sa [.ref h0, .ref h1] Hc) (va_Qi (fun (r : Int32) (_ : Unit) => r = tB (kLike kd ke)) (fun _ t => t.heap = Hc) nA) 0 0 nA := by
  refine Met.ofW (cc := cX1_isLike) (maxL := 2) (ret := (some .boolean)) (by decide) rfl ?_
  intro p e s m args below meth c s₁ B hml hv
  obtain ⟨rfl, hH, hC⟩ := hv
  have hx := B.exec
  have hb := B.bytes
  have hr := B.returns
  have hts := atoms_spec (ws := wsX1_isLike) B.pre
  have hown : s.vm.findClass RX1 = some m.cls := findClass_of_methodNamed B.named
  have hlocks := B.notSynchronized
  subst hH
  have hK := hC.K
  have hl := lv_entry ([.ref h0, .ref h1]) (n := 2) (Nat.le_of_ble_eq_true rfl)
  rw [lg_entry_eq]
  generalize (lg_sl ([.ref h0, .ref h1]) ++ List.replicate (2 - (lg_sl ([.ref h0, .ref h1])).length) Slot.unset).toArray = ls at hl ⊢
  have hl : lv_has ls 2 [(0, .ref h0), (1, .ref h1)] := hl
  have hP : va_P D vwCl [(h0, .inr (1, [.int kd, .ref w0])), (h1, .inr (1, [.int ke, .ref w1]))] s.heap := hP
  have hS : va_S nA s.heap s.heap [] := va_S.rf
  have hN : ∀ q, nA q → N0 ≤ q := nA_N
  refine lv_aload_n hx hb dX1_isLike_0 rfl (lv_at hl 0 rfl) ?_
  refine ro_i (va_runV (As := []) (rest := []) ⟨hx, hb, hml, hown, hts⟩ (c_X1_holdsCards l (h0 := h0) (hP.sub [0] rfl)) (cwV 0 hts gX1_isLike_X1_holdsCards rfl rfl rfl (by decide +kernel) ⟨Nat.le_of_ble_eq_true rfl, Nat.le_of_ble_eq_true rfl⟩) (Pq.V hC hS hN (va_recv hK hP (ci := 1) (q0 := 0) rfl rfl)) rfl rfl hl.1 rfl (lv_room (Nat.le_of_ble_eq_true rfl)) dX1_isLike_1 ⟨Nat.le_of_ble_eq_true rfl, Nat.le_of_ble_eq_true rfl⟩) hS (fun r_1 locs hw hS => ?_)
  have hw : r_1 = tB (kd = 3 ∨ kd = 4) := hw
  subst hw
  refine lv_if_eq (tgt := 14) hx hb dX1_isLike_4 (by decide) (fun c_4 => ?_) (fun c_4 => ?_)
  · have c_4 := tB_0.mp c_4
    refine lv_aload_n hx hb dX1_isLike_14 rfl (lv_at hl 0 rfl) ?_
    refine ro_i (va_runV (As := []) (rest := []) ⟨hx, hb, hml, hown, hts⟩ (c_X1_holdsNumbers l (h0 := h0) (hP.sub [0] rfl)) (cwV 0 hts gX1_isLike_X1_holdsNumbers rfl rfl rfl (by decide +kernel) ⟨Nat.le_of_ble_eq_true rfl, Nat.le_of_ble_eq_true rfl⟩) (Pq.V hC hS hN (va_recv hK hP (ci := 1) (q0 := 0) rfl rfl)) rfl rfl hl.1 rfl (lv_room (Nat.le_of_ble_eq_true rfl)) dX1_isLike_15 ⟨Nat.le_of_ble_eq_true rfl, Nat.le_of_ble_eq_true rfl⟩) hS (fun r_2 locs hw hS => ?_)
    have hw : r_2 = tB (kd = 1 ∨ kd = 2) := hw
    subst hw
    refine lv_if_eq (tgt := 36) hx hb dX1_isLike_18 (by decide) (fun c_18 => ?_) (fun c_18 => ?_)
    · have c_18 := tB_0.mp c_18
      refine lv_iconst (v := 0) hx hb dX1_isLike_36 (by decide) ?_
      exact W.zret (v := 0) hx hb hr (rfl) (fun t ht hW => ⟨⟨_, (), rfl, (tB_f (fun h9 => c_18 ((kLike_n c_4).mp h9).1)).symm, ht⟩, hS.F ht⟩) hS.2.2 dX1_isLike_37
    · have c_18 := tB_n.mp c_18
      refine lv_aload_n hx hb dX1_isLike_21 rfl (lv_at hl 0 rfl) ?_
      refine va_get (D := D) (ci := 1) (v := .int kd) (C := RX1) (T := TX1) (N := 2) hx hb hts iw_X1_isLike_X1 hown hK hP 0 rfl rfl 0 (by decide) (hts _ lk_X1_isLike_Cond_fieldLink_RX1_9_SpliceRoom_Reel_kind_I_) (fun _ h9 => h9) rfl dX1_isLike_22 ?_
      refine lv_aload_n hx hb dX1_isLike_25 rfl (lv_at hl 1 rfl) ?_
      refine va_get (D := D) (ci := 1) (v := .int ke) (C := RX1) (T := TX1) (N := 2) hx hb hts iw_X1_isLike_X1 hown hK hP 1 rfl rfl 0 (by decide) (hts _ lk_X1_isLike_Cond_fieldLink_RX1_9_SpliceRoom_Reel_kind_I_) (fun _ h9 => h9) rfl dX1_isLike_26 ?_
      refine lv_icmp_ne (tgt := 36) hx hb dX1_isLike_29 (by decide) (fun c_29 => ?_) (fun c_29 => ?_)
      · refine lv_iconst (v := 0) hx hb dX1_isLike_36 (by decide) ?_
        exact W.zret (v := 0) hx hb hr (rfl) (fun t ht hW => ⟨⟨_, (), rfl, (tB_f (fun h9 => c_29 ((kLike_n c_4).mp h9).2)).symm, ht⟩, hS.F ht⟩) hS.2.2 dX1_isLike_37
      · refine lv_iconst (v := 1) hx hb dX1_isLike_32 (by decide) ?_
        refine lv_goto (tgt := 37) hx hb dX1_isLike_33 (by decide) ?_
        exact W.zret (v := 1) hx hb hr (rfl) (fun t ht hW => ⟨⟨_, (), rfl, (tB_t ((kLike_n c_4).mpr ⟨c_18, c_29⟩)).symm, ht⟩, hS.F ht⟩) hS.2.2 dX1_isLike_37
  · have c_4 := tB_n.mp c_4
    refine lv_aload_n hx hb dX1_isLike_7 rfl (lv_at hl 1 rfl) ?_
    refine ro_i (va_runV (As := []) (rest := []) ⟨hx, hb, hml, hown, hts⟩ (c_X1_holdsCards l (h0 := h1) (hP.sub [1] rfl)) (cwV 0 hts gX1_isLike_X1_holdsCards rfl rfl rfl (by decide +kernel) ⟨Nat.le_of_ble_eq_true rfl, Nat.le_of_ble_eq_true rfl⟩) (Pq.V hC hS hN (va_recv hK hP (ci := 1) (q0 := 1) rfl rfl)) rfl rfl hl.1 rfl (lv_room (Nat.le_of_ble_eq_true rfl)) dX1_isLike_8 ⟨Nat.le_of_ble_eq_true rfl, Nat.le_of_ble_eq_true rfl⟩) hS (fun r_3 locs hw hS => ?_)
    have hw : r_3 = tB (ke = 3 ∨ ke = 4) := hw
    subst hw
    refine lv_goto (tgt := 37) hx hb dX1_isLike_11 (by decide) ?_
    exact W.zret (v := tB (ke = 3 ∨ ke = 4)) hx hb hr (tB_nar _) (fun t ht hW => ⟨⟨_, (), rfl, (tB_c (kLike_c c_4)).symm, ht⟩, hS.F ht⟩) hS.2.2 dX1_isLike_37
set_option maxHeartbeats 4000000 in
set_option maxRecDepth 100000 in
theorem c_X1_isLikeS (l : Launch) {D : va_G} {cI cL cQ : ClassId} {N0 : Nat} {sa : Nat → Nat} {Hc : Heap} {h0 w0 : Nat} {kd : Int32} (hP : va_P D vwCl [(h0, .inr (1, [.int kd, .ref w0]))] Hc) : Met l yX1_isLike wsX1_isLike ({ frames := 1, cells := 0, slots := 0, locals := 20 }) (Pq D cI cL cQ N0 sa [.ref h0, .ref h0] Hc) (va_Qi (fun (r : Int32) (_ : Unit) => r = tB (kLike kd kd)) (fun _ t => t.heap = Hc) nA) 0 0 nA := by
  refine Met.ofW (cc := cX1_isLike) (maxL := 2) (ret := (some .boolean)) (by decide) rfl ?_
  intro p e s m args below meth c s₁ B hml hv
  obtain ⟨rfl, hH, hC⟩ := hv
  have hx := B.exec
  have hb := B.bytes
  have hr := B.returns
  have hts := atoms_spec (ws := wsX1_isLike) B.pre
  have hown : s.vm.findClass RX1 = some m.cls := findClass_of_methodNamed B.named
  have hlocks := B.notSynchronized
  subst hH
  have hK := hC.K
  have hl := lv_entry ([.ref h0, .ref h0]) (n := 2) (Nat.le_of_ble_eq_true rfl)
  rw [lg_entry_eq]
  generalize (lg_sl ([.ref h0, .ref h0]) ++ List.replicate (2 - (lg_sl ([.ref h0, .ref h0])).length) Slot.unset).toArray = ls at hl ⊢
  have hl : lv_has ls 2 [(0, .ref h0), (1, .ref h0)] := hl
  have hP : va_P D vwCl [(h0, .inr (1, [.int kd, .ref w0]))] s.heap := hP
  have hS : va_S nA s.heap s.heap [] := va_S.rf
  have hN : ∀ q, nA q → N0 ≤ q := nA_N
  refine lv_aload_n hx hb dX1_isLike_0 rfl (lv_at hl 0 rfl) ?_
  refine ro_i (va_runV (As := []) (rest := []) ⟨hx, hb, hml, hown, hts⟩ (c_X1_holdsCards l (h0 := h0) (hP.sub [0] rfl)) (cwV 0 hts gX1_isLike_X1_holdsCards rfl rfl rfl (by decide +kernel) ⟨Nat.le_of_ble_eq_true rfl, Nat.le_of_ble_eq_true rfl⟩) (Pq.V hC hS hN (va_recv hK hP (ci := 1) (q0 := 0) rfl rfl)) rfl rfl hl.1 rfl (lv_room (Nat.le_of_ble_eq_true rfl)) dX1_isLike_1 ⟨Nat.le_of_ble_eq_true rfl, Nat.le_of_ble_eq_true rfl⟩) hS (fun r_1 locs hw hS => ?_)
  have hw : r_1 = tB (kd = 3 ∨ kd = 4) := hw
  subst hw
  refine lv_if_eq (tgt := 14) hx hb dX1_isLike_4 (by decide) (fun c_4 => ?_) (fun c_4 => ?_)
  · have c_4 := tB_0.mp c_4
    refine lv_aload_n hx hb dX1_isLike_14 rfl (lv_at hl 0 rfl) ?_
    refine ro_i (va_runV (As := []) (rest := []) ⟨hx, hb, hml, hown, hts⟩ (c_X1_holdsNumbers l (h0 := h0) (hP.sub [0] rfl)) (cwV 0 hts gX1_isLike_X1_holdsNumbers rfl rfl rfl (by decide +kernel) ⟨Nat.le_of_ble_eq_true rfl, Nat.le_of_ble_eq_true rfl⟩) (Pq.V hC hS hN (va_recv hK hP (ci := 1) (q0 := 0) rfl rfl)) rfl rfl hl.1 rfl (lv_room (Nat.le_of_ble_eq_true rfl)) dX1_isLike_15 ⟨Nat.le_of_ble_eq_true rfl, Nat.le_of_ble_eq_true rfl⟩) hS (fun r_2 locs hw hS => ?_)
    have hw : r_2 = tB (kd = 1 ∨ kd = 2) := hw
    subst hw
    refine lv_if_eq (tgt := 36) hx hb dX1_isLike_18 (by decide) (fun c_18 => ?_) (fun c_18 => ?_)
    · have c_18 := tB_0.mp c_18
      refine lv_iconst (v := 0) hx hb dX1_isLike_36 (by decide) ?_
      exact W.zret (v := 0) hx hb hr (rfl) (fun t ht hW => ⟨⟨_, (), rfl, (tB_f (fun h9 => c_18 ((kLike_n c_4).mp h9).1)).symm, ht⟩, hS.F ht⟩) hS.2.2 dX1_isLike_37
    · have c_18 := tB_n.mp c_18
      refine lv_aload_n hx hb dX1_isLike_21 rfl (lv_at hl 0 rfl) ?_
      refine va_get (D := D) (ci := 1) (v := .int kd) (C := RX1) (T := TX1) (N := 2) hx hb hts iw_X1_isLike_X1 hown hK hP 0 rfl rfl 0 (by decide) (hts _ lk_X1_isLike_Cond_fieldLink_RX1_9_SpliceRoom_Reel_kind_I_) (fun _ h9 => h9) rfl dX1_isLike_22 ?_
      refine lv_aload_n hx hb dX1_isLike_25 rfl (lv_at hl 1 rfl) ?_
      refine va_get (D := D) (ci := 1) (v := .int kd) (C := RX1) (T := TX1) (N := 2) hx hb hts iw_X1_isLike_X1 hown hK hP 0 rfl rfl 0 (by decide) (hts _ lk_X1_isLike_Cond_fieldLink_RX1_9_SpliceRoom_Reel_kind_I_) (fun _ h9 => h9) rfl dX1_isLike_26 ?_
      refine lv_icmp_ne (tgt := 36) hx hb dX1_isLike_29 (by decide) (fun c_29 => ?_) (fun c_29 => ?_)
      · refine lv_iconst (v := 0) hx hb dX1_isLike_36 (by decide) ?_
        exact W.zret (v := 0) hx hb hr (rfl) (fun t ht hW => ⟨⟨_, (), rfl, (tB_f (fun h9 => c_29 ((kLike_n c_4).mp h9).2)).symm, ht⟩, hS.F ht⟩) hS.2.2 dX1_isLike_37
      · refine lv_iconst (v := 1) hx hb dX1_isLike_32 (by decide) ?_
        refine lv_goto (tgt := 37) hx hb dX1_isLike_33 (by decide) ?_
        exact W.zret (v := 1) hx hb hr (rfl) (fun t ht hW => ⟨⟨_, (), rfl, (tB_t ((kLike_n c_4).mpr ⟨c_18, c_29⟩)).symm, ht⟩, hS.F ht⟩) hS.2.2 dX1_isLike_37
  · have c_4 := tB_n.mp c_4
    refine lv_aload_n hx hb dX1_isLike_7 rfl (lv_at hl 1 rfl) ?_
    refine ro_i (va_runV (As := []) (rest := []) ⟨hx, hb, hml, hown, hts⟩ (c_X1_holdsCards l (h0 := h0) (hP.sub [0] rfl)) (cwV 0 hts gX1_isLike_X1_holdsCards rfl rfl rfl (by decide +kernel) ⟨Nat.le_of_ble_eq_true rfl, Nat.le_of_ble_eq_true rfl⟩) (Pq.V hC hS hN (va_recv hK hP (ci := 1) (q0 := 0) rfl rfl)) rfl rfl hl.1 rfl (lv_room (Nat.le_of_ble_eq_true rfl)) dX1_isLike_8 ⟨Nat.le_of_ble_eq_true rfl, Nat.le_of_ble_eq_true rfl⟩) hS (fun r_3 locs hw hS => ?_)
    have hw : r_3 = tB (kd = 3 ∨ kd = 4) := hw
    subst hw
    refine lv_goto (tgt := 37) hx hb dX1_isLike_11 (by decide) ?_
    exact W.zret (v := tB (kd = 3 ∨ kd = 4)) hx hb hr (tB_nar _) (fun t ht hW => ⟨⟨_, (), rfl, (tB_c (kLike_c c_4)).symm, ht⟩, hS.F ht⟩) hS.2.2 dX1_isLike_37
/-- n frames from p on are there -/
abbrev inFr (p n : Int32) (z : Nat) : Prop := (0 ≤ p.toInt ∧ 0 ≤ n.toInt) ∧ p.toInt + n.toInt ≤ z
theorem i_nlt {x : Int32} (h : ¬ x < 0) : 0 ≤ x.toInt := by rw [Int32.lt_iff_toInt_lt, Int32.toInt_zero] at h; omega
theorem i_lt {x : Int32} (h : x < 0) : x.toInt < 0 := by rw [Int32.lt_iff_toInt_lt, Int32.toInt_zero] at h; exact h
theorem i_subn {z : Nat} (hz : z ≤ 40) {n : Int32} (h : 0 ≤ n.toInt) : (nI z - n).toInt = (z : Int) - n.toInt := by
  have h1 := n.toInt_lt
  rw [Int32.toInt_sub, nI_toInt (by omega)]
  refine Int.bmod_eq_of_le ?_ ?_ <;> omega
theorem inFr_no {p n : Int32} {z : Nat} (hz : z ≤ 40) (h1 : ¬ p < 0) (h2 : ¬ n < 0) (h3 : nI z - n < p) : ¬ inFr p n z := by
  rw [Int32.lt_iff_toInt_lt, i_subn hz (i_nlt h2)] at h3
  intro q
  have := q.2
  omega
theorem inFr_yes {p n : Int32} {z : Nat} (hz : z ≤ 40) (h1 : ¬ p < 0) (h2 : ¬ n < 0) (h3 : ¬ nI z - n < p) : inFr p n z := by
  rw [Int32.lt_iff_toInt_lt, i_subn hz (i_nlt h2)] at h3
  exact ⟨⟨i_nlt h1, i_nlt h2⟩, by omega⟩
theorem iw_X1_hasFrames_X1 : ∀ w ∈ wsX10, w ∈ wsX1_hasFrames := by decide +kernel
theorem lk_X1_hasFrames_Cond_fieldLink_RX1_15_SpliceRoom_Reel_row_J_ : Cond.fieldLink RX1 15 "SpliceRoom$Reel" "row" "[J" ∈ wsX1_hasFrames := by decide +kernel
set_option maxHeartbeats 4000000 in
set_option maxRecDepth 100000 in
theorem c_X1_hasFrames (l : Launch) {D : va_G} {cI cL cQ : ClassId} {N0 : Nat} {sa : Nat → Nat} {Hc : Heap} {h0 w0 : Nat} {kd : Int32} {z : Nat} {f : Nat → Int64} {p0 n0 : Int32} (hP : va_P D vwCl [(h0, .inr (1, [.int kd, .ref w0])), (w0, .inl (cL, z, .inr (.inl f)))] Hc) (hz : z ≤ 40) : Met l yX1_hasFrames wsX1_hasFrames ({ frames := 0, cells := 0, slots := 0, locals := 0 }) (Pq D cI cL cQ N0 sa [.ref h0, .int p0, .int n0] Hc) (va_Qi (fun (r : Int32) (_ : Unit) => r = tB (inFr p0 n0 z)) (fun _ t => t.heap = Hc) nA) 0 0 nA := by
  refine Met.ofW (cc := cX1_hasFrames) (maxL := 3) (ret := (some .boolean)) (by decide) rfl ?_
  intro p e s m args below meth c s₁ B hml hv
  obtain ⟨rfl, hH, hC⟩ := hv
  have hx := B.exec
  have hb := B.bytes
  have hr := B.returns
  have hts := atoms_spec (ws := wsX1_hasFrames) B.pre
  have hown : s.vm.findClass RX1 = some m.cls := findClass_of_methodNamed B.named
  have hlocks := B.notSynchronized
  subst hH
  have hK := hC.K
  have hl := lv_entry ([.ref h0, .int p0, .int n0]) (n := 3) (Nat.le_of_ble_eq_true rfl)
  rw [lg_entry_eq]
  generalize (lg_sl ([.ref h0, .int p0, .int n0]) ++ List.replicate (3 - (lg_sl ([.ref h0, .int p0, .int n0])).length) Slot.unset).toArray = ls at hl ⊢
  have hl : lv_has ls 3 [(0, .ref h0), (1, .int p0), (2, .int n0)] := hl
  have hP : va_P D vwCl [(h0, .inr (1, [.int kd, .ref w0])), (w0, .inl (cL, z, .inr (.inl f)))] s.heap := hP
  have hS : va_S nA s.heap s.heap [] := va_S.rf
  have hN : ∀ q, nA q → N0 ≤ q := nA_N
  refine lv_iload_n hx hb dX1_hasFrames_0 rfl (lv_at hl 1 rfl) ?_
  refine lv_if_lt (tgt := 23) hx hb dX1_hasFrames_1 (by decide) (fun c_1 => ?_) (fun c_1 => ?_)
  · refine lv_iconst (v := 0) hx hb dX1_hasFrames_23 (by decide) ?_
    exact W.zret (v := 0) hx hb hr (rfl) (fun t ht hW => ⟨⟨_, (), rfl, (tB_f (fun h9 => absurd (i_lt c_1) (Int.not_lt.mpr h9.1.1))).symm, ht⟩, hS.F ht⟩) hS.2.2 dX1_hasFrames_24
  · refine lv_iload_n hx hb dX1_hasFrames_4 rfl (lv_at hl 2 rfl) ?_
    refine lv_if_lt (tgt := 23) hx hb dX1_hasFrames_5 (by decide) (fun c_5 => ?_) (fun c_5 => ?_)
    · refine lv_iconst (v := 0) hx hb dX1_hasFrames_23 (by decide) ?_
      exact W.zret (v := 0) hx hb hr (rfl) (fun t ht hW => ⟨⟨_, (), rfl, (tB_f (fun h9 => absurd (i_lt c_5) (Int.not_lt.mpr h9.1.2))).symm, ht⟩, hS.F ht⟩) hS.2.2 dX1_hasFrames_24
    · refine lv_iload_n hx hb dX1_hasFrames_8 rfl (lv_at hl 1 rfl) ?_
      refine lv_aload_n hx hb dX1_hasFrames_9 rfl (lv_at hl 0 rfl) ?_
      refine va_get (D := D) (ci := 1) (v := .ref w0) (C := RX1) (T := TX1) (N := 2) hx hb hts iw_X1_hasFrames_X1 hown hK hP 0 rfl rfl 1 (by decide) (hts _ lk_X1_hasFrames_Cond_fieldLink_RX1_15_SpliceRoom_Reel_row_J_) (fun _ h9 => h9) rfl dX1_hasFrames_10 ?_
      refine va_alen (D := D) (v := nI z) hx hb hK hP 1 1 rfl rfl rfl dX1_hasFrames_13 ?_
      refine lv_iload_n hx hb dX1_hasFrames_14 rfl (lv_at hl 2 rfl) ?_
      refine lv_isub hx hb dX1_hasFrames_15 ?_
      refine lv_icmp_gt (tgt := 23) hx hb dX1_hasFrames_16 (by decide) (fun c_16 => ?_) (fun c_16 => ?_)
      · refine lv_iconst (v := 0) hx hb dX1_hasFrames_23 (by decide) ?_
        exact W.zret (v := 0) hx hb hr (rfl) (fun t ht hW => ⟨⟨_, (), rfl, (tB_f (inFr_no hz c_1 c_5 c_16)).symm, ht⟩, hS.F ht⟩) hS.2.2 dX1_hasFrames_24
      · refine lv_iconst (v := 1) hx hb dX1_hasFrames_19 (by decide) ?_
        refine lv_goto (tgt := 24) hx hb dX1_hasFrames_20 (by decide) ?_
        exact W.zret (v := 1) hx hb hr (rfl) (fun t ht hW => ⟨⟨_, (), rfl, (tB_t (inFr_yes hz c_1 c_5 c_16)).symm, ht⟩, hS.F ht⟩) hS.2.2 dX1_hasFrames_24
/-- a frame that may come to a reel of that kind -/
abbrev kTake (k : Int32) (v : Int64) : Prop := ¬ k = 4 ∨ v = -1 ∨ 1000 ≤ v
theorem iw_X1_takes_X1 : ∀ w ∈ wsX10, w ∈ wsX1_takes := by decide +kernel
theorem lk_X1_takes_Cond_constantLong_RX1_19_1_ : Cond.constantLong RX1 19 (-1) ∈ wsX1_takes := by decide +kernel
theorem lk_X1_takes_Cond_constantLong_RX1_28_1000 : Cond.constantLong RX1 28 1000 ∈ wsX1_takes := by decide +kernel
theorem lk_X1_takes_Cond_fieldLink_RX1_9_SpliceRoom_Reel_kind_I_ : Cond.fieldLink RX1 9 "SpliceRoom$Reel" "kind" "I" ∈ wsX1_takes := by decide +kernel
set_option maxHeartbeats 4000000 in
set_option maxRecDepth 100000 in
theorem c_X1_takes (l : Launch) {D : va_G} {cI cL cQ : ClassId} {N0 : Nat} {sa : Nat → Nat} {Hc : Heap} {h0 w0 : Nat} {kd : Int32} {v0 : Int64} (hP : va_P D vwCl [(h0, .inr (1, [.int kd, .ref w0]))] Hc) : Met l yX1_takes wsX1_takes ({ frames := 0, cells := 0, slots := 0, locals := 0 }) (Pq D cI cL cQ N0 sa [.ref h0, .long v0] Hc) (va_Qi (fun (r : Int32) (_ : Unit) => r = tB (kTake kd v0)) (fun _ t => t.heap = Hc) nA) 0 0 nA := by
  refine Met.ofW (cc := cX1_takes) (maxL := 3) (ret := (some .boolean)) (by decide) rfl ?_
  intro p e s m args below meth c s₁ B hml hv
  obtain ⟨rfl, hH, hC⟩ := hv
  have hx := B.exec
  have hb := B.bytes
  have hr := B.returns
  have hts := atoms_spec (ws := wsX1_takes) B.pre
  have hown : s.vm.findClass RX1 = some m.cls := findClass_of_methodNamed B.named
  have hlocks := B.notSynchronized
  subst hH
  have hK := hC.K
  have hl := lv_entry ([.ref h0, .long v0]) (n := 3) (Nat.le_of_ble_eq_true rfl)
  rw [lg_entry_eq]
  generalize (lg_sl ([.ref h0, .long v0]) ++ List.replicate (3 - (lg_sl ([.ref h0, .long v0])).length) Slot.unset).toArray = ls at hl ⊢
  have hl : lv_has ls 3 [(0, .ref h0), (1, .long v0)] := hl
  have hP : va_P D vwCl [(h0, .inr (1, [.int kd, .ref w0]))] s.heap := hP
  have hS : va_S nA s.heap s.heap [] := va_S.rf
  have hN : ∀ q, nA q → N0 ≤ q := nA_N
  refine lv_aload_n hx hb dX1_takes_0 rfl (lv_at hl 0 rfl) ?_
  refine va_get (D := D) (ci := 1) (v := .int kd) (C := RX1) (T := TX1) (N := 2) hx hb hts iw_X1_takes_X1 hown hK hP 0 rfl rfl 0 (by decide) (hts _ lk_X1_takes_Cond_fieldLink_RX1_9_SpliceRoom_Reel_kind_I_) (fun _ h9 => h9) rfl dX1_takes_1 ?_
  refine lv_iconst (v := 4) hx hb dX1_takes_4 (by decide) ?_
  refine lv_icmp_ne (tgt := 24) hx hb dX1_takes_5 (by decide) (fun c_5 => ?_) (fun c_5 => ?_)
  · refine lv_iconst (v := 1) hx hb dX1_takes_24 (by decide) ?_
    refine lv_goto (tgt := 29) hx hb dX1_takes_25 (by decide) ?_
    exact W.zret (v := 1) hx hb hr (rfl) (fun t ht hW => ⟨⟨_, (), rfl, (tB_t (Or.inl c_5)).symm, ht⟩, hS.F ht⟩) hS.2.2 dX1_takes_29
  · refine lv_lload_n hx hb dX1_takes_8 rfl (lv_at hl 1 rfl) ?_
    refine lv_ldc2 (v := (-1)) hx hb hown (hts _ lk_X1_takes_Cond_constantLong_RX1_19_1_) dX1_takes_9 ?_
    refine W.lcmp hx hb dX1_takes_12 ?_
    refine lv_if_eq (tgt := 24) hx hb dX1_takes_13 (by decide) (fun c_13 => ?_) (fun c_13 => ?_)
    · have c_13 := (lg_cmp_eq v0 (-1)).mp c_13
      refine lv_iconst (v := 1) hx hb dX1_takes_24 (by decide) ?_
      refine lv_goto (tgt := 29) hx hb dX1_takes_25 (by decide) ?_
      exact W.zret (v := 1) hx hb hr (rfl) (fun t ht hW => ⟨⟨_, (), rfl, (tB_t (Or.inr (Or.inl c_13))).symm, ht⟩, hS.F ht⟩) hS.2.2 dX1_takes_29
    · have c_13 := fun h9 => c_13 ((lg_cmp_eq v0 (-1)).mpr h9)
      refine lv_lload_n hx hb dX1_takes_16 rfl (lv_at hl 1 rfl) ?_
      refine lv_ldc2 (v := 1000) hx hb hown (hts _ lk_X1_takes_Cond_constantLong_RX1_28_1000) dX1_takes_17 ?_
      refine W.lcmp hx hb dX1_takes_20 ?_
      refine lv_if_lt (tgt := 28) hx hb dX1_takes_21 (by decide) (fun c_21 => ?_) (fun c_21 => ?_)
      · have c_21 := (lg_cmp_lt v0 1000).mp c_21
        refine lv_iconst (v := 0) hx hb dX1_takes_28 (by decide) ?_
        exact W.zret (v := 0) hx hb hr (rfl) (fun t ht hW => ⟨⟨_, (), rfl, (tB_f (fun h9 => h9.elim (fun z => z c_5) (fun z => z.elim c_13 (fun z => Int64.not_lt.mpr z c_21)))).symm, ht⟩, hS.F ht⟩) hS.2.2 dX1_takes_29
      · have c_21 := fun h9 => c_21 ((lg_cmp_lt v0 1000).mpr h9)
        refine lv_iconst (v := 1) hx hb dX1_takes_24 (by decide) ?_
        refine lv_goto (tgt := 29) hx hb dX1_takes_25 (by decide) ?_
        exact W.zret (v := 1) hx hb hr (rfl) (fun t ht hW => ⟨⟨_, (), rfl, (tB_t (Or.inr (Or.inr (Int64.not_lt.mp c_21)))).symm, ht⟩, hS.F ht⟩) hS.2.2 dX1_takes_29
theorem iw_X0_isBlunt_X0 : ∀ w ∈ wsX00, w ∈ wsX0_isBlunt := by decide +kernel
theorem lk_X0_isBlunt_Cond_fieldLink_RX0_9_SpliceRoom_Knife_jamsInRow_I_ : Cond.fieldLink RX0 9 "SpliceRoom$Knife" "jamsInRow" "I" ∈ wsX0_isBlunt := by decide +kernel
set_option maxHeartbeats 4000000 in
set_option maxRecDepth 100000 in
theorem c_X0_isBlunt (l : Launch) {D : va_G} {cI cL cQ : ClassId} {N0 : Nat} {sa : Nat → Nat} {Hc : Heap} {h0 : Nat} {f0 f1 f2 f3 f4 f5 f6 : Int32} (hP : va_P D vwCl [(h0, .inr (0, [.int f0, .int f1, .int f2, .int f3, .int f4, .int f5, .int f6]))] Hc) : Met l yX0_isBlunt wsX0_isBlunt ({ frames := 0, cells := 0, slots := 0, locals := 0 }) (Pq D cI cL cQ N0 sa [.ref h0] Hc) (va_Qi (fun (r : Int32) (_ : Unit) => r = tB (3 ≤ f3)) (fun _ t => t.heap = Hc) nA) 0 0 nA := by
  refine Met.ofW (cc := cX0_isBlunt) (maxL := 1) (ret := (some .boolean)) (by decide) rfl ?_
  intro p e s m args below meth c s₁ B hml hv
  obtain ⟨rfl, hH, hC⟩ := hv
  have hx := B.exec
  have hb := B.bytes
  have hr := B.returns
  have hts := atoms_spec (ws := wsX0_isBlunt) B.pre
  have hown : s.vm.findClass RX0 = some m.cls := findClass_of_methodNamed B.named
  have hlocks := B.notSynchronized
  subst hH
  have hK := hC.K
  have hl := lv_entry ([.ref h0]) (n := 1) (Nat.le_of_ble_eq_true rfl)
  rw [lg_entry_eq]
  generalize (lg_sl ([.ref h0]) ++ List.replicate (1 - (lg_sl ([.ref h0])).length) Slot.unset).toArray = ls at hl ⊢
  have hl : lv_has ls 1 [(0, .ref h0)] := hl
  have hP : va_P D vwCl [(h0, .inr (0, [.int f0, .int f1, .int f2, .int f3, .int f4, .int f5, .int f6]))] s.heap := hP
  have hS : va_S nA s.heap s.heap [] := va_S.rf
  have hN : ∀ q, nA q → N0 ≤ q := nA_N
  refine lv_aload_n hx hb dX0_isBlunt_0 rfl (lv_at hl 0 rfl) ?_
  refine va_get (D := D) (ci := 0) (v := .int f3) (C := RX0) (T := TX0) (N := 7) hx hb hts iw_X0_isBlunt_X0 hown hK hP 0 rfl rfl 3 (by decide) (hts _ lk_X0_isBlunt_Cond_fieldLink_RX0_9_SpliceRoom_Knife_jamsInRow_I_) (fun _ h9 => h9) rfl dX0_isBlunt_1 ?_
  refine lv_iconst (v := 3) hx hb dX0_isBlunt_4 (by decide) ?_
  refine lv_icmp_lt (tgt := 12) hx hb dX0_isBlunt_5 (by decide) (fun c_5 => ?_) (fun c_5 => ?_)
  · refine lv_iconst (v := 0) hx hb dX0_isBlunt_12 (by decide) ?_
    exact W.zret (v := 0) hx hb hr (rfl) (fun t ht hW => ⟨⟨_, (), rfl, (tB_f (Int32.not_le.mpr c_5)).symm, ht⟩, hS.F ht⟩) hS.2.2 dX0_isBlunt_13
  · refine lv_iconst (v := 1) hx hb dX0_isBlunt_8 (by decide) ?_
    refine lv_goto (tgt := 13) hx hb dX0_isBlunt_9 (by decide) ?_
    exact W.zret (v := 1) hx hb hr (rfl) (fun t ht hW => ⟨⟨_, (), rfl, (tB_t (Int32.not_lt.mp c_5)).symm, ht⟩, hS.F ht⟩) hS.2.2 dX0_isBlunt_13
end CReel
