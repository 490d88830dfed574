section CWrite
theorem iw_X2_sweep_X2 : ∀ w ∈ wsX20, w ∈ wsX2_sweep := by decide +kernel
theorem lk_X2_sweep_Cond_fieldLink_RX2_38_SpliceRoom_steps_I_ : Cond.fieldLink RX2 38 "SpliceRoom" "steps" "I" ∈ wsX2_sweep := by decide +kernel
set_option maxHeartbeats 4000000 in
set_option maxRecDepth 100000 in
theorem c_X2_sweep (l : Launch) {D : va_G} {cI cL cQ : ClassId} {N0 : Nat} {sa : Nat → Nat} {Hc : Heap} (hl0 : l.stackTraces = false) {x ah ak b0 b1 b2 b3 b4 : Nat} {F : Nat → Prop} {hk : Nat → Option Nat} {re : Nat → RE} {kn : Nat → Int32} {sh : Nat → Nat → Int32} {k : Int32} (h : RSB D cI cL cQ x ah ak b0 b1 b2 b3 b4 F (hk, re, kn, sh, k) Hc) (hNF : ∀ q, F q ∨ Hc.size ≤ q → N0 ≤ q)  : vx_Met l yX2_sweep wsX2_sweep ({ frames := 0, cells := 0, slots := 0, locals := 0 }) (Pq D cI cL cQ N0 sa [.ref x] Hc) (va_Qi (fun (rr : Int32) (u : CS) => rr = k ∧ u = (hk, re, kn, sh, 0)) (fun u t => RSB D cI cL cQ x ah ak b0 b1 b2 b3 b4 (fun q => F q ∨ Hc.size ≤ q) u t.heap) (fun q => F q ∨ Hc.size ≤ q)) (vx_X (fun (_ : Unit) => True) (fun E _ t => (False) ∧ RSB D cI cL cQ x ah ak b0 b1 b2 b3 b4 (fun q => F q ∨ Hc.size ≤ q) (hk, re, kn, sh, k) t.heap) (fun q => F q ∨ Hc.size ≤ q)) 0 0 (fun q => F q ∨ Hc.size ≤ q) := by
  refine vx_ofW (cc := cX2_sweep) (maxL := 2) (ret := (some .int)) (by decide) rfl ?_
  intro p e s m args below meth c s₁ B hml hxt hv
  obtain ⟨rfl, hH, hC⟩ := hv
  have hx := B.exec
  have hb := B.bytes
  have hr := B.returns
  have hts := atoms_spec (ws := wsX2_sweep) B.pre
  have hown : s.vm.findClass RX2 = some m.cls := findClass_of_methodNamed B.named
  have hlocks := B.notSynchronized
  subst hH
  have hK := hC.K
  have hl := lv_entry ([.ref x]) (n := 2) (Nat.le_of_ble_eq_true rfl)
  rw [lg_entry_eq]
  generalize (lg_sl ([.ref x]) ++ List.replicate (2 - (lg_sl ([.ref x])).length) Slot.unset).toArray = ls at hl ⊢
  have hl : lv_has ls 2 [(0, .ref x)] := hl
  have hP : va_P D vwCl [(x, .inr (2, [.ref ah, .ref ak, .ref b0, .ref b1, .ref b2, .ref b3, .ref b4, .int k])), (ah, .inl (cQ, 6, .inr (.inr (.inr (.inr hk))))), (ak, .inr (0, [.int (kn 0), .int (kn 1), .int (kn 2), .int (kn 3), .int (kn 4), .int (kn 5), .int (kn 6)])), (b0, .inl (cI, 24, .inl (sh 0))), (b1, .inl (cI, 24, .inl (sh 1))), (b2, .inl (cI, 24, .inl (sh 2))), (b3, .inl (cI, 24, .inl (sh 3))), (b4, .inl (cI, 24, .inl (sh 4)))] s.heap := h.P8
  have hS : va_S nA s.heap s.heap [] := va_S.rf
  have hN : ∀ q, nA q → N0 ≤ q := nA_N
  have hxt0 := hxt
  obtain ⟨locs, hlo⟩ : ∃ z : List Loc, z = [] := ⟨_, rfl⟩
  rw [← hlo] at hS ⊢
  obtain ⟨A, hAe⟩ : ∃ A : Nat → Prop, A = va_A [(x, .inr (2, [.ref ah, .ref ak, .ref b0, .ref b1, .ref b2, .ref b3, .ref b4, .int k])), (ah, .inl (cQ, 6, .inr (.inr (.inr (.inr hk))))), (ak, .inr (0, [.int (kn 0), .int (kn 1), .int (kn 2), .int (kn 3), .int (kn 4), .int (kn 5), .int (kn 6)])), (b0, .inl (cI, 24, .inl (sh 0))), (b1, .inl (cI, 24, .inl (sh 1))), (b2, .inl (cI, 24, .inl (sh 2))), (b3, .inl (cI, 24, .inl (sh 3))), (b4, .inl (cI, 24, .inl (sh 4)))] s.heap.size := ⟨_, rfl⟩
  have hP : va_P D vwCl [(x, .inr (2, [.ref ah, .ref ak, .ref b0, .ref b1, .ref b2, .ref b3, .ref b4, .int k])), (ah, .inl (cQ, 6, .inr (.inr (.inr (.inr hk))))), (ak, .inr (0, [.int (kn 0), .int (kn 1), .int (kn 2), .int (kn 3), .int (kn 4), .int (kn 5), .int (kn 6)])), (b0, .inl (cI, 24, .inl (sh 0))), (b1, .inl (cI, 24, .inl (sh 1))), (b2, .inl (cI, 24, .inl (sh 2))), (b3, .inl (cI, 24, .inl (sh 3))), (b4, .inl (cI, 24, .inl (sh 4)))] s.heap := h.P8
  have hD : va_D A [(x, .inr (2, [.ref ah, .ref ak, .ref b0, .ref b1, .ref b2, .ref b3, .ref b4, .int k])), (ah, .inl (cQ, 6, .inr (.inr (.inr (.inr hk))))), (ak, .inr (0, [.int (kn 0), .int (kn 1), .int (kn 2), .int (kn 3), .int (kn 4), .int (kn 5), .int (kn 6)])), (b0, .inl (cI, 24, .inl (sh 0))), (b1, .inl (cI, 24, .inl (sh 1))), (b2, .inl (cI, 24, .inl (sh 2))), (b3, .inl (cI, 24, .inl (sh 3))), (b4, .inl (cI, 24, .inl (sh 4)))] := by rw [hAe]; exact (h.D8).self
  have hA : ∀ q, s.heap.size ≤ q → A q := fun q z => by rw [hAe]; exact Or.inr z
  have hFA : ∀ q, A q → F q ∨ s.heap.size ≤ q := fun q z => h.in8 (hAe ▸ z)
  have hN : ∀ q, A q → N0 ≤ q := fun q z => hNF q (hFA q z)
  have hS : va_S A s.heap s.heap locs := S_mono hS (fun _ z => z.elim)
  refine lv_aload_n hx hb dX2_sweep_0 rfl (lv_at hl 0 rfl) ?_
  refine va_get (D := D) (ci := 2) (v := .int k) (C := RX2) (T := TX2) (N := 8) hx hb hts iw_X2_sweep_X2 hown hK hP 0 rfl rfl 7 (by decide) (hts _ lk_X2_sweep_Cond_fieldLink_RX2_38_SpliceRoom_steps_I_) (fun _ h9 => h9) rfl dX2_sweep_1 ?_
  refine lv_istore_n (lv' := [(1, .int k), (0, .ref x)]) hx hb dX2_sweep_4 rfl hl (by decide) rfl (fun ls hl => ?_)
  refine lv_aload_n hx hb dX2_sweep_5 rfl (lv_at hl 1 rfl) ?_
  refine lv_iconst (v := 0) hx hb dX2_sweep_6 (by decide) ?_
  refine va_put (D := D) (ci := 2) (v := .int 0) (ty := .int) (C := RX2) (T := TX2) (N := 8) hx hb hts iw_X2_sweep_X2 tyX2 tyX2_ok nmX2 hown hK hP hD hS 0 rfl rfl 7 (by decide) (hts _ lk_X2_sweep_Cond_fieldLink_RX2_38_SpliceRoom_steps_I_) (fun _ h9 => h9) rfl (by decide +kernel) rfl rfl (Nat.le_of_ble_eq_true rfl) dX2_sweep_7 (fun H locs hP hD hS => ?_)
  have hP : va_P D vwCl [(x, .inr (2, [.ref ah, .ref ak, .ref b0, .ref b1, .ref b2, .ref b3, .ref b4, .int 0])), (ah, .inl (cQ, 6, .inr (.inr (.inr (.inr hk))))), (ak, .inr (0, [.int (kn 0), .int (kn 1), .int (kn 2), .int (kn 3), .int (kn 4), .int (kn 5), .int (kn 6)])), (b0, .inl (cI, 24, .inl (sh 0))), (b1, .inl (cI, 24, .inl (sh 1))), (b2, .inl (cI, 24, .inl (sh 2))), (b3, .inl (cI, 24, .inl (sh 3))), (b4, .inl (cI, 24, .inl (sh 4)))] H := hP
  have hD : va_D A [(x, .inr (2, [.ref ah, .ref ak, .ref b0, .ref b1, .ref b2, .ref b3, .ref b4, .int 0])), (ah, .inl (cQ, 6, .inr (.inr (.inr (.inr hk))))), (ak, .inr (0, [.int (kn 0), .int (kn 1), .int (kn 2), .int (kn 3), .int (kn 4), .int (kn 5), .int (kn 6)])), (b0, .inl (cI, 24, .inl (sh 0))), (b1, .inl (cI, 24, .inl (sh 1))), (b2, .inl (cI, 24, .inl (sh 2))), (b3, .inl (cI, 24, .inl (sh 3))), (b4, .inl (cI, 24, .inl (sh 4)))] := hD
  refine lv_iload_n hx hb dX2_sweep_10 rfl (lv_at hl 0 rfl) ?_
  exact vx_ret (W.iret (v := k) hx hb hr (fun t ht hW => ⟨⟨_, (hk, re, kn, sh, 0), rfl, ⟨rfl, rfl⟩, by dsimp only; rw [ht]; exact h.end8 hP (fun _ z => z) (fun q hs hn => hS.2.1 q hs (by rw [hAe]; exact hn))⟩, (S_mono hS hFA).F ht⟩) (fun z9 h9 => hFA _ (hS.2.2 z9 h9)) dX2_sweep_11)
/-- the knife behind a grinding -/
def knGr (kn : Nat → Int32) : Nat → Int32 := fun i => match i with
  | 3 => 0
  | 6 => kn 6 + 1
  | i => kn i
theorem xw_X2_grind_eS : ∀ w ∈ (vx_atS RX2 69 eS exN).filter goodWord, w ∈ wsX2_grind := by decide +kernel
theorem iw_X2_grind_X0 : ∀ w ∈ wsX00, w ∈ wsX2_grind := by decide +kernel
theorem iw_X2_grind_X2 : ∀ w ∈ wsX20, w ∈ wsX2_grind := by decide +kernel
theorem lk_X2_grind_Cond_classLink_RX2_65_eS : Cond.classLink RX2 65 eS ∈ wsX2_grind := by decide +kernel
theorem lk_X2_grind_Cond_fieldLink_RX2_18_SpliceRoom_knife_LSpliceRoom_Knife_ : Cond.fieldLink RX2 18 "SpliceRoom" "knife" "LSpliceRoom$Knife;" ∈ wsX2_grind := by decide +kernel
theorem lk_X2_grind_Cond_initialized_eS : Cond.initialized eS ∈ wsX2_grind := by decide +kernel
set_option maxHeartbeats 4000000 in
set_option maxRecDepth 100000 in
theorem c_X2_grind (l : Launch) {D : va_G} {cI cL cQ : ClassId} {N0 : Nat} {sa : Nat → Nat} {Hc : Heap} (hl0 : l.stackTraces = false) {x ah ak b0 b1 b2 b3 b4 : Nat} {F : Nat → Prop} {hk : Nat → Option Nat} {re : Nat → RE} {kn : Nat → Int32} {sh : Nat → Nat → Int32} {k : Int32} (h : RSB D cI cL cQ x ah ak b0 b1 b2 b3 b4 F (hk, re, kn, sh, k) Hc) (hNF : ∀ q, F q ∨ Hc.size ≤ q → N0 ≤ q)  : vx_Met l yX2_grind wsX2_grind ({ frames := 6, cells := 1, slots := 6, locals := 82 }) (Pq D cI cL cQ N0 sa [.ref x] Hc) (va_Qi (fun (rr : Int32) (u : CS) => 3 ≤ kn 3 ∧ rr = kn 6 + 1 ∧ u = (hk, re, knGr kn, sh, k)) (fun u t => RSB D cI cL cQ x ah ak b0 b1 b2 b3 b4 (fun q => F q ∨ Hc.size ≤ q) u t.heap) (fun q => F q ∨ Hc.size ≤ q)) (vx_X (fun (_ : Unit) => True) (fun E _ t => (E = eS ∧ ¬ 3 ≤ kn 3) ∧ RSB D cI cL cQ x ah ak b0 b1 b2 b3 b4 (fun q => F q ∨ Hc.size ≤ q) (hk, re, kn, sh, k) t.heap) (fun q => F q ∨ Hc.size ≤ q)) 1 6 (fun q => F q ∨ Hc.size ≤ q) := by
  refine vx_ofW (cc := cX2_grind) (maxL := 1) (ret := (some .int)) (by decide) rfl ?_
  intro p e s m args below meth c s₁ B hml hxt hv
  obtain ⟨rfl, hH, hC⟩ := hv
  have hx := B.exec
  have hb := B.bytes
  have hr := B.returns
  have hts := atoms_spec (ws := wsX2_grind) B.pre
  have hown : s.vm.findClass RX2 = some m.cls := findClass_of_methodNamed B.named
  have hlocks := B.notSynchronized
  subst hH
  have hK := hC.K
  have hl := lv_entry ([.ref x]) (n := 1) (Nat.le_of_ble_eq_true rfl)
  rw [lg_entry_eq]
  generalize (lg_sl ([.ref x]) ++ List.replicate (1 - (lg_sl ([.ref x])).length) Slot.unset).toArray = ls at hl ⊢
  have hl : lv_has ls 1 [(0, .ref x)] := hl
  have hP : va_P D vwCl [(x, .inr (2, [.ref ah, .ref ak, .ref b0, .ref b1, .ref b2, .ref b3, .ref b4, .int k])), (ah, .inl (cQ, 6, .inr (.inr (.inr (.inr hk))))), (ak, .inr (0, [.int (kn 0), .int (kn 1), .int (kn 2), .int (kn 3), .int (kn 4), .int (kn 5), .int (kn 6)])), (b0, .inl (cI, 24, .inl (sh 0))), (b1, .inl (cI, 24, .inl (sh 1))), (b2, .inl (cI, 24, .inl (sh 2))), (b3, .inl (cI, 24, .inl (sh 3))), (b4, .inl (cI, 24, .inl (sh 4)))] s.heap := h.P8
  have hS : va_S nA s.heap s.heap [] := va_S.rf
  have hN : ∀ q, nA q → N0 ≤ q := nA_N
  obtain ⟨locs, hlo⟩ : ∃ z : List Loc, z = [] := ⟨_, rfl⟩
  rw [← hlo] at hS ⊢
  refine lv_aload_n hx hb dX2_grind_0 rfl (lv_at hl 0 rfl) ?_
  refine va_get (D := D) (ci := 2) (v := .ref ak) (C := RX2) (T := TX2) (N := 8) hx hb hts iw_X2_grind_X2 hown hK hP 0 rfl rfl 1 (by decide) (hts _ lk_X2_grind_Cond_fieldLink_RX2_18_SpliceRoom_knife_LSpliceRoom_Knife_) (fun _ h9 => h9) rfl dX2_grind_1 ?_
  refine ro_i (va_runV (As := []) (rest := []) ⟨hx, hb, hml, hown, hts⟩ (c_X0_isBlunt l (h0 := ak) (hP.sub [2] rfl)) (cwV 0 hts gX2_grind_X0_isBlunt rfl rfl rfl (by decide +kernel) ⟨Nat.le_of_ble_eq_true rfl, Nat.le_of_ble_eq_true rfl⟩) (Pq.V hC hS hN (va_recv hK hP (ci := 0) (q0 := 2) rfl rfl)) rfl rfl hl.1 rfl (lv_room (Nat.le_of_ble_eq_true rfl)) dX2_grind_4 ⟨Nat.le_of_ble_eq_true rfl, Nat.le_of_ble_eq_true rfl⟩) hS (fun r_1 locs hw hS => ?_)
  have hw : r_1 = tB (3 ≤ (kn 3)) := hw
  subst hw
  refine lv_if_ne (tgt := 20) hx hb dX2_grind_7 (by decide) (fun c_7 => ?_) (fun c_7 => ?_)
  · have c_7 := tB_n.mp c_7
    refine lv_aload_n hx hb dX2_grind_20 rfl (lv_at hl 0 rfl) ?_
    refine va_get (D := D) (ci := 2) (v := .ref ak) (C := RX2) (T := TX2) (N := 8) hx hb hts iw_X2_grind_X2 hown hK hP 0 rfl rfl 1 (by decide) (hts _ lk_X2_grind_Cond_fieldLink_RX2_18_SpliceRoom_knife_LSpliceRoom_Knife_) (fun _ h9 => h9) rfl dX2_grind_21 ?_
    obtain ⟨A, hAe⟩ : ∃ A : Nat → Prop, A = va_A [(x, .inr (2, [.ref ah, .ref ak, .ref b0, .ref b1, .ref b2, .ref b3, .ref b4, .int k])), (ah, .inl (cQ, 6, .inr (.inr (.inr (.inr hk))))), (ak, .inr (0, [.int (kn 0), .int (kn 1), .int (kn 2), .int (kn 3), .int (kn 4), .int (kn 5), .int (kn 6)])), (b0, .inl (cI, 24, .inl (sh 0))), (b1, .inl (cI, 24, .inl (sh 1))), (b2, .inl (cI, 24, .inl (sh 2))), (b3, .inl (cI, 24, .inl (sh 3))), (b4, .inl (cI, 24, .inl (sh 4)))] s.heap.size := ⟨_, rfl⟩
    have hP : va_P D vwCl [(x, .inr (2, [.ref ah, .ref ak, .ref b0, .ref b1, .ref b2, .ref b3, .ref b4, .int k])), (ah, .inl (cQ, 6, .inr (.inr (.inr (.inr hk))))), (ak, .inr (0, [.int (kn 0), .int (kn 1), .int (kn 2), .int (kn 3), .int (kn 4), .int (kn 5), .int (kn 6)])), (b0, .inl (cI, 24, .inl (sh 0))), (b1, .inl (cI, 24, .inl (sh 1))), (b2, .inl (cI, 24, .inl (sh 2))), (b3, .inl (cI, 24, .inl (sh 3))), (b4, .inl (cI, 24, .inl (sh 4)))] s.heap := h.P8
    have hD : va_D A [(x, .inr (2, [.ref ah, .ref ak, .ref b0, .ref b1, .ref b2, .ref b3, .ref b4, .int k])), (ah, .inl (cQ, 6, .inr (.inr (.inr (.inr hk))))), (ak, .inr (0, [.int (kn 0), .int (kn 1), .int (kn 2), .int (kn 3), .int (kn 4), .int (kn 5), .int (kn 6)])), (b0, .inl (cI, 24, .inl (sh 0))), (b1, .inl (cI, 24, .inl (sh 1))), (b2, .inl (cI, 24, .inl (sh 2))), (b3, .inl (cI, 24, .inl (sh 3))), (b4, .inl (cI, 24, .inl (sh 4)))] := by rw [hAe]; exact (h.D8).self
    have hA : ∀ q, s.heap.size ≤ q → A q := fun q z => by rw [hAe]; exact Or.inr z
    have hFA : ∀ q, A q → F q ∨ s.heap.size ≤ q := fun q z => h.in8 (hAe ▸ z)
    have hN : ∀ q, A q → N0 ≤ q := fun q z => hNF q (hFA q z)
    have hS : va_S A s.heap s.heap locs := S_mono hS (fun _ z => z.elim)
    have hFc := va_free (wc := [(ak, .inr (0, [.int (kn 0), .int (kn 1), .int (kn 2), .int (kn 3), .int (kn 4), .int (kn 5), .int (kn 6)]))]) hD hS hA [2] rfl
    refine va_callv (va_runV (As := []) (rest := []) ⟨hx, hb, hml, hown, hts⟩ (c_X0_sharpen l (hP.sub (ws' := [(ak, .inr (0, [.int (kn 0), .int (kn 1), .int (kn 2), .int (kn 3), .int (kn 4), .int (kn 5), .int (kn 6)]))]) [2] rfl) ((hD.sub (ws' := [(ak, .inr (0, [.int (kn 0), .int (kn 1), .int (kn 2), .int (kn 3), .int (kn 4), .int (kn 5), .int (kn 6)]))]) [2] (by decide) rfl).weaken (fun _ _ _ _ => trivial)) (fun q h => hN q (hFc q h))) (cwV 0 hts gX2_grind_X0_sharpen rfl rfl rfl (by decide +kernel) ⟨Nat.le_of_ble_eq_true rfl, Nat.le_of_ble_eq_true rfl⟩) (Pq.V hC hS hN (va_recv hK hP (ci := 0) (q0 := 2) rfl rfl)) rfl rfl hl.1 rfl (lv_room (Nat.le_of_ble_eq_true rfl)) dX2_grind_24 ⟨Nat.le_of_ble_eq_true rfl, Nat.le_of_ble_eq_true rfl⟩) hS (fun q _ h => hFc q h) hFc (fun u t H1 locs ht hvm hw hB hz1 hk1 hS => ?_)
    obtain ⟨hP1, hD1⟩ := hB
    rw [ht] at hP1
    obtain ⟨hP, hD⟩ := va_join (wr := [(x, .inr (2, [.ref ah, .ref ak, .ref b0, .ref b1, .ref b2, .ref b3, .ref b4, .int k])), (ah, .inl (cQ, 6, .inr (.inr (.inr (.inr hk))))), (b0, .inl (cI, 24, .inl (sh 0))), (b1, .inl (cI, 24, .inl (sh 1))), (b2, .inl (cI, 24, .inl (sh 2))), (b3, .inl (cI, 24, .inl (sh 3))), (b4, .inl (cI, 24, .inl (sh 4)))]) (w1 := [(ak, .inr (0, [.int (kn 0), .int (kn 1), .int (kn 2), .int 0, .int (kn 4), .int (kn 5), .int (kn 6 + 1)]))]) hP hD [2] [0, 1, 3, 4, 5, 6, 7] rfl rfl (by decide) (by decide) hk1 hFc hP1 hD1
    generalize H1 = H at hP hS ⊢
    have hP : va_P D vwCl [(x, .inr (2, [.ref ah, .ref ak, .ref b0, .ref b1, .ref b2, .ref b3, .ref b4, .int k])), (ah, .inl (cQ, 6, .inr (.inr (.inr (.inr hk))))), (ak, .inr (0, [.int (kn 0), .int (kn 1), .int (kn 2), .int 0, .int (kn 4), .int (kn 5), .int (kn 6 + 1)])), (b0, .inl (cI, 24, .inl (sh 0))), (b1, .inl (cI, 24, .inl (sh 1))), (b2, .inl (cI, 24, .inl (sh 2))), (b3, .inl (cI, 24, .inl (sh 3))), (b4, .inl (cI, 24, .inl (sh 4)))] H := hP.sub [0, 1, 7, 2, 3, 4, 5, 6] rfl
    have hD : va_D A [(x, .inr (2, [.ref ah, .ref ak, .ref b0, .ref b1, .ref b2, .ref b3, .ref b4, .int k])), (ah, .inl (cQ, 6, .inr (.inr (.inr (.inr hk))))), (ak, .inr (0, [.int (kn 0), .int (kn 1), .int (kn 2), .int 0, .int (kn 4), .int (kn 5), .int (kn 6 + 1)])), (b0, .inl (cI, 24, .inl (sh 0))), (b1, .inl (cI, 24, .inl (sh 1))), (b2, .inl (cI, 24, .inl (sh 2))), (b3, .inl (cI, 24, .inl (sh 3))), (b4, .inl (cI, 24, .inl (sh 4)))] := hD.sub [0, 1, 7, 2, 3, 4, 5, 6] (by decide) rfl
    refine lv_aload_n hx hb dX2_grind_27 rfl (lv_at hl 0 rfl) ?_
    refine va_get (D := D) (ci := 2) (v := .ref ak) (C := RX2) (T := TX2) (N := 8) hx hb hts iw_X2_grind_X2 hown hK hP 0 rfl rfl 1 (by decide) (hts _ lk_X2_grind_Cond_fieldLink_RX2_18_SpliceRoom_knife_LSpliceRoom_Knife_) (fun _ h9 => h9) rfl dX2_grind_28 ?_
    refine va_getN (D := D) (ci := 0) (v := .int (kn 6 + 1)) (C := RX0) (T := TX0) (N := 7) hx hb hts iw_X2_grind_X0 hown hK hP 2 rfl rfl 6 (by decide) (hC.nest (a := RX2) (i := 126) (b := "SpliceRoom$Knife") (n := "grindings") (d := "I") (hh := "SpliceRoom") (by decide +kernel)) (fun _ h9 => h9) rfl dX2_grind_31 ?_
    refine W.widen (k := 1) (n := 6) (by omega) (by omega) ?_
    exact vx_ret (W.iret (v := kn 6 + 1) hx hb hr (fun t ht hW => ⟨⟨_, (hk, re, knGr kn, sh, k), rfl, ⟨c_7, rfl, rfl⟩, by dsimp only; rw [ht]; exact h.end8 (kn' := knGr kn) hP (fun _ z => z) (fun q hs hn => hS.2.1 q hs (by rw [hAe]; exact hn))⟩, (S_mono hS hFA).F ht⟩) (fun z9 h9 => hFA _ (hS.2.2 z9 h9)) dX2_grind_34)
  · have c_7 := tB_0.mp c_7
    exact vx_throwS (cls := eS) (text := "the knife isn't blunt") (names := exN) (sa := sa 121) (A := nA) hx hb hl0 hown (by decide +kernel) exN_fit (hts _ lk_X2_grind_Cond_classLink_RX2_65_eS) (hts _ lk_X2_grind_Cond_initialized_eS) (hC.text (by decide +kernel)) (vx_hat (fun w hw => hts w (xw_X2_grind_eS w hw)) exS_ng hC.all) (good2 exS_ot) (hC.ust nA_N) (hC.sup nA_N) hS (by rw [hml]; exact hl.1) dX2_grind_10 dX2_grind_13 dX2_grind_14 dX2_grind_16 dX2_grind_19 (fun x9 h9 => (hxt x9 h9).elim) (by decide) (Nat.le_of_ble_eq_true rfl) (Nat.le_of_ble_eq_true rfl) (Nat.le_of_ble_eq_true rfl) hlocks (fun t hvm hz9 hk9 => ⟨(), trivial, ⟨⟨rfl, c_7⟩, h.xo hk9⟩, hz9, fun q hs _ => hk9 q hs⟩) (fun z9 h9 => (hS.2.2 z9 h9).elim) (Nat.le_of_ble_eq_true rfl) (Nat.le_of_ble_eq_true rfl)
theorem iw_X2_hang_X2 : ∀ w ∈ wsX20, w ∈ wsX2_hang := by decide +kernel
theorem lk_X2_hang_Cond_fieldLink_RX2_11_SpliceRoom_hooks_LSpliceRoom_Reel_ : Cond.fieldLink RX2 11 "SpliceRoom" "hooks" "[LSpliceRoom$Reel;" ∈ wsX2_hang := by decide +kernel
set_option maxHeartbeats 4000000 in
set_option maxRecDepth 100000 in
theorem c_X2_hang (l : Launch) {D : va_G} {cI cL cQ : ClassId} {N0 : Nat} {sa : Nat → Nat} {Hc : Heap} (hl0 : l.stackTraces = false) {x ah ak b0 b1 b2 b3 b4 : Nat} {F : Nat → Prop} {hk : Nat → Option Nat} {re : Nat → RE} {kn : Nat → Int32} {sh : Nat → Nat → Int32} {k : Int32} (h : RSB D cI cL cQ x ah ak b0 b1 b2 b3 b4 F (hk, re, kn, sh, k) Hc) (hNF : ∀ q, F q ∨ Hc.size ≤ q → N0 ≤ q) {h0 o0 : Int32} : vx_Met l yX2_hang wsX2_hang ({ frames := 7, cells := 2, slots := 12, locals := 110 }) (Pq D cI cL cQ N0 sa [.ref x, .int h0, .int o0] Hc) (va_Qi (fun (rr : Int32) (u : CS) => ∃ j1 i1 : Nat, j1 < 6 ∧ i1 < 6 ∧ h0 = nI j1 ∧ o0 = nI i1 ∧ rr = kOf re (hk i1) ∧ u = (va_up hk j1 (hk i1), re, kn, sh, k)) (fun u t => RSB D cI cL cQ x ah ak b0 b1 b2 b3 b4 (fun q => F q ∨ Hc.size ≤ q) u t.heap) (fun q => F q ∨ Hc.size ≤ q)) (vx_X (fun (_ : Unit) => True) (fun E _ t => (E = eA ∧ ¬ (okH h0 ∧ okH o0)) ∧ RSB D cI cL cQ x ah ak b0 b1 b2 b3 b4 (fun q => F q ∨ Hc.size ≤ q) (hk, re, kn, sh, k) t.heap) (fun q => F q ∨ Hc.size ≤ q)) 2 12 (fun q => F q ∨ Hc.size ≤ q) := by
  refine vx_ofW (cc := cX2_hang) (maxL := 3) (ret := (some .int)) (by decide) rfl ?_
  intro p e s m args below meth c s₁ B hml hxt hv
  obtain ⟨rfl, hH, hC⟩ := hv
  have hx := B.exec
  have hb := B.bytes
  have hr := B.returns
  have hts := atoms_spec (ws := wsX2_hang) B.pre
  have hown : s.vm.findClass RX2 = some m.cls := findClass_of_methodNamed B.named
  have hlocks := B.notSynchronized
  subst hH
  have hK := hC.K
  have hl := lv_entry ([.ref x, .int h0, .int o0]) (n := 3) (Nat.le_of_ble_eq_true rfl)
  rw [lg_entry_eq]
  generalize (lg_sl ([.ref x, .int h0, .int o0]) ++ List.replicate (3 - (lg_sl ([.ref x, .int h0, .int o0])).length) Slot.unset).toArray = ls at hl ⊢
  have hl : lv_has ls 3 [(0, .ref x), (1, .int h0), (2, .int o0)] := hl
  have hP : va_P D vwCl [(x, .inr (2, [.ref ah, .ref ak, .ref b0, .ref b1, .ref b2, .ref b3, .ref b4, .int k])), (ah, .inl (cQ, 6, .inr (.inr (.inr (.inr hk))))), (ak, .inr (0, [.int (kn 0), .int (kn 1), .int (kn 2), .int (kn 3), .int (kn 4), .int (kn 5), .int (kn 6)])), (b0, .inl (cI, 24, .inl (sh 0))), (b1, .inl (cI, 24, .inl (sh 1))), (b2, .inl (cI, 24, .inl (sh 2))), (b3, .inl (cI, 24, .inl (sh 3))), (b4, .inl (cI, 24, .inl (sh 4)))] s.heap := h.P8
  have hS : va_S nA s.heap s.heap [] := va_S.rf
  have hN : ∀ q, nA q → N0 ≤ q := nA_N
  refine lv_iload_n hx hb dX2_hang_0 rfl (lv_at hl 1 rfl) ?_
  refine rx_v (vx_runS (As := [.int h0]) (rest := []) ⟨hx, hb, hml, hown, hts⟩ (c_X2_requireHook l hl0 (h0 := h0)) (va_cwS 1 hts gX2_hang_X2_requireHook rfl rfl rfl (by decide +kernel) ⟨Nat.le_of_ble_eq_true rfl, Nat.le_of_ble_eq_true rfl⟩) (Pq.S hC hS hN) rfl rfl hl.1 rfl (lv_room (Nat.le_of_ble_eq_true rfl)) dX2_hang_1 ⟨Nat.le_of_ble_eq_true rfl, Nat.le_of_ble_eq_true rfl⟩) hS (fun ce q9 H9 locs hx9 hz9 hk9 hS hcell hv9 hcl => ?_) (fun locs hw hS => ?_)
  · have hx9 : ¬ okH h0 := hx9
    refine vx_widen (k := 2) (n := 12) (by omega) (by omega) ?_
    exact vx_out (fun x9 h9 => (hxt x9 h9).elim) hlocks hcell hv9 hcl (fun t ht hvm => ⟨(), trivial, ⟨⟨rfl, fun h9 => hx9 h9.1⟩, by rw [ht]; exact h.xo hk9⟩, by rw [ht]; exact hz9, fun q hs _ => by rw [ht]; exact hk9 q hs⟩) (fun z9 h9 => (hS.2.2 z9 h9).elim) (Nat.le_refl _) (Nat.le_refl _)
  · have hw : okH h0 := hw
    obtain ⟨j, hj, rfl⟩ := hw
    refine lv_iload_n hx hb dX2_hang_4 rfl (lv_at hl 2 rfl) ?_
    refine rx_v (vx_runS (As := [.int o0]) (rest := []) ⟨hx, hb, hml, hown, hts⟩ (c_X2_requireHook l hl0 (h0 := o0)) (va_cwS 1 hts gX2_hang_X2_requireHook rfl rfl rfl (by decide +kernel) ⟨Nat.le_of_ble_eq_true rfl, Nat.le_of_ble_eq_true rfl⟩) (Pq.S hC hS hN) rfl rfl hl.1 rfl (lv_room (Nat.le_of_ble_eq_true rfl)) dX2_hang_5 ⟨Nat.le_of_ble_eq_true rfl, Nat.le_of_ble_eq_true rfl⟩) hS (fun ce q9 H9 locs hx9 hz9 hk9 hS hcell hv9 hcl => ?_) (fun locs hw hS => ?_)
    · have hx9 : ¬ okH o0 := hx9
      refine vx_widen (k := 2) (n := 12) (by omega) (by omega) ?_
      exact vx_out (fun x9 h9 => (hxt x9 h9).elim) hlocks hcell hv9 hcl (fun t ht hvm => ⟨(), trivial, ⟨⟨rfl, fun h9 => hx9 h9.2⟩, by rw [ht]; exact h.xo hk9⟩, by rw [ht]; exact hz9, fun q hs _ => by rw [ht]; exact hk9 q hs⟩) (fun z9 h9 => (hS.2.2 z9 h9).elim) (Nat.le_refl _) (Nat.le_refl _)
    · have hw : okH o0 := hw
      obtain ⟨i, hi, rfl⟩ := hw
      refine lv_aload_n hx hb dX2_hang_8 rfl (lv_at hl 0 rfl) ?_
      refine va_get (D := D) (ci := 2) (v := .ref ah) (C := RX2) (T := TX2) (N := 8) hx hb hts iw_X2_hang_X2 hown hK hP 0 rfl rfl 0 (by decide) (hts _ lk_X2_hang_Cond_fieldLink_RX2_11_SpliceRoom_hooks_LSpliceRoom_Reel_) (fun _ h9 => h9) rfl dX2_hang_9 ?_
      refine lv_iload_n hx hb dX2_hang_12 rfl (lv_at hl 1 rfl) ?_
      refine lv_aload_n hx hb dX2_hang_13 rfl (lv_at hl 0 rfl) ?_
      refine va_get (D := D) (ci := 2) (v := .ref ah) (C := RX2) (T := TX2) (N := 8) hx hb hts iw_X2_hang_X2 hown hK hP 0 rfl rfl 0 (by decide) (hts _ lk_X2_hang_Cond_fieldLink_RX2_11_SpliceRoom_hooks_LSpliceRoom_Reel_) (fun _ h9 => h9) rfl dX2_hang_14 ?_
      refine lv_iload_n hx hb dX2_hang_17 rfl (lv_at hl 2 rfl) ?_
      refine va_aldq (D := D) hx hb hK hP 1 2 rfl rfl (vp_in_nI hi (by decide)) dX2_hang_18 ?_
      refine W.eq (g2 := F0 m 19 ls (va_rf (hk i) :: [.int (nI j), .ref ah])) (by rw [nI_clamp (by omega)]) ?_
      cases eh : hk i with
      | none =>
        obtain ⟨A, hAe⟩ : ∃ A : Nat → Prop, A = va_A [(x, .inr (2, [.ref ah, .ref ak, .ref b0, .ref b1, .ref b2, .ref b3, .ref b4, .int k])), (ah, .inl (cQ, 6, .inr (.inr (.inr (.inr hk))))), (ak, .inr (0, [.int (kn 0), .int (kn 1), .int (kn 2), .int (kn 3), .int (kn 4), .int (kn 5), .int (kn 6)])), (b0, .inl (cI, 24, .inl (sh 0))), (b1, .inl (cI, 24, .inl (sh 1))), (b2, .inl (cI, 24, .inl (sh 2))), (b3, .inl (cI, 24, .inl (sh 3))), (b4, .inl (cI, 24, .inl (sh 4)))] s.heap.size := ⟨_, rfl⟩
        have hP : va_P D vwCl [(x, .inr (2, [.ref ah, .ref ak, .ref b0, .ref b1, .ref b2, .ref b3, .ref b4, .int k])), (ah, .inl (cQ, 6, .inr (.inr (.inr (.inr hk))))), (ak, .inr (0, [.int (kn 0), .int (kn 1), .int (kn 2), .int (kn 3), .int (kn 4), .int (kn 5), .int (kn 6)])), (b0, .inl (cI, 24, .inl (sh 0))), (b1, .inl (cI, 24, .inl (sh 1))), (b2, .inl (cI, 24, .inl (sh 2))), (b3, .inl (cI, 24, .inl (sh 3))), (b4, .inl (cI, 24, .inl (sh 4)))] s.heap := h.P8
        have hD : va_D A [(x, .inr (2, [.ref ah, .ref ak, .ref b0, .ref b1, .ref b2, .ref b3, .ref b4, .int k])), (ah, .inl (cQ, 6, .inr (.inr (.inr (.inr hk))))), (ak, .inr (0, [.int (kn 0), .int (kn 1), .int (kn 2), .int (kn 3), .int (kn 4), .int (kn 5), .int (kn 6)])), (b0, .inl (cI, 24, .inl (sh 0))), (b1, .inl (cI, 24, .inl (sh 1))), (b2, .inl (cI, 24, .inl (sh 2))), (b3, .inl (cI, 24, .inl (sh 3))), (b4, .inl (cI, 24, .inl (sh 4)))] := by rw [hAe]; exact (h.D8).self
        have hA : ∀ q, s.heap.size ≤ q → A q := fun q z => by rw [hAe]; exact Or.inr z
        have hFA : ∀ q, A q → F q ∨ s.heap.size ≤ q := fun q z => h.in8 (hAe ▸ z)
        have hN : ∀ q, A q → N0 ≤ q := fun q z => hNF q (hFA q z)
        have hS : va_S A s.heap s.heap locs := S_mono hS (fun _ z => z.elim)
        refine va_astqN (D := D) hx hb hK hP hD hS 1 2 rfl rfl (vp_in_nI hj (by decide)) dX2_hang_19 (fun H locs hP hD hS => ?_)
        have hP : va_P D vwCl [(x, .inr (2, [.ref ah, .ref ak, .ref b0, .ref b1, .ref b2, .ref b3, .ref b4, .int k])), (ah, .inl (cQ, 6, .inr (.inr (.inr (.inr (va_up hk ((nI j).toNatClampNeg) none)))))), (ak, .inr (0, [.int (kn 0), .int (kn 1), .int (kn 2), .int (kn 3), .int (kn 4), .int (kn 5), .int (kn 6)])), (b0, .inl (cI, 24, .inl (sh 0))), (b1, .inl (cI, 24, .inl (sh 1))), (b2, .inl (cI, 24, .inl (sh 2))), (b3, .inl (cI, 24, .inl (sh 3))), (b4, .inl (cI, 24, .inl (sh 4)))] H := hP
        have hD : va_D A [(x, .inr (2, [.ref ah, .ref ak, .ref b0, .ref b1, .ref b2, .ref b3, .ref b4, .int k])), (ah, .inl (cQ, 6, .inr (.inr (.inr (.inr (va_up hk ((nI j).toNatClampNeg) none)))))), (ak, .inr (0, [.int (kn 0), .int (kn 1), .int (kn 2), .int (kn 3), .int (kn 4), .int (kn 5), .int (kn 6)])), (b0, .inl (cI, 24, .inl (sh 0))), (b1, .inl (cI, 24, .inl (sh 1))), (b2, .inl (cI, 24, .inl (sh 2))), (b3, .inl (cI, 24, .inl (sh 3))), (b4, .inl (cI, 24, .inl (sh 4)))] := hD
        rw [nI_clamp (show j < 2 ^ 31 by omega)] at hP hD
        have hl8 : ∀ r', Live (va_up hk j none) r' → Live hk r' := Live_up (fun r' e => by cases e)
        have h2 := h.end8 hP hl8 (fun q hs hn => hS.2.1 q hs (by rw [hAe]; exact hn))
        refine lv_aload_n hx hb dX2_hang_20 rfl (lv_at hl 0 rfl) ?_
        refine lv_iload_n hx hb dX2_hang_21 rfl (lv_at hl 1 rfl) ?_
        refine ro_i (va_runV (As := [.int (nI j)]) (rest := []) ⟨hx, hb, hml, hown, hts⟩ (c_X2_kindOn l (j := j) h2 hj) (cwV 1 hts gX2_hang_X2_kindOn rfl rfl rfl (by decide +kernel) ⟨Nat.le_of_ble_eq_true rfl, Nat.le_of_ble_eq_true rfl⟩) (Pq.V hC hS hN (va_recv hK hP (ci := 2) (q0 := 0) rfl rfl)) rfl rfl hl.1 rfl (lv_room (Nat.le_of_ble_eq_true rfl)) dX2_hang_22 ⟨Nat.le_of_ble_eq_true rfl, Nat.le_of_ble_eq_true rfl⟩) hS (fun r_1 locs hw hS => ?_)
        have hw : r_1 = kOf re ((va_up hk j none) j) := hw
        subst hw
        exact vx_ret (W.iret (v := kOf re ((va_up hk j none) j)) hx hb hr (fun t ht hW => ⟨⟨_, (va_up hk j none, re, kn, sh, k), rfl, ⟨j, i, hj, hi, rfl, rfl, by rw [eh, va_up_self], by rw [eh]⟩, by dsimp only; rw [ht]; exact h2⟩, (S_mono hS hFA).F ht⟩) (fun z9 h9 => hFA _ (hS.2.2 z9 h9)) dX2_hang_25)
      | some r =>
        have lr : Live hk r := ⟨i, hi, eh⟩
        obtain ⟨A, hAe⟩ : ∃ A : Nat → Prop, A = va_A [(x, .inr (2, [.ref ah, .ref ak, .ref b0, .ref b1, .ref b2, .ref b3, .ref b4, .int k])), (ah, .inl (cQ, 6, .inr (.inr (.inr (.inr hk))))), (ak, .inr (0, [.int (kn 0), .int (kn 1), .int (kn 2), .int (kn 3), .int (kn 4), .int (kn 5), .int (kn 6)])), (b0, .inl (cI, 24, .inl (sh 0))), (b1, .inl (cI, 24, .inl (sh 1))), (b2, .inl (cI, 24, .inl (sh 2))), (b3, .inl (cI, 24, .inl (sh 3))), (b4, .inl (cI, 24, .inl (sh 4))), (r, .inr (1, [.int ((re r).1), .ref ((re r).2.1)])), ((re r).2.1, .inl (cL, (re r).2.2.1, .inr (.inl ((re r).2.2.2))))] s.heap.size := ⟨_, rfl⟩
        have hP : va_P D vwCl [(x, .inr (2, [.ref ah, .ref ak, .ref b0, .ref b1, .ref b2, .ref b3, .ref b4, .int k])), (ah, .inl (cQ, 6, .inr (.inr (.inr (.inr hk))))), (ak, .inr (0, [.int (kn 0), .int (kn 1), .int (kn 2), .int (kn 3), .int (kn 4), .int (kn 5), .int (kn 6)])), (b0, .inl (cI, 24, .inl (sh 0))), (b1, .inl (cI, 24, .inl (sh 1))), (b2, .inl (cI, 24, .inl (sh 2))), (b3, .inl (cI, 24, .inl (sh 3))), (b4, .inl (cI, 24, .inl (sh 4))), (r, .inr (1, [.int ((re r).1), .ref ((re r).2.1)])), ((re r).2.1, .inl (cL, (re r).2.2.1, .inr (.inl ((re r).2.2.2))))] s.heap := h.P10 lr
        have hD : va_D A [(x, .inr (2, [.ref ah, .ref ak, .ref b0, .ref b1, .ref b2, .ref b3, .ref b4, .int k])), (ah, .inl (cQ, 6, .inr (.inr (.inr (.inr hk))))), (ak, .inr (0, [.int (kn 0), .int (kn 1), .int (kn 2), .int (kn 3), .int (kn 4), .int (kn 5), .int (kn 6)])), (b0, .inl (cI, 24, .inl (sh 0))), (b1, .inl (cI, 24, .inl (sh 1))), (b2, .inl (cI, 24, .inl (sh 2))), (b3, .inl (cI, 24, .inl (sh 3))), (b4, .inl (cI, 24, .inl (sh 4))), (r, .inr (1, [.int ((re r).1), .ref ((re r).2.1)])), ((re r).2.1, .inl (cL, (re r).2.2.1, .inr (.inl ((re r).2.2.2))))] := by rw [hAe]; exact (h.D10 lr).self
        have hA : ∀ q, s.heap.size ≤ q → A q := fun q z => by rw [hAe]; exact Or.inr z
        have hFA : ∀ q, A q → F q ∨ s.heap.size ≤ q := fun q z => h.in10 lr (hAe ▸ z)
        have hN : ∀ q, A q → N0 ≤ q := fun q z => hNF q (hFA q z)
        have hS : va_S A s.heap s.heap locs := S_mono hS (fun _ z => z.elim)
        refine va_astq (D := D) hx hb hK hP hD hS 1 2 8 1 rfl rfl rfl rfl (vp_in_nI hj (by decide)) dX2_hang_19 (fun H locs hP hD hS => ?_)
        have hP : va_P D vwCl [(x, .inr (2, [.ref ah, .ref ak, .ref b0, .ref b1, .ref b2, .ref b3, .ref b4, .int k])), (ah, .inl (cQ, 6, .inr (.inr (.inr (.inr (va_up hk ((nI j).toNatClampNeg) (some r))))))), (ak, .inr (0, [.int (kn 0), .int (kn 1), .int (kn 2), .int (kn 3), .int (kn 4), .int (kn 5), .int (kn 6)])), (b0, .inl (cI, 24, .inl (sh 0))), (b1, .inl (cI, 24, .inl (sh 1))), (b2, .inl (cI, 24, .inl (sh 2))), (b3, .inl (cI, 24, .inl (sh 3))), (b4, .inl (cI, 24, .inl (sh 4))), (r, .inr (1, [.int ((re r).1), .ref ((re r).2.1)])), ((re r).2.1, .inl (cL, (re r).2.2.1, .inr (.inl ((re r).2.2.2))))] H := hP
        have hD : va_D A [(x, .inr (2, [.ref ah, .ref ak, .ref b0, .ref b1, .ref b2, .ref b3, .ref b4, .int k])), (ah, .inl (cQ, 6, .inr (.inr (.inr (.inr (va_up hk ((nI j).toNatClampNeg) (some r))))))), (ak, .inr (0, [.int (kn 0), .int (kn 1), .int (kn 2), .int (kn 3), .int (kn 4), .int (kn 5), .int (kn 6)])), (b0, .inl (cI, 24, .inl (sh 0))), (b1, .inl (cI, 24, .inl (sh 1))), (b2, .inl (cI, 24, .inl (sh 2))), (b3, .inl (cI, 24, .inl (sh 3))), (b4, .inl (cI, 24, .inl (sh 4))), (r, .inr (1, [.int ((re r).1), .ref ((re r).2.1)])), ((re r).2.1, .inl (cL, (re r).2.2.1, .inr (.inl ((re r).2.2.2))))] := hD
        rw [nI_clamp (show j < 2 ^ 31 by omega)] at hP hD
        have hl8 : ∀ r', Live (va_up hk j (some r)) r' → Live hk r' := Live_up (fun r' e => by cases e; exact lr)
        have h2 := h.end10 lr hP hl8 (fun q hs hn => hS.2.1 q hs (by rw [hAe]; exact hn))
        refine lv_aload_n hx hb dX2_hang_20 rfl (lv_at hl 0 rfl) ?_
        refine lv_iload_n hx hb dX2_hang_21 rfl (lv_at hl 1 rfl) ?_
        refine ro_i (va_runV (As := [.int (nI j)]) (rest := []) ⟨hx, hb, hml, hown, hts⟩ (c_X2_kindOn l (j := j) h2 hj) (cwV 1 hts gX2_hang_X2_kindOn rfl rfl rfl (by decide +kernel) ⟨Nat.le_of_ble_eq_true rfl, Nat.le_of_ble_eq_true rfl⟩) (Pq.V hC hS hN (va_recv hK hP (ci := 2) (q0 := 0) rfl rfl)) rfl rfl hl.1 rfl (lv_room (Nat.le_of_ble_eq_true rfl)) dX2_hang_22 ⟨Nat.le_of_ble_eq_true rfl, Nat.le_of_ble_eq_true rfl⟩) hS (fun r_2 locs hw hS => ?_)
        have hw : r_2 = kOf re ((va_up hk j (some r)) j) := hw
        subst hw
        exact vx_ret (W.iret (v := kOf re ((va_up hk j (some r)) j)) hx hb hr (fun t ht hW => ⟨⟨_, (va_up hk j (some r), re, kn, sh, k), rfl, ⟨j, i, hj, hi, rfl, rfl, by rw [eh, va_up_self], by rw [eh]⟩, by dsimp only; rw [ht]; exact h2⟩, (S_mono hS hFA).F ht⟩) (fun z9 h9 => hFA _ (hS.2.2 z9 h9)) dX2_hang_25)
/-- what is marked -/
def mkV (k : Int32) (v : Int64) : Int64 := if k = 1 then v.toInt32.toInt64 else v
theorem xw_X2_mark_eS : ∀ w ∈ (vx_atS RX2 69 eS exN).filter goodWord, w ∈ wsX2_mark := by decide +kernel
theorem iw_X2_mark_X1 : ∀ w ∈ wsX10, w ∈ wsX2_mark := by decide +kernel
theorem iw_X2_mark_X2 : ∀ w ∈ wsX20, w ∈ wsX2_mark := by decide +kernel
theorem lk_X2_mark_Cond_classLink_RX2_65_eS : Cond.classLink RX2 65 eS ∈ wsX2_mark := by decide +kernel
theorem lk_X2_mark_Cond_fieldLink_RX2_11_SpliceRoom_hooks_LSpliceRoom_Reel_ : Cond.fieldLink RX2 11 "SpliceRoom" "hooks" "[LSpliceRoom$Reel;" ∈ wsX2_mark := by decide +kernel
theorem lk_X2_mark_Cond_initialized_eS : Cond.initialized eS ∈ wsX2_mark := by decide +kernel
set_option maxHeartbeats 4000000 in
set_option maxRecDepth 100000 in
theorem c_X2_mark (l : Launch) {D : va_G} {cI cL cQ : ClassId} {N0 : Nat} {sa : Nat → Nat} {Hc : Heap} (hl0 : l.stackTraces = false) {x ah ak b0 b1 b2 b3 b4 : Nat} {F : Nat → Prop} {hk : Nat → Option Nat} {re : Nat → RE} {kn : Nat → Int32} {sh : Nat → Nat → Int32} {k : Int32} (h : RSB D cI cL cQ x ah ak b0 b1 b2 b3 b4 F (hk, re, kn, sh, k) Hc) (hNF : ∀ q, F q ∨ Hc.size ≤ q → N0 ≤ q) {h0 i0 : Int32} {v0 : Int64} : vx_Met l yX2_mark wsX2_mark ({ frames := 7, cells := 3, slots := 18, locals := 110 }) (Pq D cI cL cQ N0 sa [.ref x, .int h0, .int i0, .long v0] Hc) (va_Qv (fun (u : CS) => ∃ j1 r1 i1 : Nat, j1 < 6 ∧ h0 = nI j1 ∧ hk j1 = some r1 ∧ ((re r1).1 = 1 ∨ (re r1).1 = 2) ∧ i1 < (re r1).2.2.1 ∧ i0 = nI i1 ∧ u = (hk, va_up re r1 ((re r1).1, (re r1).2.1, (re r1).2.2.1, vp_updL (re r1).2.2.2 i1 (mkV (re r1).1 v0)), kn, sh, k)) (fun u t => RSB D cI cL cQ x ah ak b0 b1 b2 b3 b4 (fun q => F q ∨ Hc.size ≤ q) u t.heap) (fun q => F q ∨ Hc.size ≤ q)) (vx_X (fun (_ : Unit) => True) (fun E _ t => ((E = eA ∧ ¬ okH h0) ∨ (∃ j1 : Nat, j1 < 6 ∧ h0 = nI j1 ∧ ((E = eS ∧ (hk j1 = none ∨ ∃ r1 : Nat, hk j1 = some r1 ∧ ¬ ((re r1).1 = 1 ∨ (re r1).1 = 2))) ∨ (E = eI ∧ ∃ r1 : Nat, hk j1 = some r1 ∧ ((re r1).1 = 1 ∨ (re r1).1 = 2) ∧ ¬ okF i0 (re r1).2.2.1)))) ∧ RSB D cI cL cQ x ah ak b0 b1 b2 b3 b4 (fun q => F q ∨ Hc.size ≤ q) (hk, re, kn, sh, k) t.heap) (fun q => F q ∨ Hc.size ≤ q)) 3 18 (fun q => F q ∨ Hc.size ≤ q) := by
  refine vx_ofW (cc := cX2_mark) (maxL := 6) (ret := none) (by decide) rfl ?_
  intro p e s m args below meth c s₁ B hml hxt hv
  obtain ⟨rfl, hH, hC⟩ := hv
  have hx := B.exec
  have hb := B.bytes
  have hr := B.returns
  have hts := atoms_spec (ws := wsX2_mark) B.pre
  have hown : s.vm.findClass RX2 = some m.cls := findClass_of_methodNamed B.named
  have hlocks := B.notSynchronized
  subst hH
  have hK := hC.K
  have hl := lv_entry ([.ref x, .int h0, .int i0, .long v0]) (n := 6) (Nat.le_of_ble_eq_true rfl)
  rw [lg_entry_eq]
  generalize (lg_sl ([.ref x, .int h0, .int i0, .long v0]) ++ List.replicate (6 - (lg_sl ([.ref x, .int h0, .int i0, .long v0])).length) Slot.unset).toArray = ls at hl ⊢
  have hl : lv_has ls 6 [(0, .ref x), (1, .int h0), (2, .int i0), (3, .long v0)] := hl
  have hP : va_P D vwCl [(x, .inr (2, [.ref ah, .ref ak, .ref b0, .ref b1, .ref b2, .ref b3, .ref b4, .int k])), (ah, .inl (cQ, 6, .inr (.inr (.inr (.inr hk))))), (ak, .inr (0, [.int (kn 0), .int (kn 1), .int (kn 2), .int (kn 3), .int (kn 4), .int (kn 5), .int (kn 6)])), (b0, .inl (cI, 24, .inl (sh 0))), (b1, .inl (cI, 24, .inl (sh 1))), (b2, .inl (cI, 24, .inl (sh 2))), (b3, .inl (cI, 24, .inl (sh 3))), (b4, .inl (cI, 24, .inl (sh 4)))] s.heap := h.P8
  have hS : va_S nA s.heap s.heap [] := va_S.rf
  have hN : ∀ q, nA q → N0 ≤ q := nA_N
  refine lv_iload_n hx hb dX2_mark_0 rfl (lv_at hl 1 rfl) ?_
  refine rx_v (vx_runS (As := [.int h0]) (rest := []) ⟨hx, hb, hml, hown, hts⟩ (c_X2_requireHook l hl0 (h0 := h0)) (va_cwS 1 hts gX2_mark_X2_requireHook rfl rfl rfl (by decide +kernel) ⟨Nat.le_of_ble_eq_true rfl, Nat.le_of_ble_eq_true rfl⟩) (Pq.S hC hS hN) rfl rfl hl.1 rfl (lv_room (Nat.le_of_ble_eq_true rfl)) dX2_mark_1 ⟨Nat.le_of_ble_eq_true rfl, Nat.le_of_ble_eq_true rfl⟩) hS (fun ce q9 H9 locs hx9 hz9 hk9 hS hcell hv9 hcl => ?_) (fun locs hw hS => ?_)
  · have hx9 : ¬ okH h0 := hx9
    refine vx_widen (k := 3) (n := 18) (by omega) (by omega) ?_
    exact vx_out (fun x9 h9 => (hxt x9 h9).elim) hlocks hcell hv9 hcl (fun t ht hvm => ⟨(), trivial, ⟨Or.inl ⟨rfl, hx9⟩, by rw [ht]; exact h.xo hk9⟩, by rw [ht]; exact hz9, fun q hs _ => by rw [ht]; exact hk9 q hs⟩) (fun z9 h9 => (hS.2.2 z9 h9).elim) (Nat.le_refl _) (Nat.le_refl _)
  · have hw : okH h0 := hw
    obtain ⟨j, hj, rfl⟩ := hw
    refine lv_aload_n hx hb dX2_mark_4 rfl (lv_at hl 0 rfl) ?_
    refine va_get (D := D) (ci := 2) (v := .ref ah) (C := RX2) (T := TX2) (N := 8) hx hb hts iw_X2_mark_X2 hown hK hP 0 rfl rfl 0 (by decide) (hts _ lk_X2_mark_Cond_fieldLink_RX2_11_SpliceRoom_hooks_LSpliceRoom_Reel_) (fun _ h9 => h9) rfl dX2_mark_5 ?_
    refine lv_iload_n hx hb dX2_mark_8 rfl (lv_at hl 1 rfl) ?_
    refine va_aldq (D := D) hx hb hK hP 1 2 rfl rfl (vp_in_nI hj (by decide)) dX2_mark_9 ?_
    refine W.eq (g2 := F0 m 10 ls (va_rf (hk j) :: [])) (by rw [nI_clamp (by omega)]) ?_
    cases eh : hk j with
    | none =>
      refine lv_astoreN (lv' := [(5, .null), (0, .ref x), (1, .int (nI j)), (2, .int i0), (3, .long v0)]) hx hb dX2_mark_10 hl (by decide) rfl (fun ls hl => ?_)
      refine lv_aloadN hx hb dX2_mark_12 (lv_at hl 0 rfl) ?_
      refine lv_ifnullN (tgt := 25) hx hb dX2_mark_14 (by decide) ?_
      exact vx_throwS (cls := eS) (text := "neither marks nor hours") (names := exN) (sa := sa 84) (A := nA) hx hb hl0 hown (by decide +kernel) exN_fit (hts _ lk_X2_mark_Cond_classLink_RX2_65_eS) (hts _ lk_X2_mark_Cond_initialized_eS) (hC.text (by decide +kernel)) (vx_hat (fun w hw => hts w (xw_X2_mark_eS w hw)) exS_ng hC.all) (good2 exS_ot) (hC.ust nA_N) (hC.sup nA_N) hS (by rw [hml]; exact hl.1) dX2_mark_25 dX2_mark_28 dX2_mark_29 dX2_mark_31 dX2_mark_34 (fun x9 h9 => (hxt x9 h9).elim) (by decide) (Nat.le_of_ble_eq_true rfl) (Nat.le_of_ble_eq_true rfl) (Nat.le_of_ble_eq_true rfl) hlocks (fun t hvm hz9 hk9 => ⟨(), trivial, ⟨Or.inr ⟨j, hj, rfl, Or.inl ⟨rfl, Or.inl eh⟩⟩, h.xo hk9⟩, hz9, fun q hs _ => hk9 q hs⟩) (fun z9 h9 => (hS.2.2 z9 h9).elim) (Nat.le_of_ble_eq_true rfl) (Nat.le_of_ble_eq_true rfl)
    | some r =>
      have lr : Live hk r := ⟨j, hj, eh⟩
      have hP : va_P D vwCl [(x, .inr (2, [.ref ah, .ref ak, .ref b0, .ref b1, .ref b2, .ref b3, .ref b4, .int k])), (ah, .inl (cQ, 6, .inr (.inr (.inr (.inr hk))))), (ak, .inr (0, [.int (kn 0), .int (kn 1), .int (kn 2), .int (kn 3), .int (kn 4), .int (kn 5), .int (kn 6)])), (b0, .inl (cI, 24, .inl (sh 0))), (b1, .inl (cI, 24, .inl (sh 1))), (b2, .inl (cI, 24, .inl (sh 2))), (b3, .inl (cI, 24, .inl (sh 3))), (b4, .inl (cI, 24, .inl (sh 4))), (r, .inr (1, [.int ((re r).1), .ref ((re r).2.1)])), ((re r).2.1, .inl (cL, (re r).2.2.1, .inr (.inl ((re r).2.2.2))))] s.heap := h.P10 lr
      have hzr : (re r).2.2.1 ≤ 40 := (h.2.2.2 r lr).2.2.2.1
      refine lv_astore (lv' := [(5, .ref r), (0, .ref x), (1, .int (nI j)), (2, .int i0), (3, .long v0)]) hx hb dX2_mark_10 hl (by decide) rfl (fun ls hl => ?_)
      refine lv_aload hx hb dX2_mark_12 (lv_at hl 0 rfl) ?_
      refine lv_ifnull hx hb dX2_mark_14 ?_
      refine lv_aload hx hb dX2_mark_17 (lv_at hl 0 rfl) ?_
      refine ro_i (va_runV (As := []) (rest := []) ⟨hx, hb, hml, hown, hts⟩ (c_X1_holdsNumbers l (h0 := r) (hP.sub [8] rfl)) (cwV 0 hts gX2_mark_X1_holdsNumbers rfl rfl rfl (by decide +kernel) ⟨Nat.le_of_ble_eq_true rfl, Nat.le_of_ble_eq_true rfl⟩) (Pq.V hC hS hN (va_recv hK hP (ci := 1) (q0 := 8) rfl rfl)) rfl rfl hl.1 rfl (lv_room (Nat.le_of_ble_eq_true rfl)) dX2_mark_19 ⟨Nat.le_of_ble_eq_true rfl, Nat.le_of_ble_eq_true rfl⟩) hS (fun r_1 locs hw hS => ?_)
      have hw : r_1 = tB ((re r).1 = 1 ∨ (re r).1 = 2) := hw
      subst hw
      refine lv_if_ne (tgt := 35) hx hb dX2_mark_22 (by decide) (fun c_22 => ?_) (fun c_22 => ?_)
      · have c_22 := tB_n.mp c_22
        refine lv_aload hx hb dX2_mark_35 (lv_at hl 0 rfl) ?_
        refine lv_iload_n hx hb dX2_mark_37 rfl (lv_at hl 3 rfl) ?_
        refine rx_v (vx_runS (As := [.ref r, .int i0]) (rest := []) ⟨hx, hb, hml, hown, hts⟩ (c_X2_requireFrame l hl0 (i0 := i0) (hP.sub [8, 9] rfl) hzr) (va_cwS 2 hts gX2_mark_X2_requireFrame rfl rfl rfl (by decide +kernel) ⟨Nat.le_of_ble_eq_true rfl, Nat.le_of_ble_eq_true rfl⟩) (Pq.S hC hS hN) rfl rfl hl.1 rfl (lv_room (Nat.le_of_ble_eq_true rfl)) dX2_mark_38 ⟨Nat.le_of_ble_eq_true rfl, Nat.le_of_ble_eq_true rfl⟩) hS (fun ce q9 H9 locs hx9 hz9 hk9 hS hcell hv9 hcl => ?_) (fun locs hw hS => ?_)
        · have hx9 : ¬ okF i0 ((re r).2.2.1) := hx9
          refine vx_widen (k := 3) (n := 18) (by omega) (by omega) ?_
          exact vx_out (fun x9 h9 => (hxt x9 h9).elim) hlocks hcell hv9 hcl (fun t ht hvm => ⟨(), trivial, ⟨Or.inr ⟨j, hj, rfl, Or.inr ⟨rfl, r, eh, c_22, hx9⟩⟩, by rw [ht]; exact h.xo hk9⟩, by rw [ht]; exact hz9, fun q hs _ => by rw [ht]; exact hk9 q hs⟩) (fun z9 h9 => (hS.2.2 z9 h9).elim) (Nat.le_refl _) (Nat.le_refl _)
        · have hw : okF i0 ((re r).2.2.1) := hw
          obtain ⟨i, hi, rfl⟩ := hw
          refine lv_aload hx hb dX2_mark_41 (lv_at hl 0 rfl) ?_
          refine va_getN (D := D) (ci := 1) (v := .ref ((re r).2.1)) (C := RX1) (T := TX1) (N := 2) hx hb hts iw_X2_mark_X1 hown hK hP 8 rfl rfl 1 (by decide) (hC.nest (a := RX2) (i := 70) (b := "SpliceRoom$Reel") (n := "row") (d := "[J") (hh := "SpliceRoom") (by decide +kernel)) (fun _ h9 => h9) rfl dX2_mark_43 ?_
          refine lv_iload_n hx hb dX2_mark_46 rfl (lv_at hl 3 rfl) ?_
          refine lv_aload hx hb dX2_mark_47 (lv_at hl 0 rfl) ?_
          refine va_getN (D := D) (ci := 1) (v := .int ((re r).1)) (C := RX1) (T := TX1) (N := 2) hx hb hts iw_X2_mark_X1 hown hK hP 8 rfl rfl 0 (by decide) (hC.nest (a := RX2) (i := 62) (b := "SpliceRoom$Reel") (n := "kind") (d := "I") (hh := "SpliceRoom") (by decide +kernel)) (fun _ h9 => h9) rfl dX2_mark_49 ?_
          refine lv_iconst (v := 1) hx hb dX2_mark_52 (by decide) ?_
          refine lv_icmp_ne (tgt := 62) hx hb dX2_mark_53 (by decide) (fun c_53 => ?_) (fun c_53 => ?_)
          · refine lv_lload_n hx hb dX2_mark_62 rfl (lv_at hl 4 rfl) ?_
            obtain ⟨A, hAe⟩ : ∃ A : Nat → Prop, A = va_A [(x, .inr (2, [.ref ah, .ref ak, .ref b0, .ref b1, .ref b2, .ref b3, .ref b4, .int k])), (ah, .inl (cQ, 6, .inr (.inr (.inr (.inr hk))))), (ak, .inr (0, [.int (kn 0), .int (kn 1), .int (kn 2), .int (kn 3), .int (kn 4), .int (kn 5), .int (kn 6)])), (b0, .inl (cI, 24, .inl (sh 0))), (b1, .inl (cI, 24, .inl (sh 1))), (b2, .inl (cI, 24, .inl (sh 2))), (b3, .inl (cI, 24, .inl (sh 3))), (b4, .inl (cI, 24, .inl (sh 4))), (r, .inr (1, [.int ((re r).1), .ref ((re r).2.1)])), ((re r).2.1, .inl (cL, (re r).2.2.1, .inr (.inl ((re r).2.2.2))))] s.heap.size := ⟨_, rfl⟩
            have hP : va_P D vwCl [(x, .inr (2, [.ref ah, .ref ak, .ref b0, .ref b1, .ref b2, .ref b3, .ref b4, .int k])), (ah, .inl (cQ, 6, .inr (.inr (.inr (.inr hk))))), (ak, .inr (0, [.int (kn 0), .int (kn 1), .int (kn 2), .int (kn 3), .int (kn 4), .int (kn 5), .int (kn 6)])), (b0, .inl (cI, 24, .inl (sh 0))), (b1, .inl (cI, 24, .inl (sh 1))), (b2, .inl (cI, 24, .inl (sh 2))), (b3, .inl (cI, 24, .inl (sh 3))), (b4, .inl (cI, 24, .inl (sh 4))), (r, .inr (1, [.int ((re r).1), .ref ((re r).2.1)])), ((re r).2.1, .inl (cL, (re r).2.2.1, .inr (.inl ((re r).2.2.2))))] s.heap := h.P10 lr
            have hD : va_D A [(x, .inr (2, [.ref ah, .ref ak, .ref b0, .ref b1, .ref b2, .ref b3, .ref b4, .int k])), (ah, .inl (cQ, 6, .inr (.inr (.inr (.inr hk))))), (ak, .inr (0, [.int (kn 0), .int (kn 1), .int (kn 2), .int (kn 3), .int (kn 4), .int (kn 5), .int (kn 6)])), (b0, .inl (cI, 24, .inl (sh 0))), (b1, .inl (cI, 24, .inl (sh 1))), (b2, .inl (cI, 24, .inl (sh 2))), (b3, .inl (cI, 24, .inl (sh 3))), (b4, .inl (cI, 24, .inl (sh 4))), (r, .inr (1, [.int ((re r).1), .ref ((re r).2.1)])), ((re r).2.1, .inl (cL, (re r).2.2.1, .inr (.inl ((re r).2.2.2))))] := by rw [hAe]; exact (h.D10 lr).self
            have hA : ∀ q, s.heap.size ≤ q → A q := fun q z => by rw [hAe]; exact Or.inr z
            have hFA : ∀ q, A q → F q ∨ s.heap.size ≤ q := fun q z => h.in10 lr (hAe ▸ z)
            have hN : ∀ q, A q → N0 ≤ q := fun q z => hNF q (hFA q z)
            have hS : va_S A s.heap s.heap locs := S_mono hS (fun _ z => z.elim)
            refine va_last (D := D) hx hb hK hP hD hS 9 1 rfl rfl (vp_in_nI hi (by omega)) dX2_mark_63 (fun H locs hP hD hS => ?_)
            have hP : va_P D vwCl [(x, .inr (2, [.ref ah, .ref ak, .ref b0, .ref b1, .ref b2, .ref b3, .ref b4, .int k])), (ah, .inl (cQ, 6, .inr (.inr (.inr (.inr hk))))), (ak, .inr (0, [.int (kn 0), .int (kn 1), .int (kn 2), .int (kn 3), .int (kn 4), .int (kn 5), .int (kn 6)])), (b0, .inl (cI, 24, .inl (sh 0))), (b1, .inl (cI, 24, .inl (sh 1))), (b2, .inl (cI, 24, .inl (sh 2))), (b3, .inl (cI, 24, .inl (sh 3))), (b4, .inl (cI, 24, .inl (sh 4))), (r, .inr (1, [.int ((re r).1), .ref ((re r).2.1)])), ((re r).2.1, .inl (cL, (re r).2.2.1, .inr (.inl (vp_updL ((re r).2.2.2) ((nI i).toNatClampNeg) v0))))] H := hP
            have hD : va_D A [(x, .inr (2, [.ref ah, .ref ak, .ref b0, .ref b1, .ref b2, .ref b3, .ref b4, .int k])), (ah, .inl (cQ, 6, .inr (.inr (.inr (.inr hk))))), (ak, .inr (0, [.int (kn 0), .int (kn 1), .int (kn 2), .int (kn 3), .int (kn 4), .int (kn 5), .int (kn 6)])), (b0, .inl (cI, 24, .inl (sh 0))), (b1, .inl (cI, 24, .inl (sh 1))), (b2, .inl (cI, 24, .inl (sh 2))), (b3, .inl (cI, 24, .inl (sh 3))), (b4, .inl (cI, 24, .inl (sh 4))), (r, .inr (1, [.int ((re r).1), .ref ((re r).2.1)])), ((re r).2.1, .inl (cL, (re r).2.2.1, .inr (.inl (vp_updL ((re r).2.2.2) ((nI i).toNatClampNeg) v0))))] := hD
            rw [nI_clamp (show i < 2 ^ 31 by omega)] at hP hD
            refine W.widen (k := 3) (n := 18) (by omega) (by omega) ?_
            exact vx_ret (W.vret hx hb hr (fun t ht hW => ⟨⟨(hk, va_up re r ((re r).1, (re r).2.1, (re r).2.2.1, vp_updL (re r).2.2.2 i v0), kn, sh, k), rfl, ⟨j, r, i, hj, rfl, eh, c_22, hi, rfl, by rw [mkV, if_neg c_53]⟩, by dsimp only; rw [ht]; exact h.endM lr hP (fun q hs hn => hS.2.1 q hs (by rw [hAe]; exact hn))⟩, (S_mono hS hFA).F ht⟩) (fun z9 h9 => hFA _ (hS.2.2 z9 h9)) dX2_mark_64)
          · refine lv_lload_n hx hb dX2_mark_56 rfl (lv_at hl 4 rfl) ?_
            refine lv_l2i hx hb dX2_mark_57 rfl ?_
            refine lv_i2l hx hb dX2_mark_58 rfl ?_
            refine lv_goto (tgt := 63) hx hb dX2_mark_59 (by decide) ?_
            obtain ⟨A, hAe⟩ : ∃ A : Nat → Prop, A = va_A [(x, .inr (2, [.ref ah, .ref ak, .ref b0, .ref b1, .ref b2, .ref b3, .ref b4, .int k])), (ah, .inl (cQ, 6, .inr (.inr (.inr (.inr hk))))), (ak, .inr (0, [.int (kn 0), .int (kn 1), .int (kn 2), .int (kn 3), .int (kn 4), .int (kn 5), .int (kn 6)])), (b0, .inl (cI, 24, .inl (sh 0))), (b1, .inl (cI, 24, .inl (sh 1))), (b2, .inl (cI, 24, .inl (sh 2))), (b3, .inl (cI, 24, .inl (sh 3))), (b4, .inl (cI, 24, .inl (sh 4))), (r, .inr (1, [.int ((re r).1), .ref ((re r).2.1)])), ((re r).2.1, .inl (cL, (re r).2.2.1, .inr (.inl ((re r).2.2.2))))] s.heap.size := ⟨_, rfl⟩
            have hP : va_P D vwCl [(x, .inr (2, [.ref ah, .ref ak, .ref b0, .ref b1, .ref b2, .ref b3, .ref b4, .int k])), (ah, .inl (cQ, 6, .inr (.inr (.inr (.inr hk))))), (ak, .inr (0, [.int (kn 0), .int (kn 1), .int (kn 2), .int (kn 3), .int (kn 4), .int (kn 5), .int (kn 6)])), (b0, .inl (cI, 24, .inl (sh 0))), (b1, .inl (cI, 24, .inl (sh 1))), (b2, .inl (cI, 24, .inl (sh 2))), (b3, .inl (cI, 24, .inl (sh 3))), (b4, .inl (cI, 24, .inl (sh 4))), (r, .inr (1, [.int ((re r).1), .ref ((re r).2.1)])), ((re r).2.1, .inl (cL, (re r).2.2.1, .inr (.inl ((re r).2.2.2))))] s.heap := h.P10 lr
            have hD : va_D A [(x, .inr (2, [.ref ah, .ref ak, .ref b0, .ref b1, .ref b2, .ref b3, .ref b4, .int k])), (ah, .inl (cQ, 6, .inr (.inr (.inr (.inr hk))))), (ak, .inr (0, [.int (kn 0), .int (kn 1), .int (kn 2), .int (kn 3), .int (kn 4), .int (kn 5), .int (kn 6)])), (b0, .inl (cI, 24, .inl (sh 0))), (b1, .inl (cI, 24, .inl (sh 1))), (b2, .inl (cI, 24, .inl (sh 2))), (b3, .inl (cI, 24, .inl (sh 3))), (b4, .inl (cI, 24, .inl (sh 4))), (r, .inr (1, [.int ((re r).1), .ref ((re r).2.1)])), ((re r).2.1, .inl (cL, (re r).2.2.1, .inr (.inl ((re r).2.2.2))))] := by rw [hAe]; exact (h.D10 lr).self
            have hA : ∀ q, s.heap.size ≤ q → A q := fun q z => by rw [hAe]; exact Or.inr z
            have hFA : ∀ q, A q → F q ∨ s.heap.size ≤ q := fun q z => h.in10 lr (hAe ▸ z)
            have hN : ∀ q, A q → N0 ≤ q := fun q z => hNF q (hFA q z)
            have hS : va_S A s.heap s.heap locs := S_mono hS (fun _ z => z.elim)
            refine va_last (D := D) hx hb hK hP hD hS 9 1 rfl rfl (vp_in_nI hi (by omega)) dX2_mark_63 (fun H locs hP hD hS => ?_)
            have hP : va_P D vwCl [(x, .inr (2, [.ref ah, .ref ak, .ref b0, .ref b1, .ref b2, .ref b3, .ref b4, .int k])), (ah, .inl (cQ, 6, .inr (.inr (.inr (.inr hk))))), (ak, .inr (0, [.int (kn 0), .int (kn 1), .int (kn 2), .int (kn 3), .int (kn 4), .int (kn 5), .int (kn 6)])), (b0, .inl (cI, 24, .inl (sh 0))), (b1, .inl (cI, 24, .inl (sh 1))), (b2, .inl (cI, 24, .inl (sh 2))), (b3, .inl (cI, 24, .inl (sh 3))), (b4, .inl (cI, 24, .inl (sh 4))), (r, .inr (1, [.int ((re r).1), .ref ((re r).2.1)])), ((re r).2.1, .inl (cL, (re r).2.2.1, .inr (.inl (vp_updL ((re r).2.2.2) ((nI i).toNatClampNeg) v0.toInt32.toInt64))))] H := hP
            have hD : va_D A [(x, .inr (2, [.ref ah, .ref ak, .ref b0, .ref b1, .ref b2, .ref b3, .ref b4, .int k])), (ah, .inl (cQ, 6, .inr (.inr (.inr (.inr hk))))), (ak, .inr (0, [.int (kn 0), .int (kn 1), .int (kn 2), .int (kn 3), .int (kn 4), .int (kn 5), .int (kn 6)])), (b0, .inl (cI, 24, .inl (sh 0))), (b1, .inl (cI, 24, .inl (sh 1))), (b2, .inl (cI, 24, .inl (sh 2))), (b3, .inl (cI, 24, .inl (sh 3))), (b4, .inl (cI, 24, .inl (sh 4))), (r, .inr (1, [.int ((re r).1), .ref ((re r).2.1)])), ((re r).2.1, .inl (cL, (re r).2.2.1, .inr (.inl (vp_updL ((re r).2.2.2) ((nI i).toNatClampNeg) v0.toInt32.toInt64))))] := hD
            rw [nI_clamp (show i < 2 ^ 31 by omega)] at hP hD
            refine W.widen (k := 3) (n := 18) (by omega) (by omega) ?_
            exact vx_ret (W.vret hx hb hr (fun t ht hW => ⟨⟨(hk, va_up re r ((re r).1, (re r).2.1, (re r).2.2.1, vp_updL (re r).2.2.2 i v0.toInt32.toInt64), kn, sh, k), rfl, ⟨j, r, i, hj, rfl, eh, c_22, hi, rfl, by rw [mkV, if_pos c_53]⟩, by dsimp only; rw [ht]; exact h.endM lr hP (fun q hs hn => hS.2.1 q hs (by rw [hAe]; exact hn))⟩, (S_mono hS hFA).F ht⟩) (fun z9 h9 => hFA _ (hS.2.2 z9 h9)) dX2_mark_64)
      · have c_22 := tB_0.mp c_22
        exact vx_throwS (cls := eS) (text := "neither marks nor hours") (names := exN) (sa := sa 84) (A := nA) hx hb hl0 hown (by decide +kernel) exN_fit (hts _ lk_X2_mark_Cond_classLink_RX2_65_eS) (hts _ lk_X2_mark_Cond_initialized_eS) (hC.text (by decide +kernel)) (vx_hat (fun w hw => hts w (xw_X2_mark_eS w hw)) exS_ng hC.all) (good2 exS_ot) (hC.ust nA_N) (hC.sup nA_N) hS (by rw [hml]; exact hl.1) dX2_mark_25 dX2_mark_28 dX2_mark_29 dX2_mark_31 dX2_mark_34 (fun x9 h9 => (hxt x9 h9).elim) (by decide) (Nat.le_of_ble_eq_true rfl) (Nat.le_of_ble_eq_true rfl) (Nat.le_of_ble_eq_true rfl) hlocks (fun t hvm hz9 hk9 => ⟨(), trivial, ⟨Or.inr ⟨j, hj, rfl, Or.inl ⟨rfl, Or.inr ⟨r, eh, c_22⟩⟩⟩, h.xo hk9⟩, hz9, fun q hs _ => hk9 q hs⟩) (fun z9 h9 => (hS.2.2 z9 h9).elim) (Nat.le_of_ble_eq_true rfl) (Nat.le_of_ble_eq_true rfl)
theorem xw_X2_pull_eS : ∀ w ∈ (vx_atS RX2 69 eS exN).filter goodWord, w ∈ wsX2_pull := by decide +kernel
theorem iw_X2_pull_X1 : ∀ w ∈ wsX10, w ∈ wsX2_pull := by decide +kernel
theorem iw_X2_pull_X2 : ∀ w ∈ wsX20, w ∈ wsX2_pull := by decide +kernel
theorem lk_X2_pull_Cond_classLink_RX2_65_eS : Cond.classLink RX2 65 eS ∈ wsX2_pull := by decide +kernel
theorem lk_X2_pull_Cond_constantLong_RX2_101_1_ : Cond.constantLong RX2 101 (-1) ∈ wsX2_pull := by decide +kernel
theorem lk_X2_pull_Cond_fieldLink_RX2_11_SpliceRoom_hooks_LSpliceRoom_Reel_ : Cond.fieldLink RX2 11 "SpliceRoom" "hooks" "[LSpliceRoom$Reel;" ∈ wsX2_pull := by decide +kernel
theorem lk_X2_pull_Cond_initialized_eS : Cond.initialized eS ∈ wsX2_pull := by decide +kernel
set_option maxHeartbeats 4000000 in
set_option maxRecDepth 100000 in
theorem c_X2_pull (l : Launch) {D : va_G} {cI cL cQ : ClassId} {N0 : Nat} {sa : Nat → Nat} {Hc : Heap} (hl0 : l.stackTraces = false) {x ah ak b0 b1 b2 b3 b4 : Nat} {F : Nat → Prop} {hk : Nat → Option Nat} {re : Nat → RE} {kn : Nat → Int32} {sh : Nat → Nat → Int32} {k : Int32} (h : RSB D cI cL cQ x ah ak b0 b1 b2 b3 b4 F (hk, re, kn, sh, k) Hc) (hNF : ∀ q, F q ∨ Hc.size ≤ q → N0 ≤ q) {h0 i0 : Int32} : vx_Met l yX2_pull wsX2_pull ({ frames := 7, cells := 3, slots := 18, locals := 110 }) (Pq D cI cL cQ N0 sa [.ref x, .int h0, .int i0] Hc) (va_Qi (fun (rr : Int32) (u : CS) => ∃ j1 r1 i1 : Nat, j1 < 6 ∧ h0 = nI j1 ∧ hk j1 = some r1 ∧ ((re r1).1 = 3 ∨ (re r1).1 = 4) ∧ i1 < (re r1).2.2.1 ∧ i0 = nI i1 ∧ rr = tB (¬ (re r1).2.2.2 i1 = -1) ∧ u = (hk, va_up re r1 ((re r1).1, (re r1).2.1, (re r1).2.2.1, vp_updL (re r1).2.2.2 i1 (-1)), kn, sh, k)) (fun u t => RSB D cI cL cQ x ah ak b0 b1 b2 b3 b4 (fun q => F q ∨ Hc.size ≤ q) u t.heap) (fun q => F q ∨ Hc.size ≤ q)) (vx_X (fun (_ : Unit) => True) (fun E _ t => ((E = eA ∧ ¬ okH h0) ∨ (∃ j1 : Nat, j1 < 6 ∧ h0 = nI j1 ∧ ((E = eS ∧ (hk j1 = none ∨ ∃ r1 : Nat, hk j1 = some r1 ∧ ¬ ((re r1).1 = 3 ∨ (re r1).1 = 4))) ∨ (E = eI ∧ ∃ r1 : Nat, hk j1 = some r1 ∧ ((re r1).1 = 3 ∨ (re r1).1 = 4) ∧ ¬ okF i0 (re r1).2.2.1)))) ∧ RSB D cI cL cQ x ah ak b0 b1 b2 b3 b4 (fun q => F q ∨ Hc.size ≤ q) (hk, re, kn, sh, k) t.heap) (fun q => F q ∨ Hc.size ≤ q)) 3 18 (fun q => F q ∨ Hc.size ≤ q) := by
  refine vx_ofW (cc := cX2_pull) (maxL := 5) (ret := (some .boolean)) (by decide) rfl ?_
  intro p e s m args below meth c s₁ B hml hxt hv
  obtain ⟨rfl, hH, hC⟩ := hv
  have hx := B.exec
  have hb := B.bytes
  have hr := B.returns
  have hts := atoms_spec (ws := wsX2_pull) B.pre
  have hown : s.vm.findClass RX2 = some m.cls := findClass_of_methodNamed B.named
  have hlocks := B.notSynchronized
  subst hH
  have hK := hC.K
  have hl := lv_entry ([.ref x, .int h0, .int i0]) (n := 5) (Nat.le_of_ble_eq_true rfl)
  rw [lg_entry_eq]
  generalize (lg_sl ([.ref x, .int h0, .int i0]) ++ List.replicate (5 - (lg_sl ([.ref x, .int h0, .int i0])).length) Slot.unset).toArray = ls at hl ⊢
  have hl : lv_has ls 5 [(0, .ref x), (1, .int h0), (2, .int i0)] := hl
  have hP : va_P D vwCl [(x, .inr (2, [.ref ah, .ref ak, .ref b0, .ref b1, .ref b2, .ref b3, .ref b4, .int k])), (ah, .inl (cQ, 6, .inr (.inr (.inr (.inr hk))))), (ak, .inr (0, [.int (kn 0), .int (kn 1), .int (kn 2), .int (kn 3), .int (kn 4), .int (kn 5), .int (kn 6)])), (b0, .inl (cI, 24, .inl (sh 0))), (b1, .inl (cI, 24, .inl (sh 1))), (b2, .inl (cI, 24, .inl (sh 2))), (b3, .inl (cI, 24, .inl (sh 3))), (b4, .inl (cI, 24, .inl (sh 4)))] s.heap := h.P8
  have hS : va_S nA s.heap s.heap [] := va_S.rf
  have hN : ∀ q, nA q → N0 ≤ q := nA_N
  refine lv_iload_n hx hb dX2_pull_0 rfl (lv_at hl 1 rfl) ?_
  refine rx_v (vx_runS (As := [.int h0]) (rest := []) ⟨hx, hb, hml, hown, hts⟩ (c_X2_requireHook l hl0 (h0 := h0)) (va_cwS 1 hts gX2_pull_X2_requireHook rfl rfl rfl (by decide +kernel) ⟨Nat.le_of_ble_eq_true rfl, Nat.le_of_ble_eq_true rfl⟩) (Pq.S hC hS hN) rfl rfl hl.1 rfl (lv_room (Nat.le_of_ble_eq_true rfl)) dX2_pull_1 ⟨Nat.le_of_ble_eq_true rfl, Nat.le_of_ble_eq_true rfl⟩) hS (fun ce q9 H9 locs hx9 hz9 hk9 hS hcell hv9 hcl => ?_) (fun locs hw hS => ?_)
  · have hx9 : ¬ okH h0 := hx9
    refine vx_widen (k := 3) (n := 18) (by omega) (by omega) ?_
    exact vx_out (fun x9 h9 => (hxt x9 h9).elim) hlocks hcell hv9 hcl (fun t ht hvm => ⟨(), trivial, ⟨Or.inl ⟨rfl, hx9⟩, by rw [ht]; exact h.xo hk9⟩, by rw [ht]; exact hz9, fun q hs _ => by rw [ht]; exact hk9 q hs⟩) (fun z9 h9 => (hS.2.2 z9 h9).elim) (Nat.le_refl _) (Nat.le_refl _)
  · have hw : okH h0 := hw
    obtain ⟨j, hj, rfl⟩ := hw
    refine lv_aload_n hx hb dX2_pull_4 rfl (lv_at hl 0 rfl) ?_
    refine va_get (D := D) (ci := 2) (v := .ref ah) (C := RX2) (T := TX2) (N := 8) hx hb hts iw_X2_pull_X2 hown hK hP 0 rfl rfl 0 (by decide) (hts _ lk_X2_pull_Cond_fieldLink_RX2_11_SpliceRoom_hooks_LSpliceRoom_Reel_) (fun _ h9 => h9) rfl dX2_pull_5 ?_
    refine lv_iload_n hx hb dX2_pull_8 rfl (lv_at hl 1 rfl) ?_
    refine va_aldq (D := D) hx hb hK hP 1 2 rfl rfl (vp_in_nI hj (by decide)) dX2_pull_9 ?_
    refine W.eq (g2 := F0 m 10 ls (va_rf (hk j) :: [])) (by rw [nI_clamp (by omega)]) ?_
    cases eh : hk j with
    | none =>
      refine lv_astore_nN (lv' := [(3, .null), (0, .ref x), (1, .int (nI j)), (2, .int i0)]) hx hb dX2_pull_10 rfl hl (by decide) rfl (fun ls hl => ?_)
      refine lv_aload_nN hx hb dX2_pull_11 rfl (lv_at hl 0 rfl) ?_
      refine lv_ifnullN (tgt := 22) hx hb dX2_pull_12 (by decide) ?_
      exact vx_throwS (cls := eS) (text := "neither cards nor seals") (names := exN) (sa := sa 95) (A := nA) hx hb hl0 hown (by decide +kernel) exN_fit (hts _ lk_X2_pull_Cond_classLink_RX2_65_eS) (hts _ lk_X2_pull_Cond_initialized_eS) (hC.text (by decide +kernel)) (vx_hat (fun w hw => hts w (xw_X2_pull_eS w hw)) exS_ng hC.all) (good2 exS_ot) (hC.ust nA_N) (hC.sup nA_N) hS (by rw [hml]; exact hl.1) dX2_pull_22 dX2_pull_25 dX2_pull_26 dX2_pull_28 dX2_pull_31 (fun x9 h9 => (hxt x9 h9).elim) (by decide) (Nat.le_of_ble_eq_true rfl) (Nat.le_of_ble_eq_true rfl) (Nat.le_of_ble_eq_true rfl) hlocks (fun t hvm hz9 hk9 => ⟨(), trivial, ⟨Or.inr ⟨j, hj, rfl, Or.inl ⟨rfl, Or.inl eh⟩⟩, h.xo hk9⟩, hz9, fun q hs _ => hk9 q hs⟩) (fun z9 h9 => (hS.2.2 z9 h9).elim) (Nat.le_of_ble_eq_true rfl) (Nat.le_of_ble_eq_true rfl)
    | some r =>
      have lr : Live hk r := ⟨j, hj, eh⟩
      have hP : va_P D vwCl [(x, .inr (2, [.ref ah, .ref ak, .ref b0, .ref b1, .ref b2, .ref b3, .ref b4, .int k])), (ah, .inl (cQ, 6, .inr (.inr (.inr (.inr hk))))), (ak, .inr (0, [.int (kn 0), .int (kn 1), .int (kn 2), .int (kn 3), .int (kn 4), .int (kn 5), .int (kn 6)])), (b0, .inl (cI, 24, .inl (sh 0))), (b1, .inl (cI, 24, .inl (sh 1))), (b2, .inl (cI, 24, .inl (sh 2))), (b3, .inl (cI, 24, .inl (sh 3))), (b4, .inl (cI, 24, .inl (sh 4))), (r, .inr (1, [.int ((re r).1), .ref ((re r).2.1)])), ((re r).2.1, .inl (cL, (re r).2.2.1, .inr (.inl ((re r).2.2.2))))] s.heap := h.P10 lr
      have hzr : (re r).2.2.1 ≤ 40 := (h.2.2.2 r lr).2.2.2.1
      refine lv_astore_n (lv' := [(3, .ref r), (0, .ref x), (1, .int (nI j)), (2, .int i0)]) hx hb dX2_pull_10 rfl hl (by decide) rfl (fun ls hl => ?_)
      refine lv_aload_n hx hb dX2_pull_11 rfl (lv_at hl 0 rfl) ?_
      refine lv_ifnull hx hb dX2_pull_12 ?_
      refine lv_aload_n hx hb dX2_pull_15 rfl (lv_at hl 0 rfl) ?_
      refine ro_i (va_runV (As := []) (rest := []) ⟨hx, hb, hml, hown, hts⟩ (c_X1_holdsCards l (h0 := r) (hP.sub [8] rfl)) (cwV 0 hts gX2_pull_X1_holdsCards rfl rfl rfl (by decide +kernel) ⟨Nat.le_of_ble_eq_true rfl, Nat.le_of_ble_eq_true rfl⟩) (Pq.V hC hS hN (va_recv hK hP (ci := 1) (q0 := 8) rfl rfl)) rfl rfl hl.1 rfl (lv_room (Nat.le_of_ble_eq_true rfl)) dX2_pull_16 ⟨Nat.le_of_ble_eq_true rfl, Nat.le_of_ble_eq_true rfl⟩) hS (fun r_1 locs hw hS => ?_)
      have hw : r_1 = tB ((re r).1 = 3 ∨ (re r).1 = 4) := hw
      subst hw
      refine lv_if_ne (tgt := 32) hx hb dX2_pull_19 (by decide) (fun c_19 => ?_) (fun c_19 => ?_)
      · have c_19 := tB_n.mp c_19
        refine lv_aload_n hx hb dX2_pull_32 rfl (lv_at hl 0 rfl) ?_
        refine lv_iload_n hx hb dX2_pull_33 rfl (lv_at hl 3 rfl) ?_
        refine rx_v (vx_runS (As := [.ref r, .int i0]) (rest := []) ⟨hx, hb, hml, hown, hts⟩ (c_X2_requireFrame l hl0 (i0 := i0) (hP.sub [8, 9] rfl) hzr) (va_cwS 2 hts gX2_pull_X2_requireFrame rfl rfl rfl (by decide +kernel) ⟨Nat.le_of_ble_eq_true rfl, Nat.le_of_ble_eq_true rfl⟩) (Pq.S hC hS hN) rfl rfl hl.1 rfl (lv_room (Nat.le_of_ble_eq_true rfl)) dX2_pull_34 ⟨Nat.le_of_ble_eq_true rfl, Nat.le_of_ble_eq_true rfl⟩) hS (fun ce q9 H9 locs hx9 hz9 hk9 hS hcell hv9 hcl => ?_) (fun locs hw hS => ?_)
        · have hx9 : ¬ okF i0 ((re r).2.2.1) := hx9
          refine vx_widen (k := 3) (n := 18) (by omega) (by omega) ?_
          exact vx_out (fun x9 h9 => (hxt x9 h9).elim) hlocks hcell hv9 hcl (fun t ht hvm => ⟨(), trivial, ⟨Or.inr ⟨j, hj, rfl, Or.inr ⟨rfl, r, eh, c_19, hx9⟩⟩, by rw [ht]; exact h.xo hk9⟩, by rw [ht]; exact hz9, fun q hs _ => by rw [ht]; exact hk9 q hs⟩) (fun z9 h9 => (hS.2.2 z9 h9).elim) (Nat.le_refl _) (Nat.le_refl _)
        · have hw : okF i0 ((re r).2.2.1) := hw
          obtain ⟨i, hi, rfl⟩ := hw
          refine lv_aload_n hx hb dX2_pull_37 rfl (lv_at hl 0 rfl) ?_
          refine va_getN (D := D) (ci := 1) (v := .ref ((re r).2.1)) (C := RX1) (T := TX1) (N := 2) hx hb hts iw_X2_pull_X1 hown hK hP 8 rfl rfl 1 (by decide) (hC.nest (a := RX2) (i := 70) (b := "SpliceRoom$Reel") (n := "row") (d := "[J") (hh := "SpliceRoom") (by decide +kernel)) (fun _ h9 => h9) rfl dX2_pull_38 ?_
          refine lv_iload_n hx hb dX2_pull_41 rfl (lv_at hl 3 rfl) ?_
          refine va_lald (D := D) hx hb hK hP 9 1 rfl rfl (vp_in_nI hi (by omega)) dX2_pull_42 ?_
          refine lv_topl (fun y_2 e9 => ?_)
          have e9 : y_2 = (re r).2.2.2 i := e9.trans (by rw [nI_clamp (by omega)])
          subst e9
          refine lv_ldc2 (v := (-1)) hx hb hown (hts _ lk_X2_pull_Cond_constantLong_RX2_101_1_) dX2_pull_43 ?_
          refine W.lcmp hx hb dX2_pull_46 ?_
          refine lv_if_eq (tgt := 54) hx hb dX2_pull_47 (by decide) (fun c_47 => ?_) (fun c_47 => ?_)
          · have c_47 := (lg_cmp_eq ((re r).2.2.2 i) (-1)).mp c_47
            refine lv_iconst (v := 0) hx hb dX2_pull_54 (by decide) ?_
            refine lv_istore (lv' := [(4, .int 0), (3, .ref r), (0, .ref x), (1, .int (nI j)), (2, .int (nI i))]) hx hb dX2_pull_55 hl (by decide) rfl (fun ls hl => ?_)
            obtain ⟨A, hAe⟩ : ∃ A : Nat → Prop, A = va_A [(x, .inr (2, [.ref ah, .ref ak, .ref b0, .ref b1, .ref b2, .ref b3, .ref b4, .int k])), (ah, .inl (cQ, 6, .inr (.inr (.inr (.inr hk))))), (ak, .inr (0, [.int (kn 0), .int (kn 1), .int (kn 2), .int (kn 3), .int (kn 4), .int (kn 5), .int (kn 6)])), (b0, .inl (cI, 24, .inl (sh 0))), (b1, .inl (cI, 24, .inl (sh 1))), (b2, .inl (cI, 24, .inl (sh 2))), (b3, .inl (cI, 24, .inl (sh 3))), (b4, .inl (cI, 24, .inl (sh 4))), (r, .inr (1, [.int ((re r).1), .ref ((re r).2.1)])), ((re r).2.1, .inl (cL, (re r).2.2.1, .inr (.inl ((re r).2.2.2))))] s.heap.size := ⟨_, rfl⟩
            have hP : va_P D vwCl [(x, .inr (2, [.ref ah, .ref ak, .ref b0, .ref b1, .ref b2, .ref b3, .ref b4, .int k])), (ah, .inl (cQ, 6, .inr (.inr (.inr (.inr hk))))), (ak, .inr (0, [.int (kn 0), .int (kn 1), .int (kn 2), .int (kn 3), .int (kn 4), .int (kn 5), .int (kn 6)])), (b0, .inl (cI, 24, .inl (sh 0))), (b1, .inl (cI, 24, .inl (sh 1))), (b2, .inl (cI, 24, .inl (sh 2))), (b3, .inl (cI, 24, .inl (sh 3))), (b4, .inl (cI, 24, .inl (sh 4))), (r, .inr (1, [.int ((re r).1), .ref ((re r).2.1)])), ((re r).2.1, .inl (cL, (re r).2.2.1, .inr (.inl ((re r).2.2.2))))] s.heap := h.P10 lr
            have hD : va_D A [(x, .inr (2, [.ref ah, .ref ak, .ref b0, .ref b1, .ref b2, .ref b3, .ref b4, .int k])), (ah, .inl (cQ, 6, .inr (.inr (.inr (.inr hk))))), (ak, .inr (0, [.int (kn 0), .int (kn 1), .int (kn 2), .int (kn 3), .int (kn 4), .int (kn 5), .int (kn 6)])), (b0, .inl (cI, 24, .inl (sh 0))), (b1, .inl (cI, 24, .inl (sh 1))), (b2, .inl (cI, 24, .inl (sh 2))), (b3, .inl (cI, 24, .inl (sh 3))), (b4, .inl (cI, 24, .inl (sh 4))), (r, .inr (1, [.int ((re r).1), .ref ((re r).2.1)])), ((re r).2.1, .inl (cL, (re r).2.2.1, .inr (.inl ((re r).2.2.2))))] := by rw [hAe]; exact (h.D10 lr).self
            have hA : ∀ q, s.heap.size ≤ q → A q := fun q z => by rw [hAe]; exact Or.inr z
            have hFA : ∀ q, A q → F q ∨ s.heap.size ≤ q := fun q z => h.in10 lr (hAe ▸ z)
            have hN : ∀ q, A q → N0 ≤ q := fun q z => hNF q (hFA q z)
            have hS : va_S A s.heap s.heap locs := S_mono hS (fun _ z => z.elim)
            refine lv_aload_n hx hb dX2_pull_57 rfl (lv_at hl 1 rfl) ?_
            refine va_getN (D := D) (ci := 1) (v := .ref ((re r).2.1)) (C := RX1) (T := TX1) (N := 2) hx hb hts iw_X2_pull_X1 hown hK hP 8 rfl rfl 1 (by decide) (hC.nest (a := RX2) (i := 70) (b := "SpliceRoom$Reel") (n := "row") (d := "[J") (hh := "SpliceRoom") (by decide +kernel)) (fun _ h9 => h9) rfl dX2_pull_58 ?_
            refine lv_iload_n hx hb dX2_pull_61 rfl (lv_at hl 4 rfl) ?_
            refine lv_ldc2 (v := (-1)) hx hb hown (hts _ lk_X2_pull_Cond_constantLong_RX2_101_1_) dX2_pull_62 ?_
            refine va_last (D := D) hx hb hK hP hD hS 9 1 rfl rfl (vp_in_nI hi (by omega)) dX2_pull_65 (fun H locs hP hD hS => ?_)
            have hP : va_P D vwCl [(x, .inr (2, [.ref ah, .ref ak, .ref b0, .ref b1, .ref b2, .ref b3, .ref b4, .int k])), (ah, .inl (cQ, 6, .inr (.inr (.inr (.inr hk))))), (ak, .inr (0, [.int (kn 0), .int (kn 1), .int (kn 2), .int (kn 3), .int (kn 4), .int (kn 5), .int (kn 6)])), (b0, .inl (cI, 24, .inl (sh 0))), (b1, .inl (cI, 24, .inl (sh 1))), (b2, .inl (cI, 24, .inl (sh 2))), (b3, .inl (cI, 24, .inl (sh 3))), (b4, .inl (cI, 24, .inl (sh 4))), (r, .inr (1, [.int ((re r).1), .ref ((re r).2.1)])), ((re r).2.1, .inl (cL, (re r).2.2.1, .inr (.inl (vp_updL ((re r).2.2.2) ((nI i).toNatClampNeg) (-1)))))] H := hP
            have hD : va_D A [(x, .inr (2, [.ref ah, .ref ak, .ref b0, .ref b1, .ref b2, .ref b3, .ref b4, .int k])), (ah, .inl (cQ, 6, .inr (.inr (.inr (.inr hk))))), (ak, .inr (0, [.int (kn 0), .int (kn 1), .int (kn 2), .int (kn 3), .int (kn 4), .int (kn 5), .int (kn 6)])), (b0, .inl (cI, 24, .inl (sh 0))), (b1, .inl (cI, 24, .inl (sh 1))), (b2, .inl (cI, 24, .inl (sh 2))), (b3, .inl (cI, 24, .inl (sh 3))), (b4, .inl (cI, 24, .inl (sh 4))), (r, .inr (1, [.int ((re r).1), .ref ((re r).2.1)])), ((re r).2.1, .inl (cL, (re r).2.2.1, .inr (.inl (vp_updL ((re r).2.2.2) ((nI i).toNatClampNeg) (-1)))))] := hD
            rw [nI_clamp (show i < 2 ^ 31 by omega)] at hP hD
            refine lv_iload hx hb dX2_pull_66 (lv_at hl 0 rfl) ?_
            refine W.widen (k := 3) (n := 18) (by omega) (by omega) ?_
            exact vx_ret (W.zret (v := 0) hx hb hr (rfl) (fun t ht hW => ⟨⟨_, (hk, va_up re r ((re r).1, (re r).2.1, (re r).2.2.1, vp_updL (re r).2.2.2 i (-1)), kn, sh, k), rfl, ⟨j, r, i, hj, rfl, eh, c_19, hi, rfl, (tB_f (fun h9 => h9 c_47)).symm, rfl⟩, by dsimp only; rw [ht]; exact h.endM lr hP (fun q hs hn => hS.2.1 q hs (by rw [hAe]; exact hn))⟩, (S_mono hS hFA).F ht⟩) (fun z9 h9 => hFA _ (hS.2.2 z9 h9)) dX2_pull_68)
          · have c_47 := fun h9 => c_47 ((lg_cmp_eq ((re r).2.2.2 i) (-1)).mpr h9)
            refine lv_iconst (v := 1) hx hb dX2_pull_50 (by decide) ?_
            refine lv_goto (tgt := 55) hx hb dX2_pull_51 (by decide) ?_
            refine lv_istore (lv' := [(4, .int 1), (3, .ref r), (0, .ref x), (1, .int (nI j)), (2, .int (nI i))]) hx hb dX2_pull_55 hl (by decide) rfl (fun ls hl => ?_)
            obtain ⟨A, hAe⟩ : ∃ A : Nat → Prop, A = va_A [(x, .inr (2, [.ref ah, .ref ak, .ref b0, .ref b1, .ref b2, .ref b3, .ref b4, .int k])), (ah, .inl (cQ, 6, .inr (.inr (.inr (.inr hk))))), (ak, .inr (0, [.int (kn 0), .int (kn 1), .int (kn 2), .int (kn 3), .int (kn 4), .int (kn 5), .int (kn 6)])), (b0, .inl (cI, 24, .inl (sh 0))), (b1, .inl (cI, 24, .inl (sh 1))), (b2, .inl (cI, 24, .inl (sh 2))), (b3, .inl (cI, 24, .inl (sh 3))), (b4, .inl (cI, 24, .inl (sh 4))), (r, .inr (1, [.int ((re r).1), .ref ((re r).2.1)])), ((re r).2.1, .inl (cL, (re r).2.2.1, .inr (.inl ((re r).2.2.2))))] s.heap.size := ⟨_, rfl⟩
            have hP : va_P D vwCl [(x, .inr (2, [.ref ah, .ref ak, .ref b0, .ref b1, .ref b2, .ref b3, .ref b4, .int k])), (ah, .inl (cQ, 6, .inr (.inr (.inr (.inr hk))))), (ak, .inr (0, [.int (kn 0), .int (kn 1), .int (kn 2), .int (kn 3), .int (kn 4), .int (kn 5), .int (kn 6)])), (b0, .inl (cI, 24, .inl (sh 0))), (b1, .inl (cI, 24, .inl (sh 1))), (b2, .inl (cI, 24, .inl (sh 2))), (b3, .inl (cI, 24, .inl (sh 3))), (b4, .inl (cI, 24, .inl (sh 4))), (r, .inr (1, [.int ((re r).1), .ref ((re r).2.1)])), ((re r).2.1, .inl (cL, (re r).2.2.1, .inr (.inl ((re r).2.2.2))))] s.heap := h.P10 lr
            have hD : va_D A [(x, .inr (2, [.ref ah, .ref ak, .ref b0, .ref b1, .ref b2, .ref b3, .ref b4, .int k])), (ah, .inl (cQ, 6, .inr (.inr (.inr (.inr hk))))), (ak, .inr (0, [.int (kn 0), .int (kn 1), .int (kn 2), .int (kn 3), .int (kn 4), .int (kn 5), .int (kn 6)])), (b0, .inl (cI, 24, .inl (sh 0))), (b1, .inl (cI, 24, .inl (sh 1))), (b2, .inl (cI, 24, .inl (sh 2))), (b3, .inl (cI, 24, .inl (sh 3))), (b4, .inl (cI, 24, .inl (sh 4))), (r, .inr (1, [.int ((re r).1), .ref ((re r).2.1)])), ((re r).2.1, .inl (cL, (re r).2.2.1, .inr (.inl ((re r).2.2.2))))] := by rw [hAe]; exact (h.D10 lr).self
            have hA : ∀ q, s.heap.size ≤ q → A q := fun q z => by rw [hAe]; exact Or.inr z
            have hFA : ∀ q, A q → F q ∨ s.heap.size ≤ q := fun q z => h.in10 lr (hAe ▸ z)
            have hN : ∀ q, A q → N0 ≤ q := fun q z => hNF q (hFA q z)
            have hS : va_S A s.heap s.heap locs := S_mono hS (fun _ z => z.elim)
            refine lv_aload_n hx hb dX2_pull_57 rfl (lv_at hl 1 rfl) ?_
            refine va_getN (D := D) (ci := 1) (v := .ref ((re r).2.1)) (C := RX1) (T := TX1) (N := 2) hx hb hts iw_X2_pull_X1 hown hK hP 8 rfl rfl 1 (by decide) (hC.nest (a := RX2) (i := 70) (b := "SpliceRoom$Reel") (n := "row") (d := "[J") (hh := "SpliceRoom") (by decide +kernel)) (fun _ h9 => h9) rfl dX2_pull_58 ?_
            refine lv_iload_n hx hb dX2_pull_61 rfl (lv_at hl 4 rfl) ?_
            refine lv_ldc2 (v := (-1)) hx hb hown (hts _ lk_X2_pull_Cond_constantLong_RX2_101_1_) dX2_pull_62 ?_
            refine va_last (D := D) hx hb hK hP hD hS 9 1 rfl rfl (vp_in_nI hi (by omega)) dX2_pull_65 (fun H locs hP hD hS => ?_)
            have hP : va_P D vwCl [(x, .inr (2, [.ref ah, .ref ak, .ref b0, .ref b1, .ref b2, .ref b3, .ref b4, .int k])), (ah, .inl (cQ, 6, .inr (.inr (.inr (.inr hk))))), (ak, .inr (0, [.int (kn 0), .int (kn 1), .int (kn 2), .int (kn 3), .int (kn 4), .int (kn 5), .int (kn 6)])), (b0, .inl (cI, 24, .inl (sh 0))), (b1, .inl (cI, 24, .inl (sh 1))), (b2, .inl (cI, 24, .inl (sh 2))), (b3, .inl (cI, 24, .inl (sh 3))), (b4, .inl (cI, 24, .inl (sh 4))), (r, .inr (1, [.int ((re r).1), .ref ((re r).2.1)])), ((re r).2.1, .inl (cL, (re r).2.2.1, .inr (.inl (vp_updL ((re r).2.2.2) ((nI i).toNatClampNeg) (-1)))))] H := hP
            have hD : va_D A [(x, .inr (2, [.ref ah, .ref ak, .ref b0, .ref b1, .ref b2, .ref b3, .ref b4, .int k])), (ah, .inl (cQ, 6, .inr (.inr (.inr (.inr hk))))), (ak, .inr (0, [.int (kn 0), .int (kn 1), .int (kn 2), .int (kn 3), .int (kn 4), .int (kn 5), .int (kn 6)])), (b0, .inl (cI, 24, .inl (sh 0))), (b1, .inl (cI, 24, .inl (sh 1))), (b2, .inl (cI, 24, .inl (sh 2))), (b3, .inl (cI, 24, .inl (sh 3))), (b4, .inl (cI, 24, .inl (sh 4))), (r, .inr (1, [.int ((re r).1), .ref ((re r).2.1)])), ((re r).2.1, .inl (cL, (re r).2.2.1, .inr (.inl (vp_updL ((re r).2.2.2) ((nI i).toNatClampNeg) (-1)))))] := hD
            rw [nI_clamp (show i < 2 ^ 31 by omega)] at hP hD
            refine lv_iload hx hb dX2_pull_66 (lv_at hl 0 rfl) ?_
            refine W.widen (k := 3) (n := 18) (by omega) (by omega) ?_
            exact vx_ret (W.zret (v := 1) hx hb hr (rfl) (fun t ht hW => ⟨⟨_, (hk, va_up re r ((re r).1, (re r).2.1, (re r).2.2.1, vp_updL (re r).2.2.2 i (-1)), kn, sh, k), rfl, ⟨j, r, i, hj, rfl, eh, c_19, hi, rfl, (tB_t (show ¬ (re r).2.2.2 i = -1 from c_47)).symm, rfl⟩, by dsimp only; rw [ht]; exact h.endM lr hP (fun q hs hn => hS.2.1 q hs (by rw [hAe]; exact hn))⟩, (S_mono hS hFA).F ht⟩) (fun z9 h9 => hFA _ (hS.2.2 z9 h9)) dX2_pull_68)
      · have c_19 := tB_0.mp c_19
        exact vx_throwS (cls := eS) (text := "neither cards nor seals") (names := exN) (sa := sa 95) (A := nA) hx hb hl0 hown (by decide +kernel) exN_fit (hts _ lk_X2_pull_Cond_classLink_RX2_65_eS) (hts _ lk_X2_pull_Cond_initialized_eS) (hC.text (by decide +kernel)) (vx_hat (fun w hw => hts w (xw_X2_pull_eS w hw)) exS_ng hC.all) (good2 exS_ot) (hC.ust nA_N) (hC.sup nA_N) hS (by rw [hml]; exact hl.1) dX2_pull_22 dX2_pull_25 dX2_pull_26 dX2_pull_28 dX2_pull_31 (fun x9 h9 => (hxt x9 h9).elim) (by decide) (Nat.le_of_ble_eq_true rfl) (Nat.le_of_ble_eq_true rfl) (Nat.le_of_ble_eq_true rfl) hlocks (fun t hvm hz9 hk9 => ⟨(), trivial, ⟨Or.inr ⟨j, hj, rfl, Or.inl ⟨rfl, Or.inr ⟨r, eh, c_19⟩⟩⟩, h.xo hk9⟩, hz9, fun q hs _ => hk9 q hs⟩) (fun z9 h9 => (hS.2.2 z9 h9).elim) (Nat.le_of_ble_eq_true rfl) (Nat.le_of_ble_eq_true rfl)
/-- a card's number, and 1000 if it is sealed -/
def cdV (n s : Int32) : Int64 := if s = 0 then n.toInt64 else (1000 + n).toInt64
theorem xw_X2_paste_eA : ∀ w ∈ (vx_atS RX2 50 eA exN).filter goodWord, w ∈ wsX2_paste := by decide +kernel
theorem xw_X2_paste_eS : ∀ w ∈ (vx_atS RX2 69 eS exN).filter goodWord, w ∈ wsX2_paste := by decide +kernel
theorem iw_X2_paste_X1 : ∀ w ∈ wsX10, w ∈ wsX2_paste := by decide +kernel
theorem iw_X2_paste_X2 : ∀ w ∈ wsX20, w ∈ wsX2_paste := by decide +kernel
theorem lk_X2_paste_Cond_classLink_RX2_46_eA : Cond.classLink RX2 46 eA ∈ wsX2_paste := by decide +kernel
theorem lk_X2_paste_Cond_classLink_RX2_65_eS : Cond.classLink RX2 65 eS ∈ wsX2_paste := by decide +kernel
theorem lk_X2_paste_Cond_fieldLink_RX2_11_SpliceRoom_hooks_LSpliceRoom_Reel_ : Cond.fieldLink RX2 11 "SpliceRoom" "hooks" "[LSpliceRoom$Reel;" ∈ wsX2_paste := by decide +kernel
theorem lk_X2_paste_Cond_initialized_eA : Cond.initialized eA ∈ wsX2_paste := by decide +kernel
theorem lk_X2_paste_Cond_initialized_eS : Cond.initialized eS ∈ wsX2_paste := by decide +kernel
set_option maxHeartbeats 4000000 in
set_option maxRecDepth 100000 in
theorem c_X2_paste (l : Launch) {D : va_G} {cI cL cQ : ClassId} {N0 : Nat} {sa : Nat → Nat} {Hc : Heap} (hl0 : l.stackTraces = false) {x ah ak b0 b1 b2 b3 b4 : Nat} {F : Nat → Prop} {hk : Nat → Option Nat} {re : Nat → RE} {kn : Nat → Int32} {sh : Nat → Nat → Int32} {k : Int32} (h : RSB D cI cL cQ x ah ak b0 b1 b2 b3 b4 F (hk, re, kn, sh, k) Hc) (hNF : ∀ q, F q ∨ Hc.size ≤ q → N0 ≤ q) {h0 i0 n0 s0 : Int32} : vx_Met l yX2_paste wsX2_paste ({ frames := 7, cells := 3, slots := 18, locals := 110 }) (Pq D cI cL cQ N0 sa [.ref x, .int h0, .int i0, .int n0, .int s0] Hc) (va_Qi (fun (rr : Int32) (u : CS) => ∃ j1 r1 i1 : Nat, j1 < 6 ∧ h0 = nI j1 ∧ ¬ n0 < 0 ∧ n0 < 1000 ∧ hk j1 = some r1 ∧ ((re r1).1 = 3 ∨ (re r1).1 = 4) ∧ i1 < (re r1).2.2.1 ∧ i0 = nI i1 ∧ ((kTake (re r1).1 (cdV n0 s0) ∧ rr = 1 ∧ u = (hk, va_up re r1 ((re r1).1, (re r1).2.1, (re r1).2.2.1, vp_updL (re r1).2.2.2 i1 (cdV n0 s0)), kn, sh, k)) ∨ (¬ kTake (re r1).1 (cdV n0 s0) ∧ rr = 0 ∧ u = (hk, re, kn, sh, k)))) (fun u t => RSB D cI cL cQ x ah ak b0 b1 b2 b3 b4 (fun q => F q ∨ Hc.size ≤ q) u t.heap) (fun q => F q ∨ Hc.size ≤ q)) (vx_X (fun (_ : Unit) => True) (fun E _ t => ((E = eA ∧ ¬ (okH h0 ∧ ¬ n0 < 0 ∧ n0 < 1000)) ∨ (∃ j1 : Nat, j1 < 6 ∧ h0 = nI j1 ∧ (¬ n0 < 0 ∧ n0 < 1000) ∧ ((E = eS ∧ (hk j1 = none ∨ ∃ r1 : Nat, hk j1 = some r1 ∧ ¬ ((re r1).1 = 3 ∨ (re r1).1 = 4))) ∨ (E = eI ∧ ∃ r1 : Nat, hk j1 = some r1 ∧ ((re r1).1 = 3 ∨ (re r1).1 = 4) ∧ ¬ okF i0 (re r1).2.2.1)))) ∧ RSB D cI cL cQ x ah ak b0 b1 b2 b3 b4 (fun q => F q ∨ Hc.size ≤ q) (hk, re, kn, sh, k) t.heap) (fun q => F q ∨ Hc.size ≤ q)) 3 18 (fun q => F q ∨ Hc.size ≤ q) := by
  refine vx_ofW (cc := cX2_paste) (maxL := 8) (ret := (some .boolean)) (by decide) rfl ?_
  intro p e s m args below meth c s₁ B hml hxt hv
  obtain ⟨rfl, hH, hC⟩ := hv
  have hx := B.exec
  have hb := B.bytes
  have hr := B.returns
  have hts := atoms_spec (ws := wsX2_paste) B.pre
  have hown : s.vm.findClass RX2 = some m.cls := findClass_of_methodNamed B.named
  have hlocks := B.notSynchronized
  subst hH
  have hK := hC.K
  have hl := lv_entry ([.ref x, .int h0, .int i0, .int n0, .int s0]) (n := 8) (Nat.le_of_ble_eq_true rfl)
  rw [lg_entry_eq]
  generalize (lg_sl ([.ref x, .int h0, .int i0, .int n0, .int s0]) ++ List.replicate (8 - (lg_sl ([.ref x, .int h0, .int i0, .int n0, .int s0])).length) Slot.unset).toArray = ls at hl ⊢
  have hl : lv_has ls 8 [(0, .ref x), (1, .int h0), (2, .int i0), (3, .int n0), (4, .int s0)] := hl
  have hP : va_P D vwCl [(x, .inr (2, [.ref ah, .ref ak, .ref b0, .ref b1, .ref b2, .ref b3, .ref b4, .int k])), (ah, .inl (cQ, 6, .inr (.inr (.inr (.inr hk))))), (ak, .inr (0, [.int (kn 0), .int (kn 1), .int (kn 2), .int (kn 3), .int (kn 4), .int (kn 5), .int (kn 6)])), (b0, .inl (cI, 24, .inl (sh 0))), (b1, .inl (cI, 24, .inl (sh 1))), (b2, .inl (cI, 24, .inl (sh 2))), (b3, .inl (cI, 24, .inl (sh 3))), (b4, .inl (cI, 24, .inl (sh 4)))] s.heap := h.P8
  have hS : va_S nA s.heap s.heap [] := va_S.rf
  have hN : ∀ q, nA q → N0 ≤ q := nA_N
  refine lv_iload_n hx hb dX2_paste_0 rfl (lv_at hl 1 rfl) ?_
  refine rx_v (vx_runS (As := [.int h0]) (rest := []) ⟨hx, hb, hml, hown, hts⟩ (c_X2_requireHook l hl0 (h0 := h0)) (va_cwS 1 hts gX2_paste_X2_requireHook rfl rfl rfl (by decide +kernel) ⟨Nat.le_of_ble_eq_true rfl, Nat.le_of_ble_eq_true rfl⟩) (Pq.S hC hS hN) rfl rfl hl.1 rfl (lv_room (Nat.le_of_ble_eq_true rfl)) dX2_paste_1 ⟨Nat.le_of_ble_eq_true rfl, Nat.le_of_ble_eq_true rfl⟩) hS (fun ce q9 H9 locs hx9 hz9 hk9 hS hcell hv9 hcl => ?_) (fun locs hw hS => ?_)
  · have hx9 : ¬ okH h0 := hx9
    refine vx_widen (k := 3) (n := 18) (by omega) (by omega) ?_
    exact vx_out (fun x9 h9 => (hxt x9 h9).elim) hlocks hcell hv9 hcl (fun t ht hvm => ⟨(), trivial, ⟨Or.inl ⟨rfl, fun h9 => hx9 h9.1⟩, by rw [ht]; exact h.xo hk9⟩, by rw [ht]; exact hz9, fun q hs _ => by rw [ht]; exact hk9 q hs⟩) (fun z9 h9 => (hS.2.2 z9 h9).elim) (Nat.le_refl _) (Nat.le_refl _)
  · have hw : okH h0 := hw
    obtain ⟨j, hj, rfl⟩ := hw
    refine lv_iload_n hx hb dX2_paste_4 rfl (lv_at hl 3 rfl) ?_
    refine lv_if_lt (tgt := 15) hx hb dX2_paste_5 (by decide) (fun c_5 => ?_) (fun c_5 => ?_)
    · exact vx_throwS (cls := eA) (text := "no such number") (names := exN) (sa := sa 90) (A := nA) hx hb hl0 hown (by decide +kernel) exN_fit (hts _ lk_X2_paste_Cond_classLink_RX2_46_eA) (hts _ lk_X2_paste_Cond_initialized_eA) (hC.text (by decide +kernel)) (vx_hat (fun w hw => hts w (xw_X2_paste_eA w hw)) exA_ng hC.all) (good2 exA_ot) (hC.ust nA_N) (hC.sup nA_N) hS (by rw [hml]; exact hl.1) dX2_paste_15 dX2_paste_18 dX2_paste_19 dX2_paste_21 dX2_paste_24 (fun x9 h9 => (hxt x9 h9).elim) (by decide) (Nat.le_of_ble_eq_true rfl) (Nat.le_of_ble_eq_true rfl) (Nat.le_of_ble_eq_true rfl) hlocks (fun t hvm hz9 hk9 => ⟨(), trivial, ⟨Or.inl ⟨rfl, fun h9 => h9.2.1 c_5⟩, h.xo hk9⟩, hz9, fun q hs _ => hk9 q hs⟩) (fun z9 h9 => (hS.2.2 z9 h9).elim) (Nat.le_of_ble_eq_true rfl) (Nat.le_of_ble_eq_true rfl)
    · refine lv_iload_n hx hb dX2_paste_8 rfl (lv_at hl 3 rfl) ?_
      refine lv_sipush (v := 1000) hx hb dX2_paste_9 (by decide) ?_
      refine lv_icmp_lt (tgt := 25) hx hb dX2_paste_12 (by decide) (fun c_12 => ?_) (fun c_12 => ?_)
      · refine lv_aload_n hx hb dX2_paste_25 rfl (lv_at hl 0 rfl) ?_
        refine va_get (D := D) (ci := 2) (v := .ref ah) (C := RX2) (T := TX2) (N := 8) hx hb hts iw_X2_paste_X2 hown hK hP 0 rfl rfl 0 (by decide) (hts _ lk_X2_paste_Cond_fieldLink_RX2_11_SpliceRoom_hooks_LSpliceRoom_Reel_) (fun _ h9 => h9) rfl dX2_paste_26 ?_
        refine lv_iload_n hx hb dX2_paste_29 rfl (lv_at hl 1 rfl) ?_
        refine va_aldq (D := D) hx hb hK hP 1 2 rfl rfl (vp_in_nI hj (by decide)) dX2_paste_30 ?_
        refine W.eq (g2 := F0 m 31 ls (va_rf (hk j) :: [])) (by rw [nI_clamp (by omega)]) ?_
        cases eh : hk j with
        | none =>
          refine lv_astoreN (lv' := [(5, .null), (0, .ref x), (1, .int (nI j)), (2, .int i0), (3, .int n0), (4, .int s0)]) hx hb dX2_paste_31 hl (by decide) rfl (fun ls hl => ?_)
          refine lv_aloadN hx hb dX2_paste_33 (lv_at hl 0 rfl) ?_
          refine lv_ifnullN (tgt := 46) hx hb dX2_paste_35 (by decide) ?_
          exact vx_throwS (cls := eS) (text := "neither cards nor seals") (names := exN) (sa := sa 95) (A := nA) hx hb hl0 hown (by decide +kernel) exN_fit (hts _ lk_X2_paste_Cond_classLink_RX2_65_eS) (hts _ lk_X2_paste_Cond_initialized_eS) (hC.text (by decide +kernel)) (vx_hat (fun w hw => hts w (xw_X2_paste_eS w hw)) exS_ng hC.all) (good2 exS_ot) (hC.ust nA_N) (hC.sup nA_N) hS (by rw [hml]; exact hl.1) dX2_paste_46 dX2_paste_49 dX2_paste_50 dX2_paste_52 dX2_paste_55 (fun x9 h9 => (hxt x9 h9).elim) (by decide) (Nat.le_of_ble_eq_true rfl) (Nat.le_of_ble_eq_true rfl) (Nat.le_of_ble_eq_true rfl) hlocks (fun t hvm hz9 hk9 => ⟨(), trivial, ⟨Or.inr ⟨j, hj, rfl, ⟨c_5, c_12⟩, Or.inl ⟨rfl, Or.inl eh⟩⟩, h.xo hk9⟩, hz9, fun q hs _ => hk9 q hs⟩) (fun z9 h9 => (hS.2.2 z9 h9).elim) (Nat.le_of_ble_eq_true rfl) (Nat.le_of_ble_eq_true rfl)
        | some r =>
          have lr : Live hk r := ⟨j, hj, eh⟩
          have hP : va_P D vwCl [(x, .inr (2, [.ref ah, .ref ak, .ref b0, .ref b1, .ref b2, .ref b3, .ref b4, .int k])), (ah, .inl (cQ, 6, .inr (.inr (.inr (.inr hk))))), (ak, .inr (0, [.int (kn 0), .int (kn 1), .int (kn 2), .int (kn 3), .int (kn 4), .int (kn 5), .int (kn 6)])), (b0, .inl (cI, 24, .inl (sh 0))), (b1, .inl (cI, 24, .inl (sh 1))), (b2, .inl (cI, 24, .inl (sh 2))), (b3, .inl (cI, 24, .inl (sh 3))), (b4, .inl (cI, 24, .inl (sh 4))), (r, .inr (1, [.int ((re r).1), .ref ((re r).2.1)])), ((re r).2.1, .inl (cL, (re r).2.2.1, .inr (.inl ((re r).2.2.2))))] s.heap := h.P10 lr
          have hzr : (re r).2.2.1 ≤ 40 := (h.2.2.2 r lr).2.2.2.1
          refine lv_astore (lv' := [(5, .ref r), (0, .ref x), (1, .int (nI j)), (2, .int i0), (3, .int n0), (4, .int s0)]) hx hb dX2_paste_31 hl (by decide) rfl (fun ls hl => ?_)
          refine lv_aload hx hb dX2_paste_33 (lv_at hl 0 rfl) ?_
          refine lv_ifnull hx hb dX2_paste_35 ?_
          refine lv_aload hx hb dX2_paste_38 (lv_at hl 0 rfl) ?_
          refine ro_i (va_runV (As := []) (rest := []) ⟨hx, hb, hml, hown, hts⟩ (c_X1_holdsCards l (h0 := r) (hP.sub [8] rfl)) (cwV 0 hts gX2_paste_X1_holdsCards rfl rfl rfl (by decide +kernel) ⟨Nat.le_of_ble_eq_true rfl, Nat.le_of_ble_eq_true rfl⟩) (Pq.V hC hS hN (va_recv hK hP (ci := 1) (q0 := 8) rfl rfl)) rfl rfl hl.1 rfl (lv_room (Nat.le_of_ble_eq_true rfl)) dX2_paste_40 ⟨Nat.le_of_ble_eq_true rfl, Nat.le_of_ble_eq_true rfl⟩) hS (fun r_1 locs hw hS => ?_)
          have hw : r_1 = tB ((re r).1 = 3 ∨ (re r).1 = 4) := hw
          subst hw
          refine lv_if_ne (tgt := 56) hx hb dX2_paste_43 (by decide) (fun c_43 => ?_) (fun c_43 => ?_)
          · have c_43 := tB_n.mp c_43
            refine lv_aload hx hb dX2_paste_56 (lv_at hl 0 rfl) ?_
            refine lv_iload_n hx hb dX2_paste_58 rfl (lv_at hl 3 rfl) ?_
            refine rx_v (vx_runS (As := [.ref r, .int i0]) (rest := []) ⟨hx, hb, hml, hown, hts⟩ (c_X2_requireFrame l hl0 (i0 := i0) (hP.sub [8, 9] rfl) hzr) (va_cwS 2 hts gX2_paste_X2_requireFrame rfl rfl rfl (by decide +kernel) ⟨Nat.le_of_ble_eq_true rfl, Nat.le_of_ble_eq_true rfl⟩) (Pq.S hC hS hN) rfl rfl hl.1 rfl (lv_room (Nat.le_of_ble_eq_true rfl)) dX2_paste_59 ⟨Nat.le_of_ble_eq_true rfl, Nat.le_of_ble_eq_true rfl⟩) hS (fun ce q9 H9 locs hx9 hz9 hk9 hS hcell hv9 hcl => ?_) (fun locs hw hS => ?_)
            · have hx9 : ¬ okF i0 ((re r).2.2.1) := hx9
              refine vx_widen (k := 3) (n := 18) (by omega) (by omega) ?_
              exact vx_out (fun x9 h9 => (hxt x9 h9).elim) hlocks hcell hv9 hcl (fun t ht hvm => ⟨(), trivial, ⟨Or.inr ⟨j, hj, rfl, ⟨c_5, c_12⟩, Or.inr ⟨rfl, r, eh, c_43, hx9⟩⟩, by rw [ht]; exact h.xo hk9⟩, by rw [ht]; exact hz9, fun q hs _ => by rw [ht]; exact hk9 q hs⟩) (fun z9 h9 => (hS.2.2 z9 h9).elim) (Nat.le_refl _) (Nat.le_refl _)
            · have hw : okF i0 ((re r).2.2.1) := hw
              obtain ⟨i, hi, rfl⟩ := hw
              refine lv_iload hx hb dX2_paste_62 (lv_at hl 5 rfl) ?_
              refine lv_if_eq (tgt := 76) hx hb dX2_paste_64 (by decide) (fun c_64 => ?_) (fun c_64 => ?_)
              · refine lv_iload_n hx hb dX2_paste_76 rfl (lv_at hl 4 rfl) ?_
                refine lv_i2l hx hb dX2_paste_77 rfl ?_
                have e78 : cdV n0 s0 = n0.toInt64 := by rw [cdV, if_pos c_64]
                refine lv_topl (fun y_2 e9 => ?_)
                have e9 : y_2 = cdV n0 s0 := e9.trans (e78.symm)
                subst e9
                refine lv_lstore (lv' := [(6, .long (cdV n0 s0)), (5, .ref r), (0, .ref x), (1, .int (nI j)), (2, .int (nI i)), (3, .int n0), (4, .int s0)]) hx hb dX2_paste_78 hl (by decide) rfl (fun ls hl => ?_)
                refine lv_aload hx hb dX2_paste_80 (lv_at hl 1 rfl) ?_
                refine lv_lload hx hb dX2_paste_82 (lv_at hl 0 rfl) ?_
                refine ro_i (va_runV (As := [.long (cdV n0 s0)]) (rest := []) ⟨hx, hb, hml, hown, hts⟩ (c_X1_takes l (h0 := r) (v0 := cdV n0 s0) (hP.sub [8] rfl)) (cwV 1 hts gX2_paste_X1_takes rfl rfl rfl (by decide +kernel) ⟨Nat.le_of_ble_eq_true rfl, Nat.le_of_ble_eq_true rfl⟩) (Pq.V hC hS hN (va_recv hK hP (ci := 1) (q0 := 8) rfl rfl)) rfl rfl hl.1 rfl (lv_room (Nat.le_of_ble_eq_true rfl)) dX2_paste_84 ⟨Nat.le_of_ble_eq_true rfl, Nat.le_of_ble_eq_true rfl⟩) hS (fun r_3 locs hw hS => ?_)
                have hw : r_3 = tB (kTake ((re r).1) (cdV n0 s0)) := hw
                subst hw
                refine lv_if_ne (tgt := 92) hx hb dX2_paste_87 (by decide) (fun c_87 => ?_) (fun c_87 => ?_)
                · have c_87 := tB_n.mp c_87
                  obtain ⟨A, hAe⟩ : ∃ A : Nat → Prop, A = va_A [(x, .inr (2, [.ref ah, .ref ak, .ref b0, .ref b1, .ref b2, .ref b3, .ref b4, .int k])), (ah, .inl (cQ, 6, .inr (.inr (.inr (.inr hk))))), (ak, .inr (0, [.int (kn 0), .int (kn 1), .int (kn 2), .int (kn 3), .int (kn 4), .int (kn 5), .int (kn 6)])), (b0, .inl (cI, 24, .inl (sh 0))), (b1, .inl (cI, 24, .inl (sh 1))), (b2, .inl (cI, 24, .inl (sh 2))), (b3, .inl (cI, 24, .inl (sh 3))), (b4, .inl (cI, 24, .inl (sh 4))), (r, .inr (1, [.int ((re r).1), .ref ((re r).2.1)])), ((re r).2.1, .inl (cL, (re r).2.2.1, .inr (.inl ((re r).2.2.2))))] s.heap.size := ⟨_, rfl⟩
                  have hP : va_P D vwCl [(x, .inr (2, [.ref ah, .ref ak, .ref b0, .ref b1, .ref b2, .ref b3, .ref b4, .int k])), (ah, .inl (cQ, 6, .inr (.inr (.inr (.inr hk))))), (ak, .inr (0, [.int (kn 0), .int (kn 1), .int (kn 2), .int (kn 3), .int (kn 4), .int (kn 5), .int (kn 6)])), (b0, .inl (cI, 24, .inl (sh 0))), (b1, .inl (cI, 24, .inl (sh 1))), (b2, .inl (cI, 24, .inl (sh 2))), (b3, .inl (cI, 24, .inl (sh 3))), (b4, .inl (cI, 24, .inl (sh 4))), (r, .inr (1, [.int ((re r).1), .ref ((re r).2.1)])), ((re r).2.1, .inl (cL, (re r).2.2.1, .inr (.inl ((re r).2.2.2))))] s.heap := h.P10 lr
                  have hD : va_D A [(x, .inr (2, [.ref ah, .ref ak, .ref b0, .ref b1, .ref b2, .ref b3, .ref b4, .int k])), (ah, .inl (cQ, 6, .inr (.inr (.inr (.inr hk))))), (ak, .inr (0, [.int (kn 0), .int (kn 1), .int (kn 2), .int (kn 3), .int (kn 4), .int (kn 5), .int (kn 6)])), (b0, .inl (cI, 24, .inl (sh 0))), (b1, .inl (cI, 24, .inl (sh 1))), (b2, .inl (cI, 24, .inl (sh 2))), (b3, .inl (cI, 24, .inl (sh 3))), (b4, .inl (cI, 24, .inl (sh 4))), (r, .inr (1, [.int ((re r).1), .ref ((re r).2.1)])), ((re r).2.1, .inl (cL, (re r).2.2.1, .inr (.inl ((re r).2.2.2))))] := by rw [hAe]; exact (h.D10 lr).self
                  have hA : ∀ q, s.heap.size ≤ q → A q := fun q z => by rw [hAe]; exact Or.inr z
                  have hFA : ∀ q, A q → F q ∨ s.heap.size ≤ q := fun q z => h.in10 lr (hAe ▸ z)
                  have hN : ∀ q, A q → N0 ≤ q := fun q z => hNF q (hFA q z)
                  have hS : va_S A s.heap s.heap locs := S_mono hS (fun _ z => z.elim)
                  refine lv_aload hx hb dX2_paste_92 (lv_at hl 1 rfl) ?_
                  refine va_getN (D := D) (ci := 1) (v := .ref ((re r).2.1)) (C := RX1) (T := TX1) (N := 2) hx hb hts iw_X2_paste_X1 hown hK hP 8 rfl rfl 1 (by decide) (hC.nest (a := RX2) (i := 70) (b := "SpliceRoom$Reel") (n := "row") (d := "[J") (hh := "SpliceRoom") (by decide +kernel)) (fun _ h9 => h9) rfl dX2_paste_94 ?_
                  refine lv_iload_n hx hb dX2_paste_97 rfl (lv_at hl 4 rfl) ?_
                  refine lv_lload hx hb dX2_paste_98 (lv_at hl 0 rfl) ?_
                  refine va_last (D := D) hx hb hK hP hD hS 9 1 rfl rfl (vp_in_nI hi (by omega)) dX2_paste_100 (fun H locs hP hD hS => ?_)
                  have hP : va_P D vwCl [(x, .inr (2, [.ref ah, .ref ak, .ref b0, .ref b1, .ref b2, .ref b3, .ref b4, .int k])), (ah, .inl (cQ, 6, .inr (.inr (.inr (.inr hk))))), (ak, .inr (0, [.int (kn 0), .int (kn 1), .int (kn 2), .int (kn 3), .int (kn 4), .int (kn 5), .int (kn 6)])), (b0, .inl (cI, 24, .inl (sh 0))), (b1, .inl (cI, 24, .inl (sh 1))), (b2, .inl (cI, 24, .inl (sh 2))), (b3, .inl (cI, 24, .inl (sh 3))), (b4, .inl (cI, 24, .inl (sh 4))), (r, .inr (1, [.int ((re r).1), .ref ((re r).2.1)])), ((re r).2.1, .inl (cL, (re r).2.2.1, .inr (.inl (vp_updL ((re r).2.2.2) ((nI i).toNatClampNeg) (cdV n0 s0)))))] H := hP
                  have hD : va_D A [(x, .inr (2, [.ref ah, .ref ak, .ref b0, .ref b1, .ref b2, .ref b3, .ref b4, .int k])), (ah, .inl (cQ, 6, .inr (.inr (.inr (.inr hk))))), (ak, .inr (0, [.int (kn 0), .int (kn 1), .int (kn 2), .int (kn 3), .int (kn 4), .int (kn 5), .int (kn 6)])), (b0, .inl (cI, 24, .inl (sh 0))), (b1, .inl (cI, 24, .inl (sh 1))), (b2, .inl (cI, 24, .inl (sh 2))), (b3, .inl (cI, 24, .inl (sh 3))), (b4, .inl (cI, 24, .inl (sh 4))), (r, .inr (1, [.int ((re r).1), .ref ((re r).2.1)])), ((re r).2.1, .inl (cL, (re r).2.2.1, .inr (.inl (vp_updL ((re r).2.2.2) ((nI i).toNatClampNeg) (cdV n0 s0)))))] := hD
                  rw [nI_clamp (show i < 2 ^ 31 by omega)] at hP hD
                  refine lv_iconst (v := 1) hx hb dX2_paste_101 (by decide) ?_
                  refine W.widen (k := 3) (n := 18) (by omega) (by omega) ?_
                  exact vx_ret (W.zret (v := 1) hx hb hr (rfl) (fun t ht hW => ⟨⟨_, (hk, va_up re r ((re r).1, (re r).2.1, (re r).2.2.1, vp_updL (re r).2.2.2 i (cdV n0 s0)), kn, sh, k), rfl, ⟨j, r, i, hj, rfl, c_5, c_12, eh, c_43, hi, rfl, Or.inl ⟨c_87, rfl, rfl⟩⟩, by dsimp only; rw [ht]; exact h.endM lr hP (fun q hs hn => hS.2.1 q hs (by rw [hAe]; exact hn))⟩, (S_mono hS hFA).F ht⟩) (fun z9 h9 => hFA _ (hS.2.2 z9 h9)) dX2_paste_102)
                · have c_87 := tB_0.mp c_87
                  refine lv_iconst (v := 0) hx hb dX2_paste_90 (by decide) ?_
                  refine W.widen (k := 3) (n := 18) (by omega) (by omega) ?_
                  exact vx_ret (W.zret (v := 0) hx hb hr (rfl) (fun t ht hW => ⟨⟨_, (hk, re, kn, sh, k), rfl, ⟨j, r, i, hj, rfl, c_5, c_12, eh, c_43, hi, rfl, Or.inr ⟨c_87, rfl, rfl⟩⟩, by dsimp only; rw [ht]; exact h.xo (fun _ _ => rfl)⟩, (S_mono hS (fun _ z => z.elim)).F ht⟩) (fun z9 h9 => (hS.2.2 z9 h9).elim) dX2_paste_91)
              · refine lv_sipush (v := 1000) hx hb dX2_paste_67 (by decide) ?_
                refine lv_iload_n hx hb dX2_paste_70 rfl (lv_at hl 4 rfl) ?_
                refine lv_iadd hx hb dX2_paste_71 ?_
                refine lv_i2l hx hb dX2_paste_72 rfl ?_
                refine lv_goto (tgt := 78) hx hb dX2_paste_73 (by decide) ?_
                have e78 : cdV n0 s0 = (1000 + n0).toInt64 := by rw [cdV, if_neg c_64]
                refine lv_topl (fun y_4 e9 => ?_)
                have e9 : y_4 = cdV n0 s0 := e9.trans (e78.symm)
                subst e9
                refine lv_lstore (lv' := [(6, .long (cdV n0 s0)), (5, .ref r), (0, .ref x), (1, .int (nI j)), (2, .int (nI i)), (3, .int n0), (4, .int s0)]) hx hb dX2_paste_78 hl (by decide) rfl (fun ls hl => ?_)
                refine lv_aload hx hb dX2_paste_80 (lv_at hl 1 rfl) ?_
                refine lv_lload hx hb dX2_paste_82 (lv_at hl 0 rfl) ?_
                refine ro_i (va_runV (As := [.long (cdV n0 s0)]) (rest := []) ⟨hx, hb, hml, hown, hts⟩ (c_X1_takes l (h0 := r) (v0 := cdV n0 s0) (hP.sub [8] rfl)) (cwV 1 hts gX2_paste_X1_takes rfl rfl rfl (by decide +kernel) ⟨Nat.le_of_ble_eq_true rfl, Nat.le_of_ble_eq_true rfl⟩) (Pq.V hC hS hN (va_recv hK hP (ci := 1) (q0 := 8) rfl rfl)) rfl rfl hl.1 rfl (lv_room (Nat.le_of_ble_eq_true rfl)) dX2_paste_84 ⟨Nat.le_of_ble_eq_true rfl, Nat.le_of_ble_eq_true rfl⟩) hS (fun r_5 locs hw hS => ?_)
                have hw : r_5 = tB (kTake ((re r).1) (cdV n0 s0)) := hw
                subst hw
                refine lv_if_ne (tgt := 92) hx hb dX2_paste_87 (by decide) (fun c_87 => ?_) (fun c_87 => ?_)
                · have c_87 := tB_n.mp c_87
                  obtain ⟨A, hAe⟩ : ∃ A : Nat → Prop, A = va_A [(x, .inr (2, [.ref ah, .ref ak, .ref b0, .ref b1, .ref b2, .ref b3, .ref b4, .int k])), (ah, .inl (cQ, 6, .inr (.inr (.inr (.inr hk))))), (ak, .inr (0, [.int (kn 0), .int (kn 1), .int (kn 2), .int (kn 3), .int (kn 4), .int (kn 5), .int (kn 6)])), (b0, .inl (cI, 24, .inl (sh 0))), (b1, .inl (cI, 24, .inl (sh 1))), (b2, .inl (cI, 24, .inl (sh 2))), (b3, .inl (cI, 24, .inl (sh 3))), (b4, .inl (cI, 24, .inl (sh 4))), (r, .inr (1, [.int ((re r).1), .ref ((re r).2.1)])), ((re r).2.1, .inl (cL, (re r).2.2.1, .inr (.inl ((re r).2.2.2))))] s.heap.size := ⟨_, rfl⟩
                  have hP : va_P D vwCl [(x, .inr (2, [.ref ah, .ref ak, .ref b0, .ref b1, .ref b2, .ref b3, .ref b4, .int k])), (ah, .inl (cQ, 6, .inr (.inr (.inr (.inr hk))))), (ak, .inr (0, [.int (kn 0), .int (kn 1), .int (kn 2), .int (kn 3), .int (kn 4), .int (kn 5), .int (kn 6)])), (b0, .inl (cI, 24, .inl (sh 0))), (b1, .inl (cI, 24, .inl (sh 1))), (b2, .inl (cI, 24, .inl (sh 2))), (b3, .inl (cI, 24, .inl (sh 3))), (b4, .inl (cI, 24, .inl (sh 4))), (r, .inr (1, [.int ((re r).1), .ref ((re r).2.1)])), ((re r).2.1, .inl (cL, (re r).2.2.1, .inr (.inl ((re r).2.2.2))))] s.heap := h.P10 lr
                  have hD : va_D A [(x, .inr (2, [.ref ah, .ref ak, .ref b0, .ref b1, .ref b2, .ref b3, .ref b4, .int k])), (ah, .inl (cQ, 6, .inr (.inr (.inr (.inr hk))))), (ak, .inr (0, [.int (kn 0), .int (kn 1), .int (kn 2), .int (kn 3), .int (kn 4), .int (kn 5), .int (kn 6)])), (b0, .inl (cI, 24, .inl (sh 0))), (b1, .inl (cI, 24, .inl (sh 1))), (b2, .inl (cI, 24, .inl (sh 2))), (b3, .inl (cI, 24, .inl (sh 3))), (b4, .inl (cI, 24, .inl (sh 4))), (r, .inr (1, [.int ((re r).1), .ref ((re r).2.1)])), ((re r).2.1, .inl (cL, (re r).2.2.1, .inr (.inl ((re r).2.2.2))))] := by rw [hAe]; exact (h.D10 lr).self
                  have hA : ∀ q, s.heap.size ≤ q → A q := fun q z => by rw [hAe]; exact Or.inr z
                  have hFA : ∀ q, A q → F q ∨ s.heap.size ≤ q := fun q z => h.in10 lr (hAe ▸ z)
                  have hN : ∀ q, A q → N0 ≤ q := fun q z => hNF q (hFA q z)
                  have hS : va_S A s.heap s.heap locs := S_mono hS (fun _ z => z.elim)
                  refine lv_aload hx hb dX2_paste_92 (lv_at hl 1 rfl) ?_
                  refine va_getN (D := D) (ci := 1) (v := .ref ((re r).2.1)) (C := RX1) (T := TX1) (N := 2) hx hb hts iw_X2_paste_X1 hown hK hP 8 rfl rfl 1 (by decide) (hC.nest (a := RX2) (i := 70) (b := "SpliceRoom$Reel") (n := "row") (d := "[J") (hh := "SpliceRoom") (by decide +kernel)) (fun _ h9 => h9) rfl dX2_paste_94 ?_
                  refine lv_iload_n hx hb dX2_paste_97 rfl (lv_at hl 4 rfl) ?_
                  refine lv_lload hx hb dX2_paste_98 (lv_at hl 0 rfl) ?_
                  refine va_last (D := D) hx hb hK hP hD hS 9 1 rfl rfl (vp_in_nI hi (by omega)) dX2_paste_100 (fun H locs hP hD hS => ?_)
                  have hP : va_P D vwCl [(x, .inr (2, [.ref ah, .ref ak, .ref b0, .ref b1, .ref b2, .ref b3, .ref b4, .int k])), (ah, .inl (cQ, 6, .inr (.inr (.inr (.inr hk))))), (ak, .inr (0, [.int (kn 0), .int (kn 1), .int (kn 2), .int (kn 3), .int (kn 4), .int (kn 5), .int (kn 6)])), (b0, .inl (cI, 24, .inl (sh 0))), (b1, .inl (cI, 24, .inl (sh 1))), (b2, .inl (cI, 24, .inl (sh 2))), (b3, .inl (cI, 24, .inl (sh 3))), (b4, .inl (cI, 24, .inl (sh 4))), (r, .inr (1, [.int ((re r).1), .ref ((re r).2.1)])), ((re r).2.1, .inl (cL, (re r).2.2.1, .inr (.inl (vp_updL ((re r).2.2.2) ((nI i).toNatClampNeg) (cdV n0 s0)))))] H := hP
                  have hD : va_D A [(x, .inr (2, [.ref ah, .ref ak, .ref b0, .ref b1, .ref b2, .ref b3, .ref b4, .int k])), (ah, .inl (cQ, 6, .inr (.inr (.inr (.inr hk))))), (ak, .inr (0, [.int (kn 0), .int (kn 1), .int (kn 2), .int (kn 3), .int (kn 4), .int (kn 5), .int (kn 6)])), (b0, .inl (cI, 24, .inl (sh 0))), (b1, .inl (cI, 24, .inl (sh 1))), (b2, .inl (cI, 24, .inl (sh 2))), (b3, .inl (cI, 24, .inl (sh 3))), (b4, .inl (cI, 24, .inl (sh 4))), (r, .inr (1, [.int ((re r).1), .ref ((re r).2.1)])), ((re r).2.1, .inl (cL, (re r).2.2.1, .inr (.inl (vp_updL ((re r).2.2.2) ((nI i).toNatClampNeg) (cdV n0 s0)))))] := hD
                  rw [nI_clamp (show i < 2 ^ 31 by omega)] at hP hD
                  refine lv_iconst (v := 1) hx hb dX2_paste_101 (by decide) ?_
                  refine W.widen (k := 3) (n := 18) (by omega) (by omega) ?_
                  exact vx_ret (W.zret (v := 1) hx hb hr (rfl) (fun t ht hW => ⟨⟨_, (hk, va_up re r ((re r).1, (re r).2.1, (re r).2.2.1, vp_updL (re r).2.2.2 i (cdV n0 s0)), kn, sh, k), rfl, ⟨j, r, i, hj, rfl, c_5, c_12, eh, c_43, hi, rfl, Or.inl ⟨c_87, rfl, rfl⟩⟩, by dsimp only; rw [ht]; exact h.endM lr hP (fun q hs hn => hS.2.1 q hs (by rw [hAe]; exact hn))⟩, (S_mono hS hFA).F ht⟩) (fun z9 h9 => hFA _ (hS.2.2 z9 h9)) dX2_paste_102)
                · have c_87 := tB_0.mp c_87
                  refine lv_iconst (v := 0) hx hb dX2_paste_90 (by decide) ?_
                  refine W.widen (k := 3) (n := 18) (by omega) (by omega) ?_
                  exact vx_ret (W.zret (v := 0) hx hb hr (rfl) (fun t ht hW => ⟨⟨_, (hk, re, kn, sh, k), rfl, ⟨j, r, i, hj, rfl, c_5, c_12, eh, c_43, hi, rfl, Or.inr ⟨c_87, rfl, rfl⟩⟩, by dsimp only; rw [ht]; exact h.xo (fun _ _ => rfl)⟩, (S_mono hS (fun _ z => z.elim)).F ht⟩) (fun z9 h9 => (hS.2.2 z9 h9).elim) dX2_paste_91)
          · have c_43 := tB_0.mp c_43
            exact vx_throwS (cls := eS) (text := "neither cards nor seals") (names := exN) (sa := sa 95) (A := nA) hx hb hl0 hown (by decide +kernel) exN_fit (hts _ lk_X2_paste_Cond_classLink_RX2_65_eS) (hts _ lk_X2_paste_Cond_initialized_eS) (hC.text (by decide +kernel)) (vx_hat (fun w hw => hts w (xw_X2_paste_eS w hw)) exS_ng hC.all) (good2 exS_ot) (hC.ust nA_N) (hC.sup nA_N) hS (by rw [hml]; exact hl.1) dX2_paste_46 dX2_paste_49 dX2_paste_50 dX2_paste_52 dX2_paste_55 (fun x9 h9 => (hxt x9 h9).elim) (by decide) (Nat.le_of_ble_eq_true rfl) (Nat.le_of_ble_eq_true rfl) (Nat.le_of_ble_eq_true rfl) hlocks (fun t hvm hz9 hk9 => ⟨(), trivial, ⟨Or.inr ⟨j, hj, rfl, ⟨c_5, c_12⟩, Or.inl ⟨rfl, Or.inr ⟨r, eh, c_43⟩⟩⟩, h.xo hk9⟩, hz9, fun q hs _ => hk9 q hs⟩) (fun z9 h9 => (hS.2.2 z9 h9).elim) (Nat.le_of_ble_eq_true rfl) (Nat.le_of_ble_eq_true rfl)
      · exact vx_throwS (cls := eA) (text := "no such number") (names := exN) (sa := sa 90) (A := nA) hx hb hl0 hown (by decide +kernel) exN_fit (hts _ lk_X2_paste_Cond_classLink_RX2_46_eA) (hts _ lk_X2_paste_Cond_initialized_eA) (hC.text (by decide +kernel)) (vx_hat (fun w hw => hts w (xw_X2_paste_eA w hw)) exA_ng hC.all) (good2 exA_ot) (hC.ust nA_N) (hC.sup nA_N) hS (by rw [hml]; exact hl.1) dX2_paste_15 dX2_paste_18 dX2_paste_19 dX2_paste_21 dX2_paste_24 (fun x9 h9 => (hxt x9 h9).elim) (by decide) (Nat.le_of_ble_eq_true rfl) (Nat.le_of_ble_eq_true rfl) (Nat.le_of_ble_eq_true rfl) hlocks (fun t hvm hz9 hk9 => ⟨(), trivial, ⟨Or.inl ⟨rfl, fun h9 => c_12 h9.2.2⟩, h.xo hk9⟩, hz9, fun q hs _ => hk9 q hs⟩) (fun z9 h9 => (hS.2.2 z9 h9).elim) (Nat.le_of_ble_eq_true rfl) (Nat.le_of_ble_eq_true rfl)
end CWrite
