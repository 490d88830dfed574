section CWrite2
theorem xw_X2_wind_eA : ∀ w ∈ (vx_atS RX2 50 eA exN).filter goodWord, w ∈ wsX2_wind := by decide +kernel
theorem iw_X2_wind_X1 : ∀ w ∈ wsX10, w ∈ wsX2_wind := by decide +kernel
theorem iw_X2_wind_X2 : ∀ w ∈ wsX20, w ∈ wsX2_wind := by decide +kernel
theorem lk_X2_wind_Cond_classLink_RX2_46_eA : Cond.classLink RX2 46 eA ∈ wsX2_wind := by decide +kernel
theorem lk_X2_wind_Cond_classLink_RX2_9_RX1 : Cond.classLink RX2 9 RX1 ∈ wsX2_wind := by decide +kernel
theorem lk_X2_wind_Cond_fieldLink_RX2_11_SpliceRoom_hooks_LSpliceRoom_Reel_ : Cond.fieldLink RX2 11 "SpliceRoom" "hooks" "[LSpliceRoom$Reel;" ∈ wsX2_wind := by decide +kernel
theorem lk_X2_wind_Cond_initialized_RX1 : Cond.initialized RX1 ∈ wsX2_wind := by decide +kernel
theorem lk_X2_wind_Cond_initialized_eA : Cond.initialized eA ∈ wsX2_wind := by decide +kernel
theorem lk_X2_wind_Cond_instanceMethod_yX1_init : Cond.instanceMethod yX1_init ∈ wsX2_wind := by decide +kernel
theorem lk_X2_wind_Cond_instantiable_RX1_2 : Cond.instantiable RX1 2 ∈ wsX2_wind := by decide +kernel
theorem lk_X2_wind_Cond_methodLink_RX2_53_yX1_init : Cond.methodLink RX2 53 yX1_init ∈ wsX2_wind := by decide +kernel
set_option maxHeartbeats 4000000 in
set_option maxRecDepth 100000 in
theorem c_X2_wind (l : Launch) {D : va_G} {cI cL cQ : ClassId} {N0 : Nat} {sa : Nat → Nat} {Hc : Heap} (hl0 : l.stackTraces = false) {x ah ak b0 b1 b2 b3 b4 : Nat} {F : Nat → Prop} {hk : Nat → Option Nat} {re : Nat → RE} {kn : Nat → Int32} {sh : Nat → Nat → Int32} {k : Int32} (h : RSB D cI cL cQ x ah ak b0 b1 b2 b3 b4 F (hk, re, kn, sh, k) Hc) (hNF : ∀ q, F q ∨ Hc.size ≤ q → N0 ≤ q) {h0 k0 f0 : Int32} : vx_Met l yX2_wind wsX2_wind ({ frames := 7, cells := 3, slots := 48, locals := 110 }) (Pq D cI cL cQ N0 sa [.ref x, .int h0, .int k0, .int f0] Hc) (va_Qi (fun (rr : Int32) (u : CS) => ∃ j1 : Nat, j1 < 6 ∧ h0 = nI j1 ∧ ¬ k0 < 0 ∧ k0 ≤ 5 ∧ rr = k0 ∧ ((k0 = 0 ∧ u = (va_up hk j1 none, re, kn, sh, k)) ∨ (¬ k0 = 0 ∧ ∃ (r1 w1 z1 : Nat) (f1 : Nat → Int64), (∀ r2, Live hk r2 → r2 < r1) ∧ ((k0 = 5 ∧ z1 = 0) ∨ (¬ k0 = 5 ∧ f0 = nI z1 ∧ z1 ≤ 40)) ∧ (∀ i1, i1 < z1 → f1 i1 = fr0 k0) ∧ u = (va_up hk j1 (some r1), va_up re r1 (k0, w1, z1, f1), kn, sh, k)))) (fun u t => RSB D cI cL cQ x ah ak b0 b1 b2 b3 b4 (fun q => F q ∨ Hc.size ≤ q) u t.heap) (fun q => F q ∨ Hc.size ≤ q)) (vx_X (fun (_ : Unit) => True) (fun E _ t => (E = eA ∧ ¬ (okH h0 ∧ ¬ k0 < 0 ∧ k0 ≤ 5 ∧ (k0 = 0 ∨ k0 = 5 ∨ (¬ f0 < 0 ∧ f0 ≤ 40)))) ∧ RSB D cI cL cQ x ah ak b0 b1 b2 b3 b4 (fun q => F q ∨ Hc.size ≤ q) (hk, re, kn, sh, k) t.heap) (fun q => F q ∨ Hc.size ≤ q)) 3 48 (fun q => F q ∨ Hc.size ≤ q) := by
  refine vx_ofW (cc := cX2_wind) (maxL := 4) (ret := (some .int)) (by decide) rfl ?_
  intro p e s m args below meth c s₁ B hml hxt hv
  obtain ⟨rfl, hH, hC⟩ := hv
  have hx := B.exec
  have hb := B.bytes
  have hr := B.returns
  have hts := atoms_spec (ws := wsX2_wind) B.pre
  have hown : s.vm.findClass RX2 = some m.cls := findClass_of_methodNamed B.named
  have hlocks := B.notSynchronized
  subst hH
  have hK := hC.K
  have hl := lv_entry ([.ref x, .int h0, .int k0, .int f0]) (n := 4) (Nat.le_of_ble_eq_true rfl)
  rw [lg_entry_eq]
  generalize (lg_sl ([.ref x, .int h0, .int k0, .int f0]) ++ List.replicate (4 - (lg_sl ([.ref x, .int h0, .int k0, .int f0])).length) Slot.unset).toArray = ls at hl ⊢
  have hl : lv_has ls 4 [(0, .ref x), (1, .int h0), (2, .int k0), (3, .int f0)] := hl
  have hP : va_P D vwCl [(x, .inr (2, [.ref ah, .ref ak, .ref b0, .ref b1, .ref b2, .ref b3, .ref b4, .int k])), (ah, .inl (cQ, 6, .inr (.inr (.inr (.inr hk))))), (ak, .inr (0, [.int (kn 0), .int (kn 1), .int (kn 2), .int (kn 3), .int (kn 4), .int (kn 5), .int (kn 6)])), (b0, .inl (cI, 24, .inl (sh 0))), (b1, .inl (cI, 24, .inl (sh 1))), (b2, .inl (cI, 24, .inl (sh 2))), (b3, .inl (cI, 24, .inl (sh 3))), (b4, .inl (cI, 24, .inl (sh 4)))] s.heap := h.P8
  have hS : va_S nA s.heap s.heap [] := va_S.rf
  have hN : ∀ q, nA q → N0 ≤ q := nA_N
  refine lv_iload_n hx hb dX2_wind_0 rfl (lv_at hl 1 rfl) ?_
  refine rx_v (vx_runS (As := [.int h0]) (rest := []) ⟨hx, hb, hml, hown, hts⟩ (c_X2_requireHook l hl0 (h0 := h0)) (va_cwS 1 hts gX2_wind_X2_requireHook rfl rfl rfl (by decide +kernel) ⟨Nat.le_of_ble_eq_true rfl, Nat.le_of_ble_eq_true rfl⟩) (Pq.S hC hS hN) rfl rfl hl.1 rfl (lv_room (Nat.le_of_ble_eq_true rfl)) dX2_wind_1 ⟨Nat.le_of_ble_eq_true rfl, Nat.le_of_ble_eq_true rfl⟩) hS (fun ce q9 H9 locs hx9 hz9 hk9 hS hcell hv9 hcl => ?_) (fun locs hw hS => ?_)
  · have hx9 : ¬ okH h0 := hx9
    refine vx_widen (k := 3) (n := 48) (by omega) (by omega) ?_
    exact vx_out (fun x9 h9 => (hxt x9 h9).elim) hlocks hcell hv9 hcl (fun t ht hvm => ⟨(), trivial, ⟨⟨rfl, fun h9 => hx9 h9.1⟩, by rw [ht]; exact h.xo hk9⟩, by rw [ht]; exact hz9, fun q hs _ => by rw [ht]; exact hk9 q hs⟩) (fun z9 h9 => (hS.2.2 z9 h9).elim) (Nat.le_refl _) (Nat.le_refl _)
  · have hw : okH h0 := hw
    obtain ⟨j, hj, rfl⟩ := hw
    refine lv_iload_n hx hb dX2_wind_4 rfl (lv_at hl 2 rfl) ?_
    refine lv_if_lt (tgt := 13) hx hb dX2_wind_5 (by decide) (fun c_5 => ?_) (fun c_5 => ?_)
    · exact vx_throwS (cls := eA) (text := "no such kind") (names := exN) (sa := sa 48) (A := nA) hx hb hl0 hown (by decide +kernel) exN_fit (hts _ lk_X2_wind_Cond_classLink_RX2_46_eA) (hts _ lk_X2_wind_Cond_initialized_eA) (hC.text (by decide +kernel)) (vx_hat (fun w hw => hts w (xw_X2_wind_eA w hw)) exA_ng hC.all) (good2 exA_ot) (hC.ust nA_N) (hC.sup nA_N) hS (by rw [hml]; exact hl.1) dX2_wind_13 dX2_wind_16 dX2_wind_17 dX2_wind_19 dX2_wind_22 (fun x9 h9 => (hxt x9 h9).elim) (by decide) (Nat.le_of_ble_eq_true rfl) (Nat.le_of_ble_eq_true rfl) (Nat.le_of_ble_eq_true rfl) hlocks (fun t hvm hz9 hk9 => ⟨(), trivial, ⟨⟨rfl, fun h9 => h9.2.1 c_5⟩, h.xo hk9⟩, hz9, fun q hs _ => hk9 q hs⟩) (fun z9 h9 => (hS.2.2 z9 h9).elim) (Nat.le_of_ble_eq_true rfl) (Nat.le_of_ble_eq_true rfl)
    · refine lv_iload_n hx hb dX2_wind_8 rfl (lv_at hl 2 rfl) ?_
      refine lv_iconst (v := 5) hx hb dX2_wind_9 (by decide) ?_
      refine lv_icmp_le (tgt := 23) hx hb dX2_wind_10 (by decide) (fun c_10 => ?_) (fun c_10 => ?_)
      · refine lv_iload_n hx hb dX2_wind_23 rfl (lv_at hl 2 rfl) ?_
        refine lv_if_ne (tgt := 37) hx hb dX2_wind_24 (by decide) (fun c_24 => ?_) (fun c_24 => ?_)
        · refine lv_iload_n hx hb dX2_wind_37 rfl (lv_at hl 2 rfl) ?_
          refine lv_iconst (v := 5) hx hb dX2_wind_38 (by decide) ?_
          refine lv_icmp_ne (tgt := 60) hx hb dX2_wind_39 (by decide) (fun c_39 => ?_) (fun c_39 => ?_)
          · refine lv_iload_n hx hb dX2_wind_60 rfl (lv_at hl 3 rfl) ?_
            refine lv_if_lt (tgt := 88) hx hb dX2_wind_61 (by decide) (fun c_61 => ?_) (fun c_61 => ?_)
            · exact vx_throwS (cls := eA) (text := "no such number of frames") (names := exN) (sa := sa 56) (A := nA) hx hb hl0 hown (by decide +kernel) exN_fit (hts _ lk_X2_wind_Cond_classLink_RX2_46_eA) (hts _ lk_X2_wind_Cond_initialized_eA) (hC.text (by decide +kernel)) (vx_hat (fun w hw => hts w (xw_X2_wind_eA w hw)) exA_ng hC.all) (good2 exA_ot) (hC.ust nA_N) (hC.sup nA_N) hS (by rw [hml]; exact hl.1) dX2_wind_88 dX2_wind_91 dX2_wind_92 dX2_wind_94 dX2_wind_97 (fun x9 h9 => (hxt x9 h9).elim) (by decide) (Nat.le_of_ble_eq_true rfl) (Nat.le_of_ble_eq_true rfl) (Nat.le_of_ble_eq_true rfl) hlocks (fun t hvm hz9 hk9 => ⟨(), trivial, ⟨⟨rfl, fun h9 => h9.2.2.2.elim c_24 (fun z => z.elim c_39 (fun z => z.1 c_61))⟩, h.xo hk9⟩, hz9, fun q hs _ => hk9 q hs⟩) (fun z9 h9 => (hS.2.2 z9 h9).elim) (Nat.le_of_ble_eq_true rfl) (Nat.le_of_ble_eq_true rfl)
            · refine lv_iload_n hx hb dX2_wind_64 rfl (lv_at hl 3 rfl) ?_
              refine lv_bipush (v := 40) hx hb dX2_wind_65 (by decide) ?_
              refine lv_icmp_gt (tgt := 88) hx hb dX2_wind_67 (by decide) (fun c_67 => ?_) (fun c_67 => ?_)
              · exact vx_throwS (cls := eA) (text := "no such number of frames") (names := exN) (sa := sa 56) (A := nA) hx hb hl0 hown (by decide +kernel) exN_fit (hts _ lk_X2_wind_Cond_classLink_RX2_46_eA) (hts _ lk_X2_wind_Cond_initialized_eA) (hC.text (by decide +kernel)) (vx_hat (fun w hw => hts w (xw_X2_wind_eA w hw)) exA_ng hC.all) (good2 exA_ot) (hC.ust nA_N) (hC.sup nA_N) hS (by rw [hml]; exact hl.1) dX2_wind_88 dX2_wind_91 dX2_wind_92 dX2_wind_94 dX2_wind_97 (fun x9 h9 => (hxt x9 h9).elim) (by decide) (Nat.le_of_ble_eq_true rfl) (Nat.le_of_ble_eq_true rfl) (Nat.le_of_ble_eq_true rfl) hlocks (fun t hvm hz9 hk9 => ⟨(), trivial, ⟨⟨rfl, fun h9 => h9.2.2.2.elim c_24 (fun z => z.elim c_39 (fun z => Int32.not_lt.mpr z.2 c_67))⟩, h.xo hk9⟩, hz9, fun q hs _ => hk9 q hs⟩) (fun z9 h9 => (hS.2.2 z9 h9).elim) (Nat.le_of_ble_eq_true rfl) (Nat.le_of_ble_eq_true rfl)
              · obtain ⟨A, hAe⟩ : ∃ A : Nat → Prop, A = va_A [(x, .inr (2, [.ref ah, .ref ak, .ref b0, .ref b1, .ref b2, .ref b3, .ref b4, .int k])), (ah, .inl (cQ, 6, .inr (.inr (.inr (.inr hk))))), (ak, .inr (0, [.int (kn 0), .int (kn 1), .int (kn 2), .int (kn 3), .int (kn 4), .int (kn 5), .int (kn 6)])), (b0, .inl (cI, 24, .inl (sh 0))), (b1, .inl (cI, 24, .inl (sh 1))), (b2, .inl (cI, 24, .inl (sh 2))), (b3, .inl (cI, 24, .inl (sh 3))), (b4, .inl (cI, 24, .inl (sh 4)))] s.heap.size := ⟨_, rfl⟩
                have hP : va_P D vwCl [(x, .inr (2, [.ref ah, .ref ak, .ref b0, .ref b1, .ref b2, .ref b3, .ref b4, .int k])), (ah, .inl (cQ, 6, .inr (.inr (.inr (.inr hk))))), (ak, .inr (0, [.int (kn 0), .int (kn 1), .int (kn 2), .int (kn 3), .int (kn 4), .int (kn 5), .int (kn 6)])), (b0, .inl (cI, 24, .inl (sh 0))), (b1, .inl (cI, 24, .inl (sh 1))), (b2, .inl (cI, 24, .inl (sh 2))), (b3, .inl (cI, 24, .inl (sh 3))), (b4, .inl (cI, 24, .inl (sh 4)))] s.heap := h.P8
                have hD : va_D A [(x, .inr (2, [.ref ah, .ref ak, .ref b0, .ref b1, .ref b2, .ref b3, .ref b4, .int k])), (ah, .inl (cQ, 6, .inr (.inr (.inr (.inr hk))))), (ak, .inr (0, [.int (kn 0), .int (kn 1), .int (kn 2), .int (kn 3), .int (kn 4), .int (kn 5), .int (kn 6)])), (b0, .inl (cI, 24, .inl (sh 0))), (b1, .inl (cI, 24, .inl (sh 1))), (b2, .inl (cI, 24, .inl (sh 2))), (b3, .inl (cI, 24, .inl (sh 3))), (b4, .inl (cI, 24, .inl (sh 4)))] := by rw [hAe]; exact (h.D8).self
                have hA : ∀ q, s.heap.size ≤ q → A q := fun q z => by rw [hAe]; exact Or.inr z
                have hFA : ∀ q, A q → F q ∨ s.heap.size ≤ q := fun q z => h.in8 (hAe ▸ z)
                have hN : ∀ q, A q → N0 ≤ q := fun q z => hNF q (hFA q z)
                have hS : va_S A s.heap s.heap locs := S_mono hS (fun _ z => z.elim)
                obtain ⟨z, hz, rfl⟩ : ∃ z : Nat, z ≤ 40 ∧ f0 = nI z := nI_of2 (M := 40) (n := 40) (by decide) c_61 (Int32.not_lt.mp c_67)
                refine lv_aload_n hx hb dX2_wind_70 rfl (lv_at hl 0 rfl) ?_
                refine va_get (D := D) (ci := 2) (v := .ref ah) (C := RX2) (T := TX2) (N := 8) hx hb hts iw_X2_wind_X2 hown hK hP 0 rfl rfl 0 (by decide) (hts _ lk_X2_wind_Cond_fieldLink_RX2_11_SpliceRoom_hooks_LSpliceRoom_Reel_) (fun _ h9 => h9) rfl dX2_wind_71 ?_
                refine lv_iload_n hx hb dX2_wind_74 rfl (lv_at hl 1 rfl) ?_
                refine va_new (D := D) (ci := 1) (fs := [.int 0, .null]) (C := RX1) (T := TX1) (N := 2) hx hb hts iw_X2_wind_X1 tyX1 tyX1_ok hown (hts _ lk_X2_wind_Cond_classLink_RX2_9_RX1) (hts _ lk_X2_wind_Cond_instantiable_RX1_2) (hts _ lk_X2_wind_Cond_initialized_RX1) hK hP hD hS hA rfl (fun j9 h9 => by rcases (show j9 = 0 ∨ j9 = 1 by omega) with rfl | rfl <;> rfl) (Nat.le_of_ble_eq_true rfl) (Nat.le_of_ble_eq_true rfl) dX2_wind_75 (fun q H hP hD hS => ?_)
                have hP : va_P D vwCl [(x, .inr (2, [.ref ah, .ref ak, .ref b0, .ref b1, .ref b2, .ref b3, .ref b4, .int k])), (ah, .inl (cQ, 6, .inr (.inr (.inr (.inr hk))))), (ak, .inr (0, [.int (kn 0), .int (kn 1), .int (kn 2), .int (kn 3), .int (kn 4), .int (kn 5), .int (kn 6)])), (b0, .inl (cI, 24, .inl (sh 0))), (b1, .inl (cI, 24, .inl (sh 1))), (b2, .inl (cI, 24, .inl (sh 2))), (b3, .inl (cI, 24, .inl (sh 3))), (b4, .inl (cI, 24, .inl (sh 4))), (q, .inr (1, [.int 0, .null]))] H := hP
                have hD : va_D A [(x, .inr (2, [.ref ah, .ref ak, .ref b0, .ref b1, .ref b2, .ref b3, .ref b4, .int k])), (ah, .inl (cQ, 6, .inr (.inr (.inr (.inr hk))))), (ak, .inr (0, [.int (kn 0), .int (kn 1), .int (kn 2), .int (kn 3), .int (kn 4), .int (kn 5), .int (kn 6)])), (b0, .inl (cI, 24, .inl (sh 0))), (b1, .inl (cI, 24, .inl (sh 1))), (b2, .inl (cI, 24, .inl (sh 2))), (b3, .inl (cI, 24, .inl (sh 3))), (b4, .inl (cI, 24, .inl (sh 4))), (q, .inr (1, [.int 0, .null]))] := hD
                refine lv_dup hx hb dX2_wind_78 rfl ?_
                refine lv_iload_n hx hb dX2_wind_79 rfl (lv_at hl 2 rfl) ?_
                refine lv_iload_n hx hb dX2_wind_80 rfl (lv_at hl 3 rfl) ?_
                have hFc := va_free (wc := [(q, .inr (1, [.int 0, .null]))]) hD hS hA [8] rfl
                refine va_callv (va_runI (As := [.int k0, .int (nI z)]) (rest := [.ref q, .int (nI j), .ref ah]) ⟨hx, hb, hml, hown, hts⟩ (c_X1_init l (hP.sub (ws' := [(q, .inr (1, [.int 0, .null]))]) [8] rfl) ((hD.sub (ws' := [(q, .inr (1, [.int 0, .null]))]) [8] (by decide) rfl).weaken (fun _ _ _ _ => trivial)) (fun q h => hN q (hFc q h)) hz) (cwI 2 hts gX2_wind_X1_init rfl rfl rfl (hts _ lk_X2_wind_Cond_initialized_RX1) (hts _ lk_X2_wind_Cond_methodLink_RX2_53_yX1_init) (hts _ lk_X2_wind_Cond_instanceMethod_yX1_init) rfl (by decide +kernel) ⟨Nat.le_of_ble_eq_true rfl, Nat.le_of_ble_eq_true rfl⟩) (Pq.S hC hS hN) rfl rfl hl.1 rfl (lv_room (Nat.le_of_ble_eq_true rfl)) dX2_wind_81 ⟨Nat.le_of_ble_eq_true rfl, Nat.le_of_ble_eq_true rfl⟩) hS (fun q _ h => hFc q h) hFc (fun u t H1 locs ht hvm hw hB hz1 hk1 hS => ?_)
                obtain ⟨w1, f1⟩ := u
                obtain ⟨hP1, hD1⟩ := hB
                rw [ht] at hP1
                have hw : ∀ j9, j9 < z → f1 j9 = fr0 k0 := hw
                obtain ⟨hP, hD⟩ := va_join (wr := [(x, .inr (2, [.ref ah, .ref ak, .ref b0, .ref b1, .ref b2, .ref b3, .ref b4, .int k])), (ah, .inl (cQ, 6, .inr (.inr (.inr (.inr hk))))), (ak, .inr (0, [.int (kn 0), .int (kn 1), .int (kn 2), .int (kn 3), .int (kn 4), .int (kn 5), .int (kn 6)])), (b0, .inl (cI, 24, .inl (sh 0))), (b1, .inl (cI, 24, .inl (sh 1))), (b2, .inl (cI, 24, .inl (sh 2))), (b3, .inl (cI, 24, .inl (sh 3))), (b4, .inl (cI, 24, .inl (sh 4)))]) (w1 := [(q, .inr (1, [.int k0, .ref w1])), (w1, .inl (cL, z, .inr (.inl f1)))]) hP hD [8] [0, 1, 2, 3, 4, 5, 6, 7] rfl rfl (by decide) (by decide) hk1 hFc hP1 hD1
                generalize H1 = H at hP hS ⊢
                have hP : va_P D vwCl [(x, .inr (2, [.ref ah, .ref ak, .ref b0, .ref b1, .ref b2, .ref b3, .ref b4, .int k])), (ah, .inl (cQ, 6, .inr (.inr (.inr (.inr hk))))), (ak, .inr (0, [.int (kn 0), .int (kn 1), .int (kn 2), .int (kn 3), .int (kn 4), .int (kn 5), .int (kn 6)])), (b0, .inl (cI, 24, .inl (sh 0))), (b1, .inl (cI, 24, .inl (sh 1))), (b2, .inl (cI, 24, .inl (sh 2))), (b3, .inl (cI, 24, .inl (sh 3))), (b4, .inl (cI, 24, .inl (sh 4))), (q, .inr (1, [.int k0, .ref w1])), (w1, .inl (cL, z, .inr (.inl f1)))] H := hP.sub [0, 1, 2, 3, 4, 5, 6, 7, 8, 9] rfl
                have hD : va_D A [(x, .inr (2, [.ref ah, .ref ak, .ref b0, .ref b1, .ref b2, .ref b3, .ref b4, .int k])), (ah, .inl (cQ, 6, .inr (.inr (.inr (.inr hk))))), (ak, .inr (0, [.int (kn 0), .int (kn 1), .int (kn 2), .int (kn 3), .int (kn 4), .int (kn 5), .int (kn 6)])), (b0, .inl (cI, 24, .inl (sh 0))), (b1, .inl (cI, 24, .inl (sh 1))), (b2, .inl (cI, 24, .inl (sh 2))), (b3, .inl (cI, 24, .inl (sh 3))), (b4, .inl (cI, 24, .inl (sh 4))), (q, .inr (1, [.int k0, .ref w1])), (w1, .inl (cL, z, .inr (.inl f1)))] := hD.sub [0, 1, 2, 3, 4, 5, 6, 7, 8, 9] (by decide) rfl
                refine va_astq (D := D) hx hb hK hP hD hS 1 2 8 1 rfl rfl rfl rfl (vp_in_nI hj (by decide)) dX2_wind_84 (fun H locs hP hD hS => ?_)
                have hP : va_P D vwCl [(x, .inr (2, [.ref ah, .ref ak, .ref b0, .ref b1, .ref b2, .ref b3, .ref b4, .int k])), (ah, .inl (cQ, 6, .inr (.inr (.inr (.inr (va_up hk ((nI j).toNatClampNeg) (some q))))))), (ak, .inr (0, [.int (kn 0), .int (kn 1), .int (kn 2), .int (kn 3), .int (kn 4), .int (kn 5), .int (kn 6)])), (b0, .inl (cI, 24, .inl (sh 0))), (b1, .inl (cI, 24, .inl (sh 1))), (b2, .inl (cI, 24, .inl (sh 2))), (b3, .inl (cI, 24, .inl (sh 3))), (b4, .inl (cI, 24, .inl (sh 4))), (q, .inr (1, [.int k0, .ref w1])), (w1, .inl (cL, z, .inr (.inl f1)))] H := hP
                have hD : va_D A [(x, .inr (2, [.ref ah, .ref ak, .ref b0, .ref b1, .ref b2, .ref b3, .ref b4, .int k])), (ah, .inl (cQ, 6, .inr (.inr (.inr (.inr (va_up hk ((nI j).toNatClampNeg) (some q))))))), (ak, .inr (0, [.int (kn 0), .int (kn 1), .int (kn 2), .int (kn 3), .int (kn 4), .int (kn 5), .int (kn 6)])), (b0, .inl (cI, 24, .inl (sh 0))), (b1, .inl (cI, 24, .inl (sh 1))), (b2, .inl (cI, 24, .inl (sh 2))), (b3, .inl (cI, 24, .inl (sh 3))), (b4, .inl (cI, 24, .inl (sh 4))), (q, .inr (1, [.int k0, .ref w1])), (w1, .inl (cL, z, .inr (.inl f1)))] := hD
                rw [nI_clamp (show j < 2 ^ 31 by omega)] at hP hD
                have hD9 : va_D (va_A [(x, .inr (2, [.ref ah, .ref ak, .ref b0, .ref b1, .ref b2, .ref b3, .ref b4, .int k])), (ah, .inl (cQ, 6, .inr (.inr (.inr (.inr hk))))), (ak, .inr (0, [.int (kn 0), .int (kn 1), .int (kn 2), .int (kn 3), .int (kn 4), .int (kn 5), .int (kn 6)])), (b0, .inl (cI, 24, .inl (sh 0))), (b1, .inl (cI, 24, .inl (sh 1))), (b2, .inl (cI, 24, .inl (sh 2))), (b3, .inl (cI, 24, .inl (sh 3))), (b4, .inl (cI, 24, .inl (sh 4)))] s.heap.size) [(x, .inr (2, [.ref ah, .ref ak, .ref b0, .ref b1, .ref b2, .ref b3, .ref b4, .int k])), (ah, .inl (cQ, 6, .inr (.inr (.inr (.inr (va_up hk j (some q))))))), (ak, .inr (0, [.int (kn 0), .int (kn 1), .int (kn 2), .int (kn 3), .int (kn 4), .int (kn 5), .int (kn 6)])), (b0, .inl (cI, 24, .inl (sh 0))), (b1, .inl (cI, 24, .inl (sh 1))), (b2, .inl (cI, 24, .inl (sh 2))), (b3, .inl (cI, 24, .inl (sh 3))), (b4, .inl (cI, 24, .inl (sh 4))), (q, .inr (1, [.int k0, .ref w1])), (w1, .inl (cL, z, .inr (.inl f1)))] := by rw [← hAe]; exact hD
                have hq8 : s.heap.size ≤ q := D_new hD9 rfl (j := 8) rfl (Nat.le_of_ble_eq_true rfl)
                have hw8 : s.heap.size ≤ w1 := D_new hD9 rfl (j := 9) rfl (Nat.le_of_ble_eq_true rfl)
                have h2 := h.putNg (hP.sub [0, 1, 2, 3, 4, 5, 6, 7] rfl) (hP.sub [8, 9] rfl) hq8 hw8 (fun e => absurd (hD.1 8 9 _ _ rfl rfl e) (by decide)) hz (fun r9 l9 => h.keepR l9 (fun q hs hn => hS.2.1 q hs (by rw [hAe]; exact hn)) (h.nA8 l9).1 (h.nA8 l9).2)
                refine lv_goto (tgt := 98) hx hb dX2_wind_85 (by decide) ?_
                refine lv_iload_n hx hb dX2_wind_98 rfl (lv_at hl 2 rfl) ?_
                exact vx_ret (W.iret (v := k0) hx hb hr (fun t ht hW => ⟨⟨_, (va_up hk j (some q), va_up re q (k0, w1, z, f1), kn, sh, k), rfl, ⟨j, hj, rfl, c_5, c_10, rfl, Or.inr ⟨c_24, q, w1, z, f1, fun r9 l9 => by have := ((h.2.2.2 r9 l9).1 0 _ rfl).lt; omega, Or.inr ⟨c_39, rfl, hz⟩, hw, rfl⟩⟩, by dsimp only; rw [ht]; exact h2⟩, (S_mono hS hFA).F ht⟩) (fun z9 h9 => hFA _ (hS.2.2 z9 h9)) dX2_wind_99)
          · obtain ⟨A, hAe⟩ : ∃ A : Nat → Prop, A = va_A [(x, .inr (2, [.ref ah, .ref ak, .ref b0, .ref b1, .ref b2, .ref b3, .ref b4, .int k])), (ah, .inl (cQ, 6, .inr (.inr (.inr (.inr hk))))), (ak, .inr (0, [.int (kn 0), .int (kn 1), .int (kn 2), .int (kn 3), .int (kn 4), .int (kn 5), .int (kn 6)])), (b0, .inl (cI, 24, .inl (sh 0))), (b1, .inl (cI, 24, .inl (sh 1))), (b2, .inl (cI, 24, .inl (sh 2))), (b3, .inl (cI, 24, .inl (sh 3))), (b4, .inl (cI, 24, .inl (sh 4)))] s.heap.size := ⟨_, rfl⟩
            have hP : va_P D vwCl [(x, .inr (2, [.ref ah, .ref ak, .ref b0, .ref b1, .ref b2, .ref b3, .ref b4, .int k])), (ah, .inl (cQ, 6, .inr (.inr (.inr (.inr hk))))), (ak, .inr (0, [.int (kn 0), .int (kn 1), .int (kn 2), .int (kn 3), .int (kn 4), .int (kn 5), .int (kn 6)])), (b0, .inl (cI, 24, .inl (sh 0))), (b1, .inl (cI, 24, .inl (sh 1))), (b2, .inl (cI, 24, .inl (sh 2))), (b3, .inl (cI, 24, .inl (sh 3))), (b4, .inl (cI, 24, .inl (sh 4)))] s.heap := h.P8
            have hD : va_D A [(x, .inr (2, [.ref ah, .ref ak, .ref b0, .ref b1, .ref b2, .ref b3, .ref b4, .int k])), (ah, .inl (cQ, 6, .inr (.inr (.inr (.inr hk))))), (ak, .inr (0, [.int (kn 0), .int (kn 1), .int (kn 2), .int (kn 3), .int (kn 4), .int (kn 5), .int (kn 6)])), (b0, .inl (cI, 24, .inl (sh 0))), (b1, .inl (cI, 24, .inl (sh 1))), (b2, .inl (cI, 24, .inl (sh 2))), (b3, .inl (cI, 24, .inl (sh 3))), (b4, .inl (cI, 24, .inl (sh 4)))] := by rw [hAe]; exact (h.D8).self
            have hA : ∀ q, s.heap.size ≤ q → A q := fun q z => by rw [hAe]; exact Or.inr z
            have hFA : ∀ q, A q → F q ∨ s.heap.size ≤ q := fun q z => h.in8 (hAe ▸ z)
            have hN : ∀ q, A q → N0 ≤ q := fun q z => hNF q (hFA q z)
            have hS : va_S A s.heap s.heap locs := S_mono hS (fun _ z => z.elim)
            have c_39 := c_39
            subst c_39
            refine lv_aload_n hx hb dX2_wind_42 rfl (lv_at hl 0 rfl) ?_
            refine va_get (D := D) (ci := 2) (v := .ref ah) (C := RX2) (T := TX2) (N := 8) hx hb hts iw_X2_wind_X2 hown hK hP 0 rfl rfl 0 (by decide) (hts _ lk_X2_wind_Cond_fieldLink_RX2_11_SpliceRoom_hooks_LSpliceRoom_Reel_) (fun _ h9 => h9) rfl dX2_wind_43 ?_
            refine lv_iload_n hx hb dX2_wind_46 rfl (lv_at hl 1 rfl) ?_
            refine va_new (D := D) (ci := 1) (fs := [.int 0, .null]) (C := RX1) (T := TX1) (N := 2) hx hb hts iw_X2_wind_X1 tyX1 tyX1_ok hown (hts _ lk_X2_wind_Cond_classLink_RX2_9_RX1) (hts _ lk_X2_wind_Cond_instantiable_RX1_2) (hts _ lk_X2_wind_Cond_initialized_RX1) hK hP hD hS hA rfl (fun j9 h9 => by rcases (show j9 = 0 ∨ j9 = 1 by omega) with rfl | rfl <;> rfl) (Nat.le_of_ble_eq_true rfl) (Nat.le_of_ble_eq_true rfl) dX2_wind_47 (fun q H hP hD hS => ?_)
            have hP : va_P D vwCl [(x, .inr (2, [.ref ah, .ref ak, .ref b0, .ref b1, .ref b2, .ref b3, .ref b4, .int k])), (ah, .inl (cQ, 6, .inr (.inr (.inr (.inr hk))))), (ak, .inr (0, [.int (kn 0), .int (kn 1), .int (kn 2), .int (kn 3), .int (kn 4), .int (kn 5), .int (kn 6)])), (b0, .inl (cI, 24, .inl (sh 0))), (b1, .inl (cI, 24, .inl (sh 1))), (b2, .inl (cI, 24, .inl (sh 2))), (b3, .inl (cI, 24, .inl (sh 3))), (b4, .inl (cI, 24, .inl (sh 4))), (q, .inr (1, [.int 0, .null]))] H := hP
            have hD : va_D A [(x, .inr (2, [.ref ah, .ref ak, .ref b0, .ref b1, .ref b2, .ref b3, .ref b4, .int k])), (ah, .inl (cQ, 6, .inr (.inr (.inr (.inr hk))))), (ak, .inr (0, [.int (kn 0), .int (kn 1), .int (kn 2), .int (kn 3), .int (kn 4), .int (kn 5), .int (kn 6)])), (b0, .inl (cI, 24, .inl (sh 0))), (b1, .inl (cI, 24, .inl (sh 1))), (b2, .inl (cI, 24, .inl (sh 2))), (b3, .inl (cI, 24, .inl (sh 3))), (b4, .inl (cI, 24, .inl (sh 4))), (q, .inr (1, [.int 0, .null]))] := hD
            refine lv_dup hx hb dX2_wind_50 rfl ?_
            refine lv_iconst (v := 5) hx hb dX2_wind_51 (by decide) ?_
            refine lv_iconst (v := 0) hx hb dX2_wind_52 (by decide) ?_
            refine lv_topi (fun y_1 e9 => ?_)
            have e9 : y_1 = nI 0 := e9.trans (nI_0.symm)
            subst e9
            have hFc := va_free (wc := [(q, .inr (1, [.int 0, .null]))]) hD hS hA [8] rfl
            refine va_callv (va_runI (As := [.int 5, .int (nI 0)]) (rest := [.ref q, .int (nI j), .ref ah]) ⟨hx, hb, hml, hown, hts⟩ (c_X1_init l (hP.sub (ws' := [(q, .inr (1, [.int 0, .null]))]) [8] rfl) ((hD.sub (ws' := [(q, .inr (1, [.int 0, .null]))]) [8] (by decide) rfl).weaken (fun _ _ _ _ => trivial)) (fun q h => hN q (hFc q h)) (by decide)) (cwI 2 hts gX2_wind_X1_init rfl rfl rfl (hts _ lk_X2_wind_Cond_initialized_RX1) (hts _ lk_X2_wind_Cond_methodLink_RX2_53_yX1_init) (hts _ lk_X2_wind_Cond_instanceMethod_yX1_init) rfl (by decide +kernel) ⟨Nat.le_of_ble_eq_true rfl, Nat.le_of_ble_eq_true rfl⟩) (Pq.S hC hS hN) rfl rfl hl.1 rfl (lv_room (Nat.le_of_ble_eq_true rfl)) dX2_wind_53 ⟨Nat.le_of_ble_eq_true rfl, Nat.le_of_ble_eq_true rfl⟩) hS (fun q _ h => hFc q h) hFc (fun u t H1 locs ht hvm hw hB hz1 hk1 hS => ?_)
            obtain ⟨w1, f1⟩ := u
            obtain ⟨hP1, hD1⟩ := hB
            rw [ht] at hP1
            have hw : ∀ j9, j9 < 0 → f1 j9 = fr0 5 := hw
            obtain ⟨hP, hD⟩ := va_join (wr := [(x, .inr (2, [.ref ah, .ref ak, .ref b0, .ref b1, .ref b2, .ref b3, .ref b4, .int k])), (ah, .inl (cQ, 6, .inr (.inr (.inr (.inr hk))))), (ak, .inr (0, [.int (kn 0), .int (kn 1), .int (kn 2), .int (kn 3), .int (kn 4), .int (kn 5), .int (kn 6)])), (b0, .inl (cI, 24, .inl (sh 0))), (b1, .inl (cI, 24, .inl (sh 1))), (b2, .inl (cI, 24, .inl (sh 2))), (b3, .inl (cI, 24, .inl (sh 3))), (b4, .inl (cI, 24, .inl (sh 4)))]) (w1 := [(q, .inr (1, [.int 5, .ref w1])), (w1, .inl (cL, 0, .inr (.inl f1)))]) hP hD [8] [0, 1, 2, 3, 4, 5, 6, 7] rfl rfl (by decide) (by decide) hk1 hFc hP1 hD1
            generalize H1 = H at hP hS ⊢
            have hP : va_P D vwCl [(x, .inr (2, [.ref ah, .ref ak, .ref b0, .ref b1, .ref b2, .ref b3, .ref b4, .int k])), (ah, .inl (cQ, 6, .inr (.inr (.inr (.inr hk))))), (ak, .inr (0, [.int (kn 0), .int (kn 1), .int (kn 2), .int (kn 3), .int (kn 4), .int (kn 5), .int (kn 6)])), (b0, .inl (cI, 24, .inl (sh 0))), (b1, .inl (cI, 24, .inl (sh 1))), (b2, .inl (cI, 24, .inl (sh 2))), (b3, .inl (cI, 24, .inl (sh 3))), (b4, .inl (cI, 24, .inl (sh 4))), (q, .inr (1, [.int 5, .ref w1])), (w1, .inl (cL, 0, .inr (.inl f1)))] H := hP.sub [0, 1, 2, 3, 4, 5, 6, 7, 8, 9] rfl
            have hD : va_D A [(x, .inr (2, [.ref ah, .ref ak, .ref b0, .ref b1, .ref b2, .ref b3, .ref b4, .int k])), (ah, .inl (cQ, 6, .inr (.inr (.inr (.inr hk))))), (ak, .inr (0, [.int (kn 0), .int (kn 1), .int (kn 2), .int (kn 3), .int (kn 4), .int (kn 5), .int (kn 6)])), (b0, .inl (cI, 24, .inl (sh 0))), (b1, .inl (cI, 24, .inl (sh 1))), (b2, .inl (cI, 24, .inl (sh 2))), (b3, .inl (cI, 24, .inl (sh 3))), (b4, .inl (cI, 24, .inl (sh 4))), (q, .inr (1, [.int 5, .ref w1])), (w1, .inl (cL, 0, .inr (.inl f1)))] := hD.sub [0, 1, 2, 3, 4, 5, 6, 7, 8, 9] (by decide) rfl
            refine va_astq (D := D) hx hb hK hP hD hS 1 2 8 1 rfl rfl rfl rfl (vp_in_nI hj (by decide)) dX2_wind_56 (fun H locs hP hD hS => ?_)
            have hP : va_P D vwCl [(x, .inr (2, [.ref ah, .ref ak, .ref b0, .ref b1, .ref b2, .ref b3, .ref b4, .int k])), (ah, .inl (cQ, 6, .inr (.inr (.inr (.inr (va_up hk ((nI j).toNatClampNeg) (some q))))))), (ak, .inr (0, [.int (kn 0), .int (kn 1), .int (kn 2), .int (kn 3), .int (kn 4), .int (kn 5), .int (kn 6)])), (b0, .inl (cI, 24, .inl (sh 0))), (b1, .inl (cI, 24, .inl (sh 1))), (b2, .inl (cI, 24, .inl (sh 2))), (b3, .inl (cI, 24, .inl (sh 3))), (b4, .inl (cI, 24, .inl (sh 4))), (q, .inr (1, [.int 5, .ref w1])), (w1, .inl (cL, 0, .inr (.inl f1)))] H := hP
            have hD : va_D A [(x, .inr (2, [.ref ah, .ref ak, .ref b0, .ref b1, .ref b2, .ref b3, .ref b4, .int k])), (ah, .inl (cQ, 6, .inr (.inr (.inr (.inr (va_up hk ((nI j).toNatClampNeg) (some q))))))), (ak, .inr (0, [.int (kn 0), .int (kn 1), .int (kn 2), .int (kn 3), .int (kn 4), .int (kn 5), .int (kn 6)])), (b0, .inl (cI, 24, .inl (sh 0))), (b1, .inl (cI, 24, .inl (sh 1))), (b2, .inl (cI, 24, .inl (sh 2))), (b3, .inl (cI, 24, .inl (sh 3))), (b4, .inl (cI, 24, .inl (sh 4))), (q, .inr (1, [.int 5, .ref w1])), (w1, .inl (cL, 0, .inr (.inl f1)))] := hD
            rw [nI_clamp (show j < 2 ^ 31 by omega)] at hP hD
            have hD9 : va_D (va_A [(x, .inr (2, [.ref ah, .ref ak, .ref b0, .ref b1, .ref b2, .ref b3, .ref b4, .int k])), (ah, .inl (cQ, 6, .inr (.inr (.inr (.inr hk))))), (ak, .inr (0, [.int (kn 0), .int (kn 1), .int (kn 2), .int (kn 3), .int (kn 4), .int (kn 5), .int (kn 6)])), (b0, .inl (cI, 24, .inl (sh 0))), (b1, .inl (cI, 24, .inl (sh 1))), (b2, .inl (cI, 24, .inl (sh 2))), (b3, .inl (cI, 24, .inl (sh 3))), (b4, .inl (cI, 24, .inl (sh 4)))] s.heap.size) [(x, .inr (2, [.ref ah, .ref ak, .ref b0, .ref b1, .ref b2, .ref b3, .ref b4, .int k])), (ah, .inl (cQ, 6, .inr (.inr (.inr (.inr (va_up hk j (some q))))))), (ak, .inr (0, [.int (kn 0), .int (kn 1), .int (kn 2), .int (kn 3), .int (kn 4), .int (kn 5), .int (kn 6)])), (b0, .inl (cI, 24, .inl (sh 0))), (b1, .inl (cI, 24, .inl (sh 1))), (b2, .inl (cI, 24, .inl (sh 2))), (b3, .inl (cI, 24, .inl (sh 3))), (b4, .inl (cI, 24, .inl (sh 4))), (q, .inr (1, [.int 5, .ref w1])), (w1, .inl (cL, 0, .inr (.inl f1)))] := by rw [← hAe]; exact hD
            have hq8 : s.heap.size ≤ q := D_new hD9 rfl (j := 8) rfl (Nat.le_of_ble_eq_true rfl)
            have hw8 : s.heap.size ≤ w1 := D_new hD9 rfl (j := 9) rfl (Nat.le_of_ble_eq_true rfl)
            have h2 := h.putNg (hP.sub [0, 1, 2, 3, 4, 5, 6, 7] rfl) (hP.sub [8, 9] rfl) hq8 hw8 (fun e => absurd (hD.1 8 9 _ _ rfl rfl e) (by decide)) (by decide) (fun r9 l9 => h.keepR l9 (fun q hs hn => hS.2.1 q hs (by rw [hAe]; exact hn)) (h.nA8 l9).1 (h.nA8 l9).2)
            refine lv_goto (tgt := 98) hx hb dX2_wind_57 (by decide) ?_
            refine lv_iload_n hx hb dX2_wind_98 rfl (lv_at hl 2 rfl) ?_
            exact vx_ret (W.iret (v := 5) hx hb hr (fun t ht hW => ⟨⟨_, (va_up hk j (some q), va_up re q (5, w1, 0, f1), kn, sh, k), rfl, ⟨j, hj, rfl, c_5, c_10, rfl, Or.inr ⟨c_24, q, w1, 0, f1, fun r9 l9 => by have := ((h.2.2.2 r9 l9).1 0 _ rfl).lt; omega, Or.inl ⟨rfl, rfl⟩, hw, rfl⟩⟩, by dsimp only; rw [ht]; exact h2⟩, (S_mono hS hFA).F ht⟩) (fun z9 h9 => hFA _ (hS.2.2 z9 h9)) dX2_wind_99)
        · obtain ⟨A, hAe⟩ : ∃ A : Nat → Prop, A = va_A [(x, .inr (2, [.ref ah, .ref ak, .ref b0, .ref b1, .ref b2, .ref b3, .ref b4, .int k])), (ah, .inl (cQ, 6, .inr (.inr (.inr (.inr hk))))), (ak, .inr (0, [.int (kn 0), .int (kn 1), .int (kn 2), .int (kn 3), .int (kn 4), .int (kn 5), .int (kn 6)])), (b0, .inl (cI, 24, .inl (sh 0))), (b1, .inl (cI, 24, .inl (sh 1))), (b2, .inl (cI, 24, .inl (sh 2))), (b3, .inl (cI, 24, .inl (sh 3))), (b4, .inl (cI, 24, .inl (sh 4)))] s.heap.size := ⟨_, rfl⟩
          have hP : va_P D vwCl [(x, .inr (2, [.ref ah, .ref ak, .ref b0, .ref b1, .ref b2, .ref b3, .ref b4, .int k])), (ah, .inl (cQ, 6, .inr (.inr (.inr (.inr hk))))), (ak, .inr (0, [.int (kn 0), .int (kn 1), .int (kn 2), .int (kn 3), .int (kn 4), .int (kn 5), .int (kn 6)])), (b0, .inl (cI, 24, .inl (sh 0))), (b1, .inl (cI, 24, .inl (sh 1))), (b2, .inl (cI, 24, .inl (sh 2))), (b3, .inl (cI, 24, .inl (sh 3))), (b4, .inl (cI, 24, .inl (sh 4)))] s.heap := h.P8
          have hD : va_D A [(x, .inr (2, [.ref ah, .ref ak, .ref b0, .ref b1, .ref b2, .ref b3, .ref b4, .int k])), (ah, .inl (cQ, 6, .inr (.inr (.inr (.inr hk))))), (ak, .inr (0, [.int (kn 0), .int (kn 1), .int (kn 2), .int (kn 3), .int (kn 4), .int (kn 5), .int (kn 6)])), (b0, .inl (cI, 24, .inl (sh 0))), (b1, .inl (cI, 24, .inl (sh 1))), (b2, .inl (cI, 24, .inl (sh 2))), (b3, .inl (cI, 24, .inl (sh 3))), (b4, .inl (cI, 24, .inl (sh 4)))] := by rw [hAe]; exact (h.D8).self
          have hA : ∀ q, s.heap.size ≤ q → A q := fun q z => by rw [hAe]; exact Or.inr z
          have hFA : ∀ q, A q → F q ∨ s.heap.size ≤ q := fun q z => h.in8 (hAe ▸ z)
          have hN : ∀ q, A q → N0 ≤ q := fun q z => hNF q (hFA q z)
          have hS : va_S A s.heap s.heap locs := S_mono hS (fun _ z => z.elim)
          refine lv_aload_n hx hb dX2_wind_27 rfl (lv_at hl 0 rfl) ?_
          refine va_get (D := D) (ci := 2) (v := .ref ah) (C := RX2) (T := TX2) (N := 8) hx hb hts iw_X2_wind_X2 hown hK hP 0 rfl rfl 0 (by decide) (hts _ lk_X2_wind_Cond_fieldLink_RX2_11_SpliceRoom_hooks_LSpliceRoom_Reel_) (fun _ h9 => h9) rfl dX2_wind_28 ?_
          refine lv_iload_n hx hb dX2_wind_31 rfl (lv_at hl 1 rfl) ?_
          refine lv_null hx hb dX2_wind_32 ?_
          refine va_astqN (D := D) hx hb hK hP hD hS 1 2 rfl rfl (vp_in_nI hj (by decide)) dX2_wind_33 (fun H locs hP hD hS => ?_)
          have hP : va_P D vwCl [(x, .inr (2, [.ref ah, .ref ak, .ref b0, .ref b1, .ref b2, .ref b3, .ref b4, .int k])), (ah, .inl (cQ, 6, .inr (.inr (.inr (.inr (va_up hk ((nI j).toNatClampNeg) none)))))), (ak, .inr (0, [.int (kn 0), .int (kn 1), .int (kn 2), .int (kn 3), .int (kn 4), .int (kn 5), .int (kn 6)])), (b0, .inl (cI, 24, .inl (sh 0))), (b1, .inl (cI, 24, .inl (sh 1))), (b2, .inl (cI, 24, .inl (sh 2))), (b3, .inl (cI, 24, .inl (sh 3))), (b4, .inl (cI, 24, .inl (sh 4)))] H := hP
          have hD : va_D A [(x, .inr (2, [.ref ah, .ref ak, .ref b0, .ref b1, .ref b2, .ref b3, .ref b4, .int k])), (ah, .inl (cQ, 6, .inr (.inr (.inr (.inr (va_up hk ((nI j).toNatClampNeg) none)))))), (ak, .inr (0, [.int (kn 0), .int (kn 1), .int (kn 2), .int (kn 3), .int (kn 4), .int (kn 5), .int (kn 6)])), (b0, .inl (cI, 24, .inl (sh 0))), (b1, .inl (cI, 24, .inl (sh 1))), (b2, .inl (cI, 24, .inl (sh 2))), (b3, .inl (cI, 24, .inl (sh 3))), (b4, .inl (cI, 24, .inl (sh 4)))] := hD
          rw [nI_clamp (show j < 2 ^ 31 by omega)] at hP hD
          refine lv_goto (tgt := 98) hx hb dX2_wind_34 (by decide) ?_
          refine lv_iload_n hx hb dX2_wind_98 rfl (lv_at hl 2 rfl) ?_
          refine W.widen (k := 3) (n := 48) (by omega) (by omega) ?_
          exact vx_ret (W.iret (v := k0) hx hb hr (fun t ht hW => ⟨⟨_, (va_up hk j none, re, kn, sh, k), rfl, ⟨j, hj, rfl, c_5, c_10, rfl, Or.inl ⟨c_24, rfl⟩⟩, by dsimp only; rw [ht]; exact h.end8 hP (Live_up (fun r' e => by cases e)) (fun q hs hn => hS.2.1 q hs (by rw [hAe]; exact hn))⟩, (S_mono hS hFA).F ht⟩) (fun z9 h9 => hFA _ (hS.2.2 z9 h9)) dX2_wind_99)
      · exact vx_throwS (cls := eA) (text := "no such kind") (names := exN) (sa := sa 48) (A := nA) hx hb hl0 hown (by decide +kernel) exN_fit (hts _ lk_X2_wind_Cond_classLink_RX2_46_eA) (hts _ lk_X2_wind_Cond_initialized_eA) (hC.text (by decide +kernel)) (vx_hat (fun w hw => hts w (xw_X2_wind_eA w hw)) exA_ng hC.all) (good2 exA_ot) (hC.ust nA_N) (hC.sup nA_N) hS (by rw [hml]; exact hl.1) dX2_wind_13 dX2_wind_16 dX2_wind_17 dX2_wind_19 dX2_wind_22 (fun x9 h9 => (hxt x9 h9).elim) (by decide) (Nat.le_of_ble_eq_true rfl) (Nat.le_of_ble_eq_true rfl) (Nat.le_of_ble_eq_true rfl) hlocks (fun t hvm hz9 hk9 => ⟨(), trivial, ⟨⟨rfl, fun h9 => c_10 h9.2.2.1⟩, h.xo hk9⟩, hz9, fun q hs _ => hk9 q hs⟩) (fun z9 h9 => (hS.2.2 z9 h9).elim) (Nat.le_of_ble_eq_true rfl) (Nat.le_of_ble_eq_true rfl)
theorem cpy_00 {f g : Nat → Int64} {z : Nat} : ∀ i, i < z → va_cpy f g 0 0 z i = f i := fun i h => by rw [pk_cpy_in (Nat.zero_le _) (by omega)]; simp
theorem xw_X2_twin_eS : ∀ w ∈ (vx_atS RX2 69 eS exN).filter goodWord, w ∈ wsX2_twin := by decide +kernel
theorem iw_X2_twin_X1 : ∀ w ∈ wsX10, w ∈ wsX2_twin := by decide +kernel
theorem iw_X2_twin_X2 : ∀ w ∈ wsX20, w ∈ wsX2_twin := by decide +kernel
theorem lk_X2_twin_Cond_classLink_RX2_65_eS : Cond.classLink RX2 65 eS ∈ wsX2_twin := by decide +kernel
theorem lk_X2_twin_Cond_classLink_RX2_9_RX1 : Cond.classLink RX2 9 RX1 ∈ wsX2_twin := by decide +kernel
theorem lk_X2_twin_Cond_fieldLink_RX2_11_SpliceRoom_hooks_LSpliceRoom_Reel_ : Cond.fieldLink RX2 11 "SpliceRoom" "hooks" "[LSpliceRoom$Reel;" ∈ wsX2_twin := by decide +kernel
theorem lk_X2_twin_Cond_initialized_RX1 : Cond.initialized RX1 ∈ wsX2_twin := by decide +kernel
theorem lk_X2_twin_Cond_initialized_eS : Cond.initialized eS ∈ wsX2_twin := by decide +kernel
theorem lk_X2_twin_Cond_initialized_java_lang_System_ : Cond.initialized "java/lang/System" ∈ wsX2_twin := by decide +kernel
theorem lk_X2_twin_Cond_instanceMethod_yX1_init : Cond.instanceMethod yX1_init ∈ wsX2_twin := by decide +kernel
theorem lk_X2_twin_Cond_instantiable_RX1_2 : Cond.instantiable RX1 2 ∈ wsX2_twin := by decide +kernel
theorem lk_X2_twin_Cond_methodLink_RX2_53_yX1_init : Cond.methodLink RX2 53 yX1_init ∈ wsX2_twin := by decide +kernel
theorem lk_X2_twin_Cond_methodLink_RX2_74_arraycopyName : Cond.methodLink RX2 74 arraycopyName ∈ wsX2_twin := by decide +kernel
theorem lk_X2_twin_Cond_native_arraycopyName : Cond.native arraycopyName ∈ wsX2_twin := by decide +kernel
theorem lk_X2_twin_Cond_static_arraycopyName : Cond.static arraycopyName ∈ wsX2_twin := by decide +kernel
set_option maxHeartbeats 4000000 in
set_option maxRecDepth 100000 in
theorem c_X2_twin (l : Launch) {D : va_G} {cI cL cQ : ClassId} {N0 : Nat} {sa : Nat → Nat} {Hc : Heap} (hl0 : l.stackTraces = false) {x ah ak b0 b1 b2 b3 b4 : Nat} {F : Nat → Prop} {hk : Nat → Option Nat} {re : Nat → RE} {kn : Nat → Int32} {sh : Nat → Nat → Int32} {k : Int32} (h : RSB D cI cL cQ x ah ak b0 b1 b2 b3 b4 F (hk, re, kn, sh, k) Hc) (hNF : ∀ q, F q ∨ Hc.size ≤ q → N0 ≤ q) {h0 o0 : Int32} : vx_Met l yX2_twin wsX2_twin ({ frames := 7, cells := 4, slots := 54, locals := 110 }) (Pq D cI cL cQ N0 sa [.ref x, .int h0, .int o0] Hc) (va_Qi (fun (rr : Int32) (u : CS) => ∃ j1 i1 r1 : Nat, j1 < 6 ∧ i1 < 6 ∧ h0 = nI j1 ∧ o0 = nI i1 ∧ hk i1 = some r1 ∧ ¬ (re r1).1 = 5 ∧ rr = (re r1).1 ∧ ∃ (q1 w1 : Nat) (f1 : Nat → Int64), (∀ r2, Live hk r2 → r2 < q1) ∧ (∀ t1, t1 < (re r1).2.2.1 → f1 t1 = (re r1).2.2.2 t1) ∧ u = (va_up hk j1 (some q1), va_up re q1 ((re r1).1, w1, (re r1).2.2.1, f1), kn, sh, k)) (fun u t => RSB D cI cL cQ x ah ak b0 b1 b2 b3 b4 (fun q => F q ∨ Hc.size ≤ q) u t.heap) (fun q => F q ∨ Hc.size ≤ q)) (vx_X (fun (_ : Unit) => True) (fun E _ t => ((E = eA ∧ ¬ (okH h0 ∧ okH o0)) ∨ (E = eS ∧ ∃ j1 i1 : Nat, j1 < 6 ∧ i1 < 6 ∧ h0 = nI j1 ∧ o0 = nI i1 ∧ (hk i1 = none ∨ ∃ r1 : Nat, hk i1 = some r1 ∧ (re r1).1 = 5))) ∧ RSB D cI cL cQ x ah ak b0 b1 b2 b3 b4 (fun q => F q ∨ Hc.size ≤ q) (hk, re, kn, sh, k) t.heap) (fun q => F q ∨ Hc.size ≤ q)) 4 54 (fun q => F q ∨ Hc.size ≤ q) := by
  refine vx_ofW (cc := cX2_twin) (maxL := 5) (ret := (some .int)) (by decide) rfl ?_
  intro p e s m args below meth c s₁ B hml hxt hv
  obtain ⟨rfl, hH, hC⟩ := hv
  have hx := B.exec
  have hb := B.bytes
  have hr := B.returns
  have hts := atoms_spec (ws := wsX2_twin) B.pre
  have hown : s.vm.findClass RX2 = some m.cls := findClass_of_methodNamed B.named
  have hlocks := B.notSynchronized
  subst hH
  have hK := hC.K
  have hl := lv_entry ([.ref x, .int h0, .int o0]) (n := 5) (Nat.le_of_ble_eq_true rfl)
  rw [lg_entry_eq]
  generalize (lg_sl ([.ref x, .int h0, .int o0]) ++ List.replicate (5 - (lg_sl ([.ref x, .int h0, .int o0])).length) Slot.unset).toArray = ls at hl ⊢
  have hl : lv_has ls 5 [(0, .ref x), (1, .int h0), (2, .int o0)] := hl
  have hP : va_P D vwCl [(x, .inr (2, [.ref ah, .ref ak, .ref b0, .ref b1, .ref b2, .ref b3, .ref b4, .int k])), (ah, .inl (cQ, 6, .inr (.inr (.inr (.inr hk))))), (ak, .inr (0, [.int (kn 0), .int (kn 1), .int (kn 2), .int (kn 3), .int (kn 4), .int (kn 5), .int (kn 6)])), (b0, .inl (cI, 24, .inl (sh 0))), (b1, .inl (cI, 24, .inl (sh 1))), (b2, .inl (cI, 24, .inl (sh 2))), (b3, .inl (cI, 24, .inl (sh 3))), (b4, .inl (cI, 24, .inl (sh 4)))] s.heap := h.P8
  have hS : va_S nA s.heap s.heap [] := va_S.rf
  have hN : ∀ q, nA q → N0 ≤ q := nA_N
  refine lv_iload_n hx hb dX2_twin_0 rfl (lv_at hl 1 rfl) ?_
  refine rx_v (vx_runS (As := [.int h0]) (rest := []) ⟨hx, hb, hml, hown, hts⟩ (c_X2_requireHook l hl0 (h0 := h0)) (va_cwS 1 hts gX2_twin_X2_requireHook rfl rfl rfl (by decide +kernel) ⟨Nat.le_of_ble_eq_true rfl, Nat.le_of_ble_eq_true rfl⟩) (Pq.S hC hS hN) rfl rfl hl.1 rfl (lv_room (Nat.le_of_ble_eq_true rfl)) dX2_twin_1 ⟨Nat.le_of_ble_eq_true rfl, Nat.le_of_ble_eq_true rfl⟩) hS (fun ce q9 H9 locs hx9 hz9 hk9 hS hcell hv9 hcl => ?_) (fun locs hw hS => ?_)
  · have hx9 : ¬ okH h0 := hx9
    refine vx_widen (k := 4) (n := 54) (by omega) (by omega) ?_
    exact vx_out (fun x9 h9 => (hxt x9 h9).elim) hlocks hcell hv9 hcl (fun t ht hvm => ⟨(), trivial, ⟨Or.inl ⟨rfl, fun h9 => hx9 h9.1⟩, by rw [ht]; exact h.xo hk9⟩, by rw [ht]; exact hz9, fun q hs _ => by rw [ht]; exact hk9 q hs⟩) (fun z9 h9 => (hS.2.2 z9 h9).elim) (Nat.le_refl _) (Nat.le_refl _)
  · have hw : okH h0 := hw
    obtain ⟨j, hj, rfl⟩ := hw
    refine lv_iload_n hx hb dX2_twin_4 rfl (lv_at hl 2 rfl) ?_
    refine rx_v (vx_runS (As := [.int o0]) (rest := []) ⟨hx, hb, hml, hown, hts⟩ (c_X2_requireHook l hl0 (h0 := o0)) (va_cwS 1 hts gX2_twin_X2_requireHook rfl rfl rfl (by decide +kernel) ⟨Nat.le_of_ble_eq_true rfl, Nat.le_of_ble_eq_true rfl⟩) (Pq.S hC hS hN) rfl rfl hl.1 rfl (lv_room (Nat.le_of_ble_eq_true rfl)) dX2_twin_5 ⟨Nat.le_of_ble_eq_true rfl, Nat.le_of_ble_eq_true rfl⟩) hS (fun ce q9 H9 locs hx9 hz9 hk9 hS hcell hv9 hcl => ?_) (fun locs hw hS => ?_)
    · have hx9 : ¬ okH o0 := hx9
      refine vx_widen (k := 4) (n := 54) (by omega) (by omega) ?_
      exact vx_out (fun x9 h9 => (hxt x9 h9).elim) hlocks hcell hv9 hcl (fun t ht hvm => ⟨(), trivial, ⟨Or.inl ⟨rfl, fun h9 => hx9 h9.2⟩, by rw [ht]; exact h.xo hk9⟩, by rw [ht]; exact hz9, fun q hs _ => by rw [ht]; exact hk9 q hs⟩) (fun z9 h9 => (hS.2.2 z9 h9).elim) (Nat.le_refl _) (Nat.le_refl _)
    · have hw : okH o0 := hw
      obtain ⟨i, hi, rfl⟩ := hw
      refine lv_aload_n hx hb dX2_twin_8 rfl (lv_at hl 0 rfl) ?_
      refine va_get (D := D) (ci := 2) (v := .ref ah) (C := RX2) (T := TX2) (N := 8) hx hb hts iw_X2_twin_X2 hown hK hP 0 rfl rfl 0 (by decide) (hts _ lk_X2_twin_Cond_fieldLink_RX2_11_SpliceRoom_hooks_LSpliceRoom_Reel_) (fun _ h9 => h9) rfl dX2_twin_9 ?_
      refine lv_iload_n hx hb dX2_twin_12 rfl (lv_at hl 2 rfl) ?_
      refine va_aldq (D := D) hx hb hK hP 1 2 rfl rfl (vp_in_nI hi (by decide)) dX2_twin_13 ?_
      refine W.eq (g2 := F0 m 14 ls (va_rf (hk i) :: [])) (by rw [nI_clamp (by omega)]) ?_
      cases eh : hk i with
      | none =>
        refine lv_astore_nN (lv' := [(3, .null), (0, .ref x), (1, .int (nI j)), (2, .int (nI i))]) hx hb dX2_twin_14 rfl hl (by decide) rfl (fun ls hl => ?_)
        refine lv_aload_nN hx hb dX2_twin_15 rfl (lv_at hl 0 rfl) ?_
        refine lv_ifnullN (tgt := 27) hx hb dX2_twin_16 (by decide) ?_
        exact vx_throwS (cls := eS) (text := "no row to make a twin of") (names := exN) (sa := sa 67) (A := nA) hx hb hl0 hown (by decide +kernel) exN_fit (hts _ lk_X2_twin_Cond_classLink_RX2_65_eS) (hts _ lk_X2_twin_Cond_initialized_eS) (hC.text (by decide +kernel)) (vx_hat (fun w hw => hts w (xw_X2_twin_eS w hw)) exS_ng hC.all) (good2 exS_ot) (hC.ust nA_N) (hC.sup nA_N) hS (by rw [hml]; exact hl.1) dX2_twin_27 dX2_twin_30 dX2_twin_31 dX2_twin_33 dX2_twin_36 (fun x9 h9 => (hxt x9 h9).elim) (by decide) (Nat.le_of_ble_eq_true rfl) (Nat.le_of_ble_eq_true rfl) (Nat.le_of_ble_eq_true rfl) hlocks (fun t hvm hz9 hk9 => ⟨(), trivial, ⟨Or.inr ⟨rfl, j, i, hj, hi, rfl, rfl, Or.inl eh⟩, h.xo hk9⟩, hz9, fun q hs _ => hk9 q hs⟩) (fun z9 h9 => (hS.2.2 z9 h9).elim) (Nat.le_of_ble_eq_true rfl) (Nat.le_of_ble_eq_true rfl)
      | some r =>
        have lr : Live hk r := ⟨i, hi, eh⟩
        have hP : va_P D vwCl [(x, .inr (2, [.ref ah, .ref ak, .ref b0, .ref b1, .ref b2, .ref b3, .ref b4, .int k])), (ah, .inl (cQ, 6, .inr (.inr (.inr (.inr hk))))), (ak, .inr (0, [.int (kn 0), .int (kn 1), .int (kn 2), .int (kn 3), .int (kn 4), .int (kn 5), .int (kn 6)])), (b0, .inl (cI, 24, .inl (sh 0))), (b1, .inl (cI, 24, .inl (sh 1))), (b2, .inl (cI, 24, .inl (sh 2))), (b3, .inl (cI, 24, .inl (sh 3))), (b4, .inl (cI, 24, .inl (sh 4))), (r, .inr (1, [.int ((re r).1), .ref ((re r).2.1)])), ((re r).2.1, .inl (cL, (re r).2.2.1, .inr (.inl ((re r).2.2.2))))] s.heap := h.P10 lr
        have hzr : (re r).2.2.1 ≤ 40 := (h.2.2.2 r lr).2.2.2.1
        refine lv_astore_n (lv' := [(3, .ref r), (0, .ref x), (1, .int (nI j)), (2, .int (nI i))]) hx hb dX2_twin_14 rfl hl (by decide) rfl (fun ls hl => ?_)
        refine lv_aload_n hx hb dX2_twin_15 rfl (lv_at hl 0 rfl) ?_
        refine lv_ifnull hx hb dX2_twin_16 ?_
        refine lv_aload_n hx hb dX2_twin_19 rfl (lv_at hl 0 rfl) ?_
        refine va_getN (D := D) (ci := 1) (v := .int ((re r).1)) (C := RX1) (T := TX1) (N := 2) hx hb hts iw_X2_twin_X1 hown hK hP 8 rfl rfl 0 (by decide) (hC.nest (a := RX2) (i := 62) (b := "SpliceRoom$Reel") (n := "kind") (d := "I") (hh := "SpliceRoom") (by decide +kernel)) (fun _ h9 => h9) rfl dX2_twin_20 ?_
        refine lv_iconst (v := 5) hx hb dX2_twin_23 (by decide) ?_
        refine lv_icmp_ne (tgt := 37) hx hb dX2_twin_24 (by decide) (fun c_24 => ?_) (fun c_24 => ?_)
        · obtain ⟨A, hAe⟩ : ∃ A : Nat → Prop, A = va_A [(x, .inr (2, [.ref ah, .ref ak, .ref b0, .ref b1, .ref b2, .ref b3, .ref b4, .int k])), (ah, .inl (cQ, 6, .inr (.inr (.inr (.inr hk))))), (ak, .inr (0, [.int (kn 0), .int (kn 1), .int (kn 2), .int (kn 3), .int (kn 4), .int (kn 5), .int (kn 6)])), (b0, .inl (cI, 24, .inl (sh 0))), (b1, .inl (cI, 24, .inl (sh 1))), (b2, .inl (cI, 24, .inl (sh 2))), (b3, .inl (cI, 24, .inl (sh 3))), (b4, .inl (cI, 24, .inl (sh 4))), (r, .inr (1, [.int ((re r).1), .ref ((re r).2.1)])), ((re r).2.1, .inl (cL, (re r).2.2.1, .inr (.inl ((re r).2.2.2))))] s.heap.size := ⟨_, rfl⟩
          have hP : va_P D vwCl [(x, .inr (2, [.ref ah, .ref ak, .ref b0, .ref b1, .ref b2, .ref b3, .ref b4, .int k])), (ah, .inl (cQ, 6, .inr (.inr (.inr (.inr hk))))), (ak, .inr (0, [.int (kn 0), .int (kn 1), .int (kn 2), .int (kn 3), .int (kn 4), .int (kn 5), .int (kn 6)])), (b0, .inl (cI, 24, .inl (sh 0))), (b1, .inl (cI, 24, .inl (sh 1))), (b2, .inl (cI, 24, .inl (sh 2))), (b3, .inl (cI, 24, .inl (sh 3))), (b4, .inl (cI, 24, .inl (sh 4))), (r, .inr (1, [.int ((re r).1), .ref ((re r).2.1)])), ((re r).2.1, .inl (cL, (re r).2.2.1, .inr (.inl ((re r).2.2.2))))] s.heap := h.P10 lr
          have hD : va_D A [(x, .inr (2, [.ref ah, .ref ak, .ref b0, .ref b1, .ref b2, .ref b3, .ref b4, .int k])), (ah, .inl (cQ, 6, .inr (.inr (.inr (.inr hk))))), (ak, .inr (0, [.int (kn 0), .int (kn 1), .int (kn 2), .int (kn 3), .int (kn 4), .int (kn 5), .int (kn 6)])), (b0, .inl (cI, 24, .inl (sh 0))), (b1, .inl (cI, 24, .inl (sh 1))), (b2, .inl (cI, 24, .inl (sh 2))), (b3, .inl (cI, 24, .inl (sh 3))), (b4, .inl (cI, 24, .inl (sh 4))), (r, .inr (1, [.int ((re r).1), .ref ((re r).2.1)])), ((re r).2.1, .inl (cL, (re r).2.2.1, .inr (.inl ((re r).2.2.2))))] := by rw [hAe]; exact (h.D10 lr).self
          have hA : ∀ q, s.heap.size ≤ q → A q := fun q z => by rw [hAe]; exact Or.inr z
          have hFA : ∀ q, A q → F q ∨ s.heap.size ≤ q := fun q z => h.in10 lr (hAe ▸ z)
          have hN : ∀ q, A q → N0 ≤ q := fun q z => hNF q (hFA q z)
          have hS : va_S A s.heap s.heap locs := S_mono hS (fun _ z => z.elim)
          refine va_new (D := D) (ci := 1) (fs := [.int 0, .null]) (C := RX1) (T := TX1) (N := 2) hx hb hts iw_X2_twin_X1 tyX1 tyX1_ok hown (hts _ lk_X2_twin_Cond_classLink_RX2_9_RX1) (hts _ lk_X2_twin_Cond_instantiable_RX1_2) (hts _ lk_X2_twin_Cond_initialized_RX1) hK hP hD hS hA rfl (fun j9 h9 => by rcases (show j9 = 0 ∨ j9 = 1 by omega) with rfl | rfl <;> rfl) (Nat.le_of_ble_eq_true rfl) (Nat.le_of_ble_eq_true rfl) dX2_twin_37 (fun q H hP hD hS => ?_)
          have hP : va_P D vwCl [(x, .inr (2, [.ref ah, .ref ak, .ref b0, .ref b1, .ref b2, .ref b3, .ref b4, .int k])), (ah, .inl (cQ, 6, .inr (.inr (.inr (.inr hk))))), (ak, .inr (0, [.int (kn 0), .int (kn 1), .int (kn 2), .int (kn 3), .int (kn 4), .int (kn 5), .int (kn 6)])), (b0, .inl (cI, 24, .inl (sh 0))), (b1, .inl (cI, 24, .inl (sh 1))), (b2, .inl (cI, 24, .inl (sh 2))), (b3, .inl (cI, 24, .inl (sh 3))), (b4, .inl (cI, 24, .inl (sh 4))), (r, .inr (1, [.int ((re r).1), .ref ((re r).2.1)])), ((re r).2.1, .inl (cL, (re r).2.2.1, .inr (.inl ((re r).2.2.2)))), (q, .inr (1, [.int 0, .null]))] H := hP
          have hD : va_D A [(x, .inr (2, [.ref ah, .ref ak, .ref b0, .ref b1, .ref b2, .ref b3, .ref b4, .int k])), (ah, .inl (cQ, 6, .inr (.inr (.inr (.inr hk))))), (ak, .inr (0, [.int (kn 0), .int (kn 1), .int (kn 2), .int (kn 3), .int (kn 4), .int (kn 5), .int (kn 6)])), (b0, .inl (cI, 24, .inl (sh 0))), (b1, .inl (cI, 24, .inl (sh 1))), (b2, .inl (cI, 24, .inl (sh 2))), (b3, .inl (cI, 24, .inl (sh 3))), (b4, .inl (cI, 24, .inl (sh 4))), (r, .inr (1, [.int ((re r).1), .ref ((re r).2.1)])), ((re r).2.1, .inl (cL, (re r).2.2.1, .inr (.inl ((re r).2.2.2)))), (q, .inr (1, [.int 0, .null]))] := hD
          refine lv_dup hx hb dX2_twin_40 rfl ?_
          refine lv_aload_n hx hb dX2_twin_41 rfl (lv_at hl 0 rfl) ?_
          refine va_getN (D := D) (ci := 1) (v := .int ((re r).1)) (C := RX1) (T := TX1) (N := 2) hx hb hts iw_X2_twin_X1 hown hK hP 8 rfl rfl 0 (by decide) (hC.nest (a := RX2) (i := 62) (b := "SpliceRoom$Reel") (n := "kind") (d := "I") (hh := "SpliceRoom") (by decide +kernel)) (fun _ h9 => h9) rfl dX2_twin_42 ?_
          refine lv_aload_n hx hb dX2_twin_45 rfl (lv_at hl 0 rfl) ?_
          refine va_getN (D := D) (ci := 1) (v := .ref ((re r).2.1)) (C := RX1) (T := TX1) (N := 2) hx hb hts iw_X2_twin_X1 hown hK hP 8 rfl rfl 1 (by decide) (hC.nest (a := RX2) (i := 70) (b := "SpliceRoom$Reel") (n := "row") (d := "[J") (hh := "SpliceRoom") (by decide +kernel)) (fun _ h9 => h9) rfl dX2_twin_46 ?_
          refine va_alen (D := D) (v := nI ((re r).2.2.1)) hx hb hK hP 9 1 rfl rfl rfl dX2_twin_49 ?_
          have hFc := va_free (wc := [(q, .inr (1, [.int 0, .null]))]) hD hS hA [10] rfl
          refine va_callv (va_runI (As := [.int ((re r).1), .int (nI ((re r).2.2.1))]) (rest := [.ref q]) ⟨hx, hb, hml, hown, hts⟩ (c_X1_init l (hP.sub (ws' := [(q, .inr (1, [.int 0, .null]))]) [10] rfl) ((hD.sub (ws' := [(q, .inr (1, [.int 0, .null]))]) [10] (by decide) rfl).weaken (fun _ _ _ _ => trivial)) (fun q h => hN q (hFc q h)) hzr) (cwI 2 hts gX2_twin_X1_init rfl rfl rfl (hts _ lk_X2_twin_Cond_initialized_RX1) (hts _ lk_X2_twin_Cond_methodLink_RX2_53_yX1_init) (hts _ lk_X2_twin_Cond_instanceMethod_yX1_init) rfl (by decide +kernel) ⟨Nat.le_of_ble_eq_true rfl, Nat.le_of_ble_eq_true rfl⟩) (Pq.S hC hS hN) rfl rfl hl.1 rfl (lv_room (Nat.le_of_ble_eq_true rfl)) dX2_twin_50 ⟨Nat.le_of_ble_eq_true rfl, Nat.le_of_ble_eq_true rfl⟩) hS (fun q _ h => hFc q h) hFc (fun u t H1 locs ht hvm hw hB hz1 hk1 hS => ?_)
          obtain ⟨w1, f1⟩ := u
          obtain ⟨hP1, hD1⟩ := hB
          rw [ht] at hP1
          have hw : ∀ j9, j9 < (re r).2.2.1 → f1 j9 = fr0 ((re r).1) := hw
          obtain ⟨hP, hD⟩ := va_join (wr := [(x, .inr (2, [.ref ah, .ref ak, .ref b0, .ref b1, .ref b2, .ref b3, .ref b4, .int k])), (ah, .inl (cQ, 6, .inr (.inr (.inr (.inr hk))))), (ak, .inr (0, [.int (kn 0), .int (kn 1), .int (kn 2), .int (kn 3), .int (kn 4), .int (kn 5), .int (kn 6)])), (b0, .inl (cI, 24, .inl (sh 0))), (b1, .inl (cI, 24, .inl (sh 1))), (b2, .inl (cI, 24, .inl (sh 2))), (b3, .inl (cI, 24, .inl (sh 3))), (b4, .inl (cI, 24, .inl (sh 4))), (r, .inr (1, [.int ((re r).1), .ref ((re r).2.1)])), ((re r).2.1, .inl (cL, (re r).2.2.1, .inr (.inl ((re r).2.2.2))))]) (w1 := [(q, .inr (1, [.int ((re r).1), .ref w1])), (w1, .inl (cL, (re r).2.2.1, .inr (.inl f1)))]) hP hD [10] [0, 1, 2, 3, 4, 5, 6, 7, 8, 9] rfl rfl (by decide) (by decide) hk1 hFc hP1 hD1
          generalize H1 = H at hP hS ⊢
          have hP : va_P D vwCl [(x, .inr (2, [.ref ah, .ref ak, .ref b0, .ref b1, .ref b2, .ref b3, .ref b4, .int k])), (ah, .inl (cQ, 6, .inr (.inr (.inr (.inr hk))))), (ak, .inr (0, [.int (kn 0), .int (kn 1), .int (kn 2), .int (kn 3), .int (kn 4), .int (kn 5), .int (kn 6)])), (b0, .inl (cI, 24, .inl (sh 0))), (b1, .inl (cI, 24, .inl (sh 1))), (b2, .inl (cI, 24, .inl (sh 2))), (b3, .inl (cI, 24, .inl (sh 3))), (b4, .inl (cI, 24, .inl (sh 4))), (r, .inr (1, [.int ((re r).1), .ref ((re r).2.1)])), ((re r).2.1, .inl (cL, (re r).2.2.1, .inr (.inl ((re r).2.2.2)))), (q, .inr (1, [.int ((re r).1), .ref w1])), (w1, .inl (cL, (re r).2.2.1, .inr (.inl f1)))] H := hP.sub [0, 1, 2, 3, 4, 5, 6, 7, 8, 9, 10, 11] rfl
          have hD : va_D A [(x, .inr (2, [.ref ah, .ref ak, .ref b0, .ref b1, .ref b2, .ref b3, .ref b4, .int k])), (ah, .inl (cQ, 6, .inr (.inr (.inr (.inr hk))))), (ak, .inr (0, [.int (kn 0), .int (kn 1), .int (kn 2), .int (kn 3), .int (kn 4), .int (kn 5), .int (kn 6)])), (b0, .inl (cI, 24, .inl (sh 0))), (b1, .inl (cI, 24, .inl (sh 1))), (b2, .inl (cI, 24, .inl (sh 2))), (b3, .inl (cI, 24, .inl (sh 3))), (b4, .inl (cI, 24, .inl (sh 4))), (r, .inr (1, [.int ((re r).1), .ref ((re r).2.1)])), ((re r).2.1, .inl (cL, (re r).2.2.1, .inr (.inl ((re r).2.2.2)))), (q, .inr (1, [.int ((re r).1), .ref w1])), (w1, .inl (cL, (re r).2.2.1, .inr (.inl f1)))] := hD.sub [0, 1, 2, 3, 4, 5, 6, 7, 8, 9, 10, 11] (by decide) rfl
          refine lv_astore (lv' := [(4, .ref q), (3, .ref r), (0, .ref x), (1, .int (nI j)), (2, .int (nI i))]) hx hb dX2_twin_53 hl (by decide) rfl (fun ls hl => ?_)
          refine lv_aload_n hx hb dX2_twin_55 rfl (lv_at hl 1 rfl) ?_
          refine va_getN (D := D) (ci := 1) (v := .ref ((re r).2.1)) (C := RX1) (T := TX1) (N := 2) hx hb hts iw_X2_twin_X1 hown hK hP 8 rfl rfl 1 (by decide) (hC.nest (a := RX2) (i := 70) (b := "SpliceRoom$Reel") (n := "row") (d := "[J") (hh := "SpliceRoom") (by decide +kernel)) (fun _ h9 => h9) rfl dX2_twin_56 ?_
          refine lv_iconst (v := 0) hx hb dX2_twin_59 (by decide) ?_
          refine lv_aload hx hb dX2_twin_60 (lv_at hl 0 rfl) ?_
          refine va_getN (D := D) (ci := 1) (v := .ref w1) (C := RX1) (T := TX1) (N := 2) hx hb hts iw_X2_twin_X1 hown hK hP 10 rfl rfl 1 (by decide) (hC.nest (a := RX2) (i := 70) (b := "SpliceRoom$Reel") (n := "row") (d := "[J") (hh := "SpliceRoom") (by decide +kernel)) (fun _ h9 => h9) rfl dX2_twin_62 ?_
          refine lv_iconst (v := 0) hx hb dX2_twin_65 (by decide) ?_
          refine lv_aload hx hb dX2_twin_66 (lv_at hl 0 rfl) ?_
          refine va_getN (D := D) (ci := 1) (v := .ref w1) (C := RX1) (T := TX1) (N := 2) hx hb hts iw_X2_twin_X1 hown hK hP 10 rfl rfl 1 (by decide) (hC.nest (a := RX2) (i := 70) (b := "SpliceRoom$Reel") (n := "row") (d := "[J") (hh := "SpliceRoom") (by decide +kernel)) (fun _ h9 => h9) rfl dX2_twin_68 ?_
          refine va_alen (D := D) (v := nI ((re r).2.2.1)) hx hb hK hP 11 1 rfl rfl rfl dX2_twin_71 ?_
          refine va_copyl (D := D) hx hb (by rw [hml]; exact hl.1.symm) hown (hts _ lk_X2_twin_Cond_methodLink_RX2_74_arraycopyName) (hts _ lk_X2_twin_Cond_native_arraycopyName) (hts _ lk_X2_twin_Cond_static_arraycopyName) (hts _ lk_X2_twin_Cond_initialized_java_lang_System_) hK hP hD hS 9 11 1 1 rfl rfl rfl rfl rfl (by decide) (by decide) (nI_pos (by omega)) (by rw [sb_cl0, nI_clamp (by omega)]; omega) (by rw [sb_cl0, nI_clamp (by omega)]; omega) (fun _ _ => rfl) (Nat.le_of_ble_eq_true rfl) (Nat.le_of_ble_eq_true rfl) dX2_twin_72 (fun H locs hP hD hS => ?_)
          rw [sb_cl0, nI_clamp (show (re r).2.2.1 < 2 ^ 31 by omega)] at hP hD
          have hP : va_P D vwCl [(x, .inr (2, [.ref ah, .ref ak, .ref b0, .ref b1, .ref b2, .ref b3, .ref b4, .int k])), (ah, .inl (cQ, 6, .inr (.inr (.inr (.inr hk))))), (ak, .inr (0, [.int (kn 0), .int (kn 1), .int (kn 2), .int (kn 3), .int (kn 4), .int (kn 5), .int (kn 6)])), (b0, .inl (cI, 24, .inl (sh 0))), (b1, .inl (cI, 24, .inl (sh 1))), (b2, .inl (cI, 24, .inl (sh 2))), (b3, .inl (cI, 24, .inl (sh 3))), (b4, .inl (cI, 24, .inl (sh 4))), (r, .inr (1, [.int ((re r).1), .ref ((re r).2.1)])), ((re r).2.1, .inl (cL, (re r).2.2.1, .inr (.inl ((re r).2.2.2)))), (q, .inr (1, [.int ((re r).1), .ref w1])), (w1, .inl (cL, (re r).2.2.1, .inr (.inl (va_cpy (re r).2.2.2 f1 0 0 (re r).2.2.1))))] H := hP
          have hD : va_D A [(x, .inr (2, [.ref ah, .ref ak, .ref b0, .ref b1, .ref b2, .ref b3, .ref b4, .int k])), (ah, .inl (cQ, 6, .inr (.inr (.inr (.inr hk))))), (ak, .inr (0, [.int (kn 0), .int (kn 1), .int (kn 2), .int (kn 3), .int (kn 4), .int (kn 5), .int (kn 6)])), (b0, .inl (cI, 24, .inl (sh 0))), (b1, .inl (cI, 24, .inl (sh 1))), (b2, .inl (cI, 24, .inl (sh 2))), (b3, .inl (cI, 24, .inl (sh 3))), (b4, .inl (cI, 24, .inl (sh 4))), (r, .inr (1, [.int ((re r).1), .ref ((re r).2.1)])), ((re r).2.1, .inl (cL, (re r).2.2.1, .inr (.inl ((re r).2.2.2)))), (q, .inr (1, [.int ((re r).1), .ref w1])), (w1, .inl (cL, (re r).2.2.1, .inr (.inl (va_cpy (re r).2.2.2 f1 0 0 (re r).2.2.1))))] := hD
          refine lv_aload_n hx hb dX2_twin_75 rfl (lv_at hl 2 rfl) ?_
          refine va_get (D := D) (ci := 2) (v := .ref ah) (C := RX2) (T := TX2) (N := 8) hx hb hts iw_X2_twin_X2 hown hK hP 0 rfl rfl 0 (by decide) (hts _ lk_X2_twin_Cond_fieldLink_RX2_11_SpliceRoom_hooks_LSpliceRoom_Reel_) (fun _ h9 => h9) rfl dX2_twin_76 ?_
          refine lv_iload_n hx hb dX2_twin_79 rfl (lv_at hl 3 rfl) ?_
          refine lv_aload hx hb dX2_twin_80 (lv_at hl 0 rfl) ?_
          refine va_astq (D := D) hx hb hK hP hD hS 1 2 10 1 rfl rfl rfl rfl (vp_in_nI hj (by decide)) dX2_twin_82 (fun H locs hP hD hS => ?_)
          have hP : va_P D vwCl [(x, .inr (2, [.ref ah, .ref ak, .ref b0, .ref b1, .ref b2, .ref b3, .ref b4, .int k])), (ah, .inl (cQ, 6, .inr (.inr (.inr (.inr (va_up hk ((nI j).toNatClampNeg) (some q))))))), (ak, .inr (0, [.int (kn 0), .int (kn 1), .int (kn 2), .int (kn 3), .int (kn 4), .int (kn 5), .int (kn 6)])), (b0, .inl (cI, 24, .inl (sh 0))), (b1, .inl (cI, 24, .inl (sh 1))), (b2, .inl (cI, 24, .inl (sh 2))), (b3, .inl (cI, 24, .inl (sh 3))), (b4, .inl (cI, 24, .inl (sh 4))), (r, .inr (1, [.int ((re r).1), .ref ((re r).2.1)])), ((re r).2.1, .inl (cL, (re r).2.2.1, .inr (.inl ((re r).2.2.2)))), (q, .inr (1, [.int ((re r).1), .ref w1])), (w1, .inl (cL, (re r).2.2.1, .inr (.inl (va_cpy (re r).2.2.2 f1 0 0 (re r).2.2.1))))] H := hP
          have hD : va_D A [(x, .inr (2, [.ref ah, .ref ak, .ref b0, .ref b1, .ref b2, .ref b3, .ref b4, .int k])), (ah, .inl (cQ, 6, .inr (.inr (.inr (.inr (va_up hk ((nI j).toNatClampNeg) (some q))))))), (ak, .inr (0, [.int (kn 0), .int (kn 1), .int (kn 2), .int (kn 3), .int (kn 4), .int (kn 5), .int (kn 6)])), (b0, .inl (cI, 24, .inl (sh 0))), (b1, .inl (cI, 24, .inl (sh 1))), (b2, .inl (cI, 24, .inl (sh 2))), (b3, .inl (cI, 24, .inl (sh 3))), (b4, .inl (cI, 24, .inl (sh 4))), (r, .inr (1, [.int ((re r).1), .ref ((re r).2.1)])), ((re r).2.1, .inl (cL, (re r).2.2.1, .inr (.inl ((re r).2.2.2)))), (q, .inr (1, [.int ((re r).1), .ref w1])), (w1, .inl (cL, (re r).2.2.1, .inr (.inl (va_cpy (re r).2.2.2 f1 0 0 (re r).2.2.1))))] := hD
          rw [nI_clamp (show j < 2 ^ 31 by omega)] at hP hD
          have hD9 : va_D (va_A [(x, .inr (2, [.ref ah, .ref ak, .ref b0, .ref b1, .ref b2, .ref b3, .ref b4, .int k])), (ah, .inl (cQ, 6, .inr (.inr (.inr (.inr hk))))), (ak, .inr (0, [.int (kn 0), .int (kn 1), .int (kn 2), .int (kn 3), .int (kn 4), .int (kn 5), .int (kn 6)])), (b0, .inl (cI, 24, .inl (sh 0))), (b1, .inl (cI, 24, .inl (sh 1))), (b2, .inl (cI, 24, .inl (sh 2))), (b3, .inl (cI, 24, .inl (sh 3))), (b4, .inl (cI, 24, .inl (sh 4))), (r, .inr (1, [.int ((re r).1), .ref ((re r).2.1)])), ((re r).2.1, .inl (cL, (re r).2.2.1, .inr (.inl ((re r).2.2.2))))] s.heap.size) [(x, .inr (2, [.ref ah, .ref ak, .ref b0, .ref b1, .ref b2, .ref b3, .ref b4, .int k])), (ah, .inl (cQ, 6, .inr (.inr (.inr (.inr (va_up hk j (some q))))))), (ak, .inr (0, [.int (kn 0), .int (kn 1), .int (kn 2), .int (kn 3), .int (kn 4), .int (kn 5), .int (kn 6)])), (b0, .inl (cI, 24, .inl (sh 0))), (b1, .inl (cI, 24, .inl (sh 1))), (b2, .inl (cI, 24, .inl (sh 2))), (b3, .inl (cI, 24, .inl (sh 3))), (b4, .inl (cI, 24, .inl (sh 4))), (r, .inr (1, [.int ((re r).1), .ref ((re r).2.1)])), ((re r).2.1, .inl (cL, (re r).2.2.1, .inr (.inl ((re r).2.2.2)))), (q, .inr (1, [.int ((re r).1), .ref w1])), (w1, .inl (cL, (re r).2.2.1, .inr (.inl (va_cpy (re r).2.2.2 f1 0 0 (re r).2.2.1))))] := by rw [← hAe]; exact hD
          have hq8 : s.heap.size ≤ q := D_new hD9 rfl (j := 10) rfl (Nat.le_of_ble_eq_true rfl)
          have hw8 : s.heap.size ≤ w1 := D_new hD9 rfl (j := 11) rfl (Nat.le_of_ble_eq_true rfl)
          have hrs : ∀ r9, Live hk r9 → va_P D vwCl (reW cL re r9) H := by
            intro r9 l9
            by_cases e9 : r9 = r
            · subst e9; exact hP.sub [8, 9] rfl
            · exact h.keepR l9 (fun q hs hn => hS.2.1 q hs (by rw [hAe]; exact hn)) (h.nA10 lr l9 e9).1 (h.nA10 lr l9 e9).2
          have h2 := h.putNg (hP.sub [0, 1, 2, 3, 4, 5, 6, 7] rfl) (hP.sub [10, 11] rfl) hq8 hw8 (fun e => absurd (hD.1 10 11 _ _ rfl rfl e) (by decide)) hzr hrs
          refine lv_aload hx hb dX2_twin_83 (lv_at hl 0 rfl) ?_
          refine va_getN (D := D) (ci := 1) (v := .int ((re r).1)) (C := RX1) (T := TX1) (N := 2) hx hb hts iw_X2_twin_X1 hown hK hP 10 rfl rfl 0 (by decide) (hC.nest (a := RX2) (i := 62) (b := "SpliceRoom$Reel") (n := "kind") (d := "I") (hh := "SpliceRoom") (by decide +kernel)) (fun _ h9 => h9) rfl dX2_twin_85 ?_
          exact vx_ret (W.iret (v := (re r).1) hx hb hr (fun t ht hW => ⟨⟨_, (va_up hk j (some q), va_up re q ((re r).1, w1, (re r).2.2.1, va_cpy (re r).2.2.2 f1 0 0 (re r).2.2.1), kn, sh, k), rfl, ⟨j, i, r, hj, hi, rfl, rfl, eh, c_24, rfl, q, w1, _, fun r9 l9 => by have := ((h.2.2.2 r9 l9).1 0 _ rfl).lt; omega, cpy_00, rfl⟩, by dsimp only; rw [ht]; exact h2⟩, (S_mono hS hFA).F ht⟩) (fun z9 h9 => hFA _ (hS.2.2 z9 h9)) dX2_twin_88)
        · exact vx_throwS (cls := eS) (text := "no row to make a twin of") (names := exN) (sa := sa 67) (A := nA) hx hb hl0 hown (by decide +kernel) exN_fit (hts _ lk_X2_twin_Cond_classLink_RX2_65_eS) (hts _ lk_X2_twin_Cond_initialized_eS) (hC.text (by decide +kernel)) (vx_hat (fun w hw => hts w (xw_X2_twin_eS w hw)) exS_ng hC.all) (good2 exS_ot) (hC.ust nA_N) (hC.sup nA_N) hS (by rw [hml]; exact hl.1) dX2_twin_27 dX2_twin_30 dX2_twin_31 dX2_twin_33 dX2_twin_36 (fun x9 h9 => (hxt x9 h9).elim) (by decide) (Nat.le_of_ble_eq_true rfl) (Nat.le_of_ble_eq_true rfl) (Nat.le_of_ble_eq_true rfl) hlocks (fun t hvm hz9 hk9 => ⟨(), trivial, ⟨Or.inr ⟨rfl, j, i, hj, hi, rfl, rfl, Or.inr ⟨r, eh, c_24⟩⟩, h.xo hk9⟩, hz9, fun q hs _ => hk9 q hs⟩) (fun z9 h9 => (hS.2.2 z9 h9).elim) (Nat.le_of_ble_eq_true rfl) (Nat.le_of_ble_eq_true rfl)
/-- the sheet with one step more -/
def shUp (sh : Nat → Nat → Int32) (n : Nat) (a b c d e : Int32) : Nat → Nat → Int32 := fun t => match t with
  | 0 => upd (sh 0) n a
  | 1 => upd (sh 1) n b
  | 2 => upd (sh 2) n c
  | 3 => upd (sh 3) n d
  | _ => upd (sh 4) n e
theorem xw_X2_step_eS : ∀ w ∈ (vx_atS RX2 69 eS exN).filter goodWord, w ∈ wsX2_step := by decide +kernel
theorem iw_X2_step_X2 : ∀ w ∈ wsX20, w ∈ wsX2_step := by decide +kernel
theorem lk_X2_step_Cond_classLink_RX2_65_eS : Cond.classLink RX2 65 eS ∈ wsX2_step := by decide +kernel
theorem lk_X2_step_Cond_fieldLink_RX2_22_SpliceRoom_stepFrom_I_ : Cond.fieldLink RX2 22 "SpliceRoom" "stepFrom" "[I" ∈ wsX2_step := by decide +kernel
theorem lk_X2_step_Cond_fieldLink_RX2_26_SpliceRoom_stepP_I_ : Cond.fieldLink RX2 26 "SpliceRoom" "stepP" "[I" ∈ wsX2_step := by decide +kernel
theorem lk_X2_step_Cond_fieldLink_RX2_29_SpliceRoom_stepTo_I_ : Cond.fieldLink RX2 29 "SpliceRoom" "stepTo" "[I" ∈ wsX2_step := by decide +kernel
theorem lk_X2_step_Cond_fieldLink_RX2_32_SpliceRoom_stepQ_I_ : Cond.fieldLink RX2 32 "SpliceRoom" "stepQ" "[I" ∈ wsX2_step := by decide +kernel
theorem lk_X2_step_Cond_fieldLink_RX2_35_SpliceRoom_stepN_I_ : Cond.fieldLink RX2 35 "SpliceRoom" "stepN" "[I" ∈ wsX2_step := by decide +kernel
theorem lk_X2_step_Cond_fieldLink_RX2_38_SpliceRoom_steps_I_ : Cond.fieldLink RX2 38 "SpliceRoom" "steps" "I" ∈ wsX2_step := by decide +kernel
theorem lk_X2_step_Cond_initialized_eS : Cond.initialized eS ∈ wsX2_step := by decide +kernel
set_option maxHeartbeats 4000000 in
set_option maxRecDepth 100000 in
theorem c_X2_step (l : Launch) {D : va_G} {cI cL cQ : ClassId} {N0 : Nat} {sa : Nat → Nat} {Hc : Heap} (hl0 : l.stackTraces = false) {x ah ak b0 b1 b2 b3 b4 : Nat} {F : Nat → Prop} {hk : Nat → Option Nat} {re : Nat → RE} {kn : Nat → Int32} {sh : Nat → Nat → Int32} {k : Int32} (h : RSB D cI cL cQ x ah ak b0 b1 b2 b3 b4 F (hk, re, kn, sh, k) Hc) (hNF : ∀ q, F q ∨ Hc.size ≤ q → N0 ≤ q) {h0 p0 o0 q0 n0 : Int32} (hkn : ∃ n : Nat, n ≤ 24 ∧ k = nI n) : vx_Met l yX2_step wsX2_step ({ frames := 7, cells := 3, slots := 18, locals := 110 }) (Pq D cI cL cQ N0 sa [.ref x, .int h0, .int p0, .int o0, .int q0, .int n0] Hc) (va_Qi (fun (rr : Int32) (u : CS) => ∃ j1 i1 : Nat, j1 < 6 ∧ i1 < 6 ∧ h0 = nI j1 ∧ o0 = nI i1 ∧ k < 24 ∧ rr = k + 1 ∧ ∃ n1 : Nat, n1 ≤ 24 ∧ k = nI n1 ∧ u = (hk, re, kn, shUp sh n1 h0 p0 o0 q0 n0, k + 1)) (fun u t => RSB D cI cL cQ x ah ak b0 b1 b2 b3 b4 (fun q => F q ∨ Hc.size ≤ q) u t.heap) (fun q => F q ∨ Hc.size ≤ q)) (vx_X (fun (_ : Unit) => True) (fun E _ t => ((E = eA ∧ ¬ (okH h0 ∧ okH o0)) ∨ (E = eS ∧ okH h0 ∧ okH o0 ∧ ¬ k < 24)) ∧ RSB D cI cL cQ x ah ak b0 b1 b2 b3 b4 (fun q => F q ∨ Hc.size ≤ q) (hk, re, kn, sh, k) t.heap) (fun q => F q ∨ Hc.size ≤ q)) 3 18 (fun q => F q ∨ Hc.size ≤ q) := by
  refine vx_ofW (cc := cX2_step) (maxL := 6) (ret := (some .int)) (by decide) rfl ?_
  intro p e s m args below meth c s₁ B hml hxt hv
  obtain ⟨rfl, hH, hC⟩ := hv
  have hx := B.exec
  have hb := B.bytes
  have hr := B.returns
  have hts := atoms_spec (ws := wsX2_step) B.pre
  have hown : s.vm.findClass RX2 = some m.cls := findClass_of_methodNamed B.named
  have hlocks := B.notSynchronized
  subst hH
  have hK := hC.K
  have hl := lv_entry ([.ref x, .int h0, .int p0, .int o0, .int q0, .int n0]) (n := 6) (Nat.le_of_ble_eq_true rfl)
  rw [lg_entry_eq]
  generalize (lg_sl ([.ref x, .int h0, .int p0, .int o0, .int q0, .int n0]) ++ List.replicate (6 - (lg_sl ([.ref x, .int h0, .int p0, .int o0, .int q0, .int n0])).length) Slot.unset).toArray = ls at hl ⊢
  have hl : lv_has ls 6 [(0, .ref x), (1, .int h0), (2, .int p0), (3, .int o0), (4, .int q0), (5, .int n0)] := hl
  have hP : va_P D vwCl [(x, .inr (2, [.ref ah, .ref ak, .ref b0, .ref b1, .ref b2, .ref b3, .ref b4, .int k])), (ah, .inl (cQ, 6, .inr (.inr (.inr (.inr hk))))), (ak, .inr (0, [.int (kn 0), .int (kn 1), .int (kn 2), .int (kn 3), .int (kn 4), .int (kn 5), .int (kn 6)])), (b0, .inl (cI, 24, .inl (sh 0))), (b1, .inl (cI, 24, .inl (sh 1))), (b2, .inl (cI, 24, .inl (sh 2))), (b3, .inl (cI, 24, .inl (sh 3))), (b4, .inl (cI, 24, .inl (sh 4)))] s.heap := h.P8
  have hS : va_S nA s.heap s.heap [] := va_S.rf
  have hN : ∀ q, nA q → N0 ≤ q := nA_N
  obtain ⟨n, hn, rfl⟩ := hkn
  refine lv_iload_n hx hb dX2_step_0 rfl (lv_at hl 1 rfl) ?_
  refine rx_v (vx_runS (As := [.int h0]) (rest := []) ⟨hx, hb, hml, hown, hts⟩ (c_X2_requireHook l hl0 (h0 := h0)) (va_cwS 1 hts gX2_step_X2_requireHook rfl rfl rfl (by decide +kernel) ⟨Nat.le_of_ble_eq_true rfl, Nat.le_of_ble_eq_true rfl⟩) (Pq.S hC hS hN) rfl rfl hl.1 rfl (lv_room (Nat.le_of_ble_eq_true rfl)) dX2_step_1 ⟨Nat.le_of_ble_eq_true rfl, Nat.le_of_ble_eq_true rfl⟩) hS (fun ce q9 H9 locs hx9 hz9 hk9 hS hcell hv9 hcl => ?_) (fun locs hw hS => ?_)
  · have hx9 : ¬ okH h0 := hx9
    refine vx_widen (k := 3) (n := 18) (by omega) (by omega) ?_
    exact vx_out (fun x9 h9 => (hxt x9 h9).elim) hlocks hcell hv9 hcl (fun t ht hvm => ⟨(), trivial, ⟨Or.inl ⟨rfl, fun h9 => hx9 h9.1⟩, by rw [ht]; exact h.xo hk9⟩, by rw [ht]; exact hz9, fun q hs _ => by rw [ht]; exact hk9 q hs⟩) (fun z9 h9 => (hS.2.2 z9 h9).elim) (Nat.le_refl _) (Nat.le_refl _)
  · have hw : okH h0 := hw
    obtain ⟨j, hj, rfl⟩ := hw
    refine lv_iload_n hx hb dX2_step_4 rfl (lv_at hl 3 rfl) ?_
    refine rx_v (vx_runS (As := [.int o0]) (rest := []) ⟨hx, hb, hml, hown, hts⟩ (c_X2_requireHook l hl0 (h0 := o0)) (va_cwS 1 hts gX2_step_X2_requireHook rfl rfl rfl (by decide +kernel) ⟨Nat.le_of_ble_eq_true rfl, Nat.le_of_ble_eq_true rfl⟩) (Pq.S hC hS hN) rfl rfl hl.1 rfl (lv_room (Nat.le_of_ble_eq_true rfl)) dX2_step_5 ⟨Nat.le_of_ble_eq_true rfl, Nat.le_of_ble_eq_true rfl⟩) hS (fun ce q9 H9 locs hx9 hz9 hk9 hS hcell hv9 hcl => ?_) (fun locs hw hS => ?_)
    · have hx9 : ¬ okH o0 := hx9
      refine vx_widen (k := 3) (n := 18) (by omega) (by omega) ?_
      exact vx_out (fun x9 h9 => (hxt x9 h9).elim) hlocks hcell hv9 hcl (fun t ht hvm => ⟨(), trivial, ⟨Or.inl ⟨rfl, fun h9 => hx9 h9.2⟩, by rw [ht]; exact h.xo hk9⟩, by rw [ht]; exact hz9, fun q hs _ => by rw [ht]; exact hk9 q hs⟩) (fun z9 h9 => (hS.2.2 z9 h9).elim) (Nat.le_refl _) (Nat.le_refl _)
    · have hw : okH o0 := hw
      obtain ⟨i, hi, rfl⟩ := hw
      refine lv_aload_n hx hb dX2_step_8 rfl (lv_at hl 0 rfl) ?_
      refine va_get (D := D) (ci := 2) (v := .int (nI n)) (C := RX2) (T := TX2) (N := 8) hx hb hts iw_X2_step_X2 hown hK hP 0 rfl rfl 7 (by decide) (hts _ lk_X2_step_Cond_fieldLink_RX2_38_SpliceRoom_steps_I_) (fun _ h9 => h9) rfl dX2_step_9 ?_
      refine lv_bipush (v := 24) hx hb dX2_step_12 (by decide) ?_
      refine lv_icmp_lt (tgt := 27) hx hb dX2_step_14 (by decide) (fun c_14 => ?_) (fun c_14 => ?_)
      · have hlt : n < 24 := (nI_ltI (by omega) (by decide)).mp c_14
        obtain ⟨A, hAe⟩ : ∃ A : Nat → Prop, A = va_A [(x, .inr (2, [.ref ah, .ref ak, .ref b0, .ref b1, .ref b2, .ref b3, .ref b4, .int (nI n)])), (ah, .inl (cQ, 6, .inr (.inr (.inr (.inr hk))))), (ak, .inr (0, [.int (kn 0), .int (kn 1), .int (kn 2), .int (kn 3), .int (kn 4), .int (kn 5), .int (kn 6)])), (b0, .inl (cI, 24, .inl (sh 0))), (b1, .inl (cI, 24, .inl (sh 1))), (b2, .inl (cI, 24, .inl (sh 2))), (b3, .inl (cI, 24, .inl (sh 3))), (b4, .inl (cI, 24, .inl (sh 4)))] s.heap.size := ⟨_, rfl⟩
        have hP : va_P D vwCl [(x, .inr (2, [.ref ah, .ref ak, .ref b0, .ref b1, .ref b2, .ref b3, .ref b4, .int (nI n)])), (ah, .inl (cQ, 6, .inr (.inr (.inr (.inr hk))))), (ak, .inr (0, [.int (kn 0), .int (kn 1), .int (kn 2), .int (kn 3), .int (kn 4), .int (kn 5), .int (kn 6)])), (b0, .inl (cI, 24, .inl (sh 0))), (b1, .inl (cI, 24, .inl (sh 1))), (b2, .inl (cI, 24, .inl (sh 2))), (b3, .inl (cI, 24, .inl (sh 3))), (b4, .inl (cI, 24, .inl (sh 4)))] s.heap := h.P8
        have hD : va_D A [(x, .inr (2, [.ref ah, .ref ak, .ref b0, .ref b1, .ref b2, .ref b3, .ref b4, .int (nI n)])), (ah, .inl (cQ, 6, .inr (.inr (.inr (.inr hk))))), (ak, .inr (0, [.int (kn 0), .int (kn 1), .int (kn 2), .int (kn 3), .int (kn 4), .int (kn 5), .int (kn 6)])), (b0, .inl (cI, 24, .inl (sh 0))), (b1, .inl (cI, 24, .inl (sh 1))), (b2, .inl (cI, 24, .inl (sh 2))), (b3, .inl (cI, 24, .inl (sh 3))), (b4, .inl (cI, 24, .inl (sh 4)))] := by rw [hAe]; exact (h.D8).self
        have hA : ∀ q, s.heap.size ≤ q → A q := fun q z => by rw [hAe]; exact Or.inr z
        have hFA : ∀ q, A q → F q ∨ s.heap.size ≤ q := fun q z => h.in8 (hAe ▸ z)
        have hN : ∀ q, A q → N0 ≤ q := fun q z => hNF q (hFA q z)
        have hS : va_S A s.heap s.heap locs := S_mono hS (fun _ z => z.elim)
        refine lv_aload_n hx hb dX2_step_27 rfl (lv_at hl 0 rfl) ?_
        refine va_get (D := D) (ci := 2) (v := .ref b0) (C := RX2) (T := TX2) (N := 8) hx hb hts iw_X2_step_X2 hown hK hP 0 rfl rfl 2 (by decide) (hts _ lk_X2_step_Cond_fieldLink_RX2_22_SpliceRoom_stepFrom_I_) (fun _ h9 => h9) rfl dX2_step_28 ?_
        refine lv_aload_n hx hb dX2_step_31 rfl (lv_at hl 0 rfl) ?_
        refine va_get (D := D) (ci := 2) (v := .int (nI n)) (C := RX2) (T := TX2) (N := 8) hx hb hts iw_X2_step_X2 hown hK hP 0 rfl rfl 7 (by decide) (hts _ lk_X2_step_Cond_fieldLink_RX2_38_SpliceRoom_steps_I_) (fun _ h9 => h9) rfl dX2_step_32 ?_
        refine lv_iload_n hx hb dX2_step_35 rfl (lv_at hl 1 rfl) ?_
        refine va_iast (D := D) hx hb hK hP hD hS 3 0 rfl rfl (vp_in_nI hlt (by decide)) dX2_step_36 (fun H locs hP hD hS => ?_)
        have hP : va_P D vwCl [(x, .inr (2, [.ref ah, .ref ak, .ref b0, .ref b1, .ref b2, .ref b3, .ref b4, .int (nI n)])), (ah, .inl (cQ, 6, .inr (.inr (.inr (.inr hk))))), (ak, .inr (0, [.int (kn 0), .int (kn 1), .int (kn 2), .int (kn 3), .int (kn 4), .int (kn 5), .int (kn 6)])), (b0, .inl (cI, 24, .inl (upd (sh 0) ((nI n).toNatClampNeg) (nI j)))), (b1, .inl (cI, 24, .inl (sh 1))), (b2, .inl (cI, 24, .inl (sh 2))), (b3, .inl (cI, 24, .inl (sh 3))), (b4, .inl (cI, 24, .inl (sh 4)))] H := hP
        have hD : va_D A [(x, .inr (2, [.ref ah, .ref ak, .ref b0, .ref b1, .ref b2, .ref b3, .ref b4, .int (nI n)])), (ah, .inl (cQ, 6, .inr (.inr (.inr (.inr hk))))), (ak, .inr (0, [.int (kn 0), .int (kn 1), .int (kn 2), .int (kn 3), .int (kn 4), .int (kn 5), .int (kn 6)])), (b0, .inl (cI, 24, .inl (upd (sh 0) ((nI n).toNatClampNeg) (nI j)))), (b1, .inl (cI, 24, .inl (sh 1))), (b2, .inl (cI, 24, .inl (sh 2))), (b3, .inl (cI, 24, .inl (sh 3))), (b4, .inl (cI, 24, .inl (sh 4)))] := hD
        rw [nI_clamp (show n < 2 ^ 31 by omega)] at hP hD
        refine lv_aload_n hx hb dX2_step_37 rfl (lv_at hl 0 rfl) ?_
        refine va_get (D := D) (ci := 2) (v := .ref b1) (C := RX2) (T := TX2) (N := 8) hx hb hts iw_X2_step_X2 hown hK hP 0 rfl rfl 3 (by decide) (hts _ lk_X2_step_Cond_fieldLink_RX2_26_SpliceRoom_stepP_I_) (fun _ h9 => h9) rfl dX2_step_38 ?_
        refine lv_aload_n hx hb dX2_step_41 rfl (lv_at hl 0 rfl) ?_
        refine va_get (D := D) (ci := 2) (v := .int (nI n)) (C := RX2) (T := TX2) (N := 8) hx hb hts iw_X2_step_X2 hown hK hP 0 rfl rfl 7 (by decide) (hts _ lk_X2_step_Cond_fieldLink_RX2_38_SpliceRoom_steps_I_) (fun _ h9 => h9) rfl dX2_step_42 ?_
        refine lv_iload_n hx hb dX2_step_45 rfl (lv_at hl 2 rfl) ?_
        refine va_iast (D := D) hx hb hK hP hD hS 4 0 rfl rfl (vp_in_nI hlt (by decide)) dX2_step_46 (fun H locs hP hD hS => ?_)
        have hP : va_P D vwCl [(x, .inr (2, [.ref ah, .ref ak, .ref b0, .ref b1, .ref b2, .ref b3, .ref b4, .int (nI n)])), (ah, .inl (cQ, 6, .inr (.inr (.inr (.inr hk))))), (ak, .inr (0, [.int (kn 0), .int (kn 1), .int (kn 2), .int (kn 3), .int (kn 4), .int (kn 5), .int (kn 6)])), (b0, .inl (cI, 24, .inl (upd (sh 0) n (nI j)))), (b1, .inl (cI, 24, .inl (upd (sh 1) ((nI n).toNatClampNeg) p0))), (b2, .inl (cI, 24, .inl (sh 2))), (b3, .inl (cI, 24, .inl (sh 3))), (b4, .inl (cI, 24, .inl (sh 4)))] H := hP
        have hD : va_D A [(x, .inr (2, [.ref ah, .ref ak, .ref b0, .ref b1, .ref b2, .ref b3, .ref b4, .int (nI n)])), (ah, .inl (cQ, 6, .inr (.inr (.inr (.inr hk))))), (ak, .inr (0, [.int (kn 0), .int (kn 1), .int (kn 2), .int (kn 3), .int (kn 4), .int (kn 5), .int (kn 6)])), (b0, .inl (cI, 24, .inl (upd (sh 0) n (nI j)))), (b1, .inl (cI, 24, .inl (upd (sh 1) ((nI n).toNatClampNeg) p0))), (b2, .inl (cI, 24, .inl (sh 2))), (b3, .inl (cI, 24, .inl (sh 3))), (b4, .inl (cI, 24, .inl (sh 4)))] := hD
        rw [nI_clamp (show n < 2 ^ 31 by omega)] at hP hD
        refine lv_aload_n hx hb dX2_step_47 rfl (lv_at hl 0 rfl) ?_
        refine va_get (D := D) (ci := 2) (v := .ref b2) (C := RX2) (T := TX2) (N := 8) hx hb hts iw_X2_step_X2 hown hK hP 0 rfl rfl 4 (by decide) (hts _ lk_X2_step_Cond_fieldLink_RX2_29_SpliceRoom_stepTo_I_) (fun _ h9 => h9) rfl dX2_step_48 ?_
        refine lv_aload_n hx hb dX2_step_51 rfl (lv_at hl 0 rfl) ?_
        refine va_get (D := D) (ci := 2) (v := .int (nI n)) (C := RX2) (T := TX2) (N := 8) hx hb hts iw_X2_step_X2 hown hK hP 0 rfl rfl 7 (by decide) (hts _ lk_X2_step_Cond_fieldLink_RX2_38_SpliceRoom_steps_I_) (fun _ h9 => h9) rfl dX2_step_52 ?_
        refine lv_iload_n hx hb dX2_step_55 rfl (lv_at hl 3 rfl) ?_
        refine va_iast (D := D) hx hb hK hP hD hS 5 0 rfl rfl (vp_in_nI hlt (by decide)) dX2_step_56 (fun H locs hP hD hS => ?_)
        have hP : va_P D vwCl [(x, .inr (2, [.ref ah, .ref ak, .ref b0, .ref b1, .ref b2, .ref b3, .ref b4, .int (nI n)])), (ah, .inl (cQ, 6, .inr (.inr (.inr (.inr hk))))), (ak, .inr (0, [.int (kn 0), .int (kn 1), .int (kn 2), .int (kn 3), .int (kn 4), .int (kn 5), .int (kn 6)])), (b0, .inl (cI, 24, .inl (upd (sh 0) n (nI j)))), (b1, .inl (cI, 24, .inl (upd (sh 1) n p0))), (b2, .inl (cI, 24, .inl (upd (sh 2) ((nI n).toNatClampNeg) (nI i)))), (b3, .inl (cI, 24, .inl (sh 3))), (b4, .inl (cI, 24, .inl (sh 4)))] H := hP
        have hD : va_D A [(x, .inr (2, [.ref ah, .ref ak, .ref b0, .ref b1, .ref b2, .ref b3, .ref b4, .int (nI n)])), (ah, .inl (cQ, 6, .inr (.inr (.inr (.inr hk))))), (ak, .inr (0, [.int (kn 0), .int (kn 1), .int (kn 2), .int (kn 3), .int (kn 4), .int (kn 5), .int (kn 6)])), (b0, .inl (cI, 24, .inl (upd (sh 0) n (nI j)))), (b1, .inl (cI, 24, .inl (upd (sh 1) n p0))), (b2, .inl (cI, 24, .inl (upd (sh 2) ((nI n).toNatClampNeg) (nI i)))), (b3, .inl (cI, 24, .inl (sh 3))), (b4, .inl (cI, 24, .inl (sh 4)))] := hD
        rw [nI_clamp (show n < 2 ^ 31 by omega)] at hP hD
        refine lv_aload_n hx hb dX2_step_57 rfl (lv_at hl 0 rfl) ?_
        refine va_get (D := D) (ci := 2) (v := .ref b3) (C := RX2) (T := TX2) (N := 8) hx hb hts iw_X2_step_X2 hown hK hP 0 rfl rfl 5 (by decide) (hts _ lk_X2_step_Cond_fieldLink_RX2_32_SpliceRoom_stepQ_I_) (fun _ h9 => h9) rfl dX2_step_58 ?_
        refine lv_aload_n hx hb dX2_step_61 rfl (lv_at hl 0 rfl) ?_
        refine va_get (D := D) (ci := 2) (v := .int (nI n)) (C := RX2) (T := TX2) (N := 8) hx hb hts iw_X2_step_X2 hown hK hP 0 rfl rfl 7 (by decide) (hts _ lk_X2_step_Cond_fieldLink_RX2_38_SpliceRoom_steps_I_) (fun _ h9 => h9) rfl dX2_step_62 ?_
        refine lv_iload hx hb dX2_step_65 (lv_at hl 4 rfl) ?_
        refine va_iast (D := D) hx hb hK hP hD hS 6 0 rfl rfl (vp_in_nI hlt (by decide)) dX2_step_67 (fun H locs hP hD hS => ?_)
        have hP : va_P D vwCl [(x, .inr (2, [.ref ah, .ref ak, .ref b0, .ref b1, .ref b2, .ref b3, .ref b4, .int (nI n)])), (ah, .inl (cQ, 6, .inr (.inr (.inr (.inr hk))))), (ak, .inr (0, [.int (kn 0), .int (kn 1), .int (kn 2), .int (kn 3), .int (kn 4), .int (kn 5), .int (kn 6)])), (b0, .inl (cI, 24, .inl (upd (sh 0) n (nI j)))), (b1, .inl (cI, 24, .inl (upd (sh 1) n p0))), (b2, .inl (cI, 24, .inl (upd (sh 2) n (nI i)))), (b3, .inl (cI, 24, .inl (upd (sh 3) ((nI n).toNatClampNeg) q0))), (b4, .inl (cI, 24, .inl (sh 4)))] H := hP
        have hD : va_D A [(x, .inr (2, [.ref ah, .ref ak, .ref b0, .ref b1, .ref b2, .ref b3, .ref b4, .int (nI n)])), (ah, .inl (cQ, 6, .inr (.inr (.inr (.inr hk))))), (ak, .inr (0, [.int (kn 0), .int (kn 1), .int (kn 2), .int (kn 3), .int (kn 4), .int (kn 5), .int (kn 6)])), (b0, .inl (cI, 24, .inl (upd (sh 0) n (nI j)))), (b1, .inl (cI, 24, .inl (upd (sh 1) n p0))), (b2, .inl (cI, 24, .inl (upd (sh 2) n (nI i)))), (b3, .inl (cI, 24, .inl (upd (sh 3) ((nI n).toNatClampNeg) q0))), (b4, .inl (cI, 24, .inl (sh 4)))] := hD
        rw [nI_clamp (show n < 2 ^ 31 by omega)] at hP hD
        refine lv_aload_n hx hb dX2_step_68 rfl (lv_at hl 0 rfl) ?_
        refine va_get (D := D) (ci := 2) (v := .ref b4) (C := RX2) (T := TX2) (N := 8) hx hb hts iw_X2_step_X2 hown hK hP 0 rfl rfl 6 (by decide) (hts _ lk_X2_step_Cond_fieldLink_RX2_35_SpliceRoom_stepN_I_) (fun _ h9 => h9) rfl dX2_step_69 ?_
        refine lv_aload_n hx hb dX2_step_72 rfl (lv_at hl 0 rfl) ?_
        refine va_get (D := D) (ci := 2) (v := .int (nI n)) (C := RX2) (T := TX2) (N := 8) hx hb hts iw_X2_step_X2 hown hK hP 0 rfl rfl 7 (by decide) (hts _ lk_X2_step_Cond_fieldLink_RX2_38_SpliceRoom_steps_I_) (fun _ h9 => h9) rfl dX2_step_73 ?_
        refine lv_iload hx hb dX2_step_76 (lv_at hl 5 rfl) ?_
        refine va_iast (D := D) hx hb hK hP hD hS 7 0 rfl rfl (vp_in_nI hlt (by decide)) dX2_step_78 (fun H locs hP hD hS => ?_)
        have hP : va_P D vwCl [(x, .inr (2, [.ref ah, .ref ak, .ref b0, .ref b1, .ref b2, .ref b3, .ref b4, .int (nI n)])), (ah, .inl (cQ, 6, .inr (.inr (.inr (.inr hk))))), (ak, .inr (0, [.int (kn 0), .int (kn 1), .int (kn 2), .int (kn 3), .int (kn 4), .int (kn 5), .int (kn 6)])), (b0, .inl (cI, 24, .inl (upd (sh 0) n (nI j)))), (b1, .inl (cI, 24, .inl (upd (sh 1) n p0))), (b2, .inl (cI, 24, .inl (upd (sh 2) n (nI i)))), (b3, .inl (cI, 24, .inl (upd (sh 3) n q0))), (b4, .inl (cI, 24, .inl (upd (sh 4) ((nI n).toNatClampNeg) n0)))] H := hP
        have hD : va_D A [(x, .inr (2, [.ref ah, .ref ak, .ref b0, .ref b1, .ref b2, .ref b3, .ref b4, .int (nI n)])), (ah, .inl (cQ, 6, .inr (.inr (.inr (.inr hk))))), (ak, .inr (0, [.int (kn 0), .int (kn 1), .int (kn 2), .int (kn 3), .int (kn 4), .int (kn 5), .int (kn 6)])), (b0, .inl (cI, 24, .inl (upd (sh 0) n (nI j)))), (b1, .inl (cI, 24, .inl (upd (sh 1) n p0))), (b2, .inl (cI, 24, .inl (upd (sh 2) n (nI i)))), (b3, .inl (cI, 24, .inl (upd (sh 3) n q0))), (b4, .inl (cI, 24, .inl (upd (sh 4) ((nI n).toNatClampNeg) n0)))] := hD
        rw [nI_clamp (show n < 2 ^ 31 by omega)] at hP hD
        refine lv_aload_n hx hb dX2_step_79 rfl (lv_at hl 0 rfl) ?_
        refine lv_dup hx hb dX2_step_80 rfl ?_
        refine va_get (D := D) (ci := 2) (v := .int (nI n)) (C := RX2) (T := TX2) (N := 8) hx hb hts iw_X2_step_X2 hown hK hP 0 rfl rfl 7 (by decide) (hts _ lk_X2_step_Cond_fieldLink_RX2_38_SpliceRoom_steps_I_) (fun _ h9 => h9) rfl dX2_step_81 ?_
        refine lv_iconst (v := 1) hx hb dX2_step_84 (by decide) ?_
        refine lv_iadd hx hb dX2_step_85 ?_
        refine va_put (D := D) (ci := 2) (v := .int ((nI n) + 1)) (ty := .int) (C := RX2) (T := TX2) (N := 8) hx hb hts iw_X2_step_X2 tyX2 tyX2_ok nmX2 hown hK hP hD hS 0 rfl rfl 7 (by decide) (hts _ lk_X2_step_Cond_fieldLink_RX2_38_SpliceRoom_steps_I_) (fun _ h9 => h9) rfl (by decide +kernel) rfl rfl (Nat.le_of_ble_eq_true rfl) dX2_step_86 (fun H locs hP hD hS => ?_)
        have hP : va_P D vwCl [(x, .inr (2, [.ref ah, .ref ak, .ref b0, .ref b1, .ref b2, .ref b3, .ref b4, .int ((nI n) + 1)])), (ah, .inl (cQ, 6, .inr (.inr (.inr (.inr hk))))), (ak, .inr (0, [.int (kn 0), .int (kn 1), .int (kn 2), .int (kn 3), .int (kn 4), .int (kn 5), .int (kn 6)])), (b0, .inl (cI, 24, .inl (upd (sh 0) n (nI j)))), (b1, .inl (cI, 24, .inl (upd (sh 1) n p0))), (b2, .inl (cI, 24, .inl (upd (sh 2) n (nI i)))), (b3, .inl (cI, 24, .inl (upd (sh 3) n q0))), (b4, .inl (cI, 24, .inl (upd (sh 4) n n0)))] H := hP
        have hD : va_D A [(x, .inr (2, [.ref ah, .ref ak, .ref b0, .ref b1, .ref b2, .ref b3, .ref b4, .int ((nI n) + 1)])), (ah, .inl (cQ, 6, .inr (.inr (.inr (.inr hk))))), (ak, .inr (0, [.int (kn 0), .int (kn 1), .int (kn 2), .int (kn 3), .int (kn 4), .int (kn 5), .int (kn 6)])), (b0, .inl (cI, 24, .inl (upd (sh 0) n (nI j)))), (b1, .inl (cI, 24, .inl (upd (sh 1) n p0))), (b2, .inl (cI, 24, .inl (upd (sh 2) n (nI i)))), (b3, .inl (cI, 24, .inl (upd (sh 3) n q0))), (b4, .inl (cI, 24, .inl (upd (sh 4) n n0)))] := hD
        refine lv_aload_n hx hb dX2_step_89 rfl (lv_at hl 0 rfl) ?_
        refine va_get (D := D) (ci := 2) (v := .int ((nI n) + 1)) (C := RX2) (T := TX2) (N := 8) hx hb hts iw_X2_step_X2 hown hK hP 0 rfl rfl 7 (by decide) (hts _ lk_X2_step_Cond_fieldLink_RX2_38_SpliceRoom_steps_I_) (fun _ h9 => h9) rfl dX2_step_90 ?_
        refine W.widen (k := 3) (n := 18) (by omega) (by omega) ?_
        exact vx_ret (W.iret (v := (nI n) + 1) hx hb hr (fun t ht hW => ⟨⟨_, (hk, re, kn, shUp sh n (nI j) p0 (nI i) q0 n0, nI n + 1), rfl, ⟨j, i, hj, hi, rfl, rfl, c_14, rfl, n, hn, rfl, rfl⟩, by dsimp only; rw [ht]; exact h.end8 (sh' := shUp sh n (nI j) p0 (nI i) q0 n0) (k' := nI n + 1) hP (fun _ z => z) (fun q hs hn => hS.2.1 q hs (by rw [hAe]; exact hn))⟩, (S_mono hS hFA).F ht⟩) (fun z9 h9 => hFA _ (hS.2.2 z9 h9)) dX2_step_93)
      · exact vx_throwS (cls := eS) (text := "the sheet is full") (names := exN) (sa := sa 110) (A := nA) hx hb hl0 hown (by decide +kernel) exN_fit (hts _ lk_X2_step_Cond_classLink_RX2_65_eS) (hts _ lk_X2_step_Cond_initialized_eS) (hC.text (by decide +kernel)) (vx_hat (fun w hw => hts w (xw_X2_step_eS w hw)) exS_ng hC.all) (good2 exS_ot) (hC.ust nA_N) (hC.sup nA_N) hS (by rw [hml]; exact hl.1) dX2_step_17 dX2_step_20 dX2_step_21 dX2_step_23 dX2_step_26 (fun x9 h9 => (hxt x9 h9).elim) (by decide) (Nat.le_of_ble_eq_true rfl) (Nat.le_of_ble_eq_true rfl) (Nat.le_of_ble_eq_true rfl) hlocks (fun t hvm hz9 hk9 => ⟨(), trivial, ⟨Or.inr ⟨rfl, ⟨j, hj, rfl⟩, ⟨i, hi, rfl⟩, c_14⟩, h.xo hk9⟩, hz9, fun q hs _ => hk9 q hs⟩) (fun z9 h9 => (hS.2.2 z9 h9).elim) (Nat.le_of_ble_eq_true rfl) (Nat.le_of_ble_eq_true rfl)
theorem iw_X2_splice_X2 : ∀ w ∈ wsX20, w ∈ wsX2_splice := by decide +kernel
theorem lk_X2_splice_Cond_fieldLink_RX2_11_SpliceRoom_hooks_LSpliceRoom_Reel_ : Cond.fieldLink RX2 11 "SpliceRoom" "hooks" "[LSpliceRoom$Reel;" ∈ wsX2_splice := by decide +kernel
theorem lk_X2_splice_Cond_fieldLink_RX2_18_SpliceRoom_knife_LSpliceRoom_Knife_ : Cond.fieldLink RX2 18 "SpliceRoom" "knife" "LSpliceRoom$Knife;" ∈ wsX2_splice := by decide +kernel
set_option maxHeartbeats 4000000 in
set_option maxRecDepth 100000 in
theorem c_X2_splice (l : Launch) {D : va_G} {cI cL cQ : ClassId} {N0 : Nat} {sa : Nat → Nat} {Hc : Heap} (hl0 : l.stackTraces = false) {x ah ak b0 b1 b2 b3 b4 : Nat} {F : Nat → Prop} {hk : Nat → Option Nat} {re : Nat → RE} {kn : Nat → Int32} {sh : Nat → Nat → Int32} {k : Int32} (h : RSB D cI cL cQ x ah ak b0 b1 b2 b3 b4 F (hk, re, kn, sh, k) Hc) (hNF : ∀ q, F q ∨ Hc.size ≤ q → N0 ≤ q) {h0 p0 o0 q0 n0 : Int32} : vx_Met l yX2_splice wsX2_splice ({ frames := 7, cells := 3, slots := 18, locals := 125 }) (Pq D cI cL cQ N0 sa [.ref x, .int h0, .int p0, .int o0, .int q0, .int n0] Hc) (va_Qi (fun (rr : Int32) (u : CS) => ∃ j1 i1 : Nat, j1 < 6 ∧ i1 < 6 ∧ h0 = nI j1 ∧ o0 = nI i1 ∧ ¬ 3 ≤ kn 3 ∧ ∃ k1 : Nat, CutRel re (hk j1) (hk i1) p0 q0 n0 k1 rr ∧ u = (hk, cutRe re (hk j1) (hk i1) p0 q0 k1, knUp kn k1 rr, sh, k)) (fun u t => RSB D cI cL cQ x ah ak b0 b1 b2 b3 b4 (fun q => F q ∨ Hc.size ≤ q) u t.heap) (fun q => F q ∨ Hc.size ≤ q)) (vx_X (fun (_ : Unit) => True) (fun E _ t => ((E = eA ∧ ¬ (okH h0 ∧ okH o0)) ∨ (E = eS ∧ okH h0 ∧ okH o0 ∧ 3 ≤ kn 3)) ∧ RSB D cI cL cQ x ah ak b0 b1 b2 b3 b4 (fun q => F q ∨ Hc.size ≤ q) (hk, re, kn, sh, k) t.heap) (fun q => F q ∨ Hc.size ≤ q)) 3 18 (fun q => F q ∨ Hc.size ≤ q) := by
  refine vx_ofW (cc := cX2_splice) (maxL := 6) (ret := (some .int)) (by decide) rfl ?_
  intro p e s m args below meth c s₁ B hml hxt hv
  obtain ⟨rfl, hH, hC⟩ := hv
  have hx := B.exec
  have hb := B.bytes
  have hr := B.returns
  have hts := atoms_spec (ws := wsX2_splice) B.pre
  have hown : s.vm.findClass RX2 = some m.cls := findClass_of_methodNamed B.named
  have hlocks := B.notSynchronized
  subst hH
  have hK := hC.K
  have hl := lv_entry ([.ref x, .int h0, .int p0, .int o0, .int q0, .int n0]) (n := 6) (Nat.le_of_ble_eq_true rfl)
  rw [lg_entry_eq]
  generalize (lg_sl ([.ref x, .int h0, .int p0, .int o0, .int q0, .int n0]) ++ List.replicate (6 - (lg_sl ([.ref x, .int h0, .int p0, .int o0, .int q0, .int n0])).length) Slot.unset).toArray = ls at hl ⊢
  have hl : lv_has ls 6 [(0, .ref x), (1, .int h0), (2, .int p0), (3, .int o0), (4, .int q0), (5, .int n0)] := hl
  have hP : va_P D vwCl [(x, .inr (2, [.ref ah, .ref ak, .ref b0, .ref b1, .ref b2, .ref b3, .ref b4, .int k])), (ah, .inl (cQ, 6, .inr (.inr (.inr (.inr hk))))), (ak, .inr (0, [.int (kn 0), .int (kn 1), .int (kn 2), .int (kn 3), .int (kn 4), .int (kn 5), .int (kn 6)])), (b0, .inl (cI, 24, .inl (sh 0))), (b1, .inl (cI, 24, .inl (sh 1))), (b2, .inl (cI, 24, .inl (sh 2))), (b3, .inl (cI, 24, .inl (sh 3))), (b4, .inl (cI, 24, .inl (sh 4)))] s.heap := h.P8
  have hS : va_S nA s.heap s.heap [] := va_S.rf
  have hN : ∀ q, nA q → N0 ≤ q := nA_N
  refine lv_iload_n hx hb dX2_splice_0 rfl (lv_at hl 1 rfl) ?_
  refine rx_v (vx_runS (As := [.int h0]) (rest := []) ⟨hx, hb, hml, hown, hts⟩ (c_X2_requireHook l hl0 (h0 := h0)) (va_cwS 1 hts gX2_splice_X2_requireHook rfl rfl rfl (by decide +kernel) ⟨Nat.le_of_ble_eq_true rfl, Nat.le_of_ble_eq_true rfl⟩) (Pq.S hC hS hN) rfl rfl hl.1 rfl (lv_room (Nat.le_of_ble_eq_true rfl)) dX2_splice_1 ⟨Nat.le_of_ble_eq_true rfl, Nat.le_of_ble_eq_true rfl⟩) hS (fun ce q9 H9 locs hx9 hz9 hk9 hS hcell hv9 hcl => ?_) (fun locs hw hS => ?_)
  · have hx9 : ¬ okH h0 := hx9
    refine vx_widen (k := 3) (n := 18) (by omega) (by omega) ?_
    exact vx_out (fun x9 h9 => (hxt x9 h9).elim) hlocks hcell hv9 hcl (fun t ht hvm => ⟨(), trivial, ⟨Or.inl ⟨rfl, fun h9 => hx9 h9.1⟩, by rw [ht]; exact h.xo hk9⟩, by rw [ht]; exact hz9, fun q hs _ => by rw [ht]; exact hk9 q hs⟩) (fun z9 h9 => (hS.2.2 z9 h9).elim) (Nat.le_refl _) (Nat.le_refl _)
  · have hw : okH h0 := hw
    obtain ⟨j, hj, rfl⟩ := hw
    refine lv_iload_n hx hb dX2_splice_4 rfl (lv_at hl 3 rfl) ?_
    refine rx_v (vx_runS (As := [.int o0]) (rest := []) ⟨hx, hb, hml, hown, hts⟩ (c_X2_requireHook l hl0 (h0 := o0)) (va_cwS 1 hts gX2_splice_X2_requireHook rfl rfl rfl (by decide +kernel) ⟨Nat.le_of_ble_eq_true rfl, Nat.le_of_ble_eq_true rfl⟩) (Pq.S hC hS hN) rfl rfl hl.1 rfl (lv_room (Nat.le_of_ble_eq_true rfl)) dX2_splice_5 ⟨Nat.le_of_ble_eq_true rfl, Nat.le_of_ble_eq_true rfl⟩) hS (fun ce q9 H9 locs hx9 hz9 hk9 hS hcell hv9 hcl => ?_) (fun locs hw hS => ?_)
    · have hx9 : ¬ okH o0 := hx9
      refine vx_widen (k := 3) (n := 18) (by omega) (by omega) ?_
      exact vx_out (fun x9 h9 => (hxt x9 h9).elim) hlocks hcell hv9 hcl (fun t ht hvm => ⟨(), trivial, ⟨Or.inl ⟨rfl, fun h9 => hx9 h9.2⟩, by rw [ht]; exact h.xo hk9⟩, by rw [ht]; exact hz9, fun q hs _ => by rw [ht]; exact hk9 q hs⟩) (fun z9 h9 => (hS.2.2 z9 h9).elim) (Nat.le_refl _) (Nat.le_refl _)
    · have hw : okH o0 := hw
      obtain ⟨i, hi, rfl⟩ := hw
      refine lv_aload_n hx hb dX2_splice_8 rfl (lv_at hl 0 rfl) ?_
      refine rx_v (vx_runV (As := []) (rest := []) ⟨hx, hb, hml, hown, hts⟩ (c_X2_requireSharpKnife l hl0 (hP.sub [0, 2] rfl)) (cwV 0 hts gX2_splice_X2_requireSharpKnife rfl rfl rfl (by decide +kernel) ⟨Nat.le_of_ble_eq_true rfl, Nat.le_of_ble_eq_true rfl⟩) (Pq.V hC hS hN (va_recv hK hP (ci := 2) (q0 := 0) rfl rfl)) rfl rfl hl.1 rfl (lv_room (Nat.le_of_ble_eq_true rfl)) dX2_splice_9 ⟨Nat.le_of_ble_eq_true rfl, Nat.le_of_ble_eq_true rfl⟩) hS (fun ce q9 H9 locs hx9 hz9 hk9 hS hcell hv9 hcl => ?_) (fun locs hw hS => ?_)
      · have hx9 : 3 ≤ (kn 3) := hx9
        refine vx_widen (k := 3) (n := 18) (by omega) (by omega) ?_
        exact vx_out (fun x9 h9 => (hxt x9 h9).elim) hlocks hcell hv9 hcl (fun t ht hvm => ⟨(), trivial, ⟨Or.inr ⟨rfl, ⟨j, hj, rfl⟩, ⟨i, hi, rfl⟩, hx9⟩, by rw [ht]; exact h.xo hk9⟩, by rw [ht]; exact hz9, fun q hs _ => by rw [ht]; exact hk9 q hs⟩) (fun z9 h9 => (hS.2.2 z9 h9).elim) (Nat.le_refl _) (Nat.le_refl _)
      · have hw : ¬ 3 ≤ (kn 3) := hw
        have hblunt := hw
        refine lv_aload_n hx hb dX2_splice_12 rfl (lv_at hl 0 rfl) ?_
        refine va_get (D := D) (ci := 2) (v := .ref ak) (C := RX2) (T := TX2) (N := 8) hx hb hts iw_X2_splice_X2 hown hK hP 0 rfl rfl 1 (by decide) (hts _ lk_X2_splice_Cond_fieldLink_RX2_18_SpliceRoom_knife_LSpliceRoom_Knife_) (fun _ h9 => h9) rfl dX2_splice_13 ?_
        refine lv_aload_n hx hb dX2_splice_16 rfl (lv_at hl 0 rfl) ?_
        refine va_get (D := D) (ci := 2) (v := .ref ah) (C := RX2) (T := TX2) (N := 8) hx hb hts iw_X2_splice_X2 hown hK hP 0 rfl rfl 0 (by decide) (hts _ lk_X2_splice_Cond_fieldLink_RX2_11_SpliceRoom_hooks_LSpliceRoom_Reel_) (fun _ h9 => h9) rfl dX2_splice_17 ?_
        refine lv_iload_n hx hb dX2_splice_20 rfl (lv_at hl 1 rfl) ?_
        refine va_aldq (D := D) hx hb hK hP 1 2 rfl rfl (vp_in_nI hj (by decide)) dX2_splice_21 ?_
        refine W.eq (g2 := F0 m 22 ls (va_rf (hk j) :: [.ref ak])) (by rw [nI_clamp (by omega)]) ?_
        refine lv_iload_n hx hb dX2_splice_22 rfl (lv_at hl 2 rfl) ?_
        refine lv_aload_n hx hb dX2_splice_23 rfl (lv_at hl 0 rfl) ?_
        refine va_get (D := D) (ci := 2) (v := .ref ah) (C := RX2) (T := TX2) (N := 8) hx hb hts iw_X2_splice_X2 hown hK hP 0 rfl rfl 0 (by decide) (hts _ lk_X2_splice_Cond_fieldLink_RX2_11_SpliceRoom_hooks_LSpliceRoom_Reel_) (fun _ h9 => h9) rfl dX2_splice_24 ?_
        refine lv_iload_n hx hb dX2_splice_27 rfl (lv_at hl 3 rfl) ?_
        refine va_aldq (D := D) hx hb hK hP 1 2 rfl rfl (vp_in_nI hi (by decide)) dX2_splice_28 ?_
        refine W.eq (g2 := F0 m 29 ls (va_rf (hk i) :: [.int p0, va_rf (hk j), .ref ak])) (by rw [nI_clamp (by omega)]) ?_
        refine lv_iload hx hb dX2_splice_29 (lv_at hl 4 rfl) ?_
        refine lv_iload hx hb dX2_splice_31 (lv_at hl 5 rfl) ?_
        refine va_calli (va_runV (As := [va_rf (hk j), .int p0, va_rf (hk i), .int q0, .int n0]) (rest := []) ⟨hx, hb, hml, hown, hts⟩ (c_X0_cut l h hNF hj hi) (cwV 5 hts gX2_splice_X0_cut rfl rfl rfl (by decide +kernel) ⟨Nat.le_of_ble_eq_true rfl, Nat.le_of_ble_eq_true rfl⟩) (Pq.V hC hS hN (va_recv hK hP (ci := 0) (q0 := 2) rfl rfl)) rfl rfl hl.1 rfl (lv_room (Nat.le_of_ble_eq_true rfl)) dX2_splice_33 ⟨Nat.le_of_ble_eq_true rfl, Nat.le_of_ble_eq_true rfl⟩) (S_mono hS (fun _ z => z.elim)) (fun q _ z => z) (fun q z => z) (fun r1 u t H locs ht hvm hw hB hz1 hk1 hS => ?_)
        obtain ⟨k1, r2⟩ := u
        rw [ht] at hB
        have hw1 : r1 = r2 := hw.1
        subst hw1
        exact vx_ret (W.iret (v := r1) hx hb hr (fun t ht hW => ⟨⟨_, (hk, cutRe re (hk j) (hk i) p0 q0 k1, knUp kn k1 r1, sh, k), rfl, ⟨j, i, hj, hi, rfl, rfl, hblunt, k1, hw.2, rfl⟩, by dsimp only; rw [ht]; exact hB.mono (fun _ z => Or.inl z)⟩, hS.F ht⟩) hS.2.2 dX2_splice_36)
end CWrite2
