section CReq
theorem S_mono {A B : Nat → Prop} {H0 H : Heap} {locs : List Loc} (h : va_S A H0 H locs) (hAB : ∀ q, A q → B q) : va_S B H0 H locs := ⟨h.1, fun q hs hn => h.2.1 q hs (fun z => hn (hAB q z)), fun z hz => hAB _ (h.2.2 z hz)⟩
theorem RSB.xo {D : va_G} {cI cL cQ : ClassId} {x ah ak b0 b1 b2 b3 b4 : Nat} {F : Nat → Prop} {hk : Nat → Option Nat} {re : Nat → RE} {kn : Nat → Int32} {sh : Nat → Nat → Int32} {k : Int32} {H H1 : Heap} (h : RSB D cI cL cQ x ah ak b0 b1 b2 b3 b4 F (hk, re, kn, sh, k) H) (hq : ∀ q : Nat, q < H.size → H1[q]? = H[q]?) : RSB D cI cL cQ x ah ak b0 b1 b2 b3 b4 (fun q => F q ∨ H.size ≤ q) (hk, re, kn, sh, k) H1 := (h.kept (fun q _ hs => hq q hs)).mono (fun _ z => Or.inl z)
/-- a hook's number -/
def okH (h : Int32) : Prop := ∃ j : Nat, j < 6 ∧ h = nI j
theorem okH_n {h : Int32} (h1 : ¬ h < 0) (h2 : h < 6) : okH h := by
  obtain ⟨j, hj, rfl⟩ := nI_of h1
  exact ⟨j, (nI_ltI hj (by decide)).mp h2, rfl⟩
theorem okH_b1 {h : Int32} (h1 : h < 0) : ¬ okH h := fun ⟨j, hj, e⟩ => by rw [e] at h1; exact nI_pos (by omega) h1
theorem okH_b2 {h : Int32} (h1 : ¬ h < 6) : ¬ okH h := fun ⟨j, hj, e⟩ => by rw [e] at h1; exact h1 (nI_lt (b := 6) hj (by decide))
section RX
variable {p : Program} {l : Launch} {e : Env} {R : Room} {s : State} {m : MethodId} {args : Array Value} {below : List Frame} {meth : Method} {c : Code} {H : Heap} {locs : List Loc} {cells slots : Nat} {Q : State → Prop}
variable {mc ms : Nat} {A0 : Nat → Prop} {H0 : Heap} {a : Array Value} {pc : Nat} {ls : Array Slot} {st0 rest : List Value}
/-- a helper that returns and has written nothing, or throws an E0 -/
theorem rx_v {E0 : String} {post : Unit → Prop} {px : Prop} (hr : vx_Run p l e R s m args below meth c H locs cells slots mc ms (F0 m pc ls st0) rest (va_Qv post (fun _ t => t.heap = H) nA a) (vx_X (fun (_ : Unit) => px) (fun E _ _ => E = E0) nA) nA) (hS : va_S A0 H0 H locs)
    (kx : ∀ (ce : Cell) (q9 : Addr) (H1 : Heap) (locs1 : List Loc), px → H.size ≤ H1.size → (∀ q : Nat, q < H.size → H1[q]? = H[q]?) → va_S A0 H0 H1 locs1 → H1[q9]? = some ce → ce.vm = .none → s.vm.findClass E0 = some ce.cls → vx_W p l e R s m args below meth c H1 locs1 (cells + mc) (slots + ms) Q (F0 m pc ls rest) q9)
    (kk : ∀ (locs1 : List Loc), post () → va_S A0 H0 H locs1 → W p l e R s m args below meth c H locs1 (cells + mc) (slots + ms) Q (F0 m (pc + 3) ls rest)) : W p l e R s m args below meth c H locs cells slots Q (F0 m pc ls st0) := by
  refine vx_callv hr hS (fun q _ h => h.elim) (fun q h => h.elim) (fun q _ h => h.elim) (fun E ce q9 u t H1 locs1 ht hvm hp hB hz hk hS1 hc hv hcl => ?_) (fun u t H1 locs1 ht hvm hw hB hz1 hk1 hS1 => ?_)
  · have hB : E = E0 := hB
    subst hB
    exact kx ce q9 H1 locs1 hp hz (fun q hs => hk q hs (fun z => z)) hS1 hc hv hcl
  · have e1 : H1 = H := ht.symm.trans hB
    subst e1
    exact kk locs1 hw hS1
end RX
theorem xw_X2_requireHook_eA : ∀ w ∈ (vx_atS RX2 50 eA exN).filter goodWord, w ∈ wsX2_requireHook := by decide +kernel
theorem lk_X2_requireHook_Cond_classLink_RX2_46_eA : Cond.classLink RX2 46 eA ∈ wsX2_requireHook := by decide +kernel
theorem lk_X2_requireHook_Cond_initialized_eA : Cond.initialized eA ∈ wsX2_requireHook := by decide +kernel
set_option maxHeartbeats 4000000 in
set_option maxRecDepth 100000 in
theorem c_X2_requireHook (l : Launch) {D : va_G} {cI cL cQ : ClassId} {N0 : Nat} {sa : Nat → Nat} {Hc : Heap} (hl0 : l.stackTraces = false) {h0 : Int32} : vx_Met l yX2_requireHook wsX2_requireHook ({ frames := 6, cells := 1, slots := 6, locals := 82 }) (Pq D cI cL cQ N0 sa [.int h0] Hc) (va_Qv (fun (_ : Unit) => okH h0) (fun _ t => t.heap = Hc) nA) (vx_X (fun (_ : Unit) => ¬ okH h0) (fun E _ _ => E = eA) nA) 1 6 nA := by
  refine vx_ofW (cc := cX2_requireHook) (maxL := 1) (ret := none) (by decide) rfl ?_
  intro p e s m args below meth c s₁ B hml hxt hv
  obtain ⟨rfl, hH, hC⟩ := hv
  have hx := B.exec
  have hb := B.bytes
  have hr := B.returns
  have hts := atoms_spec (ws := wsX2_requireHook) B.pre
  have hown : s.vm.findClass RX2 = some m.cls := findClass_of_methodNamed B.named
  have hlocks := B.notSynchronized
  subst hH
  have hK := hC.K
  have hl := lv_entry ([.int h0]) (n := 1) (Nat.le_of_ble_eq_true rfl)
  rw [lg_entry_eq]
  generalize (lg_sl ([.int h0]) ++ List.replicate (1 - (lg_sl ([.int h0])).length) Slot.unset).toArray = ls at hl ⊢
  have hl : lv_has ls 1 [(0, .int h0)] := hl
  have hS : va_S nA s.heap s.heap [] := va_S.rf
  have hN : ∀ q, nA q → N0 ≤ q := nA_N
  refine lv_iload_n hx hb dX2_requireHook_0 rfl (lv_at hl 0 rfl) ?_
  refine lv_if_lt (tgt := 10) hx hb dX2_requireHook_1 (by decide) (fun c_1 => ?_) (fun c_1 => ?_)
  · exact vx_throwS (cls := eA) (text := "no such hook") (names := exN) (sa := sa 162) (A := nA) hx hb hl0 hown (by decide +kernel) exN_fit (hts _ lk_X2_requireHook_Cond_classLink_RX2_46_eA) (hts _ lk_X2_requireHook_Cond_initialized_eA) (hC.text (by decide +kernel)) (vx_hat (fun w hw => hts w (xw_X2_requireHook_eA w hw)) exA_ng hC.all) (good2 exA_ot) (hC.ust nA_N) (hC.sup nA_N) hS (by rw [hml]; exact hl.1) dX2_requireHook_10 dX2_requireHook_13 dX2_requireHook_14 dX2_requireHook_16 dX2_requireHook_19 (fun x9 h9 => (hxt x9 h9).elim) (by decide) (Nat.le_of_ble_eq_true rfl) (Nat.le_of_ble_eq_true rfl) (Nat.le_of_ble_eq_true rfl) hlocks (fun t hvm hz9 hk9 => ⟨(), okH_b1 c_1, rfl, hz9, fun q hs _ => hk9 q hs⟩) (fun z9 h9 => (hS.2.2 z9 h9).elim) (Nat.le_of_ble_eq_true rfl) (Nat.le_of_ble_eq_true rfl)
  · refine lv_iload_n hx hb dX2_requireHook_4 rfl (lv_at hl 0 rfl) ?_
    refine lv_bipush (v := 6) hx hb dX2_requireHook_5 (by decide) ?_
    refine lv_icmp_lt (tgt := 20) hx hb dX2_requireHook_7 (by decide) (fun c_7 => ?_) (fun c_7 => ?_)
    · refine W.widen (k := 1) (n := 6) (by omega) (by omega) ?_
      exact vx_ret (W.vret hx hb hr (fun t ht hW => ⟨⟨(), rfl, okH_n c_1 c_7, ht⟩, hS.F ht⟩) hS.2.2 dX2_requireHook_20)
    · exact vx_throwS (cls := eA) (text := "no such hook") (names := exN) (sa := sa 162) (A := nA) hx hb hl0 hown (by decide +kernel) exN_fit (hts _ lk_X2_requireHook_Cond_classLink_RX2_46_eA) (hts _ lk_X2_requireHook_Cond_initialized_eA) (hC.text (by decide +kernel)) (vx_hat (fun w hw => hts w (xw_X2_requireHook_eA w hw)) exA_ng hC.all) (good2 exA_ot) (hC.ust nA_N) (hC.sup nA_N) hS (by rw [hml]; exact hl.1) dX2_requireHook_10 dX2_requireHook_13 dX2_requireHook_14 dX2_requireHook_16 dX2_requireHook_19 (fun x9 h9 => (hxt x9 h9).elim) (by decide) (Nat.le_of_ble_eq_true rfl) (Nat.le_of_ble_eq_true rfl) (Nat.le_of_ble_eq_true rfl) hlocks (fun t hvm hz9 hk9 => ⟨(), okH_b2 c_7, rfl, hz9, fun q hs _ => hk9 q hs⟩) (fun z9 h9 => (hS.2.2 z9 h9).elim) (Nat.le_of_ble_eq_true rfl) (Nat.le_of_ble_eq_true rfl)
/-- a frame of a row of z -/
def okF (i : Int32) (z : Nat) : Prop := ∃ j : Nat, j < z ∧ i = nI j
theorem okF_n {i : Int32} {z : Nat} (hz : z ≤ 40) (h1 : ¬ i < 0) (h2 : i < nI z) : okF i z := by
  obtain ⟨j, hj, rfl⟩ := nI_of h1
  exact ⟨j, (nI_ltI hj (by omega)).mp h2, rfl⟩
theorem okF_b1 {i : Int32} {z : Nat} (hz : z ≤ 40) (h1 : i < 0) : ¬ okF i z := fun ⟨j, hj, e⟩ => by rw [e] at h1; exact nI_pos (by omega) h1
theorem okF_b2 {i : Int32} {z : Nat} (hz : z ≤ 40) (h1 : ¬ i < nI z) : ¬ okF i z := fun ⟨j, hj, e⟩ => by rw [e] at h1; exact h1 (nI_lt hj (by omega))
theorem xw_X2_requireFrame_eI : ∀ w ∈ (vx_atS RX2 168 eI exN).filter goodWord, w ∈ wsX2_requireFrame := by decide +kernel
theorem iw_X2_requireFrame_X1 : ∀ w ∈ wsX10, w ∈ wsX2_requireFrame := by decide +kernel
theorem lk_X2_requireFrame_Cond_classLink_RX2_164_eI : Cond.classLink RX2 164 eI ∈ wsX2_requireFrame := by decide +kernel
theorem lk_X2_requireFrame_Cond_initialized_eI : Cond.initialized eI ∈ wsX2_requireFrame := by decide +kernel
set_option maxHeartbeats 4000000 in
set_option maxRecDepth 100000 in
theorem c_X2_requireFrame (l : Launch) {D : va_G} {cI cL cQ : ClassId} {N0 : Nat} {sa : Nat → Nat} {Hc : Heap} (hl0 : l.stackTraces = false) {r0 w0 z : Nat} {kd i0 : Int32} {f : Nat → Int64} (hP : va_P D vwCl [(r0, .inr (1, [.int kd, .ref w0])), (w0, .inl (cL, z, .inr (.inl f)))] Hc) (hz : z ≤ 40) : vx_Met l yX2_requireFrame wsX2_requireFrame ({ frames := 6, cells := 1, slots := 6, locals := 82 }) (Pq D cI cL cQ N0 sa [.ref r0, .int i0] Hc) (va_Qv (fun (_ : Unit) => okF i0 z) (fun _ t => t.heap = Hc) nA) (vx_X (fun (_ : Unit) => ¬ okF i0 z) (fun E _ _ => E = eI) nA) 1 6 nA := by
  refine vx_ofW (cc := cX2_requireFrame) (maxL := 2) (ret := none) (by decide) rfl ?_
  intro p e s m args below meth c s₁ B hml hxt hv
  obtain ⟨rfl, hH, hC⟩ := hv
  have hx := B.exec
  have hb := B.bytes
  have hr := B.returns
  have hts := atoms_spec (ws := wsX2_requireFrame) B.pre
  have hown : s.vm.findClass RX2 = some m.cls := findClass_of_methodNamed B.named
  have hlocks := B.notSynchronized
  subst hH
  have hK := hC.K
  have hl := lv_entry ([.ref r0, .int i0]) (n := 2) (Nat.le_of_ble_eq_true rfl)
  rw [lg_entry_eq]
  generalize (lg_sl ([.ref r0, .int i0]) ++ List.replicate (2 - (lg_sl ([.ref r0, .int i0])).length) Slot.unset).toArray = ls at hl ⊢
  have hl : lv_has ls 2 [(0, .ref r0), (1, .int i0)] := hl
  have hP : va_P D vwCl [(r0, .inr (1, [.int kd, .ref w0])), (w0, .inl (cL, z, .inr (.inl f)))] s.heap := hP
  have hS : va_S nA s.heap s.heap [] := va_S.rf
  have hN : ∀ q, nA q → N0 ≤ q := nA_N
  refine lv_iload_n hx hb dX2_requireFrame_0 rfl (lv_at hl 1 rfl) ?_
  refine lv_if_lt (tgt := 13) hx hb dX2_requireFrame_1 (by decide) (fun c_1 => ?_) (fun c_1 => ?_)
  · exact vx_throwS (cls := eI) (text := "no such frame") (names := exN) (sa := sa 166) (A := nA) hx hb hl0 hown (by decide +kernel) exN_fit (hts _ lk_X2_requireFrame_Cond_classLink_RX2_164_eI) (hts _ lk_X2_requireFrame_Cond_initialized_eI) (hC.text (by decide +kernel)) (vx_hat (fun w hw => hts w (xw_X2_requireFrame_eI w hw)) exI_ng hC.all) (good2 exI_ot) (hC.ust nA_N) (hC.sup nA_N) hS (by rw [hml]; exact hl.1) dX2_requireFrame_13 dX2_requireFrame_16 dX2_requireFrame_17 dX2_requireFrame_19 dX2_requireFrame_22 (fun x9 h9 => (hxt x9 h9).elim) (by decide) (Nat.le_of_ble_eq_true rfl) (Nat.le_of_ble_eq_true rfl) (Nat.le_of_ble_eq_true rfl) hlocks (fun t hvm hz9 hk9 => ⟨(), okF_b1 hz c_1, rfl, hz9, fun q hs _ => hk9 q hs⟩) (fun z9 h9 => (hS.2.2 z9 h9).elim) (Nat.le_of_ble_eq_true rfl) (Nat.le_of_ble_eq_true rfl)
  · refine lv_iload_n hx hb dX2_requireFrame_4 rfl (lv_at hl 1 rfl) ?_
    refine lv_aload_n hx hb dX2_requireFrame_5 rfl (lv_at hl 0 rfl) ?_
    refine va_getN (D := D) (ci := 1) (v := .ref w0) (C := RX1) (T := TX1) (N := 2) hx hb hts iw_X2_requireFrame_X1 hown hK hP 0 rfl rfl 1 (by decide) (hC.nest (a := RX2) (i := 70) (b := "SpliceRoom$Reel") (n := "row") (d := "[J") (hh := "SpliceRoom") (by decide +kernel)) (fun _ h9 => h9) rfl dX2_requireFrame_6 ?_
    refine va_alen (D := D) (v := nI z) hx hb hK hP 1 1 rfl rfl rfl dX2_requireFrame_9 ?_
    refine lv_icmp_lt (tgt := 23) hx hb dX2_requireFrame_10 (by decide) (fun c_10 => ?_) (fun c_10 => ?_)
    · refine W.widen (k := 1) (n := 6) (by omega) (by omega) ?_
      exact vx_ret (W.vret hx hb hr (fun t ht hW => ⟨⟨(), rfl, okF_n hz c_1 c_10, ht⟩, hS.F ht⟩) hS.2.2 dX2_requireFrame_23)
    · exact vx_throwS (cls := eI) (text := "no such frame") (names := exN) (sa := sa 166) (A := nA) hx hb hl0 hown (by decide +kernel) exN_fit (hts _ lk_X2_requireFrame_Cond_classLink_RX2_164_eI) (hts _ lk_X2_requireFrame_Cond_initialized_eI) (hC.text (by decide +kernel)) (vx_hat (fun w hw => hts w (xw_X2_requireFrame_eI w hw)) exI_ng hC.all) (good2 exI_ot) (hC.ust nA_N) (hC.sup nA_N) hS (by rw [hml]; exact hl.1) dX2_requireFrame_13 dX2_requireFrame_16 dX2_requireFrame_17 dX2_requireFrame_19 dX2_requireFrame_22 (fun x9 h9 => (hxt x9 h9).elim) (by decide) (Nat.le_of_ble_eq_true rfl) (Nat.le_of_ble_eq_true rfl) (Nat.le_of_ble_eq_true rfl) hlocks (fun t hvm hz9 hk9 => ⟨(), okF_b2 hz c_10, rfl, hz9, fun q hs _ => hk9 q hs⟩) (fun z9 h9 => (hS.2.2 z9 h9).elim) (Nat.le_of_ble_eq_true rfl) (Nat.le_of_ble_eq_true rfl)
theorem xw_X2_requireSharpKnife_eS : ∀ w ∈ (vx_atS RX2 69 eS exN).filter goodWord, w ∈ wsX2_requireSharpKnife := by decide +kernel
theorem iw_X2_requireSharpKnife_X2 : ∀ w ∈ wsX20, w ∈ wsX2_requireSharpKnife := by decide +kernel
theorem lk_X2_requireSharpKnife_Cond_classLink_RX2_65_eS : Cond.classLink RX2 65 eS ∈ wsX2_requireSharpKnife := by decide +kernel
theorem lk_X2_requireSharpKnife_Cond_fieldLink_RX2_18_SpliceRoom_knife_LSpliceRoom_Knife_ : Cond.fieldLink RX2 18 "SpliceRoom" "knife" "LSpliceRoom$Knife;" ∈ wsX2_requireSharpKnife := by decide +kernel
theorem lk_X2_requireSharpKnife_Cond_initialized_eS : Cond.initialized eS ∈ wsX2_requireSharpKnife := by decide +kernel
set_option maxHeartbeats 4000000 in
set_option maxRecDepth 100000 in
theorem c_X2_requireSharpKnife (l : Launch) {D : va_G} {cI cL cQ : ClassId} {N0 : Nat} {sa : Nat → Nat} {Hc : Heap} (hl0 : l.stackTraces = false) {x ah ak b0 b1 b2 b3 b4 : Nat} {k f0 f1 f2 f3 f4 f5 f6 : Int32} (hP : va_P D vwCl [(x, .inr (2, [.ref ah, .ref ak, .ref b0, .ref b1, .ref b2, .ref b3, .ref b4, .int k])), (ak, .inr (0, [.int f0, .int f1, .int f2, .int f3, .int f4, .int f5, .int f6]))] Hc) : vx_Met l yX2_requireSharpKnife wsX2_requireSharpKnife ({ frames := 6, cells := 1, slots := 6, locals := 82 }) (Pq D cI cL cQ N0 sa [.ref x] Hc) (va_Qv (fun (_ : Unit) => ¬ 3 ≤ f3) (fun _ t => t.heap = Hc) nA) (vx_X (fun (_ : Unit) => 3 ≤ f3) (fun E _ _ => E = eS) nA) 1 6 nA := by
  refine vx_ofW (cc := cX2_requireSharpKnife) (maxL := 1) (ret := none) (by decide) rfl ?_
  intro p e s m args below meth c s₁ B hml hxt hv
  obtain ⟨rfl, hH, hC⟩ := hv
  have hx := B.exec
  have hb := B.bytes
  have hr := B.returns
  have hts := atoms_spec (ws := wsX2_requireSharpKnife) B.pre
  have hown : s.vm.findClass RX2 = some m.cls := findClass_of_methodNamed B.named
  have hlocks := B.notSynchronized
  subst hH
  have hK := hC.K
  have hl := lv_entry ([.ref x]) (n := 1) (Nat.le_of_ble_eq_true rfl)
  rw [lg_entry_eq]
  generalize (lg_sl ([.ref x]) ++ List.replicate (1 - (lg_sl ([.ref x])).length) Slot.unset).toArray = ls at hl ⊢
  have hl : lv_has ls 1 [(0, .ref x)] := hl
  have hP : va_P D vwCl [(x, .inr (2, [.ref ah, .ref ak, .ref b0, .ref b1, .ref b2, .ref b3, .ref b4, .int k])), (ak, .inr (0, [.int f0, .int f1, .int f2, .int f3, .int f4, .int f5, .int f6]))] s.heap := hP
  have hS : va_S nA s.heap s.heap [] := va_S.rf
  have hN : ∀ q, nA q → N0 ≤ q := nA_N
  refine lv_aload_n hx hb dX2_requireSharpKnife_0 rfl (lv_at hl 0 rfl) ?_
  refine va_get (D := D) (ci := 2) (v := .ref ak) (C := RX2) (T := TX2) (N := 8) hx hb hts iw_X2_requireSharpKnife_X2 hown hK hP 0 rfl rfl 1 (by decide) (hts _ lk_X2_requireSharpKnife_Cond_fieldLink_RX2_18_SpliceRoom_knife_LSpliceRoom_Knife_) (fun _ h9 => h9) rfl dX2_requireSharpKnife_1 ?_
  refine ro_i (va_runV (As := []) (rest := []) ⟨hx, hb, hml, hown, hts⟩ (c_X0_isBlunt l (h0 := ak) (hP.sub [1] rfl)) (cwV 0 hts gX2_requireSharpKnife_X0_isBlunt rfl rfl rfl (by decide +kernel) ⟨Nat.le_of_ble_eq_true rfl, Nat.le_of_ble_eq_true rfl⟩) (Pq.V hC hS hN (va_recv hK hP (ci := 0) (q0 := 1) rfl rfl)) rfl rfl hl.1 rfl (lv_room (Nat.le_of_ble_eq_true rfl)) dX2_requireSharpKnife_4 ⟨Nat.le_of_ble_eq_true rfl, Nat.le_of_ble_eq_true rfl⟩) hS (fun r_1 locs hw hS => ?_)
  have hw : r_1 = tB (3 ≤ f3) := hw
  subst hw
  refine lv_if_eq (tgt := 20) hx hb dX2_requireSharpKnife_7 (by decide) (fun c_7 => ?_) (fun c_7 => ?_)
  · have c_7 := tB_0.mp c_7
    refine W.widen (k := 1) (n := 6) (by omega) (by omega) ?_
    exact vx_ret (W.vret hx hb hr (fun t ht hW => ⟨⟨(), rfl, c_7, ht⟩, hS.F ht⟩) hS.2.2 dX2_requireSharpKnife_20)
  · have c_7 := tB_n.mp c_7
    exact vx_throwS (cls := eS) (text := "the knife is blunt") (names := exN) (sa := sa 169) (A := nA) hx hb hl0 hown (by decide +kernel) exN_fit (hts _ lk_X2_requireSharpKnife_Cond_classLink_RX2_65_eS) (hts _ lk_X2_requireSharpKnife_Cond_initialized_eS) (hC.text (by decide +kernel)) (vx_hat (fun w hw => hts w (xw_X2_requireSharpKnife_eS w hw)) exS_ng hC.all) (good2 exS_ot) (hC.ust nA_N) (hC.sup nA_N) hS (by rw [hml]; exact hl.1) dX2_requireSharpKnife_10 dX2_requireSharpKnife_13 dX2_requireSharpKnife_14 dX2_requireSharpKnife_16 dX2_requireSharpKnife_19 (fun x9 h9 => (hxt x9 h9).elim) (by decide) (Nat.le_of_ble_eq_true rfl) (Nat.le_of_ble_eq_true rfl) (Nat.le_of_ble_eq_true rfl) hlocks (fun t hvm hz9 hk9 => ⟨(), c_7, rfl, hz9, fun q hs _ => hk9 q hs⟩) (fun z9 h9 => (hS.2.2 z9 h9).elim) (Nat.le_of_ble_eq_true rfl) (Nat.le_of_ble_eq_true rfl)
end CReq
