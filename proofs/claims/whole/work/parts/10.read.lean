section CRead
/-- the kind of what a hook holds -/
def kOf (re : Nat → RE) (o : Option Nat) : Int32 := match o with
  | none => 0
  | some r => (re r).1
/-- how many frames it has -/
def zOf (re : Nat → RE) (o : Option Nat) : Int32 := match o with
  | none => -1
  | some r => if (re r).1 = 5 then -1 else nI (re r).2.2.1
theorem iw_X2_kindOn_X1 : ∀ w ∈ wsX10, w ∈ wsX2_kindOn := by decide +kernel
theorem iw_X2_kindOn_X2 : ∀ w ∈ wsX20, w ∈ wsX2_kindOn := by decide +kernel
theorem lk_X2_kindOn_Cond_fieldLink_RX2_11_SpliceRoom_hooks_LSpliceRoom_Reel_ : Cond.fieldLink RX2 11 "SpliceRoom" "hooks" "[LSpliceRoom$Reel;" ∈ wsX2_kindOn := by decide +kernel
set_option maxHeartbeats 4000000 in
set_option maxRecDepth 100000 in
theorem c_X2_kindOn (l : Launch) {D : va_G} {cI cL cQ : ClassId} {N0 : Nat} {sa : Nat → Nat} {Hc : Heap} {x ah ak b0 b1 b2 b3 b4 : Nat} {F : Nat → Prop} {hk : Nat → Option Nat} {re : Nat → RE} {kn : Nat → Int32} {sh : Nat → Nat → Int32} {k : Int32} (h : RSB D cI cL cQ x ah ak b0 b1 b2 b3 b4 F (hk, re, kn, sh, k) Hc) {j : Nat} (hj : j < 6) : Met l yX2_kindOn wsX2_kindOn ({ frames := 0, cells := 0, slots := 0, locals := 0 }) (Pq D cI cL cQ N0 sa [.ref x, .int (nI j)] Hc) (va_Qi (fun (r : Int32) (_ : Unit) => r = kOf re (hk j)) (fun _ t => t.heap = Hc) nA) 0 0 nA := by
  refine Met.ofW (cc := cX2_kindOn) (maxL := 3) (ret := (some .int)) (by decide) rfl ?_
  intro p e s m args below meth c s₁ B hml hv
  obtain ⟨rfl, hH, hC⟩ := hv
  have hx := B.exec
  have hb := B.bytes
  have hr := B.returns
  have hts := atoms_spec (ws := wsX2_kindOn) B.pre
  have hown : s.vm.findClass RX2 = some m.cls := findClass_of_methodNamed B.named
  have hlocks := B.notSynchronized
  subst hH
  have hK := hC.K
  have hl := lv_entry ([.ref x, .int (nI j)]) (n := 3) (Nat.le_of_ble_eq_true rfl)
  rw [lg_entry_eq]
  generalize (lg_sl ([.ref x, .int (nI j)]) ++ List.replicate (3 - (lg_sl ([.ref x, .int (nI j)])).length) Slot.unset).toArray = ls at hl ⊢
  have hl : lv_has ls 3 [(0, .ref x), (1, .int (nI j))] := hl
  have hP : va_P D vwCl [(x, .inr (2, [.ref ah, .ref ak, .ref b0, .ref b1, .ref b2, .ref b3, .ref b4, .int k])), (ah, .inl (cQ, 6, .inr (.inr (.inr (.inr hk))))), (ak, .inr (0, [.int (kn 0), .int (kn 1), .int (kn 2), .int (kn 3), .int (kn 4), .int (kn 5), .int (kn 6)])), (b0, .inl (cI, 24, .inl (sh 0))), (b1, .inl (cI, 24, .inl (sh 1))), (b2, .inl (cI, 24, .inl (sh 2))), (b3, .inl (cI, 24, .inl (sh 3))), (b4, .inl (cI, 24, .inl (sh 4)))] s.heap := h.P8
  have hS : va_S nA s.heap s.heap [] := va_S.rf
  have hN : ∀ q, nA q → N0 ≤ q := nA_N
  refine lv_aload_n hx hb dX2_kindOn_0 rfl (lv_at hl 0 rfl) ?_
  refine va_get (D := D) (ci := 2) (v := .ref ah) (C := RX2) (T := TX2) (N := 8) hx hb hts iw_X2_kindOn_X2 hown hK hP 0 rfl rfl 0 (by decide) (hts _ lk_X2_kindOn_Cond_fieldLink_RX2_11_SpliceRoom_hooks_LSpliceRoom_Reel_) (fun _ h9 => h9) rfl dX2_kindOn_1 ?_
  refine lv_iload_n hx hb dX2_kindOn_4 rfl (lv_at hl 1 rfl) ?_
  refine va_aldq (D := D) hx hb hK hP 1 2 rfl rfl (vp_in_nI hj (by decide)) dX2_kindOn_5 ?_
  refine W.eq (g2 := F0 m 6 ls (va_rf (hk j) :: [])) (by rw [nI_clamp (by omega)]) ?_
  cases eh : hk j with
  | none =>
    refine lv_astore_nN (lv' := [(2, .null), (0, .ref x), (1, .int (nI j))]) hx hb dX2_kindOn_6 rfl hl (by decide) rfl (fun ls hl => ?_)
    refine lv_aload_nN hx hb dX2_kindOn_7 rfl (lv_at hl 0 rfl) ?_
    refine lv_ifnonnullN hx hb dX2_kindOn_8 ?_
    refine lv_iconst (v := 0) hx hb dX2_kindOn_11 (by decide) ?_
    refine lv_goto (tgt := 19) hx hb dX2_kindOn_12 (by decide) ?_
    exact W.iret (v := 0) hx hb hr (fun t ht hW => ⟨⟨_, (), rfl, rfl, ht⟩, hS.F ht⟩) hS.2.2 dX2_kindOn_19
  | some r =>
    have lr : Live hk r := ⟨j, hj, eh⟩
    have hP : va_P D vwCl [(x, .inr (2, [.ref ah, .ref ak, .ref b0, .ref b1, .ref b2, .ref b3, .ref b4, .int k])), (ah, .inl (cQ, 6, .inr (.inr (.inr (.inr hk))))), (ak, .inr (0, [.int (kn 0), .int (kn 1), .int (kn 2), .int (kn 3), .int (kn 4), .int (kn 5), .int (kn 6)])), (b0, .inl (cI, 24, .inl (sh 0))), (b1, .inl (cI, 24, .inl (sh 1))), (b2, .inl (cI, 24, .inl (sh 2))), (b3, .inl (cI, 24, .inl (sh 3))), (b4, .inl (cI, 24, .inl (sh 4))), (r, .inr (1, [.int ((re r).1), .ref ((re r).2.1)])), ((re r).2.1, .inl (cL, (re r).2.2.1, .inr (.inl ((re r).2.2.2))))] s.heap := h.P10 lr
    have hzr : (re r).2.2.1 ≤ 40 := (h.2.2.2 r lr).2.2.2.1
    refine lv_astore_n (lv' := [(2, .ref r), (0, .ref x), (1, .int (nI j))]) hx hb dX2_kindOn_6 rfl hl (by decide) rfl (fun ls hl => ?_)
    refine lv_aload_n hx hb dX2_kindOn_7 rfl (lv_at hl 0 rfl) ?_
    refine lv_ifnonnull (tgt := 15) hx hb dX2_kindOn_8 (by decide) ?_
    refine lv_aload_n hx hb dX2_kindOn_15 rfl (lv_at hl 0 rfl) ?_
    refine va_getN (D := D) (ci := 1) (v := .int ((re r).1)) (C := RX1) (T := TX1) (N := 2) hx hb hts iw_X2_kindOn_X1 hown hK hP 8 rfl rfl 0 (by decide) (hC.nest (a := RX2) (i := 62) (b := "SpliceRoom$Reel") (n := "kind") (d := "I") (hh := "SpliceRoom") (by decide +kernel)) (fun _ h9 => h9) rfl dX2_kindOn_16 ?_
    exact W.iret (v := (re r).1) hx hb hr (fun t ht hW => ⟨⟨_, (), rfl, rfl, ht⟩, hS.F ht⟩) hS.2.2 dX2_kindOn_19
theorem iw_X2_framesOn_X1 : ∀ w ∈ wsX10, w ∈ wsX2_framesOn := by decide +kernel
theorem iw_X2_framesOn_X2 : ∀ w ∈ wsX20, w ∈ wsX2_framesOn := by decide +kernel
theorem lk_X2_framesOn_Cond_fieldLink_RX2_11_SpliceRoom_hooks_LSpliceRoom_Reel_ : Cond.fieldLink RX2 11 "SpliceRoom" "hooks" "[LSpliceRoom$Reel;" ∈ wsX2_framesOn := by decide +kernel
set_option maxHeartbeats 4000000 in
set_option maxRecDepth 100000 in
theorem c_X2_framesOn (l : Launch) {D : va_G} {cI cL cQ : ClassId} {N0 : Nat} {sa : Nat → Nat} {Hc : Heap} {x ah ak b0 b1 b2 b3 b4 : Nat} {F : Nat → Prop} {hk : Nat → Option Nat} {re : Nat → RE} {kn : Nat → Int32} {sh : Nat → Nat → Int32} {k : Int32} (h : RSB D cI cL cQ x ah ak b0 b1 b2 b3 b4 F (hk, re, kn, sh, k) Hc) {j : Nat} (hj : j < 6) : Met l yX2_framesOn wsX2_framesOn ({ frames := 0, cells := 0, slots := 0, locals := 0 }) (Pq D cI cL cQ N0 sa [.ref x, .int (nI j)] Hc) (va_Qi (fun (r : Int32) (_ : Unit) => r = zOf re (hk j)) (fun _ t => t.heap = Hc) nA) 0 0 nA := by
  refine Met.ofW (cc := cX2_framesOn) (maxL := 3) (ret := (some .int)) (by decide) rfl ?_
  intro p e s m args below meth c s₁ B hml hv
  obtain ⟨rfl, hH, hC⟩ := hv
  have hx := B.exec
  have hb := B.bytes
  have hr := B.returns
  have hts := atoms_spec (ws := wsX2_framesOn) B.pre
  have hown : s.vm.findClass RX2 = some m.cls := findClass_of_methodNamed B.named
  have hlocks := B.notSynchronized
  subst hH
  have hK := hC.K
  have hl := lv_entry ([.ref x, .int (nI j)]) (n := 3) (Nat.le_of_ble_eq_true rfl)
  rw [lg_entry_eq]
  generalize (lg_sl ([.ref x, .int (nI j)]) ++ List.replicate (3 - (lg_sl ([.ref x, .int (nI j)])).length) Slot.unset).toArray = ls at hl ⊢
  have hl : lv_has ls 3 [(0, .ref x), (1, .int (nI j))] := hl
  have hP : va_P D vwCl [(x, .inr (2, [.ref ah, .ref ak, .ref b0, .ref b1, .ref b2, .ref b3, .ref b4, .int k])), (ah, .inl (cQ, 6, .inr (.inr (.inr (.inr hk))))), (ak, .inr (0, [.int (kn 0), .int (kn 1), .int (kn 2), .int (kn 3), .int (kn 4), .int (kn 5), .int (kn 6)])), (b0, .inl (cI, 24, .inl (sh 0))), (b1, .inl (cI, 24, .inl (sh 1))), (b2, .inl (cI, 24, .inl (sh 2))), (b3, .inl (cI, 24, .inl (sh 3))), (b4, .inl (cI, 24, .inl (sh 4)))] s.heap := h.P8
  have hS : va_S nA s.heap s.heap [] := va_S.rf
  have hN : ∀ q, nA q → N0 ≤ q := nA_N
  refine lv_aload_n hx hb dX2_framesOn_0 rfl (lv_at hl 0 rfl) ?_
  refine va_get (D := D) (ci := 2) (v := .ref ah) (C := RX2) (T := TX2) (N := 8) hx hb hts iw_X2_framesOn_X2 hown hK hP 0 rfl rfl 0 (by decide) (hts _ lk_X2_framesOn_Cond_fieldLink_RX2_11_SpliceRoom_hooks_LSpliceRoom_Reel_) (fun _ h9 => h9) rfl dX2_framesOn_1 ?_
  refine lv_iload_n hx hb dX2_framesOn_4 rfl (lv_at hl 1 rfl) ?_
  refine va_aldq (D := D) hx hb hK hP 1 2 rfl rfl (vp_in_nI hj (by decide)) dX2_framesOn_5 ?_
  refine W.eq (g2 := F0 m 6 ls (va_rf (hk j) :: [])) (by rw [nI_clamp (by omega)]) ?_
  cases eh : hk j with
  | none =>
    refine lv_astore_nN (lv' := [(2, .null), (0, .ref x), (1, .int (nI j))]) hx hb dX2_framesOn_6 rfl hl (by decide) rfl (fun ls hl => ?_)
    refine lv_aload_nN hx hb dX2_framesOn_7 rfl (lv_at hl 0 rfl) ?_
    refine lv_ifnullN (tgt := 19) hx hb dX2_framesOn_8 (by decide) ?_
    refine lv_iconst (v := (-1)) hx hb dX2_framesOn_19 (by decide) ?_
    refine lv_goto (tgt := 28) hx hb dX2_framesOn_20 (by decide) ?_
    exact W.iret (v := (-1)) hx hb hr (fun t ht hW => ⟨⟨_, (), rfl, rfl, ht⟩, hS.F ht⟩) hS.2.2 dX2_framesOn_28
  | some r =>
    have lr : Live hk r := ⟨j, hj, eh⟩
    have hP : va_P D vwCl [(x, .inr (2, [.ref ah, .ref ak, .ref b0, .ref b1, .ref b2, .ref b3, .ref b4, .int k])), (ah, .inl (cQ, 6, .inr (.inr (.inr (.inr hk))))), (ak, .inr (0, [.int (kn 0), .int (kn 1), .int (kn 2), .int (kn 3), .int (kn 4), .int (kn 5), .int (kn 6)])), (b0, .inl (cI, 24, .inl (sh 0))), (b1, .inl (cI, 24, .inl (sh 1))), (b2, .inl (cI, 24, .inl (sh 2))), (b3, .inl (cI, 24, .inl (sh 3))), (b4, .inl (cI, 24, .inl (sh 4))), (r, .inr (1, [.int ((re r).1), .ref ((re r).2.1)])), ((re r).2.1, .inl (cL, (re r).2.2.1, .inr (.inl ((re r).2.2.2))))] s.heap := h.P10 lr
    have hzr : (re r).2.2.1 ≤ 40 := (h.2.2.2 r lr).2.2.2.1
    refine lv_astore_n (lv' := [(2, .ref r), (0, .ref x), (1, .int (nI j))]) hx hb dX2_framesOn_6 rfl hl (by decide) rfl (fun ls hl => ?_)
    refine lv_aload_n hx hb dX2_framesOn_7 rfl (lv_at hl 0 rfl) ?_
    refine lv_ifnull hx hb dX2_framesOn_8 ?_
    refine lv_aload_n hx hb dX2_framesOn_11 rfl (lv_at hl 0 rfl) ?_
    refine va_getN (D := D) (ci := 1) (v := .int ((re r).1)) (C := RX1) (T := TX1) (N := 2) hx hb hts iw_X2_framesOn_X1 hown hK hP 8 rfl rfl 0 (by decide) (hC.nest (a := RX2) (i := 62) (b := "SpliceRoom$Reel") (n := "kind") (d := "I") (hh := "SpliceRoom") (by decide +kernel)) (fun _ h9 => h9) rfl dX2_framesOn_12 ?_
    refine lv_iconst (v := 5) hx hb dX2_framesOn_15 (by decide) ?_
    refine lv_icmp_ne (tgt := 23) hx hb dX2_framesOn_16 (by decide) (fun c_16 => ?_) (fun c_16 => ?_)
    · refine lv_aload_n hx hb dX2_framesOn_23 rfl (lv_at hl 0 rfl) ?_
      refine va_getN (D := D) (ci := 1) (v := .ref ((re r).2.1)) (C := RX1) (T := TX1) (N := 2) hx hb hts iw_X2_framesOn_X1 hown hK hP 8 rfl rfl 1 (by decide) (hC.nest (a := RX2) (i := 70) (b := "SpliceRoom$Reel") (n := "row") (d := "[J") (hh := "SpliceRoom") (by decide +kernel)) (fun _ h9 => h9) rfl dX2_framesOn_24 ?_
      refine va_alen (D := D) (v := nI ((re r).2.2.1)) hx hb hK hP 9 1 rfl rfl rfl dX2_framesOn_27 ?_
      exact W.iret (v := nI ((re r).2.2.1)) hx hb hr (fun t ht hW => ⟨⟨_, (), rfl, (show _ = (if _ then _ else _) from (if_neg c_16).symm), ht⟩, hS.F ht⟩) hS.2.2 dX2_framesOn_28
    · refine lv_iconst (v := (-1)) hx hb dX2_framesOn_19 (by decide) ?_
      refine lv_goto (tgt := 28) hx hb dX2_framesOn_20 (by decide) ?_
      exact W.iret (v := (-1)) hx hb hr (fun t ht hW => ⟨⟨_, (), rfl, (show _ = (if _ then _ else _) from (if_pos c_16).symm), ht⟩, hS.F ht⟩) hS.2.2 dX2_framesOn_28
/-- how many of the first n hooks hold r -/
def cntH (hk : Nat → Option Nat) (r : Nat) : Nat → Nat
  | 0 => 0
  | n + 1 => cntH hk r n + if hk n = some r then 1 else 0
theorem cntH_le (hk : Nat → Option Nat) (r : Nat) : ∀ n, cntH hk r n ≤ n
  | 0 => Nat.le_refl 0
  | n + 1 => by
    have := cntH_le hk r n
    show cntH hk r n + _ ≤ n + 1
    split <;> omega
theorem iw_X2_holdersOf_X2 : ∀ w ∈ wsX20, w ∈ wsX2_holdersOf := by decide +kernel
theorem lk_X2_holdersOf_Cond_fieldLink_RX2_11_SpliceRoom_hooks_LSpliceRoom_Reel_ : Cond.fieldLink RX2 11 "SpliceRoom" "hooks" "[LSpliceRoom$Reel;" ∈ wsX2_holdersOf := by decide +kernel
set_option maxHeartbeats 4000000 in
set_option maxRecDepth 100000 in
theorem c_X2_holdersOfS (l : Launch) {D : va_G} {cI cL cQ : ClassId} {N0 : Nat} {sa : Nat → Nat} {Hc : Heap} {x ah ak b0 b1 b2 b3 b4 : Nat} {F : Nat → Prop} {hk : Nat → Option Nat} {re : Nat → RE} {kn : Nat → Int32} {sh : Nat → Nat → Int32} {k : Int32} (h : RSB D cI cL cQ x ah ak b0 b1 b2 b3 b4 F (hk, re, kn, sh, k) Hc) {r0 : Nat} : Met l yX2_holdersOf wsX2_holdersOf ({ frames := 0, cells := 0, slots := 0, locals := 0 }) (Pq D cI cL cQ N0 sa [.ref x, .ref r0] Hc) (va_Qi (fun (r : Int32) (_ : Unit) => r = nI (cntH hk r0 6)) (fun _ t => t.heap = Hc) nA) 0 0 nA := by
  refine Met.ofW (cc := cX2_holdersOf) (maxL := 4) (ret := (some .int)) (by decide) rfl ?_
  intro p e s m args below meth c s₁ B hml hv
  obtain ⟨rfl, hH, hC⟩ := hv
  have hx := B.exec
  have hb := B.bytes
  have hr := B.returns
  have hts := atoms_spec (ws := wsX2_holdersOf) B.pre
  have hown : s.vm.findClass RX2 = some m.cls := findClass_of_methodNamed B.named
  have hlocks := B.notSynchronized
  subst hH
  have hK := hC.K
  have hl := lv_entry ([.ref x, .ref r0]) (n := 4) (Nat.le_of_ble_eq_true rfl)
  rw [lg_entry_eq]
  generalize (lg_sl ([.ref x, .ref r0]) ++ List.replicate (4 - (lg_sl ([.ref x, .ref r0])).length) Slot.unset).toArray = ls at hl ⊢
  have hl : lv_has ls 4 [(0, .ref x), (1, .ref r0)] := hl
  have hP : va_P D vwCl [(x, .inr (2, [.ref ah, .ref ak, .ref b0, .ref b1, .ref b2, .ref b3, .ref b4, .int k])), (ah, .inl (cQ, 6, .inr (.inr (.inr (.inr hk))))), (ak, .inr (0, [.int (kn 0), .int (kn 1), .int (kn 2), .int (kn 3), .int (kn 4), .int (kn 5), .int (kn 6)])), (b0, .inl (cI, 24, .inl (sh 0))), (b1, .inl (cI, 24, .inl (sh 1))), (b2, .inl (cI, 24, .inl (sh 2))), (b3, .inl (cI, 24, .inl (sh 3))), (b4, .inl (cI, 24, .inl (sh 4)))] s.heap := h.P8
  have hS : va_S nA s.heap s.heap [] := va_S.rf
  have hN : ∀ q, nA q → N0 ≤ q := nA_N
  refine lv_iconst (v := 0) hx hb dX2_holdersOf_0 (by decide) ?_
  refine lv_istore_n (lv' := [(2, .int 0), (0, .ref x), (1, .ref r0)]) hx hb dX2_holdersOf_1 rfl hl (by decide) rfl (fun ls hl => ?_)
  refine lv_iconst (v := 0) hx hb dX2_holdersOf_2 (by decide) ?_
  refine lv_istore_n (lv' := [(3, .int 0), (2, .int 0), (0, .ref x), (1, .ref r0)]) hx hb dX2_holdersOf_3 rfl hl (by decide) rfl (fun ls hl => ?_)
  have loop : ∀ (n i : Nat) (locs : List Loc) (ls : Array Slot), i ≤ 6 → 7 ≤ i + n → lv_has ls 4 [(3, .int (nI i)), (2, .int (nI (cntH hk r0 i))), (0, .ref x), (1, .ref r0)] → va_S nA s.heap s.heap locs → W p l e (headSpec wsX2_holdersOf ({ frames := 0, cells := 0, slots := 0, locals := 0 })).room s m ([.ref x, .ref r0] : List Value).toArray below meth c s.heap locs 0 0 (MQ below (va_Qi (fun (r : Int32) (_ : Unit) => r = nI (cntH hk r0 6)) (fun _ t => t.heap = s.heap) nA) ([.ref x, .ref r0] : List Value).toArray s 0 0 nA) (F0 m 4 ls []) := by
    intro n
    induction n with
    | zero => intro i locs ls h1 h2; exact absurd h2 (by omega)
    | succ n ih =>
      intro i locs ls hi hn hl hS
      refine lv_iload_n hx hb dX2_holdersOf_4 rfl (lv_at hl 0 rfl) ?_
      refine lv_bipush (v := 6) hx hb dX2_holdersOf_5 (by decide) ?_
      refine lv_icmp_ge (tgt := 33) hx hb dX2_holdersOf_7 (by decide) (fun c_7 => ?_) (fun c_7 => ?_)
      · have e6 : i = 6 := by have := (nI_leI (a := 6) (b := i) (by decide) (by omega)).mp c_7; omega
        subst e6
        refine lv_iload_n hx hb dX2_holdersOf_33 rfl (lv_at hl 1 rfl) ?_
        exact W.iret (v := nI (cntH hk r0 6)) hx hb hr (fun t ht hW => ⟨⟨_, (), rfl, rfl, ht⟩, hS.F ht⟩) hS.2.2 dX2_holdersOf_34
      · have hlt : i < 6 := Nat.lt_of_not_le (fun h => c_7 (nI_le h (by omega)))
        refine lv_aload_n hx hb dX2_holdersOf_10 rfl (lv_at hl 3 rfl) ?_
        refine lv_ifnull hx hb dX2_holdersOf_11 ?_
        refine lv_aload_n hx hb dX2_holdersOf_14 rfl (lv_at hl 2 rfl) ?_
        refine va_get (D := D) (ci := 2) (v := .ref ah) (C := RX2) (T := TX2) (N := 8) hx hb hts iw_X2_holdersOf_X2 hown hK hP 0 rfl rfl 0 (by decide) (hts _ lk_X2_holdersOf_Cond_fieldLink_RX2_11_SpliceRoom_hooks_LSpliceRoom_Reel_) (fun _ h9 => h9) rfl dX2_holdersOf_15 ?_
        refine lv_iload_n hx hb dX2_holdersOf_18 rfl (lv_at hl 0 rfl) ?_
        refine va_aldq (D := D) hx hb hK hP 1 2 rfl rfl (vp_in_nI hlt (by decide)) dX2_holdersOf_19 ?_
        refine W.eq (g2 := F0 m 20 ls (va_rf (hk i) :: [])) (by rw [nI_clamp (by omega)]) ?_
        refine lv_aload_n hx hb dX2_holdersOf_20 rfl (lv_at hl 3 rfl) ?_
        refine lv_acmp_ne (rx := hk i) (ry := some r0) (tgt := 27) hx hb dX2_holdersOf_21 (by decide) (fun c_21 => ?_) (fun c_21 => ?_)
        · have ec : cntH hk r0 (i + 1) = cntH hk r0 i := by show cntH hk r0 i + _ = _; rw [if_neg c_21]; rfl
          refine lv_iinc (v := nI (i + 1)) (lv' := [(3, .int (nI (i + 1))), (2, .int (nI (cntH hk r0 i))), (0, .ref x), (1, .ref r0)]) hx hb dX2_holdersOf_27 hl (k := 0) rfl (nI_1 i) (by decide) rfl (fun ls hl => ?_)
          refine lv_goto (tgt := 4) hx hb dX2_holdersOf_30 (by decide) ?_
          rw [← ec] at hl
          exact ih (i + 1) _ _ (by omega) (by omega) (lv_sub hl [0, 1, 2, 3] rfl) hS
        · have ec : cntH hk r0 (i + 1) = cntH hk r0 i + 1 := by show cntH hk r0 i + _ = _; rw [if_pos c_21]
          refine lv_iinc (v := nI (cntH hk r0 (i + 1))) (lv' := [(2, .int (nI (cntH hk r0 (i + 1)))), (3, .int (nI i)), (0, .ref x), (1, .ref r0)]) hx hb dX2_holdersOf_24 hl (k := 1) rfl (by rw [ec]; exact nI_1 _) (by decide) rfl (fun ls hl => ?_)
          refine lv_iinc (v := nI (i + 1)) (lv' := [(3, .int (nI (i + 1))), (2, .int (nI (cntH hk r0 (i + 1)))), (0, .ref x), (1, .ref r0)]) hx hb dX2_holdersOf_27 hl (k := 1) rfl (nI_1 i) (by decide) rfl (fun ls hl => ?_)
          refine lv_goto (tgt := 4) hx hb dX2_holdersOf_30 (by decide) ?_
          exact ih (i + 1) _ _ (by omega) (by omega) (lv_sub hl [0, 1, 2, 3] rfl) hS
  exact loop 7 0 _ _ (by omega) (by omega) (lv_sub hl [0, 1, 2, 3] rfl) hS
set_option maxHeartbeats 4000000 in
set_option maxRecDepth 100000 in
theorem c_X2_holdersOfN (l : Launch) {D : va_G} {cI cL cQ : ClassId} {N0 : Nat} {sa : Nat → Nat} {Hc : Heap} {x ah ak b0 b1 b2 b3 b4 : Nat} {F : Nat → Prop} {hk : Nat → Option Nat} {re : Nat → RE} {kn : Nat → Int32} {sh : Nat → Nat → Int32} {k : Int32} (h : RSB D cI cL cQ x ah ak b0 b1 b2 b3 b4 F (hk, re, kn, sh, k) Hc)  : Met l yX2_holdersOf wsX2_holdersOf ({ frames := 0, cells := 0, slots := 0, locals := 0 }) (Pq D cI cL cQ N0 sa [.ref x, .null] Hc) (va_Qi (fun (r : Int32) (_ : Unit) => r = 0) (fun _ t => t.heap = Hc) nA) 0 0 nA := by
  refine Met.ofW (cc := cX2_holdersOf) (maxL := 4) (ret := (some .int)) (by decide) rfl ?_
  intro p e s m args below meth c s₁ B hml hv
  obtain ⟨rfl, hH, hC⟩ := hv
  have hx := B.exec
  have hb := B.bytes
  have hr := B.returns
  have hts := atoms_spec (ws := wsX2_holdersOf) B.pre
  have hown : s.vm.findClass RX2 = some m.cls := findClass_of_methodNamed B.named
  have hlocks := B.notSynchronized
  subst hH
  have hK := hC.K
  have hl := lv_entry ([.ref x, .null]) (n := 4) (Nat.le_of_ble_eq_true rfl)
  rw [lg_entry_eq]
  generalize (lg_sl ([.ref x, .null]) ++ List.replicate (4 - (lg_sl ([.ref x, .null])).length) Slot.unset).toArray = ls at hl ⊢
  have hl : lv_has ls 4 [(0, .ref x), (1, .null)] := hl
  have hP : va_P D vwCl [(x, .inr (2, [.ref ah, .ref ak, .ref b0, .ref b1, .ref b2, .ref b3, .ref b4, .int k])), (ah, .inl (cQ, 6, .inr (.inr (.inr (.inr hk))))), (ak, .inr (0, [.int (kn 0), .int (kn 1), .int (kn 2), .int (kn 3), .int (kn 4), .int (kn 5), .int (kn 6)])), (b0, .inl (cI, 24, .inl (sh 0))), (b1, .inl (cI, 24, .inl (sh 1))), (b2, .inl (cI, 24, .inl (sh 2))), (b3, .inl (cI, 24, .inl (sh 3))), (b4, .inl (cI, 24, .inl (sh 4)))] s.heap := h.P8
  have hS : va_S nA s.heap s.heap [] := va_S.rf
  have hN : ∀ q, nA q → N0 ≤ q := nA_N
  refine lv_iconst (v := 0) hx hb dX2_holdersOf_0 (by decide) ?_
  refine lv_istore_n (lv' := [(2, .int 0), (0, .ref x), (1, .null)]) hx hb dX2_holdersOf_1 rfl hl (by decide) rfl (fun ls hl => ?_)
  refine lv_iconst (v := 0) hx hb dX2_holdersOf_2 (by decide) ?_
  refine lv_istore_n (lv' := [(3, .int 0), (2, .int 0), (0, .ref x), (1, .null)]) hx hb dX2_holdersOf_3 rfl hl (by decide) rfl (fun ls hl => ?_)
  have loop : ∀ (n i : Nat) (locs : List Loc) (ls : Array Slot), i ≤ 6 → 7 ≤ i + n → lv_has ls 4 [(3, .int (nI i)), (2, .int (0)), (0, .ref x), (1, .null)] → va_S nA s.heap s.heap locs → W p l e (headSpec wsX2_holdersOf ({ frames := 0, cells := 0, slots := 0, locals := 0 })).room s m ([.ref x, .null] : List Value).toArray below meth c s.heap locs 0 0 (MQ below (va_Qi (fun (r : Int32) (_ : Unit) => r = 0) (fun _ t => t.heap = s.heap) nA) ([.ref x, .null] : List Value).toArray s 0 0 nA) (F0 m 4 ls []) := by
    intro n
    induction n with
    | zero => intro i locs ls h1 h2; exact absurd h2 (by omega)
    | succ n ih =>
      intro i locs ls hi hn hl hS
      refine lv_iload_n hx hb dX2_holdersOf_4 rfl (lv_at hl 0 rfl) ?_
      refine lv_bipush (v := 6) hx hb dX2_holdersOf_5 (by decide) ?_
      refine lv_icmp_ge (tgt := 33) hx hb dX2_holdersOf_7 (by decide) (fun c_7 => ?_) (fun c_7 => ?_)
      · have e6 : i = 6 := by have := (nI_leI (a := 6) (b := i) (by decide) (by omega)).mp c_7; omega
        subst e6
        refine lv_iload_n hx hb dX2_holdersOf_33 rfl (lv_at hl 1 rfl) ?_
        exact W.iret (v := 0) hx hb hr (fun t ht hW => ⟨⟨_, (), rfl, rfl, ht⟩, hS.F ht⟩) hS.2.2 dX2_holdersOf_34
      · have hlt : i < 6 := Nat.lt_of_not_le (fun h => c_7 (nI_le h (by omega)))
        refine lv_aload_nN hx hb dX2_holdersOf_10 rfl (lv_at hl 3 rfl) ?_
        refine lv_ifnullN (tgt := 27) hx hb dX2_holdersOf_11 (by decide) ?_
        refine lv_iinc (v := nI (i + 1)) (lv' := [(3, .int (nI (i + 1))), (2, .int 0), (0, .ref x), (1, .null)]) hx hb dX2_holdersOf_27 hl (k := 0) rfl (nI_1 i) (by decide) rfl (fun ls hl => ?_)
        refine lv_goto (tgt := 4) hx hb dX2_holdersOf_30 (by decide) ?_
        exact ih (i + 1) _ _ (by omega) (by omega) (lv_sub hl [0, 1, 2, 3] rfl) hS
  exact loop 7 0 _ _ (by omega) (by omega) (lv_sub hl [0, 1, 2, 3] rfl) hS
/-- how many hooks hold what the hook holds -/
def hOf (hk : Nat → Option Nat) (o : Option Nat) : Int32 := match o with
  | none => 0
  | some r => nI (cntH hk r 6)
theorem c_X2_holdersOf (l : Launch) {D : va_G} {cI cL cQ : ClassId} {N0 : Nat} {sa : Nat → Nat} {Hc : Heap} {x ah ak b0 b1 b2 b3 b4 : Nat} {F : Nat → Prop} {hk : Nat → Option Nat} {re : Nat → RE} {kn : Nat → Int32} {sh : Nat → Nat → Int32} {k : Int32} (h : RSB D cI cL cQ x ah ak b0 b1 b2 b3 b4 F (hk, re, kn, sh, k) Hc) {o : Option Nat} : Met l yX2_holdersOf wsX2_holdersOf ({ frames := 0, cells := 0, slots := 0, locals := 0 }) (Pq D cI cL cQ N0 sa [.ref x, va_rf o] Hc) (va_Qi (fun (r : Int32) (_ : Unit) => r = hOf hk o) (fun _ t => t.heap = Hc) nA) 0 0 nA := by
  cases o with
  | none => exact c_X2_holdersOfN l h
  | some r => exact c_X2_holdersOfS l h
theorem xw_X2_frame_eS : ∀ w ∈ (vx_atS RX2 69 eS exN).filter goodWord, w ∈ wsX2_frame := by decide +kernel
theorem iw_X2_frame_X1 : ∀ w ∈ wsX10, w ∈ wsX2_frame := by decide +kernel
theorem iw_X2_frame_X2 : ∀ w ∈ wsX20, w ∈ wsX2_frame := by decide +kernel
theorem lk_X2_frame_Cond_classLink_RX2_65_eS : Cond.classLink RX2 65 eS ∈ wsX2_frame := by decide +kernel
theorem lk_X2_frame_Cond_fieldLink_RX2_11_SpliceRoom_hooks_LSpliceRoom_Reel_ : Cond.fieldLink RX2 11 "SpliceRoom" "hooks" "[LSpliceRoom$Reel;" ∈ wsX2_frame := by decide +kernel
theorem lk_X2_frame_Cond_initialized_eS : Cond.initialized eS ∈ wsX2_frame := by decide +kernel
set_option maxHeartbeats 4000000 in
set_option maxRecDepth 100000 in
theorem c_X2_frame (l : Launch) {D : va_G} {cI cL cQ : ClassId} {N0 : Nat} {sa : Nat → Nat} {Hc : Heap} (hl0 : l.stackTraces = false) {x ah ak b0 b1 b2 b3 b4 : Nat} {F : Nat → Prop} {hk : Nat → Option Nat} {re : Nat → RE} {kn : Nat → Int32} {sh : Nat → Nat → Int32} {k : Int32} (h : RSB D cI cL cQ x ah ak b0 b1 b2 b3 b4 F (hk, re, kn, sh, k) Hc) (hNF : ∀ q, F q ∨ Hc.size ≤ q → N0 ≤ q) {h0 i0 : Int32} : vx_Met l yX2_frame wsX2_frame ({ frames := 7, cells := 3, slots := 18, locals := 110 }) (Pq D cI cL cQ N0 sa [.ref x, .int h0, .int i0] Hc) (va_Ql (fun (rr : Int64) (u : CS) => ∃ j1 r1 i1 : Nat, j1 < 6 ∧ h0 = nI j1 ∧ hk j1 = some r1 ∧ ¬ (re r1).1 = 5 ∧ i1 < (re r1).2.2.1 ∧ i0 = nI i1 ∧ rr = (re r1).2.2.2 i1 ∧ u = (hk, re, kn, sh, k)) (fun u t => RSB D cI cL cQ x ah ak b0 b1 b2 b3 b4 (fun q => F q ∨ Hc.size ≤ q) u t.heap) (fun q => F q ∨ Hc.size ≤ q)) (vx_X (fun (_ : Unit) => True) (fun E _ t => ((E = eA ∧ ¬ okH h0) ∨ (∃ j1 : Nat, j1 < 6 ∧ h0 = nI j1 ∧ ((E = eS ∧ (hk j1 = none ∨ ∃ r1 : Nat, hk j1 = some r1 ∧ (re r1).1 = 5)) ∨ (E = eI ∧ ∃ r1 : Nat, hk j1 = some r1 ∧ ¬ (re r1).1 = 5 ∧ ¬ okF i0 (re r1).2.2.1)))) ∧ RSB D cI cL cQ x ah ak b0 b1 b2 b3 b4 (fun q => F q ∨ Hc.size ≤ q) (hk, re, kn, sh, k) t.heap) (fun q => F q ∨ Hc.size ≤ q)) 3 18 (fun q => F q ∨ Hc.size ≤ q) := by
  refine vx_ofW (cc := cX2_frame) (maxL := 4) (ret := (some .long)) (by decide) rfl ?_
  intro p e s m args below meth c s₁ B hml hxt hv
  obtain ⟨rfl, hH, hC⟩ := hv
  have hx := B.exec
  have hb := B.bytes
  have hr := B.returns
  have hts := atoms_spec (ws := wsX2_frame) B.pre
  have hown : s.vm.findClass RX2 = some m.cls := findClass_of_methodNamed B.named
  have hlocks := B.notSynchronized
  subst hH
  have hK := hC.K
  have hl := lv_entry ([.ref x, .int h0, .int i0]) (n := 4) (Nat.le_of_ble_eq_true rfl)
  rw [lg_entry_eq]
  generalize (lg_sl ([.ref x, .int h0, .int i0]) ++ List.replicate (4 - (lg_sl ([.ref x, .int h0, .int i0])).length) Slot.unset).toArray = ls at hl ⊢
  have hl : lv_has ls 4 [(0, .ref x), (1, .int h0), (2, .int i0)] := hl
  have hP : va_P D vwCl [(x, .inr (2, [.ref ah, .ref ak, .ref b0, .ref b1, .ref b2, .ref b3, .ref b4, .int k])), (ah, .inl (cQ, 6, .inr (.inr (.inr (.inr hk))))), (ak, .inr (0, [.int (kn 0), .int (kn 1), .int (kn 2), .int (kn 3), .int (kn 4), .int (kn 5), .int (kn 6)])), (b0, .inl (cI, 24, .inl (sh 0))), (b1, .inl (cI, 24, .inl (sh 1))), (b2, .inl (cI, 24, .inl (sh 2))), (b3, .inl (cI, 24, .inl (sh 3))), (b4, .inl (cI, 24, .inl (sh 4)))] s.heap := h.P8
  have hS : va_S nA s.heap s.heap [] := va_S.rf
  have hN : ∀ q, nA q → N0 ≤ q := nA_N
  refine lv_iload_n hx hb dX2_frame_0 rfl (lv_at hl 1 rfl) ?_
  refine rx_v (vx_runS (As := [.int h0]) (rest := []) ⟨hx, hb, hml, hown, hts⟩ (c_X2_requireHook l hl0 (h0 := h0)) (va_cwS 1 hts gX2_frame_X2_requireHook rfl rfl rfl (by decide +kernel) ⟨Nat.le_of_ble_eq_true rfl, Nat.le_of_ble_eq_true rfl⟩) (Pq.S hC hS hN) rfl rfl hl.1 rfl (lv_room (Nat.le_of_ble_eq_true rfl)) dX2_frame_1 ⟨Nat.le_of_ble_eq_true rfl, Nat.le_of_ble_eq_true rfl⟩) hS (fun ce q9 H9 locs hx9 hz9 hk9 hS hcell hv9 hcl => ?_) (fun locs hw hS => ?_)
  · have hx9 : ¬ okH h0 := hx9
    refine vx_widen (k := 3) (n := 18) (by omega) (by omega) ?_
    exact vx_out (fun x9 h9 => (hxt x9 h9).elim) hlocks hcell hv9 hcl (fun t ht hvm => ⟨(), trivial, ⟨Or.inl ⟨rfl, hx9⟩, by rw [ht]; exact h.xo hk9⟩, by rw [ht]; exact hz9, fun q hs _ => by rw [ht]; exact hk9 q hs⟩) (fun z9 h9 => (hS.2.2 z9 h9).elim) (Nat.le_refl _) (Nat.le_refl _)
  · have hw : okH h0 := hw
    obtain ⟨j, hj, rfl⟩ := hw
    refine lv_aload_n hx hb dX2_frame_4 rfl (lv_at hl 0 rfl) ?_
    refine va_get (D := D) (ci := 2) (v := .ref ah) (C := RX2) (T := TX2) (N := 8) hx hb hts iw_X2_frame_X2 hown hK hP 0 rfl rfl 0 (by decide) (hts _ lk_X2_frame_Cond_fieldLink_RX2_11_SpliceRoom_hooks_LSpliceRoom_Reel_) (fun _ h9 => h9) rfl dX2_frame_5 ?_
    refine lv_iload_n hx hb dX2_frame_8 rfl (lv_at hl 1 rfl) ?_
    refine va_aldq (D := D) hx hb hK hP 1 2 rfl rfl (vp_in_nI hj (by decide)) dX2_frame_9 ?_
    refine W.eq (g2 := F0 m 10 ls (va_rf (hk j) :: [])) (by rw [nI_clamp (by omega)]) ?_
    cases eh : hk j with
    | none =>
      refine lv_astore_nN (lv' := [(3, .null), (0, .ref x), (1, .int (nI j)), (2, .int i0)]) hx hb dX2_frame_10 rfl hl (by decide) rfl (fun ls hl => ?_)
      refine lv_aload_nN hx hb dX2_frame_11 rfl (lv_at hl 0 rfl) ?_
      refine lv_ifnullN (tgt := 23) hx hb dX2_frame_12 (by decide) ?_
      exact vx_throwS (cls := eS) (text := "nothing, or a core") (names := exN) (sa := sa 129) (A := nA) hx hb hl0 hown (by decide +kernel) exN_fit (hts _ lk_X2_frame_Cond_classLink_RX2_65_eS) (hts _ lk_X2_frame_Cond_initialized_eS) (hC.text (by decide +kernel)) (vx_hat (fun w hw => hts w (xw_X2_frame_eS w hw)) exS_ng hC.all) (good2 exS_ot) (hC.ust nA_N) (hC.sup nA_N) hS (by rw [hml]; exact hl.1) dX2_frame_23 dX2_frame_26 dX2_frame_27 dX2_frame_29 dX2_frame_32 (fun x9 h9 => (hxt x9 h9).elim) (by decide) (Nat.le_of_ble_eq_true rfl) (Nat.le_of_ble_eq_true rfl) (Nat.le_of_ble_eq_true rfl) hlocks (fun t hvm hz9 hk9 => ⟨(), trivial, ⟨Or.inr ⟨j, hj, rfl, Or.inl ⟨rfl, Or.inl eh⟩⟩, h.xo hk9⟩, hz9, fun q hs _ => hk9 q hs⟩) (fun z9 h9 => (hS.2.2 z9 h9).elim) (Nat.le_of_ble_eq_true rfl) (Nat.le_of_ble_eq_true rfl)
    | some r =>
      have lr : Live hk r := ⟨j, hj, eh⟩
      have hP : va_P D vwCl [(x, .inr (2, [.ref ah, .ref ak, .ref b0, .ref b1, .ref b2, .ref b3, .ref b4, .int k])), (ah, .inl (cQ, 6, .inr (.inr (.inr (.inr hk))))), (ak, .inr (0, [.int (kn 0), .int (kn 1), .int (kn 2), .int (kn 3), .int (kn 4), .int (kn 5), .int (kn 6)])), (b0, .inl (cI, 24, .inl (sh 0))), (b1, .inl (cI, 24, .inl (sh 1))), (b2, .inl (cI, 24, .inl (sh 2))), (b3, .inl (cI, 24, .inl (sh 3))), (b4, .inl (cI, 24, .inl (sh 4))), (r, .inr (1, [.int ((re r).1), .ref ((re r).2.1)])), ((re r).2.1, .inl (cL, (re r).2.2.1, .inr (.inl ((re r).2.2.2))))] s.heap := h.P10 lr
      have hzr : (re r).2.2.1 ≤ 40 := (h.2.2.2 r lr).2.2.2.1
      refine lv_astore_n (lv' := [(3, .ref r), (0, .ref x), (1, .int (nI j)), (2, .int i0)]) hx hb dX2_frame_10 rfl hl (by decide) rfl (fun ls hl => ?_)
      refine lv_aload_n hx hb dX2_frame_11 rfl (lv_at hl 0 rfl) ?_
      refine lv_ifnull hx hb dX2_frame_12 ?_
      refine lv_aload_n hx hb dX2_frame_15 rfl (lv_at hl 0 rfl) ?_
      refine va_getN (D := D) (ci := 1) (v := .int ((re r).1)) (C := RX1) (T := TX1) (N := 2) hx hb hts iw_X2_frame_X1 hown hK hP 8 rfl rfl 0 (by decide) (hC.nest (a := RX2) (i := 62) (b := "SpliceRoom$Reel") (n := "kind") (d := "I") (hh := "SpliceRoom") (by decide +kernel)) (fun _ h9 => h9) rfl dX2_frame_16 ?_
      refine lv_iconst (v := 5) hx hb dX2_frame_19 (by decide) ?_
      refine lv_icmp_ne (tgt := 33) hx hb dX2_frame_20 (by decide) (fun c_20 => ?_) (fun c_20 => ?_)
      · refine lv_aload_n hx hb dX2_frame_33 rfl (lv_at hl 0 rfl) ?_
        refine lv_iload_n hx hb dX2_frame_34 rfl (lv_at hl 3 rfl) ?_
        refine rx_v (vx_runS (As := [.ref r, .int i0]) (rest := []) ⟨hx, hb, hml, hown, hts⟩ (c_X2_requireFrame l hl0 (i0 := i0) (hP.sub [8, 9] rfl) hzr) (va_cwS 2 hts gX2_frame_X2_requireFrame rfl rfl rfl (by decide +kernel) ⟨Nat.le_of_ble_eq_true rfl, Nat.le_of_ble_eq_true rfl⟩) (Pq.S hC hS hN) rfl rfl hl.1 rfl (lv_room (Nat.le_of_ble_eq_true rfl)) dX2_frame_35 ⟨Nat.le_of_ble_eq_true rfl, Nat.le_of_ble_eq_true rfl⟩) hS (fun ce q9 H9 locs hx9 hz9 hk9 hS hcell hv9 hcl => ?_) (fun locs hw hS => ?_)
        · have hx9 : ¬ okF i0 ((re r).2.2.1) := hx9
          refine vx_widen (k := 3) (n := 18) (by omega) (by omega) ?_
          exact vx_out (fun x9 h9 => (hxt x9 h9).elim) hlocks hcell hv9 hcl (fun t ht hvm => ⟨(), trivial, ⟨Or.inr ⟨j, hj, rfl, Or.inr ⟨rfl, r, eh, c_20, hx9⟩⟩, by rw [ht]; exact h.xo hk9⟩, by rw [ht]; exact hz9, fun q hs _ => by rw [ht]; exact hk9 q hs⟩) (fun z9 h9 => (hS.2.2 z9 h9).elim) (Nat.le_refl _) (Nat.le_refl _)
        · have hw : okF i0 ((re r).2.2.1) := hw
          obtain ⟨i, hi, rfl⟩ := hw
          refine lv_aload_n hx hb dX2_frame_38 rfl (lv_at hl 0 rfl) ?_
          refine va_getN (D := D) (ci := 1) (v := .ref ((re r).2.1)) (C := RX1) (T := TX1) (N := 2) hx hb hts iw_X2_frame_X1 hown hK hP 8 rfl rfl 1 (by decide) (hC.nest (a := RX2) (i := 70) (b := "SpliceRoom$Reel") (n := "row") (d := "[J") (hh := "SpliceRoom") (by decide +kernel)) (fun _ h9 => h9) rfl dX2_frame_39 ?_
          refine lv_iload_n hx hb dX2_frame_42 rfl (lv_at hl 3 rfl) ?_
          refine va_lald (D := D) hx hb hK hP 9 1 rfl rfl (vp_in_nI hi (by omega)) dX2_frame_43 ?_
          refine lv_topl (fun y_1 e9 => ?_)
          have e9 : y_1 = (re r).2.2.2 i := e9.trans (by rw [nI_clamp (by omega)])
          subst e9
          refine W.widen (k := 3) (n := 18) (by omega) (by omega) ?_
          exact vx_ret (W.lret (v := (re r).2.2.2 i) hx hb hr (fun t ht hW => ⟨⟨_, (hk, re, kn, sh, k), rfl, ⟨j, r, i, hj, rfl, eh, c_20, hi, rfl, rfl, rfl⟩, by dsimp only; rw [ht]; exact h.xo (fun _ _ => rfl)⟩, (S_mono hS (fun _ z => z.elim)).F ht⟩) (fun z9 h9 => (hS.2.2 z9 h9).elim) dX2_frame_44)
      · exact vx_throwS (cls := eS) (text := "nothing, or a core") (names := exN) (sa := sa 129) (A := nA) hx hb hl0 hown (by decide +kernel) exN_fit (hts _ lk_X2_frame_Cond_classLink_RX2_65_eS) (hts _ lk_X2_frame_Cond_initialized_eS) (hC.text (by decide +kernel)) (vx_hat (fun w hw => hts w (xw_X2_frame_eS w hw)) exS_ng hC.all) (good2 exS_ot) (hC.ust nA_N) (hC.sup nA_N) hS (by rw [hml]; exact hl.1) dX2_frame_23 dX2_frame_26 dX2_frame_27 dX2_frame_29 dX2_frame_32 (fun x9 h9 => (hxt x9 h9).elim) (by decide) (Nat.le_of_ble_eq_true rfl) (Nat.le_of_ble_eq_true rfl) (Nat.le_of_ble_eq_true rfl) hlocks (fun t hvm hz9 hk9 => ⟨(), trivial, ⟨Or.inr ⟨j, hj, rfl, Or.inl ⟨rfl, Or.inr ⟨r, eh, c_20⟩⟩⟩, h.xo hk9⟩, hz9, fun q hs _ => hk9 q hs⟩) (fun z9 h9 => (hS.2.2 z9 h9).elim) (Nat.le_of_ble_eq_true rfl) (Nat.le_of_ble_eq_true rfl)
theorem xw_X2_look_eA : ∀ w ∈ (vx_atS RX2 50 eA exN).filter goodWord, w ∈ wsX2_look := by decide +kernel
theorem iw_X2_look_X2 : ∀ w ∈ wsX20, w ∈ wsX2_look := by decide +kernel
theorem lk_X2_look_Cond_classLink_RX2_46_eA : Cond.classLink RX2 46 eA ∈ wsX2_look := by decide +kernel
theorem lk_X2_look_Cond_fieldLink_RX2_11_SpliceRoom_hooks_LSpliceRoom_Reel_ : Cond.fieldLink RX2 11 "SpliceRoom" "hooks" "[LSpliceRoom$Reel;" ∈ wsX2_look := by decide +kernel
theorem lk_X2_look_Cond_initialized_eA : Cond.initialized eA ∈ wsX2_look := by decide +kernel
set_option maxHeartbeats 4000000 in
set_option maxRecDepth 100000 in
theorem c_X2_look (l : Launch) {D : va_G} {cI cL cQ : ClassId} {N0 : Nat} {sa : Nat → Nat} {Hc : Heap} (hl0 : l.stackTraces = false) {x ah ak b0 b1 b2 b3 b4 : Nat} {F : Nat → Prop} {hk : Nat → Option Nat} {re : Nat → RE} {kn : Nat → Int32} {sh : Nat → Nat → Int32} {k : Int32} (h : RSB D cI cL cQ x ah ak b0 b1 b2 b3 b4 F (hk, re, kn, sh, k) Hc) (hNF : ∀ q, F q ∨ Hc.size ≤ q → N0 ≤ q) {h0 w0 : Int32} : vx_Met l yX2_look wsX2_look ({ frames := 7, cells := 2, slots := 12, locals := 110 }) (Pq D cI cL cQ N0 sa [.ref x, .int h0, .int w0] Hc) (va_Qi (fun (rr : Int32) (u : CS) => ∃ j1 : Nat, j1 < 6 ∧ h0 = nI j1 ∧ ((w0 = 0 ∧ rr = kOf re (hk j1)) ∨ (w0 = 1 ∧ rr = zOf re (hk j1)) ∨ (w0 = 2 ∧ rr = hOf hk (hk j1))) ∧ u = (hk, re, kn, sh, k)) (fun u t => RSB D cI cL cQ x ah ak b0 b1 b2 b3 b4 (fun q => F q ∨ Hc.size ≤ q) u t.heap) (fun q => F q ∨ Hc.size ≤ q)) (vx_X (fun (_ : Unit) => True) (fun E _ t => (E = eA ∧ ¬ (okH h0 ∧ (w0 = 0 ∨ w0 = 1 ∨ w0 = 2))) ∧ RSB D cI cL cQ x ah ak b0 b1 b2 b3 b4 (fun q => F q ∨ Hc.size ≤ q) (hk, re, kn, sh, k) t.heap) (fun q => F q ∨ Hc.size ≤ q)) 2 12 (fun q => F q ∨ Hc.size ≤ q) := by
  refine vx_ofW (cc := cX2_look) (maxL := 3) (ret := (some .int)) (by decide) rfl ?_
  intro p e s m args below meth c s₁ B hml hxt hv
  obtain ⟨rfl, hH, hC⟩ := hv
  have hx := B.exec
  have hb := B.bytes
  have hr := B.returns
  have hts := atoms_spec (ws := wsX2_look) B.pre
  have hown : s.vm.findClass RX2 = some m.cls := findClass_of_methodNamed B.named
  have hlocks := B.notSynchronized
  subst hH
  have hK := hC.K
  have hl := lv_entry ([.ref x, .int h0, .int w0]) (n := 3) (Nat.le_of_ble_eq_true rfl)
  rw [lg_entry_eq]
  generalize (lg_sl ([.ref x, .int h0, .int w0]) ++ List.replicate (3 - (lg_sl ([.ref x, .int h0, .int w0])).length) Slot.unset).toArray = ls at hl ⊢
  have hl : lv_has ls 3 [(0, .ref x), (1, .int h0), (2, .int w0)] := hl
  have hP : va_P D vwCl [(x, .inr (2, [.ref ah, .ref ak, .ref b0, .ref b1, .ref b2, .ref b3, .ref b4, .int k])), (ah, .inl (cQ, 6, .inr (.inr (.inr (.inr hk))))), (ak, .inr (0, [.int (kn 0), .int (kn 1), .int (kn 2), .int (kn 3), .int (kn 4), .int (kn 5), .int (kn 6)])), (b0, .inl (cI, 24, .inl (sh 0))), (b1, .inl (cI, 24, .inl (sh 1))), (b2, .inl (cI, 24, .inl (sh 2))), (b3, .inl (cI, 24, .inl (sh 3))), (b4, .inl (cI, 24, .inl (sh 4)))] s.heap := h.P8
  have hS : va_S nA s.heap s.heap [] := va_S.rf
  have hN : ∀ q, nA q → N0 ≤ q := nA_N
  refine lv_iload_n hx hb dX2_look_0 rfl (lv_at hl 1 rfl) ?_
  refine rx_v (vx_runS (As := [.int h0]) (rest := []) ⟨hx, hb, hml, hown, hts⟩ (c_X2_requireHook l hl0 (h0 := h0)) (va_cwS 1 hts gX2_look_X2_requireHook rfl rfl rfl (by decide +kernel) ⟨Nat.le_of_ble_eq_true rfl, Nat.le_of_ble_eq_true rfl⟩) (Pq.S hC hS hN) rfl rfl hl.1 rfl (lv_room (Nat.le_of_ble_eq_true rfl)) dX2_look_1 ⟨Nat.le_of_ble_eq_true rfl, Nat.le_of_ble_eq_true rfl⟩) hS (fun ce q9 H9 locs hx9 hz9 hk9 hS hcell hv9 hcl => ?_) (fun locs hw hS => ?_)
  · have hx9 : ¬ okH h0 := hx9
    refine vx_widen (k := 2) (n := 12) (by omega) (by omega) ?_
    exact vx_out (fun x9 h9 => (hxt x9 h9).elim) hlocks hcell hv9 hcl (fun t ht hvm => ⟨(), trivial, ⟨⟨rfl, fun h9 => hx9 h9.1⟩, by rw [ht]; exact h.xo hk9⟩, by rw [ht]; exact hz9, fun q hs _ => by rw [ht]; exact hk9 q hs⟩) (fun z9 h9 => (hS.2.2 z9 h9).elim) (Nat.le_refl _) (Nat.le_refl _)
  · have hw : okH h0 := hw
    obtain ⟨j, hj, rfl⟩ := hw
    refine lv_iload_n hx hb dX2_look_4 rfl (lv_at hl 2 rfl) ?_
    by_cases c_w0 : w0 = 0
    · subst c_w0
      refine lv_tableIn (x := 0) (off := 27) (tgt := 32) hx hb dX2_look_5 (by decide) (by decide) (by decide) (by decide) ?_
      refine lv_aload_n hx hb dX2_look_32 rfl (lv_at hl 0 rfl) ?_
      refine lv_iload_n hx hb dX2_look_33 rfl (lv_at hl 1 rfl) ?_
      refine ro_i (va_runV (As := [.int (nI j)]) (rest := []) ⟨hx, hb, hml, hown, hts⟩ (c_X2_kindOn l (j := j) h hj) (cwV 1 hts gX2_look_X2_kindOn rfl rfl rfl (by decide +kernel) ⟨Nat.le_of_ble_eq_true rfl, Nat.le_of_ble_eq_true rfl⟩) (Pq.V hC hS hN (va_recv hK hP (ci := 2) (q0 := 0) rfl rfl)) rfl rfl hl.1 rfl (lv_room (Nat.le_of_ble_eq_true rfl)) dX2_look_34 ⟨Nat.le_of_ble_eq_true rfl, Nat.le_of_ble_eq_true rfl⟩) hS (fun r_1 locs hw hS => ?_)
      have hw : r_1 = kOf re (hk j) := hw
      subst hw
      refine W.widen (k := 2) (n := 12) (by omega) (by omega) ?_
      exact vx_ret (W.iret (v := kOf re (hk j)) hx hb hr (fun t ht hW => ⟨⟨_, (hk, re, kn, sh, k), rfl, ⟨j, hj, rfl, Or.inl ⟨rfl, rfl⟩, rfl⟩, by dsimp only; rw [ht]; exact h.xo (fun _ _ => rfl)⟩, (S_mono hS (fun _ z => z.elim)).F ht⟩) (fun z9 h9 => (hS.2.2 z9 h9).elim) dX2_look_37)
    by_cases c_w1 : w0 = 1
    · subst c_w1
      refine lv_tableIn (x := 1) (off := 33) (tgt := 38) hx hb dX2_look_5 (by decide) (by decide) (by decide) (by decide) ?_
      refine lv_aload_n hx hb dX2_look_38 rfl (lv_at hl 0 rfl) ?_
      refine lv_iload_n hx hb dX2_look_39 rfl (lv_at hl 1 rfl) ?_
      refine ro_i (va_runV (As := [.int (nI j)]) (rest := []) ⟨hx, hb, hml, hown, hts⟩ (c_X2_framesOn l (j := j) h hj) (cwV 1 hts gX2_look_X2_framesOn rfl rfl rfl (by decide +kernel) ⟨Nat.le_of_ble_eq_true rfl, Nat.le_of_ble_eq_true rfl⟩) (Pq.V hC hS hN (va_recv hK hP (ci := 2) (q0 := 0) rfl rfl)) rfl rfl hl.1 rfl (lv_room (Nat.le_of_ble_eq_true rfl)) dX2_look_40 ⟨Nat.le_of_ble_eq_true rfl, Nat.le_of_ble_eq_true rfl⟩) hS (fun r_2 locs hw hS => ?_)
      have hw : r_2 = zOf re (hk j) := hw
      subst hw
      refine W.widen (k := 2) (n := 12) (by omega) (by omega) ?_
      exact vx_ret (W.iret (v := zOf re (hk j)) hx hb hr (fun t ht hW => ⟨⟨_, (hk, re, kn, sh, k), rfl, ⟨j, hj, rfl, Or.inr (Or.inl ⟨rfl, rfl⟩), rfl⟩, by dsimp only; rw [ht]; exact h.xo (fun _ _ => rfl)⟩, (S_mono hS (fun _ z => z.elim)).F ht⟩) (fun z9 h9 => (hS.2.2 z9 h9).elim) dX2_look_43)
    by_cases c_w2 : w0 = 2
    · subst c_w2
      refine lv_tableIn (x := 2) (off := 39) (tgt := 44) hx hb dX2_look_5 (by decide) (by decide) (by decide) (by decide) ?_
      refine lv_aload_n hx hb dX2_look_44 rfl (lv_at hl 0 rfl) ?_
      refine lv_aload_n hx hb dX2_look_45 rfl (lv_at hl 0 rfl) ?_
      refine va_get (D := D) (ci := 2) (v := .ref ah) (C := RX2) (T := TX2) (N := 8) hx hb hts iw_X2_look_X2 hown hK hP 0 rfl rfl 0 (by decide) (hts _ lk_X2_look_Cond_fieldLink_RX2_11_SpliceRoom_hooks_LSpliceRoom_Reel_) (fun _ h9 => h9) rfl dX2_look_46 ?_
      refine lv_iload_n hx hb dX2_look_49 rfl (lv_at hl 1 rfl) ?_
      refine va_aldq (D := D) hx hb hK hP 1 2 rfl rfl (vp_in_nI hj (by decide)) dX2_look_50 ?_
      refine W.eq (g2 := F0 m 51 ls (va_rf (hk j) :: [.ref x])) (by rw [nI_clamp (by omega)]) ?_
      refine ro_i (va_runV (As := [va_rf (hk j)]) (rest := []) ⟨hx, hb, hml, hown, hts⟩ (c_X2_holdersOf l (o := hk j) h) (cwV 1 hts gX2_look_X2_holdersOf rfl rfl rfl (by decide +kernel) ⟨Nat.le_of_ble_eq_true rfl, Nat.le_of_ble_eq_true rfl⟩) (Pq.V hC hS hN (va_recv hK hP (ci := 2) (q0 := 0) rfl rfl)) rfl rfl hl.1 rfl (lv_room (Nat.le_of_ble_eq_true rfl)) dX2_look_51 ⟨Nat.le_of_ble_eq_true rfl, Nat.le_of_ble_eq_true rfl⟩) hS (fun r_3 locs hw hS => ?_)
      have hw : r_3 = hOf hk (hk j) := hw
      subst hw
      refine W.widen (k := 2) (n := 12) (by omega) (by omega) ?_
      exact vx_ret (W.iret (v := hOf hk (hk j)) hx hb hr (fun t ht hW => ⟨⟨_, (hk, re, kn, sh, k), rfl, ⟨j, hj, rfl, Or.inr (Or.inr ⟨rfl, rfl⟩), rfl⟩, by dsimp only; rw [ht]; exact h.xo (fun _ _ => rfl)⟩, (S_mono hS (fun _ z => z.elim)).F ht⟩) (fun z9 h9 => (hS.2.2 z9 h9).elim) dX2_look_54)
    refine lv_tableOut (tgt := 55) hx hb dX2_look_5 (by have := lv_neT c_w0 (a := 0) (by decide) ; have := lv_neT c_w1 (a := 1) (by decide) ; have := lv_neT c_w2 (a := 2) (by decide); omega) (by decide) ?_
    exact vx_throwS (cls := eA) (text := "no such what") (names := exN) (sa := sa 138) (A := nA) hx hb hl0 hown (by decide +kernel) exN_fit (hts _ lk_X2_look_Cond_classLink_RX2_46_eA) (hts _ lk_X2_look_Cond_initialized_eA) (hC.text (by decide +kernel)) (vx_hat (fun w hw => hts w (xw_X2_look_eA w hw)) exA_ng hC.all) (good2 exA_ot) (hC.ust nA_N) (hC.sup nA_N) hS (by rw [hml]; exact hl.1) dX2_look_55 dX2_look_58 dX2_look_59 dX2_look_61 dX2_look_64 (fun x9 h9 => (hxt x9 h9).elim) (by decide) (Nat.le_of_ble_eq_true rfl) (Nat.le_of_ble_eq_true rfl) (Nat.le_of_ble_eq_true rfl) hlocks (fun t hvm hz9 hk9 => ⟨(), trivial, ⟨⟨rfl, fun h9 => h9.2.elim c_w0 (fun z => z.elim c_w1 c_w2)⟩, h.xo hk9⟩, hz9, fun q hs _ => hk9 q hs⟩) (fun z9 h9 => (hS.2.2 z9 h9).elim) (Nat.le_of_ble_eq_true rfl) (Nat.le_of_ble_eq_true rfl)
theorem xw_X2_count_eA : ∀ w ∈ (vx_atS RX2 50 eA exN).filter goodWord, w ∈ wsX2_count := by decide +kernel
theorem iw_X2_count_X0 : ∀ w ∈ wsX00, w ∈ wsX2_count := by decide +kernel
theorem iw_X2_count_X2 : ∀ w ∈ wsX20, w ∈ wsX2_count := by decide +kernel
theorem lk_X2_count_Cond_classLink_RX2_46_eA : Cond.classLink RX2 46 eA ∈ wsX2_count := by decide +kernel
theorem lk_X2_count_Cond_fieldLink_RX2_18_SpliceRoom_knife_LSpliceRoom_Knife_ : Cond.fieldLink RX2 18 "SpliceRoom" "knife" "LSpliceRoom$Knife;" ∈ wsX2_count := by decide +kernel
theorem lk_X2_count_Cond_fieldLink_RX2_38_SpliceRoom_steps_I_ : Cond.fieldLink RX2 38 "SpliceRoom" "steps" "I" ∈ wsX2_count := by decide +kernel
theorem lk_X2_count_Cond_initialized_eA : Cond.initialized eA ∈ wsX2_count := by decide +kernel
set_option maxHeartbeats 4000000 in
set_option maxRecDepth 100000 in
theorem c_X2_count (l : Launch) {D : va_G} {cI cL cQ : ClassId} {N0 : Nat} {sa : Nat → Nat} {Hc : Heap} (hl0 : l.stackTraces = false) {x ah ak b0 b1 b2 b3 b4 : Nat} {F : Nat → Prop} {hk : Nat → Option Nat} {re : Nat → RE} {kn : Nat → Int32} {sh : Nat → Nat → Int32} {k : Int32} (h : RSB D cI cL cQ x ah ak b0 b1 b2 b3 b4 F (hk, re, kn, sh, k) Hc) (hNF : ∀ q, F q ∨ Hc.size ≤ q → N0 ≤ q) {w0 : Int32} : vx_Met l yX2_count wsX2_count ({ frames := 6, cells := 1, slots := 6, locals := 82 }) (Pq D cI cL cQ N0 sa [.ref x, .int w0] Hc) (va_Qi (fun (rr : Int32) (u : CS) => ((w0 = 0 ∧ rr = kn 0) ∨ (w0 = 1 ∧ rr = kn 1) ∨ (w0 = 2 ∧ rr = kn 2) ∨ (w0 = 3 ∧ rr = kn 3) ∨ (w0 = 4 ∧ rr = k) ∨ (w0 = 5 ∧ rr = kn 4) ∨ (w0 = 6 ∧ rr = kn 5) ∨ (w0 = 7 ∧ rr = kn 6)) ∧ u = (hk, re, kn, sh, k)) (fun u t => RSB D cI cL cQ x ah ak b0 b1 b2 b3 b4 (fun q => F q ∨ Hc.size ≤ q) u t.heap) (fun q => F q ∨ Hc.size ≤ q)) (vx_X (fun (_ : Unit) => True) (fun E _ t => (E = eA ∧ ¬ w0 = 0 ∧ ¬ w0 = 1 ∧ ¬ w0 = 2 ∧ ¬ w0 = 3 ∧ ¬ w0 = 4 ∧ ¬ w0 = 5 ∧ ¬ w0 = 6 ∧ ¬ w0 = 7) ∧ RSB D cI cL cQ x ah ak b0 b1 b2 b3 b4 (fun q => F q ∨ Hc.size ≤ q) (hk, re, kn, sh, k) t.heap) (fun q => F q ∨ Hc.size ≤ q)) 1 6 (fun q => F q ∨ Hc.size ≤ q) := by
  refine vx_ofW (cc := cX2_count) (maxL := 2) (ret := (some .int)) (by decide) rfl ?_
  intro p e s m args below meth c s₁ B hml hxt hv
  obtain ⟨rfl, hH, hC⟩ := hv
  have hx := B.exec
  have hb := B.bytes
  have hr := B.returns
  have hts := atoms_spec (ws := wsX2_count) B.pre
  have hown : s.vm.findClass RX2 = some m.cls := findClass_of_methodNamed B.named
  have hlocks := B.notSynchronized
  subst hH
  have hK := hC.K
  have hl := lv_entry ([.ref x, .int w0]) (n := 2) (Nat.le_of_ble_eq_true rfl)
  rw [lg_entry_eq]
  generalize (lg_sl ([.ref x, .int w0]) ++ List.replicate (2 - (lg_sl ([.ref x, .int w0])).length) Slot.unset).toArray = ls at hl ⊢
  have hl : lv_has ls 2 [(0, .ref x), (1, .int w0)] := hl
  have hP : va_P D vwCl [(x, .inr (2, [.ref ah, .ref ak, .ref b0, .ref b1, .ref b2, .ref b3, .ref b4, .int k])), (ah, .inl (cQ, 6, .inr (.inr (.inr (.inr hk))))), (ak, .inr (0, [.int (kn 0), .int (kn 1), .int (kn 2), .int (kn 3), .int (kn 4), .int (kn 5), .int (kn 6)])), (b0, .inl (cI, 24, .inl (sh 0))), (b1, .inl (cI, 24, .inl (sh 1))), (b2, .inl (cI, 24, .inl (sh 2))), (b3, .inl (cI, 24, .inl (sh 3))), (b4, .inl (cI, 24, .inl (sh 4)))] s.heap := h.P8
  have hS : va_S nA s.heap s.heap [] := va_S.rf
  have hN : ∀ q, nA q → N0 ≤ q := nA_N
  refine lv_iload_n hx hb dX2_count_0 rfl (lv_at hl 1 rfl) ?_
  by_cases c_w0 : w0 = 0
  · subst c_w0
    refine lv_tableIn (x := 0) (off := 47) (tgt := 48) hx hb dX2_count_1 (by decide) (by decide) (by decide) (by decide) ?_
    refine lv_aload_n hx hb dX2_count_48 rfl (lv_at hl 0 rfl) ?_
    refine va_get (D := D) (ci := 2) (v := .ref ak) (C := RX2) (T := TX2) (N := 8) hx hb hts iw_X2_count_X2 hown hK hP 0 rfl rfl 1 (by decide) (hts _ lk_X2_count_Cond_fieldLink_RX2_18_SpliceRoom_knife_LSpliceRoom_Knife_) (fun _ h9 => h9) rfl dX2_count_49 ?_
    refine va_getN (D := D) (ci := 0) (v := .int (kn 0)) (C := RX0) (T := TX0) (N := 7) hx hb hts iw_X2_count_X0 hown hK hP 2 rfl rfl 0 (by decide) (hC.nest (a := RX2) (i := 144) (b := "SpliceRoom$Knife") (n := "wentWell") (d := "I") (hh := "SpliceRoom") (by decide +kernel)) (fun _ h9 => h9) rfl dX2_count_52 ?_
    refine W.widen (k := 1) (n := 6) (by omega) (by omega) ?_
    exact vx_ret (W.iret (v := kn 0) hx hb hr (fun t ht hW => ⟨⟨_, (hk, re, kn, sh, k), rfl, ⟨Or.inl ⟨rfl, rfl⟩, rfl⟩, by dsimp only; rw [ht]; exact h.xo (fun _ _ => rfl)⟩, (S_mono hS (fun _ z => z.elim)).F ht⟩) (fun z9 h9 => (hS.2.2 z9 h9).elim) dX2_count_55)
  by_cases c_w1 : w0 = 1
  · subst c_w1
    refine lv_tableIn (x := 1) (off := 55) (tgt := 56) hx hb dX2_count_1 (by decide) (by decide) (by decide) (by decide) ?_
    refine lv_aload_n hx hb dX2_count_56 rfl (lv_at hl 0 rfl) ?_
    refine va_get (D := D) (ci := 2) (v := .ref ak) (C := RX2) (T := TX2) (N := 8) hx hb hts iw_X2_count_X2 hown hK hP 0 rfl rfl 1 (by decide) (hts _ lk_X2_count_Cond_fieldLink_RX2_18_SpliceRoom_knife_LSpliceRoom_Knife_) (fun _ h9 => h9) rfl dX2_count_57 ?_
    refine va_getN (D := D) (ci := 0) (v := .int (kn 1)) (C := RX0) (T := TX0) (N := 7) hx hb hts iw_X2_count_X0 hown hK hP 2 rfl rfl 1 (by decide) (hC.nest (a := RX2) (i := 147) (b := "SpliceRoom$Knife") (n := "laid") (d := "I") (hh := "SpliceRoom") (by decide +kernel)) (fun _ h9 => h9) rfl dX2_count_60 ?_
    refine W.widen (k := 1) (n := 6) (by omega) (by omega) ?_
    exact vx_ret (W.iret (v := kn 1) hx hb hr (fun t ht hW => ⟨⟨_, (hk, re, kn, sh, k), rfl, ⟨Or.inr (Or.inl ⟨rfl, rfl⟩), rfl⟩, by dsimp only; rw [ht]; exact h.xo (fun _ _ => rfl)⟩, (S_mono hS (fun _ z => z.elim)).F ht⟩) (fun z9 h9 => (hS.2.2 z9 h9).elim) dX2_count_63)
  by_cases c_w2 : w0 = 2
  · subst c_w2
    refine lv_tableIn (x := 2) (off := 63) (tgt := 64) hx hb dX2_count_1 (by decide) (by decide) (by decide) (by decide) ?_
    refine lv_aload_n hx hb dX2_count_64 rfl (lv_at hl 0 rfl) ?_
    refine va_get (D := D) (ci := 2) (v := .ref ak) (C := RX2) (T := TX2) (N := 8) hx hb hts iw_X2_count_X2 hown hK hP 0 rfl rfl 1 (by decide) (hts _ lk_X2_count_Cond_fieldLink_RX2_18_SpliceRoom_knife_LSpliceRoom_Knife_) (fun _ h9 => h9) rfl dX2_count_65 ?_
    refine va_getN (D := D) (ci := 0) (v := .int (kn 2)) (C := RX0) (T := TX0) (N := 7) hx hb hts iw_X2_count_X0 hown hK hP 2 rfl rfl 2 (by decide) (hC.nest (a := RX2) (i := 150) (b := "SpliceRoom$Knife") (n := "jams") (d := "I") (hh := "SpliceRoom") (by decide +kernel)) (fun _ h9 => h9) rfl dX2_count_68 ?_
    refine W.widen (k := 1) (n := 6) (by omega) (by omega) ?_
    exact vx_ret (W.iret (v := kn 2) hx hb hr (fun t ht hW => ⟨⟨_, (hk, re, kn, sh, k), rfl, ⟨Or.inr (Or.inr (Or.inl ⟨rfl, rfl⟩)), rfl⟩, by dsimp only; rw [ht]; exact h.xo (fun _ _ => rfl)⟩, (S_mono hS (fun _ z => z.elim)).F ht⟩) (fun z9 h9 => (hS.2.2 z9 h9).elim) dX2_count_71)
  by_cases c_w3 : w0 = 3
  · subst c_w3
    refine lv_tableIn (x := 3) (off := 71) (tgt := 72) hx hb dX2_count_1 (by decide) (by decide) (by decide) (by decide) ?_
    refine lv_aload_n hx hb dX2_count_72 rfl (lv_at hl 0 rfl) ?_
    refine va_get (D := D) (ci := 2) (v := .ref ak) (C := RX2) (T := TX2) (N := 8) hx hb hts iw_X2_count_X2 hown hK hP 0 rfl rfl 1 (by decide) (hts _ lk_X2_count_Cond_fieldLink_RX2_18_SpliceRoom_knife_LSpliceRoom_Knife_) (fun _ h9 => h9) rfl dX2_count_73 ?_
    refine va_getN (D := D) (ci := 0) (v := .int (kn 3)) (C := RX0) (T := TX0) (N := 7) hx hb hts iw_X2_count_X0 hown hK hP 2 rfl rfl 3 (by decide) (hC.nest (a := RX2) (i := 153) (b := "SpliceRoom$Knife") (n := "jamsInRow") (d := "I") (hh := "SpliceRoom") (by decide +kernel)) (fun _ h9 => h9) rfl dX2_count_76 ?_
    refine W.widen (k := 1) (n := 6) (by omega) (by omega) ?_
    exact vx_ret (W.iret (v := kn 3) hx hb hr (fun t ht hW => ⟨⟨_, (hk, re, kn, sh, k), rfl, ⟨Or.inr (Or.inr (Or.inr (Or.inl ⟨rfl, rfl⟩))), rfl⟩, by dsimp only; rw [ht]; exact h.xo (fun _ _ => rfl)⟩, (S_mono hS (fun _ z => z.elim)).F ht⟩) (fun z9 h9 => (hS.2.2 z9 h9).elim) dX2_count_79)
  by_cases c_w4 : w0 = 4
  · subst c_w4
    refine lv_tableIn (x := 4) (off := 79) (tgt := 80) hx hb dX2_count_1 (by decide) (by decide) (by decide) (by decide) ?_
    refine lv_aload_n hx hb dX2_count_80 rfl (lv_at hl 0 rfl) ?_
    refine va_get (D := D) (ci := 2) (v := .int k) (C := RX2) (T := TX2) (N := 8) hx hb hts iw_X2_count_X2 hown hK hP 0 rfl rfl 7 (by decide) (hts _ lk_X2_count_Cond_fieldLink_RX2_38_SpliceRoom_steps_I_) (fun _ h9 => h9) rfl dX2_count_81 ?_
    refine W.widen (k := 1) (n := 6) (by omega) (by omega) ?_
    exact vx_ret (W.iret (v := k) hx hb hr (fun t ht hW => ⟨⟨_, (hk, re, kn, sh, k), rfl, ⟨Or.inr (Or.inr (Or.inr (Or.inr (Or.inl ⟨rfl, rfl⟩)))), rfl⟩, by dsimp only; rw [ht]; exact h.xo (fun _ _ => rfl)⟩, (S_mono hS (fun _ z => z.elim)).F ht⟩) (fun z9 h9 => (hS.2.2 z9 h9).elim) dX2_count_84)
  by_cases c_w5 : w0 = 5
  · subst c_w5
    refine lv_tableIn (x := 5) (off := 84) (tgt := 85) hx hb dX2_count_1 (by decide) (by decide) (by decide) (by decide) ?_
    refine lv_aload_n hx hb dX2_count_85 rfl (lv_at hl 0 rfl) ?_
    refine va_get (D := D) (ci := 2) (v := .ref ak) (C := RX2) (T := TX2) (N := 8) hx hb hts iw_X2_count_X2 hown hK hP 0 rfl rfl 1 (by decide) (hts _ lk_X2_count_Cond_fieldLink_RX2_18_SpliceRoom_knife_LSpliceRoom_Knife_) (fun _ h9 => h9) rfl dX2_count_86 ?_
    refine va_getN (D := D) (ci := 0) (v := .int (kn 4)) (C := RX0) (T := TX0) (N := 7) hx hb hts iw_X2_count_X0 hown hK hP 2 rfl rfl 4 (by decide) (hC.nest (a := RX2) (i := 156) (b := "SpliceRoom$Knife") (n := "far") (d := "I") (hh := "SpliceRoom") (by decide +kernel)) (fun _ h9 => h9) rfl dX2_count_89 ?_
    refine W.widen (k := 1) (n := 6) (by omega) (by omega) ?_
    exact vx_ret (W.iret (v := kn 4) hx hb hr (fun t ht hW => ⟨⟨_, (hk, re, kn, sh, k), rfl, ⟨Or.inr (Or.inr (Or.inr (Or.inr (Or.inr (Or.inl ⟨rfl, rfl⟩))))), rfl⟩, by dsimp only; rw [ht]; exact h.xo (fun _ _ => rfl)⟩, (S_mono hS (fun _ z => z.elim)).F ht⟩) (fun z9 h9 => (hS.2.2 z9 h9).elim) dX2_count_92)
  by_cases c_w6 : w0 = 6
  · subst c_w6
    refine lv_tableIn (x := 6) (off := 92) (tgt := 93) hx hb dX2_count_1 (by decide) (by decide) (by decide) (by decide) ?_
    refine lv_aload_n hx hb dX2_count_93 rfl (lv_at hl 0 rfl) ?_
    refine va_get (D := D) (ci := 2) (v := .ref ak) (C := RX2) (T := TX2) (N := 8) hx hb hts iw_X2_count_X2 hown hK hP 0 rfl rfl 1 (by decide) (hts _ lk_X2_count_Cond_fieldLink_RX2_18_SpliceRoom_knife_LSpliceRoom_Knife_) (fun _ h9 => h9) rfl dX2_count_94 ?_
    refine va_getN (D := D) (ci := 0) (v := .int (kn 5)) (C := RX0) (T := TX0) (N := 7) hx hb hts iw_X2_count_X0 hown hK hP 2 rfl rfl 5 (by decide) (hC.nest (a := RX2) (i := 159) (b := "SpliceRoom$Knife") (n := "told") (d := "I") (hh := "SpliceRoom") (by decide +kernel)) (fun _ h9 => h9) rfl dX2_count_97 ?_
    refine W.widen (k := 1) (n := 6) (by omega) (by omega) ?_
    exact vx_ret (W.iret (v := kn 5) hx hb hr (fun t ht hW => ⟨⟨_, (hk, re, kn, sh, k), rfl, ⟨Or.inr (Or.inr (Or.inr (Or.inr (Or.inr (Or.inr (Or.inl ⟨rfl, rfl⟩)))))), rfl⟩, by dsimp only; rw [ht]; exact h.xo (fun _ _ => rfl)⟩, (S_mono hS (fun _ z => z.elim)).F ht⟩) (fun z9 h9 => (hS.2.2 z9 h9).elim) dX2_count_100)
  by_cases c_w7 : w0 = 7
  · subst c_w7
    refine lv_tableIn (x := 7) (off := 100) (tgt := 101) hx hb dX2_count_1 (by decide) (by decide) (by decide) (by decide) ?_
    refine lv_aload_n hx hb dX2_count_101 rfl (lv_at hl 0 rfl) ?_
    refine va_get (D := D) (ci := 2) (v := .ref ak) (C := RX2) (T := TX2) (N := 8) hx hb hts iw_X2_count_X2 hown hK hP 0 rfl rfl 1 (by decide) (hts _ lk_X2_count_Cond_fieldLink_RX2_18_SpliceRoom_knife_LSpliceRoom_Knife_) (fun _ h9 => h9) rfl dX2_count_102 ?_
    refine va_getN (D := D) (ci := 0) (v := .int (kn 6)) (C := RX0) (T := TX0) (N := 7) hx hb hts iw_X2_count_X0 hown hK hP 2 rfl rfl 6 (by decide) (hC.nest (a := RX2) (i := 126) (b := "SpliceRoom$Knife") (n := "grindings") (d := "I") (hh := "SpliceRoom") (by decide +kernel)) (fun _ h9 => h9) rfl dX2_count_105 ?_
    refine W.widen (k := 1) (n := 6) (by omega) (by omega) ?_
    exact vx_ret (W.iret (v := kn 6) hx hb hr (fun t ht hW => ⟨⟨_, (hk, re, kn, sh, k), rfl, ⟨Or.inr (Or.inr (Or.inr (Or.inr (Or.inr (Or.inr (Or.inr (⟨rfl, rfl⟩))))))), rfl⟩, by dsimp only; rw [ht]; exact h.xo (fun _ _ => rfl)⟩, (S_mono hS (fun _ z => z.elim)).F ht⟩) (fun z9 h9 => (hS.2.2 z9 h9).elim) dX2_count_108)
  refine lv_tableOut (tgt := 109) hx hb dX2_count_1 (by have := lv_neT c_w0 (a := 0) (by decide) ; have := lv_neT c_w1 (a := 1) (by decide) ; have := lv_neT c_w2 (a := 2) (by decide) ; have := lv_neT c_w3 (a := 3) (by decide) ; have := lv_neT c_w4 (a := 4) (by decide) ; have := lv_neT c_w5 (a := 5) (by decide) ; have := lv_neT c_w6 (a := 6) (by decide) ; have := lv_neT c_w7 (a := 7) (by decide); omega) (by decide) ?_
  exact vx_throwS (cls := eA) (text := "no such what") (names := exN) (sa := sa 138) (A := nA) hx hb hl0 hown (by decide +kernel) exN_fit (hts _ lk_X2_count_Cond_classLink_RX2_46_eA) (hts _ lk_X2_count_Cond_initialized_eA) (hC.text (by decide +kernel)) (vx_hat (fun w hw => hts w (xw_X2_count_eA w hw)) exA_ng hC.all) (good2 exA_ot) (hC.ust nA_N) (hC.sup nA_N) hS (by rw [hml]; exact hl.1) dX2_count_109 dX2_count_112 dX2_count_113 dX2_count_115 dX2_count_118 (fun x9 h9 => (hxt x9 h9).elim) (by decide) (Nat.le_of_ble_eq_true rfl) (Nat.le_of_ble_eq_true rfl) (Nat.le_of_ble_eq_true rfl) hlocks (fun t hvm hz9 hk9 => ⟨(), trivial, ⟨⟨rfl, c_w0, c_w1, c_w2, c_w3, c_w4, c_w5, c_w6, c_w7⟩, h.xo hk9⟩, hz9, fun q hs _ => hk9 q hs⟩) (fun z9 h9 => (hS.2.2 z9 h9).elim) (Nat.le_of_ble_eq_true rfl) (Nat.le_of_ble_eq_true rfl)
/-- a row's sum -/
def sumF (f : Nat → Int64) : Nat → Int64
  | 0 => 7
  | n + 1 => 31 * sumF f n + f n
def sOf (re : Nat → RE) (o : Option Nat) : Int64 := match o with
  | none => 7
  | some r => sumF (re r).2.2.2 (re r).2.2.1
theorem iw_X2_sum_X1 : ∀ w ∈ wsX10, w ∈ wsX2_sum := by decide +kernel
theorem iw_X2_sum_X2 : ∀ w ∈ wsX20, w ∈ wsX2_sum := by decide +kernel
theorem lk_X2_sum_Cond_constantLong_RX2_140_7 : Cond.constantLong RX2 140 7 ∈ wsX2_sum := by decide +kernel
theorem lk_X2_sum_Cond_constantLong_RX2_142_31 : Cond.constantLong RX2 142 31 ∈ wsX2_sum := by decide +kernel
theorem lk_X2_sum_Cond_fieldLink_RX2_11_SpliceRoom_hooks_LSpliceRoom_Reel_ : Cond.fieldLink RX2 11 "SpliceRoom" "hooks" "[LSpliceRoom$Reel;" ∈ wsX2_sum := by decide +kernel
set_option maxHeartbeats 4000000 in
set_option maxRecDepth 100000 in
theorem c_X2_sum (l : Launch) {D : va_G} {cI cL cQ : ClassId} {N0 : Nat} {sa : Nat → Nat} {Hc : Heap} (hl0 : l.stackTraces = false) {x ah ak b0 b1 b2 b3 b4 : Nat} {F : Nat → Prop} {hk : Nat → Option Nat} {re : Nat → RE} {kn : Nat → Int32} {sh : Nat → Nat → Int32} {k : Int32} (h : RSB D cI cL cQ x ah ak b0 b1 b2 b3 b4 F (hk, re, kn, sh, k) Hc) (hNF : ∀ q, F q ∨ Hc.size ≤ q → N0 ≤ q) {h0 : Int32} : vx_Met l yX2_sum wsX2_sum ({ frames := 7, cells := 1, slots := 6, locals := 110 }) (Pq D cI cL cQ N0 sa [.ref x, .int h0] Hc) (va_Ql (fun (rr : Int64) (u : CS) => ∃ j1 : Nat, j1 < 6 ∧ h0 = nI j1 ∧ rr = sOf re (hk j1) ∧ u = (hk, re, kn, sh, k)) (fun u t => RSB D cI cL cQ x ah ak b0 b1 b2 b3 b4 (fun q => F q ∨ Hc.size ≤ q) u t.heap) (fun q => F q ∨ Hc.size ≤ q)) (vx_X (fun (_ : Unit) => True) (fun E _ t => (E = eA ∧ ¬ okH h0) ∧ RSB D cI cL cQ x ah ak b0 b1 b2 b3 b4 (fun q => F q ∨ Hc.size ≤ q) (hk, re, kn, sh, k) t.heap) (fun q => F q ∨ Hc.size ≤ q)) 1 6 (fun q => F q ∨ Hc.size ≤ q) := by
  refine vx_ofW (cc := cX2_sum) (maxL := 6) (ret := (some .long)) (by decide) rfl ?_
  intro p e s m args below meth c s₁ B hml hxt hv
  obtain ⟨rfl, hH, hC⟩ := hv
  have hx := B.exec
  have hb := B.bytes
  have hr := B.returns
  have hts := atoms_spec (ws := wsX2_sum) B.pre
  have hown : s.vm.findClass RX2 = some m.cls := findClass_of_methodNamed B.named
  have hlocks := B.notSynchronized
  subst hH
  have hK := hC.K
  have hl := lv_entry ([.ref x, .int h0]) (n := 6) (Nat.le_of_ble_eq_true rfl)
  rw [lg_entry_eq]
  generalize (lg_sl ([.ref x, .int h0]) ++ List.replicate (6 - (lg_sl ([.ref x, .int h0])).length) Slot.unset).toArray = ls at hl ⊢
  have hl : lv_has ls 6 [(0, .ref x), (1, .int h0)] := hl
  have hP : va_P D vwCl [(x, .inr (2, [.ref ah, .ref ak, .ref b0, .ref b1, .ref b2, .ref b3, .ref b4, .int k])), (ah, .inl (cQ, 6, .inr (.inr (.inr (.inr hk))))), (ak, .inr (0, [.int (kn 0), .int (kn 1), .int (kn 2), .int (kn 3), .int (kn 4), .int (kn 5), .int (kn 6)])), (b0, .inl (cI, 24, .inl (sh 0))), (b1, .inl (cI, 24, .inl (sh 1))), (b2, .inl (cI, 24, .inl (sh 2))), (b3, .inl (cI, 24, .inl (sh 3))), (b4, .inl (cI, 24, .inl (sh 4)))] s.heap := h.P8
  have hS : va_S nA s.heap s.heap [] := va_S.rf
  have hN : ∀ q, nA q → N0 ≤ q := nA_N
  refine lv_iload_n hx hb dX2_sum_0 rfl (lv_at hl 1 rfl) ?_
  refine rx_v (vx_runS (As := [.int h0]) (rest := []) ⟨hx, hb, hml, hown, hts⟩ (c_X2_requireHook l hl0 (h0 := h0)) (va_cwS 1 hts gX2_sum_X2_requireHook rfl rfl rfl (by decide +kernel) ⟨Nat.le_of_ble_eq_true rfl, Nat.le_of_ble_eq_true rfl⟩) (Pq.S hC hS hN) rfl rfl hl.1 rfl (lv_room (Nat.le_of_ble_eq_true rfl)) dX2_sum_1 ⟨Nat.le_of_ble_eq_true rfl, Nat.le_of_ble_eq_true rfl⟩) hS (fun ce q9 H9 locs hx9 hz9 hk9 hS hcell hv9 hcl => ?_) (fun locs hw hS => ?_)
  · have hx9 : ¬ okH h0 := hx9
    refine vx_widen (k := 1) (n := 6) (by omega) (by omega) ?_
    exact vx_out (fun x9 h9 => (hxt x9 h9).elim) hlocks hcell hv9 hcl (fun t ht hvm => ⟨(), trivial, ⟨⟨rfl, hx9⟩, by rw [ht]; exact h.xo hk9⟩, by rw [ht]; exact hz9, fun q hs _ => by rw [ht]; exact hk9 q hs⟩) (fun z9 h9 => (hS.2.2 z9 h9).elim) (Nat.le_refl _) (Nat.le_refl _)
  · have hw : okH h0 := hw
    obtain ⟨j, hj, rfl⟩ := hw
    refine lv_aload_n hx hb dX2_sum_4 rfl (lv_at hl 0 rfl) ?_
    refine va_get (D := D) (ci := 2) (v := .ref ah) (C := RX2) (T := TX2) (N := 8) hx hb hts iw_X2_sum_X2 hown hK hP 0 rfl rfl 0 (by decide) (hts _ lk_X2_sum_Cond_fieldLink_RX2_11_SpliceRoom_hooks_LSpliceRoom_Reel_) (fun _ h9 => h9) rfl dX2_sum_5 ?_
    refine lv_iload_n hx hb dX2_sum_8 rfl (lv_at hl 1 rfl) ?_
    refine va_aldq (D := D) hx hb hK hP 1 2 rfl rfl (vp_in_nI hj (by decide)) dX2_sum_9 ?_
    refine W.eq (g2 := F0 m 10 ls (va_rf (hk j) :: [])) (by rw [nI_clamp (by omega)]) ?_
    cases eh : hk j with
    | none =>
      refine lv_astore_nN (lv' := [(2, .null), (0, .ref x), (1, .int (nI j))]) hx hb dX2_sum_10 rfl hl (by decide) rfl (fun ls hl => ?_)
      refine lv_ldc2 (v := 7) hx hb hown (hts _ lk_X2_sum_Cond_constantLong_RX2_140_7) dX2_sum_11 ?_
      refine lv_lstore_n (lv' := [(3, .long 7), (2, .null), (0, .ref x), (1, .int (nI j))]) hx hb dX2_sum_14 rfl hl (by decide) rfl (fun ls hl => ?_)
      refine lv_aload_nN hx hb dX2_sum_15 rfl (lv_at hl 1 rfl) ?_
      refine lv_ifnullN (tgt := 52) hx hb dX2_sum_16 (by decide) ?_
      refine lv_lload_n hx hb dX2_sum_52 rfl (lv_at hl 0 rfl) ?_
      exact vx_ret (W.lret (v := 7) hx hb hr (fun t ht hW => ⟨⟨_, (hk, re, kn, sh, k), rfl, ⟨j, hj, rfl, by rw [eh]; rfl, rfl⟩, by dsimp only; rw [ht]; exact h.xo (fun _ _ => rfl)⟩, (S_mono hS (fun _ z => z.elim)).F ht⟩) (fun z9 h9 => (hS.2.2 z9 h9).elim) dX2_sum_53)
    | some r =>
      have lr : Live hk r := ⟨j, hj, eh⟩
      have hP : va_P D vwCl [(x, .inr (2, [.ref ah, .ref ak, .ref b0, .ref b1, .ref b2, .ref b3, .ref b4, .int k])), (ah, .inl (cQ, 6, .inr (.inr (.inr (.inr hk))))), (ak, .inr (0, [.int (kn 0), .int (kn 1), .int (kn 2), .int (kn 3), .int (kn 4), .int (kn 5), .int (kn 6)])), (b0, .inl (cI, 24, .inl (sh 0))), (b1, .inl (cI, 24, .inl (sh 1))), (b2, .inl (cI, 24, .inl (sh 2))), (b3, .inl (cI, 24, .inl (sh 3))), (b4, .inl (cI, 24, .inl (sh 4))), (r, .inr (1, [.int ((re r).1), .ref ((re r).2.1)])), ((re r).2.1, .inl (cL, (re r).2.2.1, .inr (.inl ((re r).2.2.2))))] s.heap := h.P10 lr
      have hzr : (re r).2.2.1 ≤ 40 := (h.2.2.2 r lr).2.2.2.1
      refine lv_astore_n (lv' := [(2, .ref r), (0, .ref x), (1, .int (nI j))]) hx hb dX2_sum_10 rfl hl (by decide) rfl (fun ls hl => ?_)
      refine lv_ldc2 (v := 7) hx hb hown (hts _ lk_X2_sum_Cond_constantLong_RX2_140_7) dX2_sum_11 ?_
      refine lv_lstore_n (lv' := [(3, .long 7), (2, .ref r), (0, .ref x), (1, .int (nI j))]) hx hb dX2_sum_14 rfl hl (by decide) rfl (fun ls hl => ?_)
      refine lv_aload_n hx hb dX2_sum_15 rfl (lv_at hl 1 rfl) ?_
      refine lv_ifnull hx hb dX2_sum_16 ?_
      refine lv_iconst (v := 0) hx hb dX2_sum_19 (by decide) ?_
      refine lv_istore (lv' := [(5, .int 0), (3, .long 7), (2, .ref r), (0, .ref x), (1, .int (nI j))]) hx hb dX2_sum_20 hl (by decide) rfl (fun ls hl => ?_)
      have loop : ∀ (n i : Nat) (locs : List Loc) (ls : Array Slot), i ≤ (re r).2.2.1 → (re r).2.2.1 + 1 ≤ i + n → lv_has ls 6 [(5, .int (nI i)), (3, .long (sumF (re r).2.2.2 i)), (2, .ref r), (0, .ref x), (1, .int (nI j))] → va_S nA s.heap s.heap locs → W p l e (headSpec wsX2_sum ({ frames := 7, cells := 1, slots := 6, locals := 110 })).room s m ([.ref x, .int (nI j)] : List Value).toArray below meth c s.heap locs 1 6 (vx_MQ below (va_Ql (fun (rr : Int64) (u : CS) => ∃ j1 : Nat, j1 < 6 ∧ (nI j) = nI j1 ∧ rr = sOf re (hk j1) ∧ u = (hk, re, kn, sh, k)) (fun u t => RSB D cI cL cQ x ah ak b0 b1 b2 b3 b4 (fun q => F q ∨ s.heap.size ≤ q) u t.heap) (fun q => F q ∨ s.heap.size ≤ q)) (vx_X (fun (_ : Unit) => True) (fun E _ t => (E = eA ∧ ¬ okH (nI j)) ∧ RSB D cI cL cQ x ah ak b0 b1 b2 b3 b4 (fun q => F q ∨ s.heap.size ≤ q) (hk, re, kn, sh, k) t.heap) (fun q => F q ∨ s.heap.size ≤ q)) ([.ref x, .int (nI j)] : List Value).toArray s 1 6 (fun q => F q ∨ s.heap.size ≤ q)) (F0 m 22 ls []) := by
        intro n
        induction n with
        | zero => intro i locs ls h1 h2; exact absurd h2 (by omega)
        | succ n ih =>
          intro i locs ls hi hn hl hS
          refine lv_iload hx hb dX2_sum_22 (lv_at hl 0 rfl) ?_
          refine lv_aload_n hx hb dX2_sum_24 rfl (lv_at hl 2 rfl) ?_
          refine va_getN (D := D) (ci := 1) (v := .ref ((re r).2.1)) (C := RX1) (T := TX1) (N := 2) hx hb hts iw_X2_sum_X1 hown hK hP 8 rfl rfl 1 (by decide) (hC.nest (a := RX2) (i := 70) (b := "SpliceRoom$Reel") (n := "row") (d := "[J") (hh := "SpliceRoom") (by decide +kernel)) (fun _ h9 => h9) rfl dX2_sum_25 ?_
          refine va_alen (D := D) (v := nI ((re r).2.2.1)) hx hb hK hP 9 1 rfl rfl rfl dX2_sum_28 ?_
          refine lv_icmp_ge (tgt := 52) hx hb dX2_sum_29 (by decide) (fun c_29 => ?_) (fun c_29 => ?_)
          · have e6 : i = (re r).2.2.1 := by have := (nI_leI (a := (re r).2.2.1) (b := i) (by omega) (by omega)).mp c_29; omega
            subst e6
            refine lv_lload_n hx hb dX2_sum_52 rfl (lv_at hl 1 rfl) ?_
            exact vx_ret (W.lret (v := sumF (re r).2.2.2 ((re r).2.2.1)) hx hb hr (fun t ht hW => ⟨⟨_, (hk, re, kn, sh, k), rfl, ⟨j, hj, rfl, by rw [eh]; rfl, rfl⟩, by dsimp only; rw [ht]; exact h.xo (fun _ _ => rfl)⟩, (S_mono hS (fun _ z => z.elim)).F ht⟩) (fun z9 h9 => (hS.2.2 z9 h9).elim) dX2_sum_53)
          · have hlt : i < (re r).2.2.1 := Nat.lt_of_not_le (fun h => c_29 (nI_le h (by omega)))
            refine lv_ldc2 (v := 31) hx hb hown (hts _ lk_X2_sum_Cond_constantLong_RX2_142_31) dX2_sum_32 ?_
            refine lv_lload_n hx hb dX2_sum_35 rfl (lv_at hl 1 rfl) ?_
            refine lv_lmul hx hb dX2_sum_36 ?_
            refine lv_aload_n hx hb dX2_sum_37 rfl (lv_at hl 2 rfl) ?_
            refine va_getN (D := D) (ci := 1) (v := .ref ((re r).2.1)) (C := RX1) (T := TX1) (N := 2) hx hb hts iw_X2_sum_X1 hown hK hP 8 rfl rfl 1 (by decide) (hC.nest (a := RX2) (i := 70) (b := "SpliceRoom$Reel") (n := "row") (d := "[J") (hh := "SpliceRoom") (by decide +kernel)) (fun _ h9 => h9) rfl dX2_sum_38 ?_
            refine lv_iload hx hb dX2_sum_41 (lv_at hl 0 rfl) ?_
            refine va_lald (D := D) hx hb hK hP 9 1 rfl rfl (vp_in_nI hlt (by omega)) dX2_sum_43 ?_
            refine lv_topl (fun y_1 e9 => ?_)
            have e9 : y_1 = (re r).2.2.2 i := e9.trans (by rw [nI_clamp (by omega)])
            subst e9
            refine lv_ladd hx hb dX2_sum_44 ?_
            refine lv_lstore_n (lv' := [(3, .long ((31 * (sumF (re r).2.2.2 i)) + ((re r).2.2.2 i))), (5, .int (nI i)), (2, .ref r), (0, .ref x), (1, .int (nI j))]) hx hb dX2_sum_45 rfl hl (by decide) rfl (fun ls hl => ?_)
            refine lv_iinc (v := nI (i + 1)) (lv' := [(5, .int (nI (i + 1))), (3, .long ((31 * (sumF (re r).2.2.2 i)) + ((re r).2.2.2 i))), (2, .ref r), (0, .ref x), (1, .int (nI j))]) hx hb dX2_sum_46 hl (k := 1) rfl (nI_1 i) (by decide) rfl (fun ls hl => ?_)
            refine lv_goto (tgt := 22) hx hb dX2_sum_49 (by decide) ?_
            exact ih (i + 1) _ _ (by omega) (by omega) (lv_sub hl [0, 1, 2, 3, 4] rfl) hS
      exact loop ((re r).2.2.1 + 1) 0 _ _ (by omega) (by omega) (lv_sub hl [0, 1, 2, 3, 4] rfl) hS
end CRead
