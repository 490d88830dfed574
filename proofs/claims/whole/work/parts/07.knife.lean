section CKnife
theorem K_idL {D : va_G} {cI cL cQ cA : ClassId} {s : State} (h0 : va_K D vwCl [(cI, .int), (cL, .long), (cQ, .object RX1)] s) (h : va_K D vwCl ([(cI, .int), (cL, .long), (cQ, .object RX1)] ++ [(cA, .long)]) s) : cL = cA := by
  have h1 : s.vm.findClass ("[" ++ FieldType.long.toString) = some cL := (h0.2 1 _ rfl).2
  have h2 : s.vm.findClass ("[" ++ FieldType.long.toString) = some cA := (h.2 3 _ rfl).2
  exact Option.some.inj (h1.symm.trans h2)
theorem K_idI {D : va_G} {cI cL cQ cA : ClassId} {s : State} (h0 : va_K D vwCl [(cI, .int), (cL, .long), (cQ, .object RX1)] s) (h : va_K D vwCl ([(cI, .int), (cL, .long), (cQ, .object RX1)] ++ [(cA, .int)]) s) : cI = cA := by
  have h1 : s.vm.findClass ("[" ++ FieldType.int.toString) = some cI := (h0.2 0 _ rfl).2
  have h2 : s.vm.findClass ("[" ++ FieldType.int.toString) = some cA := (h.2 3 _ rfl).2
  exact Option.some.inj (h1.symm.trans h2)
/-- the first frames of a new reel -/
abbrev fr0 (k : Int32) : Int64 := if k = 3 ∨ k = 4 then -1 else 0
theorem iw_X1_init_X1 : ∀ w ∈ wsX10, w ∈ wsX1_init := by decide +kernel
theorem lk_X1_init_Cond_arrayClass_long : Cond.arrayClass .long ∈ wsX1_init := by decide +kernel
theorem lk_X1_init_Cond_code_objectInit_0xb1_1_none : Cond.code objectInit ⟨#[0xb1]⟩ 1 none ∈ wsX1_init := by decide +kernel
theorem lk_X1_init_Cond_constantLong_RX1_19_1_ : Cond.constantLong RX1 19 (-1) ∈ wsX1_init := by decide +kernel
theorem lk_X1_init_Cond_fieldLink_RX1_15_SpliceRoom_Reel_row_J_ : Cond.fieldLink RX1 15 "SpliceRoom$Reel" "row" "[J" ∈ wsX1_init := by decide +kernel
theorem lk_X1_init_Cond_fieldLink_RX1_9_SpliceRoom_Reel_kind_I_ : Cond.fieldLink RX1 9 "SpliceRoom$Reel" "kind" "I" ∈ wsX1_init := by decide +kernel
theorem lk_X1_init_Cond_instanceMethod_objectInit : Cond.instanceMethod objectInit ∈ wsX1_init := by decide +kernel
theorem lk_X1_init_Cond_methodLink_RX1_3_objectInit : Cond.methodLink RX1 3 objectInit ∈ wsX1_init := by decide +kernel
set_option maxHeartbeats 4000000 in
set_option maxRecDepth 100000 in
theorem c_X1_init (l : Launch) {D : va_G} {cI cL cQ : ClassId} {N0 : Nat} {sa : Nat → Nat} {Hc : Heap} {h0 z : Nat} {kd : Int32} (hP : va_P D vwCl [(h0, .inr (1, [.int 0, .null]))] Hc) (hD0 : va_D nT [(h0, .inr (1, [.int 0, .null]))]) (hN : ∀ q, va_A [(h0, .inr (1, [.int 0, .null]))] Hc.size q → N0 ≤ q) (hz : z ≤ 40) : Met l yX1_init wsX1_init ({ frames := 1, cells := 1, slots := 40, locals := 12 }) (Pq D cI cL cQ N0 sa [.ref h0, .int kd, .int (nI z)] Hc) (va_Qv (fun (u : Nat × (Nat → Int64)) => ∀ j, j < z → u.2 j = fr0 kd) (fun (u : Nat × (Nat → Int64)) (t : State) => va_P D vwCl [(h0, .inr (1, [.int kd, .ref u.1])), (u.1, .inl (cL, z, .inr (.inl u.2)))] t.heap ∧ va_D (va_A [(h0, .inr (1, [.int 0, .null]))] Hc.size) [(h0, .inr (1, [.int kd, .ref u.1])), (u.1, .inl (cL, z, .inr (.inl u.2)))]) (va_A [(h0, .inr (1, [.int 0, .null]))] Hc.size)) 1 40 (va_A [(h0, .inr (1, [.int 0, .null]))] Hc.size) := by
  refine Met.ofW (cc := cX1_init) (maxL := 4) (ret := none) (by decide) rfl ?_
  intro p e s m args below meth c s₁ B hml hv
  obtain ⟨rfl, hH, hC⟩ := hv
  have hx := B.exec
  have hb := B.bytes
  have hr := B.returns
  have hts := atoms_spec (ws := wsX1_init) B.pre
  have hown : s.vm.findClass RX1 = some m.cls := findClass_of_methodNamed B.named
  have hlocks := B.notSynchronized
  have hin : meth.name = "<init>" := (name_of_methodNamed B.named B.method).1
  subst hH
  have hK := hC.K
  have hl := lv_entry ([.ref h0, .int kd, .int (nI z)]) (n := 4) (Nat.le_of_ble_eq_true rfl)
  rw [lg_entry_eq]
  generalize (lg_sl ([.ref h0, .int kd, .int (nI z)]) ++ List.replicate (4 - (lg_sl ([.ref h0, .int kd, .int (nI z)])).length) Slot.unset).toArray = ls at hl ⊢
  have hl : lv_has ls 4 [(0, .ref h0), (1, .int kd), (2, .int (nI z))] := hl
  have hP : va_P D vwCl [(h0, .inr (1, [.int 0, .null]))] s.heap := hP
  have hD := hD0.self (sz := s.heap.size)
  generalize hAe : va_A [(h0, .inr (1, [.int 0, .null]))] s.heap.size = A at hD hN ⊢
  have hA : ∀ q : Nat, s.heap.size ≤ q → A q := fun q h => by rw [← hAe]; exact Or.inr h
  have hS : va_S A s.heap s.heap [] := va_S.rf
  refine lv_aload_n hx hb dX1_init_0 rfl (lv_at hl 0 rfl) ?_
  refine W.objInit hx hb hown (hts _ lk_X1_init_Cond_methodLink_RX1_3_objectInit) (hts _ lk_X1_init_Cond_instanceMethod_objectInit) (hts _ lk_X1_init_Cond_code_objectInit_0xb1_1_none) rfl (by rw [hml]; exact hl.1) rfl dX1_init_1 (Nat.le_of_ble_eq_true rfl) (Nat.le_of_ble_eq_true rfl) ?_
  refine W.eq (g2 := F0 m 4 ls []) rfl ?_
  refine lv_aload_n hx hb dX1_init_4 rfl (lv_at hl 0 rfl) ?_
  refine lv_iload_n hx hb dX1_init_5 rfl (lv_at hl 1 rfl) ?_
  refine va_putF (D := D) (ci := 1) (v := .int kd) (ty := .int) (C := RX1) (T := TX1) (N := 2) hx hb hts iw_X1_init_X1 tyX1 tyX1_ok nmX1 hown hK hP hD hS 0 rfl rfl 0 (by decide) (hts _ lk_X1_init_Cond_fieldLink_RX1_9_SpliceRoom_Reel_kind_I_) (fun _ h9 => h9) rfl hin rfl (by decide +kernel) rfl rfl (Nat.le_of_ble_eq_true rfl) dX1_init_6 (fun H locs hP hD hS => ?_)
  have hP : va_P D vwCl [(h0, .inr (1, [.int kd, .null]))] H := hP
  have hD : va_D A [(h0, .inr (1, [.int kd, .null]))] := hD
  refine lv_aload_n hx hb dX1_init_9 rfl (lv_at hl 0 rfl) ?_
  refine lv_iload_n hx hb dX1_init_10 rfl (lv_at hl 2 rfl) ?_
  refine va_newa (D := D) (atype := .long) hx hb (hts _ lk_X1_init_Cond_arrayClass_long) (ty := .long) rfl hK hP hD hS hA (a0 := (z, .inr (.inl (fun _ => 0)))) (fun cA => rfl) (nI_pos (by omega)) (nI_clamp (by omega)) (show z * 8 ≤ 536870912 by omega) (Nat.le_of_ble_eq_true rfl) (show 0 + z ≤ 40 by omega) dX1_init_11 (fun q cA H hK1 hP hD hS => ?_)
  have eK := K_idL hK hK1
  subst eK
  have hP : va_P D vwCl [(h0, .inr (1, [.int kd, .null])), (q, .inl (cL, z, .inr (.inl (fun _ => 0))))] H := hP
  have hD : va_D A [(h0, .inr (1, [.int kd, .null])), (q, .inl (cL, z, .inr (.inl (fun _ => 0))))] := hD
  refine W.widen (k := 1) (n := 40) (by omega) (by omega) ?_
  refine va_putF (D := D) (ci := 1) (v := .ref q) (ty := .array .long) (C := RX1) (T := TX1) (N := 2) hx hb hts iw_X1_init_X1 tyX1 tyX1_ok nmX1 hown hK hP hD hS 0 rfl rfl 1 (by decide) (hts _ lk_X1_init_Cond_fieldLink_RX1_15_SpliceRoom_Reel_row_J_) (fun _ h9 => h9) rfl hin rfl (by decide +kernel) rfl rfl (Nat.le_of_ble_eq_true rfl) dX1_init_13 (fun H locs hP hD hS => ?_)
  have hP : va_P D vwCl [(h0, .inr (1, [.int kd, .ref q])), (q, .inl (cL, z, .inr (.inl (fun _ => 0))))] H := hP
  have hD : va_D A [(h0, .inr (1, [.int kd, .ref q])), (q, .inl (cL, z, .inr (.inl (fun _ => 0))))] := hD
  refine lv_iload_n hx hb dX1_init_16 rfl (lv_at hl 1 rfl) ?_
  refine lv_iconst (v := 3) hx hb dX1_init_17 (by decide) ?_
  refine lv_icmp_eq (tgt := 26) hx hb dX1_init_18 (by decide) (fun c_18 => ?_) (fun c_18 => ?_)
  · have hcd : kd = 3 ∨ kd = 4 := Or.inl c_18
    refine lv_iconst (v := 0) hx hb dX1_init_26 (by decide) ?_
    refine lv_istore_n (lv' := [(3, .int 0), (0, .ref h0), (1, .int kd), (2, .int (nI z))]) hx hb dX1_init_27 rfl hl (by decide) rfl (fun ls hl => ?_)
    have loop : ∀ (n i : Nat) (f : Nat → Int64) (H : Heap) (locs : List Loc) (ls : Array Slot), i ≤ z → z + 1 ≤ i + n → (∀ j, j < i → f j = -1) → lv_has ls 4 [(3, .int (nI i)), (0, .ref h0), (1, .int kd), (2, .int (nI z))] → va_P D vwCl [(h0, .inr (1, [.int kd, .ref q])), (q, .inl (cL, z, .inr (.inl f)))] H → va_D A [(h0, .inr (1, [.int kd, .ref q])), (q, .inl (cL, z, .inr (.inl f)))] → va_S A s.heap H locs → W p l e (headSpec wsX1_init ({ frames := 1, cells := 1, slots := 40, locals := 12 })).room s m ([.ref h0, .int kd, .int (nI z)] : List Value).toArray below meth c H locs 1 40 (MQ below (va_Qv (fun (u : Nat × (Nat → Int64)) => ∀ j, j < z → u.2 j = fr0 kd) (fun (u : Nat × (Nat → Int64)) (t : State) => va_P D vwCl [(h0, .inr (1, [.int kd, .ref u.1])), (u.1, .inl (cL, z, .inr (.inl u.2)))] t.heap ∧ va_D A [(h0, .inr (1, [.int kd, .ref u.1])), (u.1, .inl (cL, z, .inr (.inl u.2)))]) A) ([.ref h0, .int kd, .int (nI z)] : List Value).toArray s 1 40 A) (F0 m 28 ls []) := by
      intro n
      induction n with
      | zero => intro i f H locs ls h1 h2; exact absurd h2 (by omega)
      | succ n ih =>
        intro i f H locs ls hi hn hf hl hP hD hS
        refine lv_iload_n hx hb dX1_init_28 rfl (lv_at hl 0 rfl) ?_
        refine lv_iload_n hx hb dX1_init_29 rfl (lv_at hl 3 rfl) ?_
        refine lv_icmp_ge (tgt := 48) hx hb dX1_init_30 (by decide) (fun c_30 => ?_) (fun c_30 => ?_)
        · exact W.vret hx hb hr (fun t ht hW => ⟨⟨(q, f), rfl, (fun j hj => by rw [fr0, if_pos hcd]; exact hf j (by have := nI_leI (a := z) (b := i) (by omega) (by omega); have := this.mp c_30; omega)), ⟨by rw [ht]; exact hP, hD⟩⟩, hS.F ht⟩) hS.2.2 dX1_init_48
        · have hlt : i < z := Nat.lt_of_not_le (fun h => c_30 (nI_le h (by omega)))
          refine lv_aload_n hx hb dX1_init_33 rfl (lv_at hl 1 rfl) ?_
          refine va_get (D := D) (ci := 1) (v := .ref q) (C := RX1) (T := TX1) (N := 2) hx hb hts iw_X1_init_X1 hown hK hP 0 rfl rfl 1 (by decide) (hts _ lk_X1_init_Cond_fieldLink_RX1_15_SpliceRoom_Reel_row_J_) (fun _ h9 => h9) rfl dX1_init_34 ?_
          refine lv_iload_n hx hb dX1_init_37 rfl (lv_at hl 0 rfl) ?_
          refine lv_ldc2 (v := (-1)) hx hb hown (hts _ lk_X1_init_Cond_constantLong_RX1_19_1_) dX1_init_38 ?_
          refine va_last (D := D) hx hb hK hP hD hS 1 1 rfl rfl (vp_in_nI hlt (by omega)) dX1_init_41 (fun H locs hP hD hS => ?_)
          have hP : va_P D vwCl [(h0, .inr (1, [.int kd, .ref q])), (q, .inl (cL, z, .inr (.inl (vp_updL f ((nI i).toNatClampNeg) (-1)))))] H := hP
          have hD : va_D A [(h0, .inr (1, [.int kd, .ref q])), (q, .inl (cL, z, .inr (.inl (vp_updL f ((nI i).toNatClampNeg) (-1)))))] := hD
          rw [nI_clamp (show i < 2 ^ 31 by omega)] at hP hD
          refine lv_iinc (v := nI (i + 1)) (lv' := [(3, .int (nI (i + 1))), (0, .ref h0), (1, .int kd), (2, .int (nI z))]) hx hb dX1_init_42 hl (k := 0) rfl (nI_1 i) (by decide) rfl (fun ls hl => ?_)
          refine lv_goto (tgt := 28) hx hb dX1_init_45 (by decide) ?_
          refine ih (i + 1) _ _ _ _ (by omega) (by omega) (fun j hj => ?_) hl hP hD hS
          by_cases e : j = i
          · rw [e]; exact pk_uLs
          · rw [pk_uLn e]; exact hf j (by omega)
    exact loop (z + 1) 0 _ _ _ _ (by omega) (by omega) (fun j hj => absurd hj (by omega)) hl hP hD hS
  · refine lv_iload_n hx hb dX1_init_21 rfl (lv_at hl 1 rfl) ?_
    refine lv_iconst (v := 4) hx hb dX1_init_22 (by decide) ?_
    refine lv_icmp_ne (tgt := 48) hx hb dX1_init_23 (by decide) (fun c_23 => ?_) (fun c_23 => ?_)
    · exact W.vret hx hb hr (fun t ht hW => ⟨⟨(q, fun _ => 0), rfl, (fun j hj => by rw [fr0, if_neg (fun h => h.elim c_18 c_23)]), ⟨by rw [ht]; exact hP, hD⟩⟩, hS.F ht⟩) hS.2.2 dX1_init_48
    · have hcd : kd = 3 ∨ kd = 4 := Or.inr c_23
      refine lv_iconst (v := 0) hx hb dX1_init_26 (by decide) ?_
      refine lv_istore_n (lv' := [(3, .int 0), (0, .ref h0), (1, .int kd), (2, .int (nI z))]) hx hb dX1_init_27 rfl hl (by decide) rfl (fun ls hl => ?_)
      have loop : ∀ (n i : Nat) (f : Nat → Int64) (H : Heap) (locs : List Loc) (ls : Array Slot), i ≤ z → z + 1 ≤ i + n → (∀ j, j < i → f j = -1) → lv_has ls 4 [(3, .int (nI i)), (0, .ref h0), (1, .int kd), (2, .int (nI z))] → va_P D vwCl [(h0, .inr (1, [.int kd, .ref q])), (q, .inl (cL, z, .inr (.inl f)))] H → va_D A [(h0, .inr (1, [.int kd, .ref q])), (q, .inl (cL, z, .inr (.inl f)))] → va_S A s.heap H locs → W p l e (headSpec wsX1_init ({ frames := 1, cells := 1, slots := 40, locals := 12 })).room s m ([.ref h0, .int kd, .int (nI z)] : List Value).toArray below meth c H locs 1 40 (MQ below (va_Qv (fun (u : Nat × (Nat → Int64)) => ∀ j, j < z → u.2 j = fr0 kd) (fun (u : Nat × (Nat → Int64)) (t : State) => va_P D vwCl [(h0, .inr (1, [.int kd, .ref u.1])), (u.1, .inl (cL, z, .inr (.inl u.2)))] t.heap ∧ va_D A [(h0, .inr (1, [.int kd, .ref u.1])), (u.1, .inl (cL, z, .inr (.inl u.2)))]) A) ([.ref h0, .int kd, .int (nI z)] : List Value).toArray s 1 40 A) (F0 m 28 ls []) := by
        intro n
        induction n with
        | zero => intro i f H locs ls h1 h2; exact absurd h2 (by omega)
        | succ n ih =>
          intro i f H locs ls hi hn hf hl hP hD hS
          refine lv_iload_n hx hb dX1_init_28 rfl (lv_at hl 0 rfl) ?_
          refine lv_iload_n hx hb dX1_init_29 rfl (lv_at hl 3 rfl) ?_
          refine lv_icmp_ge (tgt := 48) hx hb dX1_init_30 (by decide) (fun c_30 => ?_) (fun c_30 => ?_)
          · exact W.vret hx hb hr (fun t ht hW => ⟨⟨(q, f), rfl, (fun j hj => by rw [fr0, if_pos hcd]; exact hf j (by have := nI_leI (a := z) (b := i) (by omega) (by omega); have := this.mp c_30; omega)), ⟨by rw [ht]; exact hP, hD⟩⟩, hS.F ht⟩) hS.2.2 dX1_init_48
          · have hlt : i < z := Nat.lt_of_not_le (fun h => c_30 (nI_le h (by omega)))
            refine lv_aload_n hx hb dX1_init_33 rfl (lv_at hl 1 rfl) ?_
            refine va_get (D := D) (ci := 1) (v := .ref q) (C := RX1) (T := TX1) (N := 2) hx hb hts iw_X1_init_X1 hown hK hP 0 rfl rfl 1 (by decide) (hts _ lk_X1_init_Cond_fieldLink_RX1_15_SpliceRoom_Reel_row_J_) (fun _ h9 => h9) rfl dX1_init_34 ?_
            refine lv_iload_n hx hb dX1_init_37 rfl (lv_at hl 0 rfl) ?_
            refine lv_ldc2 (v := (-1)) hx hb hown (hts _ lk_X1_init_Cond_constantLong_RX1_19_1_) dX1_init_38 ?_
            refine va_last (D := D) hx hb hK hP hD hS 1 1 rfl rfl (vp_in_nI hlt (by omega)) dX1_init_41 (fun H locs hP hD hS => ?_)
            have hP : va_P D vwCl [(h0, .inr (1, [.int kd, .ref q])), (q, .inl (cL, z, .inr (.inl (vp_updL f ((nI i).toNatClampNeg) (-1)))))] H := hP
            have hD : va_D A [(h0, .inr (1, [.int kd, .ref q])), (q, .inl (cL, z, .inr (.inl (vp_updL f ((nI i).toNatClampNeg) (-1)))))] := hD
            rw [nI_clamp (show i < 2 ^ 31 by omega)] at hP hD
            refine lv_iinc (v := nI (i + 1)) (lv' := [(3, .int (nI (i + 1))), (0, .ref h0), (1, .int kd), (2, .int (nI z))]) hx hb dX1_init_42 hl (k := 0) rfl (nI_1 i) (by decide) rfl (fun ls hl => ?_)
            refine lv_goto (tgt := 28) hx hb dX1_init_45 (by decide) ?_
            refine ih (i + 1) _ _ _ _ (by omega) (by omega) (fun j hj => ?_) hl hP hD hS
            by_cases e : j = i
            · rw [e]; exact pk_uLs
            · rw [pk_uLn e]; exact hf j (by omega)
      exact loop (z + 1) 0 _ _ _ _ (by omega) (by omega) (fun j hj => absurd hj (by omega)) hl hP hD hS
theorem lk_X0_init_Cond_code_objectInit_0xb1_1_none : Cond.code objectInit ⟨#[0xb1]⟩ 1 none ∈ wsX0_init := by decide +kernel
theorem lk_X0_init_Cond_instanceMethod_objectInit : Cond.instanceMethod objectInit ∈ wsX0_init := by decide +kernel
theorem lk_X0_init_Cond_methodLink_RX0_3_objectInit : Cond.methodLink RX0 3 objectInit ∈ wsX0_init := by decide +kernel
set_option maxHeartbeats 4000000 in
set_option maxRecDepth 100000 in
theorem c_X0_init (l : Launch) {D : va_G} {cI cL cQ : ClassId} {N0 : Nat} {sa : Nat → Nat} {Hc : Heap} {h0 : Nat} : Met l yX0_init wsX0_init ({ frames := 1, cells := 0, slots := 0, locals := 12 }) (Pq D cI cL cQ N0 sa [.ref h0] Hc) (va_Qv (fun (_ : Unit) => True) (fun _ t => t.heap = Hc) nA) 0 0 nA := by
  refine Met.ofW (cc := cX0_init) (maxL := 1) (ret := none) (by decide) rfl ?_
  intro p e s m args below meth c s₁ B hml hv
  obtain ⟨rfl, hH, hC⟩ := hv
  have hx := B.exec
  have hb := B.bytes
  have hr := B.returns
  have hts := atoms_spec (ws := wsX0_init) B.pre
  have hown : s.vm.findClass RX0 = some m.cls := findClass_of_methodNamed B.named
  have hlocks := B.notSynchronized
  subst hH
  have hK := hC.K
  have hl := lv_entry ([.ref h0]) (n := 1) (Nat.le_of_ble_eq_true rfl)
  rw [lg_entry_eq]
  generalize (lg_sl ([.ref h0]) ++ List.replicate (1 - (lg_sl ([.ref h0])).length) Slot.unset).toArray = ls at hl ⊢
  have hl : lv_has ls 1 [(0, .ref h0)] := hl
  have hS : va_S nA s.heap s.heap [] := va_S.rf
  have hN : ∀ q, nA q → N0 ≤ q := nA_N
  refine lv_aload_n hx hb dX0_init_0 rfl (lv_at hl 0 rfl) ?_
  refine W.objInit hx hb hown (hts _ lk_X0_init_Cond_methodLink_RX0_3_objectInit) (hts _ lk_X0_init_Cond_instanceMethod_objectInit) (hts _ lk_X0_init_Cond_code_objectInit_0xb1_1_none) rfl (by rw [hml]; exact hl.1) rfl dX0_init_1 (Nat.le_of_ble_eq_true rfl) (Nat.le_of_ble_eq_true rfl) ?_
  refine W.eq (g2 := F0 m 4 ls []) rfl ?_
  exact W.vret hx hb hr (fun t ht hW => ⟨⟨(), rfl, trivial, ht⟩, hS.F ht⟩) hS.2.2 dX0_init_4
theorem iw_X0_sharpen_X0 : ∀ w ∈ wsX00, w ∈ wsX0_sharpen := by decide +kernel
theorem lk_X0_sharpen_Cond_fieldLink_RX0_15_SpliceRoom_Knife_grindings_I_ : Cond.fieldLink RX0 15 "SpliceRoom$Knife" "grindings" "I" ∈ wsX0_sharpen := by decide +kernel
theorem lk_X0_sharpen_Cond_fieldLink_RX0_9_SpliceRoom_Knife_jamsInRow_I_ : Cond.fieldLink RX0 9 "SpliceRoom$Knife" "jamsInRow" "I" ∈ wsX0_sharpen := by decide +kernel
set_option maxHeartbeats 4000000 in
set_option maxRecDepth 100000 in
theorem c_X0_sharpen (l : Launch) {D : va_G} {cI cL cQ : ClassId} {N0 : Nat} {sa : Nat → Nat} {Hc : Heap} {h0 : Nat} {f0 f1 f2 f3 f4 f5 f6 : Int32} (hP : va_P D vwCl [(h0, .inr (0, [.int f0, .int f1, .int f2, .int f3, .int f4, .int f5, .int f6]))] Hc) (hD0 : va_D nT [(h0, .inr (0, [.int f0, .int f1, .int f2, .int f3, .int f4, .int f5, .int f6]))]) (hN : ∀ q, va_A [(h0, .inr (0, [.int f0, .int f1, .int f2, .int f3, .int f4, .int f5, .int f6]))] Hc.size q → N0 ≤ q) : Met l yX0_sharpen wsX0_sharpen ({ frames := 0, cells := 0, slots := 0, locals := 0 }) (Pq D cI cL cQ N0 sa [.ref h0] Hc) (va_Qv (fun (u : Unit) => True) (fun (u : Unit) (t : State) => va_P D vwCl [(h0, .inr (0, [.int f0, .int f1, .int f2, .int 0, .int f4, .int f5, .int (f6 + 1)]))] t.heap ∧ va_D (va_A [(h0, .inr (0, [.int f0, .int f1, .int f2, .int f3, .int f4, .int f5, .int f6]))] Hc.size) [(h0, .inr (0, [.int f0, .int f1, .int f2, .int 0, .int f4, .int f5, .int (f6 + 1)]))]) (va_A [(h0, .inr (0, [.int f0, .int f1, .int f2, .int f3, .int f4, .int f5, .int f6]))] Hc.size)) 0 0 (va_A [(h0, .inr (0, [.int f0, .int f1, .int f2, .int f3, .int f4, .int f5, .int f6]))] Hc.size) := by
  refine Met.ofW (cc := cX0_sharpen) (maxL := 1) (ret := none) (by decide) rfl ?_
  intro p e s m args below meth c s₁ B hml hv
  obtain ⟨rfl, hH, hC⟩ := hv
  have hx := B.exec
  have hb := B.bytes
  have hr := B.returns
  have hts := atoms_spec (ws := wsX0_sharpen) B.pre
  have hown : s.vm.findClass RX0 = some m.cls := findClass_of_methodNamed B.named
  have hlocks := B.notSynchronized
  subst hH
  have hK := hC.K
  have hl := lv_entry ([.ref h0]) (n := 1) (Nat.le_of_ble_eq_true rfl)
  rw [lg_entry_eq]
  generalize (lg_sl ([.ref h0]) ++ List.replicate (1 - (lg_sl ([.ref h0])).length) Slot.unset).toArray = ls at hl ⊢
  have hl : lv_has ls 1 [(0, .ref h0)] := hl
  have hP : va_P D vwCl [(h0, .inr (0, [.int f0, .int f1, .int f2, .int f3, .int f4, .int f5, .int f6]))] s.heap := hP
  have hD := hD0.self (sz := s.heap.size)
  generalize hAe : va_A [(h0, .inr (0, [.int f0, .int f1, .int f2, .int f3, .int f4, .int f5, .int f6]))] s.heap.size = A at hD hN ⊢
  have hA : ∀ q : Nat, s.heap.size ≤ q → A q := fun q h => by rw [← hAe]; exact Or.inr h
  have hS : va_S A s.heap s.heap [] := va_S.rf
  refine lv_aload_n hx hb dX0_sharpen_0 rfl (lv_at hl 0 rfl) ?_
  refine lv_iconst (v := 0) hx hb dX0_sharpen_1 (by decide) ?_
  refine va_put (D := D) (ci := 0) (v := .int 0) (ty := .int) (C := RX0) (T := TX0) (N := 7) hx hb hts iw_X0_sharpen_X0 tyX0 tyX0_ok nmX0 hown hK hP hD hS 0 rfl rfl 3 (by decide) (hts _ lk_X0_sharpen_Cond_fieldLink_RX0_9_SpliceRoom_Knife_jamsInRow_I_) (fun _ h9 => h9) rfl (by decide +kernel) rfl rfl (Nat.le_of_ble_eq_true rfl) dX0_sharpen_2 (fun H locs hP hD hS => ?_)
  have hP : va_P D vwCl [(h0, .inr (0, [.int f0, .int f1, .int f2, .int 0, .int f4, .int f5, .int f6]))] H := hP
  have hD : va_D A [(h0, .inr (0, [.int f0, .int f1, .int f2, .int 0, .int f4, .int f5, .int f6]))] := hD
  refine lv_aload_n hx hb dX0_sharpen_5 rfl (lv_at hl 0 rfl) ?_
  refine lv_dup hx hb dX0_sharpen_6 rfl ?_
  refine va_get (D := D) (ci := 0) (v := .int f6) (C := RX0) (T := TX0) (N := 7) hx hb hts iw_X0_sharpen_X0 hown hK hP 0 rfl rfl 6 (by decide) (hts _ lk_X0_sharpen_Cond_fieldLink_RX0_15_SpliceRoom_Knife_grindings_I_) (fun _ h9 => h9) rfl dX0_sharpen_7 ?_
  refine lv_iconst (v := 1) hx hb dX0_sharpen_10 (by decide) ?_
  refine lv_iadd hx hb dX0_sharpen_11 ?_
  refine va_put (D := D) (ci := 0) (v := .int (f6 + 1)) (ty := .int) (C := RX0) (T := TX0) (N := 7) hx hb hts iw_X0_sharpen_X0 tyX0 tyX0_ok nmX0 hown hK hP hD hS 0 rfl rfl 6 (by decide) (hts _ lk_X0_sharpen_Cond_fieldLink_RX0_15_SpliceRoom_Knife_grindings_I_) (fun _ h9 => h9) rfl (by decide +kernel) rfl rfl (Nat.le_of_ble_eq_true rfl) dX0_sharpen_12 (fun H locs hP hD hS => ?_)
  have hP : va_P D vwCl [(h0, .inr (0, [.int f0, .int f1, .int f2, .int 0, .int f4, .int f5, .int (f6 + 1)]))] H := hP
  have hD : va_D A [(h0, .inr (0, [.int f0, .int f1, .int f2, .int 0, .int f4, .int f5, .int (f6 + 1)]))] := hD
  exact W.vret hx hb hr (fun t ht hW => ⟨⟨(), rfl, trivial, ⟨by rw [ht]; exact hP, hD⟩⟩, hS.F ht⟩) hS.2.2 dX0_sharpen_15
/-- how many frames are laid: the first k may come, the next one may not -/
def Stp4 (kb : Int32) (f : Nat → Int64) (p n k : Nat) : Prop := k ≤ n ∧ (∀ j, j < k → kTake kb (f (p + j))) ∧ (k < n → ¬ kTake kb (f (p + k)))
def LayRel (ka kb : Int32) (za zb : Nat) (f : Nat → Int64) (p q n : Int32) (k : Nat) (r : Int32) : Prop := (¬ kLike ka kb ∧ k = 0 ∧ r = -2) ∨ (kLike ka kb ∧ ¬ (inFr p n za ∧ inFr q n zb) ∧ k = 0 ∧ r = -3) ∨ (kLike ka kb ∧ (inFr p n za ∧ inFr q n zb) ∧ Stp4 kb f p.toNatClampNeg n.toNatClampNeg k ∧ r = if k < n.toNatClampNeg then -4 else n)
theorem cpy_0 {α : Type} (f g : Nat → α) (a b : Nat) : va_cpy f g a b 0 = g := by
  funext j
  exact pk_cpy_out (by omega)
theorem inFr_n {p n : Int32} {z : Nat} (hz : z ≤ 40) (h : inFr p n z) : ∃ i j : Nat, i + j ≤ z ∧ p = nI i ∧ n = nI j := by
  obtain ⟨i, hi, rfl⟩ := nI_of (x := p) (fun q => by have := i_lt q; have := h.1.1; omega)
  obtain ⟨j, hj, rfl⟩ := nI_of (x := n) (fun q => by have := i_lt q; have := h.1.2; omega)
  have := h.2
  rw [nI_toInt hi, nI_toInt hj] at this
  exact ⟨i, j, by omega, rfl, rfl⟩
theorem iw_X0_lay_X0 : ∀ w ∈ wsX00, w ∈ wsX0_lay := by decide +kernel
theorem iw_X0_lay_X1 : ∀ w ∈ wsX10, w ∈ wsX0_lay := by decide +kernel
theorem lk_X0_lay_Cond_fieldLink_RX0_18_SpliceRoom_Knife_far_I_ : Cond.fieldLink RX0 18 "SpliceRoom$Knife" "far" "I" ∈ wsX0_lay := by decide +kernel
theorem lk_X0_lay_Cond_initialized_java_lang_System_ : Cond.initialized "java/lang/System" ∈ wsX0_lay := by decide +kernel
theorem lk_X0_lay_Cond_methodLink_RX0_55_arraycopyName : Cond.methodLink RX0 55 arraycopyName ∈ wsX0_lay := by decide +kernel
theorem lk_X0_lay_Cond_native_arraycopyName : Cond.native arraycopyName ∈ wsX0_lay := by decide +kernel
theorem lk_X0_lay_Cond_static_arraycopyName : Cond.static arraycopyName ∈ wsX0_lay := by decide +kernel
set_option maxHeartbeats 4000000 in
set_option maxRecDepth 100000 in
theorem c_X0_lay (l : Launch) {D : va_G} {cI cL cQ : ClassId} {N0 : Nat} {sa : Nat → Nat} {Hc : Heap} {h0 a0 wa b0 wb : Nat} {f0 f1 f2 f3 f5 f6 ka kb : Int32} {za zb : Nat} {f g : Nat → Int64} {p0 q0 n0 : Int32} (hP : va_P D vwCl [(h0, .inr (0, [.int f0, .int f1, .int f2, .int f3, .int 0, .int f5, .int f6])), (a0, .inr (1, [.int ka, .ref wa])), (wa, .inl (cL, za, .inr (.inl f))), (b0, .inr (1, [.int kb, .ref wb])), (wb, .inl (cL, zb, .inr (.inl g)))] Hc) (hD0 : va_D nT [(h0, .inr (0, [.int f0, .int f1, .int f2, .int f3, .int 0, .int f5, .int f6])), (a0, .inr (1, [.int ka, .ref wa])), (wa, .inl (cL, za, .inr (.inl f))), (b0, .inr (1, [.int kb, .ref wb])), (wb, .inl (cL, zb, .inr (.inl g)))]) (hN : ∀ q, va_A [(h0, .inr (0, [.int f0, .int f1, .int f2, .int f3, .int 0, .int f5, .int f6])), (a0, .inr (1, [.int ka, .ref wa])), (wa, .inl (cL, za, .inr (.inl f))), (b0, .inr (1, [.int kb, .ref wb])), (wb, .inl (cL, zb, .inr (.inl g)))] Hc.size q → N0 ≤ q) (hza : za ≤ 40) (hzb : zb ≤ 40) : Met l yX0_lay wsX0_lay ({ frames := 2, cells := 0, slots := 0, locals := 60 }) (Pq D cI cL cQ N0 sa [.ref h0, .ref a0, .int p0, .ref b0, .int q0, .int n0] Hc) (va_Qi (fun (r : Int32) (u : Nat) => LayRel ka kb za zb f p0 q0 n0 u r) (fun (u : Nat) (t : State) => va_P D vwCl [(h0, .inr (0, [.int f0, .int f1, .int f2, .int f3, .int (nI u), .int f5, .int f6])), (a0, .inr (1, [.int ka, .ref wa])), (wa, .inl (cL, za, .inr (.inl f))), (b0, .inr (1, [.int kb, .ref wb])), (wb, .inl (cL, zb, .inr (.inl (va_cpy f g p0.toNatClampNeg q0.toNatClampNeg u))))] t.heap ∧ va_D (va_A [(h0, .inr (0, [.int f0, .int f1, .int f2, .int f3, .int 0, .int f5, .int f6])), (a0, .inr (1, [.int ka, .ref wa])), (wa, .inl (cL, za, .inr (.inl f))), (b0, .inr (1, [.int kb, .ref wb])), (wb, .inl (cL, zb, .inr (.inl g)))] Hc.size) [(h0, .inr (0, [.int f0, .int f1, .int f2, .int f3, .int (nI u), .int f5, .int f6])), (a0, .inr (1, [.int ka, .ref wa])), (wa, .inl (cL, za, .inr (.inl f))), (b0, .inr (1, [.int kb, .ref wb])), (wb, .inl (cL, zb, .inr (.inl (va_cpy f g p0.toNatClampNeg q0.toNatClampNeg u))))]) (va_A [(h0, .inr (0, [.int f0, .int f1, .int f2, .int f3, .int 0, .int f5, .int f6])), (a0, .inr (1, [.int ka, .ref wa])), (wa, .inl (cL, za, .inr (.inl f))), (b0, .inr (1, [.int kb, .ref wb])), (wb, .inl (cL, zb, .inr (.inl g)))] Hc.size)) 0 0 (va_A [(h0, .inr (0, [.int f0, .int f1, .int f2, .int f3, .int 0, .int f5, .int f6])), (a0, .inr (1, [.int ka, .ref wa])), (wa, .inl (cL, za, .inr (.inl f))), (b0, .inr (1, [.int kb, .ref wb])), (wb, .inl (cL, zb, .inr (.inl g)))] Hc.size) := by
  refine Met.ofW (cc := cX0_lay) (maxL := 6) (ret := (some .int)) (by decide) rfl ?_
  intro p e s m args below meth c s₁ B hml hv
  obtain ⟨rfl, hH, hC⟩ := hv
  have hx := B.exec
  have hb := B.bytes
  have hr := B.returns
  have hts := atoms_spec (ws := wsX0_lay) B.pre
  have hown : s.vm.findClass RX0 = some m.cls := findClass_of_methodNamed B.named
  have hlocks := B.notSynchronized
  subst hH
  have hK := hC.K
  have hl := lv_entry ([.ref h0, .ref a0, .int p0, .ref b0, .int q0, .int n0]) (n := 6) (Nat.le_of_ble_eq_true rfl)
  rw [lg_entry_eq]
  generalize (lg_sl ([.ref h0, .ref a0, .int p0, .ref b0, .int q0, .int n0]) ++ List.replicate (6 - (lg_sl ([.ref h0, .ref a0, .int p0, .ref b0, .int q0, .int n0])).length) Slot.unset).toArray = ls at hl ⊢
  have hl : lv_has ls 6 [(0, .ref h0), (1, .ref a0), (2, .int p0), (3, .ref b0), (4, .int q0), (5, .int n0)] := hl
  have hP : va_P D vwCl [(h0, .inr (0, [.int f0, .int f1, .int f2, .int f3, .int 0, .int f5, .int f6])), (a0, .inr (1, [.int ka, .ref wa])), (wa, .inl (cL, za, .inr (.inl f))), (b0, .inr (1, [.int kb, .ref wb])), (wb, .inl (cL, zb, .inr (.inl g)))] s.heap := hP
  have hD := hD0.self (sz := s.heap.size)
  generalize hAe : va_A [(h0, .inr (0, [.int f0, .int f1, .int f2, .int f3, .int 0, .int f5, .int f6])), (a0, .inr (1, [.int ka, .ref wa])), (wa, .inl (cL, za, .inr (.inl f))), (b0, .inr (1, [.int kb, .ref wb])), (wb, .inl (cL, zb, .inr (.inl g)))] s.heap.size = A at hD hN ⊢
  have hA : ∀ q : Nat, s.heap.size ≤ q → A q := fun q h => by rw [← hAe]; exact Or.inr h
  have hS : va_S A s.heap s.heap [] := va_S.rf
  refine lv_aload_n hx hb dX0_lay_0 rfl (lv_at hl 1 rfl) ?_
  refine lv_ifnull hx hb dX0_lay_1 ?_
  refine lv_aload_n hx hb dX0_lay_4 rfl (lv_at hl 3 rfl) ?_
  refine lv_ifnonnull (tgt := 10) hx hb dX0_lay_5 (by decide) ?_
  refine lv_aload_n hx hb dX0_lay_10 rfl (lv_at hl 1 rfl) ?_
  refine lv_aload_n hx hb dX0_lay_11 rfl (lv_at hl 3 rfl) ?_
  refine ro_i (va_runV (As := [.ref b0]) (rest := []) ⟨hx, hb, hml, hown, hts⟩ (c_X1_isLike l (h0 := a0) (h1 := b0) (hP.sub [1, 3] rfl)) (cwV 1 hts gX0_lay_X1_isLike rfl rfl rfl (by decide +kernel) ⟨Nat.le_of_ble_eq_true rfl, Nat.le_of_ble_eq_true rfl⟩) (Pq.V hC hS hN (va_recv hK hP (ci := 1) (q0 := 1) rfl rfl)) rfl rfl hl.1 rfl (lv_room (Nat.le_of_ble_eq_true rfl)) dX0_lay_12 ⟨Nat.le_of_ble_eq_true rfl, Nat.le_of_ble_eq_true rfl⟩) hS (fun r_1 locs hw hS => ?_)
  have hw : r_1 = tB (kLike ka kb) := hw
  subst hw
  refine lv_if_ne (tgt := 21) hx hb dX0_lay_15 (by decide) (fun c_15 => ?_) (fun c_15 => ?_)
  · have c_15 := tB_n.mp c_15
    refine lv_aload_n hx hb dX0_lay_21 rfl (lv_at hl 1 rfl) ?_
    refine lv_iload_n hx hb dX0_lay_22 rfl (lv_at hl 2 rfl) ?_
    refine lv_iload hx hb dX0_lay_23 (lv_at hl 5 rfl) ?_
    refine ro_i (va_runV (As := [.int p0, .int n0]) (rest := []) ⟨hx, hb, hml, hown, hts⟩ (c_X1_hasFrames l (h0 := a0) (p0 := p0) (n0 := n0) (hP.sub [1, 2] rfl) hza) (cwV 2 hts gX0_lay_X1_hasFrames rfl rfl rfl (by decide +kernel) ⟨Nat.le_of_ble_eq_true rfl, Nat.le_of_ble_eq_true rfl⟩) (Pq.V hC hS hN (va_recv hK hP (ci := 1) (q0 := 1) rfl rfl)) rfl rfl hl.1 rfl (lv_room (Nat.le_of_ble_eq_true rfl)) dX0_lay_25 ⟨Nat.le_of_ble_eq_true rfl, Nat.le_of_ble_eq_true rfl⟩) hS (fun r_2 locs hw hS => ?_)
    have hw : r_2 = tB (inFr p0 n0 za) := hw
    subst hw
    refine lv_if_eq (tgt := 42) hx hb dX0_lay_28 (by decide) (fun c_28 => ?_) (fun c_28 => ?_)
    · have c_28 := tB_0.mp c_28
      refine lv_bipush (v := (-3)) hx hb dX0_lay_42 (by decide) ?_
      exact W.iret (v := (-3)) hx hb hr (fun t ht hW => ⟨⟨_, 0, rfl, Or.inr (Or.inl ⟨c_15, fun h9 => c_28 h9.1, rfl, rfl⟩), ⟨by rw [ht]; exact by rw [(cpy_0 f g p0.toNatClampNeg q0.toNatClampNeg)]; exact hP, by rw [(cpy_0 f g p0.toNatClampNeg q0.toNatClampNeg)]; exact hD⟩⟩, hS.F ht⟩) hS.2.2 dX0_lay_44
    · have c_28 := tB_n.mp c_28
      refine lv_aload_n hx hb dX0_lay_31 rfl (lv_at hl 3 rfl) ?_
      refine lv_iload hx hb dX0_lay_32 (lv_at hl 4 rfl) ?_
      refine lv_iload hx hb dX0_lay_34 (lv_at hl 5 rfl) ?_
      refine ro_i (va_runV (As := [.int q0, .int n0]) (rest := []) ⟨hx, hb, hml, hown, hts⟩ (c_X1_hasFrames l (h0 := b0) (p0 := q0) (n0 := n0) (hP.sub [3, 4] rfl) hzb) (cwV 2 hts gX0_lay_X1_hasFrames rfl rfl rfl (by decide +kernel) ⟨Nat.le_of_ble_eq_true rfl, Nat.le_of_ble_eq_true rfl⟩) (Pq.V hC hS hN (va_recv hK hP (ci := 1) (q0 := 3) rfl rfl)) rfl rfl hl.1 rfl (lv_room (Nat.le_of_ble_eq_true rfl)) dX0_lay_36 ⟨Nat.le_of_ble_eq_true rfl, Nat.le_of_ble_eq_true rfl⟩) hS (fun r_3 locs hw hS => ?_)
      have hw : r_3 = tB (inFr q0 n0 zb) := hw
      subst hw
      refine lv_if_ne (tgt := 45) hx hb dX0_lay_39 (by decide) (fun c_39 => ?_) (fun c_39 => ?_)
      · have c_39 := tB_n.mp c_39
        obtain ⟨pp, n1, hp1, rfl, rfl⟩ := inFr_n hza c_28
        obtain ⟨qq, n2, hp2, rfl, en⟩ := inFr_n hzb c_39
        have en2 : n1 = n2 := (nI_eq (by omega) (by omega)).mp en
        subst en2
        have hin : inFr (nI pp) (nI n1) za ∧ inFr (nI qq) (nI n1) zb := ⟨c_28, c_39⟩
        have loop : ∀ (n k : Nat) (H : Heap) (locs : List Loc), k ≤ n1 → n1 + 1 ≤ k + n → (∀ j, j < k → kTake kb (f (pp + j))) → va_P D vwCl [(h0, .inr (0, [.int f0, .int f1, .int f2, .int f3, .int (nI k), .int f5, .int f6])), (a0, .inr (1, [.int ka, .ref wa])), (wa, .inl (cL, za, .inr (.inl f))), (b0, .inr (1, [.int kb, .ref wb])), (wb, .inl (cL, zb, .inr (.inl g)))] H → va_D A [(h0, .inr (0, [.int f0, .int f1, .int f2, .int f3, .int (nI k), .int f5, .int f6])), (a0, .inr (1, [.int ka, .ref wa])), (wa, .inl (cL, za, .inr (.inl f))), (b0, .inr (1, [.int kb, .ref wb])), (wb, .inl (cL, zb, .inr (.inl g)))] → va_S A s.heap H locs → W p l e (headSpec wsX0_lay ({ frames := 2, cells := 0, slots := 0, locals := 60 })).room s m ([.ref h0, .ref a0, .int (nI pp), .ref b0, .int (nI qq), .int (nI n1)] : List Value).toArray below meth c H locs 0 0 (MQ below (va_Qi (fun (r : Int32) (u : Nat) => LayRel ka kb za zb f (nI pp) (nI qq) (nI n1) u r) (fun (u : Nat) (t : State) => va_P D vwCl [(h0, .inr (0, [.int f0, .int f1, .int f2, .int f3, .int (nI u), .int f5, .int f6])), (a0, .inr (1, [.int ka, .ref wa])), (wa, .inl (cL, za, .inr (.inl f))), (b0, .inr (1, [.int kb, .ref wb])), (wb, .inl (cL, zb, .inr (.inl (va_cpy f g (nI pp).toNatClampNeg (nI qq).toNatClampNeg u))))] t.heap ∧ va_D A [(h0, .inr (0, [.int f0, .int f1, .int f2, .int f3, .int (nI u), .int f5, .int f6])), (a0, .inr (1, [.int ka, .ref wa])), (wa, .inl (cL, za, .inr (.inl f))), (b0, .inr (1, [.int kb, .ref wb])), (wb, .inl (cL, zb, .inr (.inl (va_cpy f g (nI pp).toNatClampNeg (nI qq).toNatClampNeg u))))]) A) ([.ref h0, .ref a0, .int (nI pp), .ref b0, .int (nI qq), .int (nI n1)] : List Value).toArray s 0 0 A) (F0 m 45 ls []) := by
          intro n
          induction n with
          | zero => intro k H locs h1 h2; exact absurd h2 (by omega)
          | succ n ih =>
            intro k H locs hk hn hf hP hD hS
            refine lv_aload_n hx hb dX0_lay_45 rfl (lv_at hl 0 rfl) ?_
            refine va_get (D := D) (ci := 0) (v := .int (nI k)) (C := RX0) (T := TX0) (N := 7) hx hb hts iw_X0_lay_X0 hown hK hP 0 rfl rfl 4 (by decide) (hts _ lk_X0_lay_Cond_fieldLink_RX0_18_SpliceRoom_Knife_far_I_) (fun _ h9 => h9) rfl dX0_lay_46 ?_
            refine lv_iload hx hb dX0_lay_49 (lv_at hl 5 rfl) ?_
            refine lv_icmp_ge (tgt := 85) hx hb dX0_lay_51 (by decide) (fun c_51 => ?_) (fun c_51 => ?_)
            · have hkn : n1 ≤ k := (nI_leI (by omega) (by omega)).mp c_51
              refine lv_aload_n hx hb dX0_lay_85 rfl (lv_at hl 1 rfl) ?_
              refine va_getN (D := D) (ci := 1) (v := .ref wa) (C := RX1) (T := TX1) (N := 2) hx hb hts iw_X0_lay_X1 hown hK hP 1 rfl rfl 1 (by decide) (hC.nest (a := RX0) (i := 47) (b := "SpliceRoom$Reel") (n := "row") (d := "[J") (hh := "SpliceRoom") (by decide +kernel)) (fun _ h9 => h9) rfl dX0_lay_86 ?_
              refine lv_iload_n hx hb dX0_lay_89 rfl (lv_at hl 2 rfl) ?_
              refine lv_aload_n hx hb dX0_lay_90 rfl (lv_at hl 3 rfl) ?_
              refine va_getN (D := D) (ci := 1) (v := .ref wb) (C := RX1) (T := TX1) (N := 2) hx hb hts iw_X0_lay_X1 hown hK hP 3 rfl rfl 1 (by decide) (hC.nest (a := RX0) (i := 47) (b := "SpliceRoom$Reel") (n := "row") (d := "[J") (hh := "SpliceRoom") (by decide +kernel)) (fun _ h9 => h9) rfl dX0_lay_91 ?_
              refine lv_iload hx hb dX0_lay_94 (lv_at hl 4 rfl) ?_
              refine lv_aload_n hx hb dX0_lay_96 rfl (lv_at hl 0 rfl) ?_
              refine va_get (D := D) (ci := 0) (v := .int (nI k)) (C := RX0) (T := TX0) (N := 7) hx hb hts iw_X0_lay_X0 hown hK hP 0 rfl rfl 4 (by decide) (hts _ lk_X0_lay_Cond_fieldLink_RX0_18_SpliceRoom_Knife_far_I_) (fun _ h9 => h9) rfl dX0_lay_97 ?_
              refine va_copyl (D := D) hx hb (by rw [hml]; exact hl.1.symm) hown (hts _ lk_X0_lay_Cond_methodLink_RX0_55_arraycopyName) (hts _ lk_X0_lay_Cond_native_arraycopyName) (hts _ lk_X0_lay_Cond_static_arraycopyName) (hts _ lk_X0_lay_Cond_initialized_java_lang_System_) hK hP hD hS 2 4 1 1 rfl rfl rfl rfl rfl (nI_pos (by omega)) (nI_pos (by omega)) (nI_pos (by omega)) (by rw [nI_clamp (by omega), nI_clamp (by omega)]; omega) (by rw [nI_clamp (by omega), nI_clamp (by omega)]; omega) (fun _ _ => rfl) (Nat.le_of_ble_eq_true rfl) (Nat.le_of_ble_eq_true rfl) dX0_lay_100 (fun H locs hP hD hS => ?_)
              rw [nI_clamp (show k < 2 ^ 31 by omega)] at hP hD
              have hP : va_P D vwCl [(h0, .inr (0, [.int f0, .int f1, .int f2, .int f3, .int (nI k), .int f5, .int f6])), (a0, .inr (1, [.int ka, .ref wa])), (wa, .inl (cL, za, .inr (.inl f))), (b0, .inr (1, [.int kb, .ref wb])), (wb, .inl (cL, zb, .inr (.inl (va_cpy f g (nI pp).toNatClampNeg (nI qq).toNatClampNeg k))))] H := hP
              have hD : va_D A [(h0, .inr (0, [.int f0, .int f1, .int f2, .int f3, .int (nI k), .int f5, .int f6])), (a0, .inr (1, [.int ka, .ref wa])), (wa, .inl (cL, za, .inr (.inl f))), (b0, .inr (1, [.int kb, .ref wb])), (wb, .inl (cL, zb, .inr (.inl (va_cpy f g (nI pp).toNatClampNeg (nI qq).toNatClampNeg k))))] := hD
              refine lv_aload_n hx hb dX0_lay_103 rfl (lv_at hl 0 rfl) ?_
              refine va_get (D := D) (ci := 0) (v := .int (nI k)) (C := RX0) (T := TX0) (N := 7) hx hb hts iw_X0_lay_X0 hown hK hP 0 rfl rfl 4 (by decide) (hts _ lk_X0_lay_Cond_fieldLink_RX0_18_SpliceRoom_Knife_far_I_) (fun _ h9 => h9) rfl dX0_lay_104 ?_
              refine lv_iload hx hb dX0_lay_107 (lv_at hl 5 rfl) ?_
              refine lv_icmp_ge (tgt := 117) hx hb dX0_lay_109 (by decide) (fun _ => ?_) (fun c9 => absurd (nI_le hkn (by omega)) c9)
              refine lv_iload hx hb dX0_lay_117 (lv_at hl 5 rfl) ?_
              exact W.iret (v := (nI n1)) hx hb hr (fun t ht hW => ⟨⟨_, k, rfl, Or.inr (Or.inr ⟨c_15, hin, ⟨by rw [nI_clamp (by omega)]; omega, by rw [nI_clamp (by omega)]; exact hf, fun h9 => absurd h9 (by rw [nI_clamp (by omega)]; omega)⟩, by rw [nI_clamp (by omega), if_neg (by omega)]⟩), ⟨by rw [ht]; exact hP, hD⟩⟩, hS.F ht⟩) hS.2.2 dX0_lay_119
            · have hlt : k < n1 := Nat.lt_of_not_le (fun h => c_51 (nI_le h (by omega)))
              refine lv_aload_n hx hb dX0_lay_54 rfl (lv_at hl 3 rfl) ?_
              refine lv_aload_n hx hb dX0_lay_55 rfl (lv_at hl 1 rfl) ?_
              refine va_getN (D := D) (ci := 1) (v := .ref wa) (C := RX1) (T := TX1) (N := 2) hx hb hts iw_X0_lay_X1 hown hK hP 1 rfl rfl 1 (by decide) (hC.nest (a := RX0) (i := 47) (b := "SpliceRoom$Reel") (n := "row") (d := "[J") (hh := "SpliceRoom") (by decide +kernel)) (fun _ h9 => h9) rfl dX0_lay_56 ?_
              refine lv_iload_n hx hb dX0_lay_59 rfl (lv_at hl 2 rfl) ?_
              refine lv_aload_n hx hb dX0_lay_60 rfl (lv_at hl 0 rfl) ?_
              refine va_get (D := D) (ci := 0) (v := .int (nI k)) (C := RX0) (T := TX0) (N := 7) hx hb hts iw_X0_lay_X0 hown hK hP 0 rfl rfl 4 (by decide) (hts _ lk_X0_lay_Cond_fieldLink_RX0_18_SpliceRoom_Knife_far_I_) (fun _ h9 => h9) rfl dX0_lay_61 ?_
              refine lv_iadd hx hb dX0_lay_64 ?_
              refine va_lald (D := D) hx hb hK hP 2 1 rfl rfl (by rw [nI_add]; exact vp_in_nI (show pp + k < za by omega) (by omega)) dX0_lay_65 ?_
              refine lv_topl (fun y_4 e9 => ?_)
              have e9 : y_4 = f (pp + k) := e9.trans (by rw [nI_add, nI_clamp (by omega)])
              subst e9
              refine ro_i (va_runV (As := [.long (f (pp + k))]) (rest := []) ⟨hx, hb, hml, hown, hts⟩ (c_X1_takes l (h0 := b0) (v0 := f (pp + k)) (hP.sub [3] rfl)) (cwV 1 hts gX0_lay_X1_takes rfl rfl rfl (by decide +kernel) ⟨Nat.le_of_ble_eq_true rfl, Nat.le_of_ble_eq_true rfl⟩) (Pq.V hC hS hN (va_recv hK hP (ci := 1) (q0 := 3) rfl rfl)) rfl rfl hl.1 rfl (lv_room (Nat.le_of_ble_eq_true rfl)) dX0_lay_66 ⟨Nat.le_of_ble_eq_true rfl, Nat.le_of_ble_eq_true rfl⟩) hS (fun r_5 locs hw hS => ?_)
              have hw : r_5 = tB (kTake kb (f (pp + k))) := hw
              subst hw
              refine lv_if_eq (tgt := 85) hx hb dX0_lay_69 (by decide) (fun c_69 => ?_) (fun c_69 => ?_)
              · have c_69 := tB_0.mp c_69
                refine lv_aload_n hx hb dX0_lay_85 rfl (lv_at hl 1 rfl) ?_
                refine va_getN (D := D) (ci := 1) (v := .ref wa) (C := RX1) (T := TX1) (N := 2) hx hb hts iw_X0_lay_X1 hown hK hP 1 rfl rfl 1 (by decide) (hC.nest (a := RX0) (i := 47) (b := "SpliceRoom$Reel") (n := "row") (d := "[J") (hh := "SpliceRoom") (by decide +kernel)) (fun _ h9 => h9) rfl dX0_lay_86 ?_
                refine lv_iload_n hx hb dX0_lay_89 rfl (lv_at hl 2 rfl) ?_
                refine lv_aload_n hx hb dX0_lay_90 rfl (lv_at hl 3 rfl) ?_
                refine va_getN (D := D) (ci := 1) (v := .ref wb) (C := RX1) (T := TX1) (N := 2) hx hb hts iw_X0_lay_X1 hown hK hP 3 rfl rfl 1 (by decide) (hC.nest (a := RX0) (i := 47) (b := "SpliceRoom$Reel") (n := "row") (d := "[J") (hh := "SpliceRoom") (by decide +kernel)) (fun _ h9 => h9) rfl dX0_lay_91 ?_
                refine lv_iload hx hb dX0_lay_94 (lv_at hl 4 rfl) ?_
                refine lv_aload_n hx hb dX0_lay_96 rfl (lv_at hl 0 rfl) ?_
                refine va_get (D := D) (ci := 0) (v := .int (nI k)) (C := RX0) (T := TX0) (N := 7) hx hb hts iw_X0_lay_X0 hown hK hP 0 rfl rfl 4 (by decide) (hts _ lk_X0_lay_Cond_fieldLink_RX0_18_SpliceRoom_Knife_far_I_) (fun _ h9 => h9) rfl dX0_lay_97 ?_
                refine va_copyl (D := D) hx hb (by rw [hml]; exact hl.1.symm) hown (hts _ lk_X0_lay_Cond_methodLink_RX0_55_arraycopyName) (hts _ lk_X0_lay_Cond_native_arraycopyName) (hts _ lk_X0_lay_Cond_static_arraycopyName) (hts _ lk_X0_lay_Cond_initialized_java_lang_System_) hK hP hD hS 2 4 1 1 rfl rfl rfl rfl rfl (nI_pos (by omega)) (nI_pos (by omega)) (nI_pos (by omega)) (by rw [nI_clamp (by omega), nI_clamp (by omega)]; omega) (by rw [nI_clamp (by omega), nI_clamp (by omega)]; omega) (fun _ _ => rfl) (Nat.le_of_ble_eq_true rfl) (Nat.le_of_ble_eq_true rfl) dX0_lay_100 (fun H locs hP hD hS => ?_)
                rw [nI_clamp (show k < 2 ^ 31 by omega)] at hP hD
                have hP : va_P D vwCl [(h0, .inr (0, [.int f0, .int f1, .int f2, .int f3, .int (nI k), .int f5, .int f6])), (a0, .inr (1, [.int ka, .ref wa])), (wa, .inl (cL, za, .inr (.inl f))), (b0, .inr (1, [.int kb, .ref wb])), (wb, .inl (cL, zb, .inr (.inl (va_cpy f g (nI pp).toNatClampNeg (nI qq).toNatClampNeg k))))] H := hP
                have hD : va_D A [(h0, .inr (0, [.int f0, .int f1, .int f2, .int f3, .int (nI k), .int f5, .int f6])), (a0, .inr (1, [.int ka, .ref wa])), (wa, .inl (cL, za, .inr (.inl f))), (b0, .inr (1, [.int kb, .ref wb])), (wb, .inl (cL, zb, .inr (.inl (va_cpy f g (nI pp).toNatClampNeg (nI qq).toNatClampNeg k))))] := hD
                refine lv_aload_n hx hb dX0_lay_103 rfl (lv_at hl 0 rfl) ?_
                refine va_get (D := D) (ci := 0) (v := .int (nI k)) (C := RX0) (T := TX0) (N := 7) hx hb hts iw_X0_lay_X0 hown hK hP 0 rfl rfl 4 (by decide) (hts _ lk_X0_lay_Cond_fieldLink_RX0_18_SpliceRoom_Knife_far_I_) (fun _ h9 => h9) rfl dX0_lay_104 ?_
                refine lv_iload hx hb dX0_lay_107 (lv_at hl 5 rfl) ?_
                refine lv_icmp_ge (tgt := 117) hx hb dX0_lay_109 (by decide) (fun c9 => absurd c9 ((fun h => absurd ((nI_leI (by omega) (by omega)).mp h) (by omega)))) (fun _ => ?_)
                refine lv_bipush (v := (-4)) hx hb dX0_lay_112 (by decide) ?_
                refine lv_goto (tgt := 119) hx hb dX0_lay_114 (by decide) ?_
                exact W.iret (v := (-4)) hx hb hr (fun t ht hW => ⟨⟨_, k, rfl, Or.inr (Or.inr ⟨c_15, hin, ⟨by rw [nI_clamp (by omega)]; omega, by rw [nI_clamp (by omega)]; exact hf, fun _ => by rw [nI_clamp (by omega)]; exact c_69⟩, by rw [nI_clamp (by omega), if_pos hlt]⟩), ⟨by rw [ht]; exact hP, hD⟩⟩, hS.F ht⟩) hS.2.2 dX0_lay_119
              · have c_69 := tB_n.mp c_69
                refine lv_aload_n hx hb dX0_lay_72 rfl (lv_at hl 0 rfl) ?_
                refine lv_dup hx hb dX0_lay_73 rfl ?_
                refine va_get (D := D) (ci := 0) (v := .int (nI k)) (C := RX0) (T := TX0) (N := 7) hx hb hts iw_X0_lay_X0 hown hK hP 0 rfl rfl 4 (by decide) (hts _ lk_X0_lay_Cond_fieldLink_RX0_18_SpliceRoom_Knife_far_I_) (fun _ h9 => h9) rfl dX0_lay_74 ?_
                refine lv_iconst (v := 1) hx hb dX0_lay_77 (by decide) ?_
                refine lv_iadd hx hb dX0_lay_78 ?_
                refine lv_topi (fun y_6 e9 => ?_)
                have e9 : y_6 = nI (k + 1) := e9.trans (nI_1 k)
                subst e9
                refine va_put (D := D) (ci := 0) (v := .int (nI (k + 1))) (ty := .int) (C := RX0) (T := TX0) (N := 7) hx hb hts iw_X0_lay_X0 tyX0 tyX0_ok nmX0 hown hK hP hD hS 0 rfl rfl 4 (by decide) (hts _ lk_X0_lay_Cond_fieldLink_RX0_18_SpliceRoom_Knife_far_I_) (fun _ h9 => h9) rfl (by decide +kernel) rfl rfl (Nat.le_of_ble_eq_true rfl) dX0_lay_79 (fun H locs hP hD hS => ?_)
                have hP : va_P D vwCl [(h0, .inr (0, [.int f0, .int f1, .int f2, .int f3, .int (nI (k + 1)), .int f5, .int f6])), (a0, .inr (1, [.int ka, .ref wa])), (wa, .inl (cL, za, .inr (.inl f))), (b0, .inr (1, [.int kb, .ref wb])), (wb, .inl (cL, zb, .inr (.inl g)))] H := hP
                have hD : va_D A [(h0, .inr (0, [.int f0, .int f1, .int f2, .int f3, .int (nI (k + 1)), .int f5, .int f6])), (a0, .inr (1, [.int ka, .ref wa])), (wa, .inl (cL, za, .inr (.inl f))), (b0, .inr (1, [.int kb, .ref wb])), (wb, .inl (cL, zb, .inr (.inl g)))] := hD
                refine lv_goto (tgt := 45) hx hb dX0_lay_82 (by decide) ?_
                refine ih (k + 1) _ _ (by omega) (by omega) (fun j hj => ?_) hP hD hS
                by_cases e : j = k
                · rw [e]; exact c_69
                · exact hf j (by omega)
        exact loop (n1 + 1) 0 _ _ (by omega) (by omega) (fun j hj => absurd hj (by omega)) hP hD hS
      · have c_39 := tB_0.mp c_39
        refine lv_bipush (v := (-3)) hx hb dX0_lay_42 (by decide) ?_
        exact W.iret (v := (-3)) hx hb hr (fun t ht hW => ⟨⟨_, 0, rfl, Or.inr (Or.inl ⟨c_15, fun h9 => c_39 h9.2, rfl, rfl⟩), ⟨by rw [ht]; exact by rw [(cpy_0 f g p0.toNatClampNeg q0.toNatClampNeg)]; exact hP, by rw [(cpy_0 f g p0.toNatClampNeg q0.toNatClampNeg)]; exact hD⟩⟩, hS.F ht⟩) hS.2.2 dX0_lay_44
  · have c_15 := tB_0.mp c_15
    refine lv_bipush (v := (-2)) hx hb dX0_lay_18 (by decide) ?_
    exact W.iret (v := (-2)) hx hb hr (fun t ht hW => ⟨⟨_, 0, rfl, Or.inl ⟨c_15, rfl, rfl⟩, ⟨by rw [ht]; exact by rw [(cpy_0 f g p0.toNatClampNeg q0.toNatClampNeg)]; exact hP, by rw [(cpy_0 f g p0.toNatClampNeg q0.toNatClampNeg)]; exact hD⟩⟩, hS.F ht⟩) hS.2.2 dX0_lay_20
set_option maxHeartbeats 4000000 in
set_option maxRecDepth 100000 in
theorem c_X0_layS (l : Launch) {D : va_G} {cI cL cQ : ClassId} {N0 : Nat} {sa : Nat → Nat} {Hc : Heap} {h0 a0 wa : Nat} {f0 f1 f2 f3 f5 f6 ka : Int32} {za : Nat} {f : Nat → Int64} {p0 q0 n0 : Int32} (hP : va_P D vwCl [(h0, .inr (0, [.int f0, .int f1, .int f2, .int f3, .int 0, .int f5, .int f6])), (a0, .inr (1, [.int ka, .ref wa])), (wa, .inl (cL, za, .inr (.inl f)))] Hc) (hD0 : va_D nT [(h0, .inr (0, [.int f0, .int f1, .int f2, .int f3, .int 0, .int f5, .int f6])), (a0, .inr (1, [.int ka, .ref wa])), (wa, .inl (cL, za, .inr (.inl f)))]) (hN : ∀ q, va_A [(h0, .inr (0, [.int f0, .int f1, .int f2, .int f3, .int 0, .int f5, .int f6])), (a0, .inr (1, [.int ka, .ref wa])), (wa, .inl (cL, za, .inr (.inl f)))] Hc.size q → N0 ≤ q) (hza : za ≤ 40) : Met l yX0_lay wsX0_lay ({ frames := 2, cells := 0, slots := 0, locals := 60 }) (Pq D cI cL cQ N0 sa [.ref h0, .ref a0, .int p0, .ref a0, .int q0, .int n0] Hc) (va_Qi (fun (r : Int32) (u : Nat) => LayRel ka ka za za f p0 q0 n0 u r) (fun (u : Nat) (t : State) => va_P D vwCl [(h0, .inr (0, [.int f0, .int f1, .int f2, .int f3, .int (nI u), .int f5, .int f6])), (a0, .inr (1, [.int ka, .ref wa])), (wa, .inl (cL, za, .inr (.inl (va_cpy f f p0.toNatClampNeg q0.toNatClampNeg u))))] t.heap ∧ va_D (va_A [(h0, .inr (0, [.int f0, .int f1, .int f2, .int f3, .int 0, .int f5, .int f6])), (a0, .inr (1, [.int ka, .ref wa])), (wa, .inl (cL, za, .inr (.inl f)))] Hc.size) [(h0, .inr (0, [.int f0, .int f1, .int f2, .int f3, .int (nI u), .int f5, .int f6])), (a0, .inr (1, [.int ka, .ref wa])), (wa, .inl (cL, za, .inr (.inl (va_cpy f f p0.toNatClampNeg q0.toNatClampNeg u))))]) (va_A [(h0, .inr (0, [.int f0, .int f1, .int f2, .int f3, .int 0, .int f5, .int f6])), (a0, .inr (1, [.int ka, .ref wa])), (wa, .inl (cL, za, .inr (.inl f)))] Hc.size)) 0 0 (va_A [(h0, .inr (0, [.int f0, .int f1, .int f2, .int f3, .int 0, .int f5, .int f6])), (a0, .inr (1, [.int ka, .ref wa])), (wa, .inl (cL, za, .inr (.inl f)))] Hc.size) := by
  refine Met.ofW (cc := cX0_lay) (maxL := 6) (ret := (some .int)) (by decide) rfl ?_
  intro p e s m args below meth c s₁ B hml hv
  obtain ⟨rfl, hH, hC⟩ := hv
  have hx := B.exec
  have hb := B.bytes
  have hr := B.returns
  have hts := atoms_spec (ws := wsX0_lay) B.pre
  have hown : s.vm.findClass RX0 = some m.cls := findClass_of_methodNamed B.named
  have hlocks := B.notSynchronized
  subst hH
  have hK := hC.K
  have hl := lv_entry ([.ref h0, .ref a0, .int p0, .ref a0, .int q0, .int n0]) (n := 6) (Nat.le_of_ble_eq_true rfl)
  rw [lg_entry_eq]
  generalize (lg_sl ([.ref h0, .ref a0, .int p0, .ref a0, .int q0, .int n0]) ++ List.replicate (6 - (lg_sl ([.ref h0, .ref a0, .int p0, .ref a0, .int q0, .int n0])).length) Slot.unset).toArray = ls at hl ⊢
  have hl : lv_has ls 6 [(0, .ref h0), (1, .ref a0), (2, .int p0), (3, .ref a0), (4, .int q0), (5, .int n0)] := hl
  have hP : va_P D vwCl [(h0, .inr (0, [.int f0, .int f1, .int f2, .int f3, .int 0, .int f5, .int f6])), (a0, .inr (1, [.int ka, .ref wa])), (wa, .inl (cL, za, .inr (.inl f)))] s.heap := hP
  have hD := hD0.self (sz := s.heap.size)
  generalize hAe : va_A [(h0, .inr (0, [.int f0, .int f1, .int f2, .int f3, .int 0, .int f5, .int f6])), (a0, .inr (1, [.int ka, .ref wa])), (wa, .inl (cL, za, .inr (.inl f)))] s.heap.size = A at hD hN ⊢
  have hA : ∀ q : Nat, s.heap.size ≤ q → A q := fun q h => by rw [← hAe]; exact Or.inr h
  have hS : va_S A s.heap s.heap [] := va_S.rf
  refine lv_aload_n hx hb dX0_lay_0 rfl (lv_at hl 1 rfl) ?_
  refine lv_ifnull hx hb dX0_lay_1 ?_
  refine lv_aload_n hx hb dX0_lay_4 rfl (lv_at hl 3 rfl) ?_
  refine lv_ifnonnull (tgt := 10) hx hb dX0_lay_5 (by decide) ?_
  refine lv_aload_n hx hb dX0_lay_10 rfl (lv_at hl 1 rfl) ?_
  refine lv_aload_n hx hb dX0_lay_11 rfl (lv_at hl 3 rfl) ?_
  refine ro_i (va_runV (As := [.ref a0]) (rest := []) ⟨hx, hb, hml, hown, hts⟩ (c_X1_isLikeS l (h0 := a0) (hP.sub [1] rfl)) (cwV 1 hts gX0_lay_X1_isLike rfl rfl rfl (by decide +kernel) ⟨Nat.le_of_ble_eq_true rfl, Nat.le_of_ble_eq_true rfl⟩) (Pq.V hC hS hN (va_recv hK hP (ci := 1) (q0 := 1) rfl rfl)) rfl rfl hl.1 rfl (lv_room (Nat.le_of_ble_eq_true rfl)) dX0_lay_12 ⟨Nat.le_of_ble_eq_true rfl, Nat.le_of_ble_eq_true rfl⟩) hS (fun r_1 locs hw hS => ?_)
  have hw : r_1 = tB (kLike ka ka) := hw
  subst hw
  refine lv_if_ne (tgt := 21) hx hb dX0_lay_15 (by decide) (fun c_15 => ?_) (fun c_15 => ?_)
  · have c_15 := tB_n.mp c_15
    refine lv_aload_n hx hb dX0_lay_21 rfl (lv_at hl 1 rfl) ?_
    refine lv_iload_n hx hb dX0_lay_22 rfl (lv_at hl 2 rfl) ?_
    refine lv_iload hx hb dX0_lay_23 (lv_at hl 5 rfl) ?_
    refine ro_i (va_runV (As := [.int p0, .int n0]) (rest := []) ⟨hx, hb, hml, hown, hts⟩ (c_X1_hasFrames l (h0 := a0) (p0 := p0) (n0 := n0) (hP.sub [1, 2] rfl) hza) (cwV 2 hts gX0_lay_X1_hasFrames rfl rfl rfl (by decide +kernel) ⟨Nat.le_of_ble_eq_true rfl, Nat.le_of_ble_eq_true rfl⟩) (Pq.V hC hS hN (va_recv hK hP (ci := 1) (q0 := 1) rfl rfl)) rfl rfl hl.1 rfl (lv_room (Nat.le_of_ble_eq_true rfl)) dX0_lay_25 ⟨Nat.le_of_ble_eq_true rfl, Nat.le_of_ble_eq_true rfl⟩) hS (fun r_2 locs hw hS => ?_)
    have hw : r_2 = tB (inFr p0 n0 za) := hw
    subst hw
    refine lv_if_eq (tgt := 42) hx hb dX0_lay_28 (by decide) (fun c_28 => ?_) (fun c_28 => ?_)
    · have c_28 := tB_0.mp c_28
      refine lv_bipush (v := (-3)) hx hb dX0_lay_42 (by decide) ?_
      exact W.iret (v := (-3)) hx hb hr (fun t ht hW => ⟨⟨_, 0, rfl, Or.inr (Or.inl ⟨c_15, fun h9 => c_28 h9.1, rfl, rfl⟩), ⟨by rw [ht]; exact by rw [(cpy_0 f f p0.toNatClampNeg q0.toNatClampNeg)]; exact hP, by rw [(cpy_0 f f p0.toNatClampNeg q0.toNatClampNeg)]; exact hD⟩⟩, hS.F ht⟩) hS.2.2 dX0_lay_44
    · have c_28 := tB_n.mp c_28
      refine lv_aload_n hx hb dX0_lay_31 rfl (lv_at hl 3 rfl) ?_
      refine lv_iload hx hb dX0_lay_32 (lv_at hl 4 rfl) ?_
      refine lv_iload hx hb dX0_lay_34 (lv_at hl 5 rfl) ?_
      refine ro_i (va_runV (As := [.int q0, .int n0]) (rest := []) ⟨hx, hb, hml, hown, hts⟩ (c_X1_hasFrames l (h0 := a0) (p0 := q0) (n0 := n0) (hP.sub [1, 2] rfl) hza) (cwV 2 hts gX0_lay_X1_hasFrames rfl rfl rfl (by decide +kernel) ⟨Nat.le_of_ble_eq_true rfl, Nat.le_of_ble_eq_true rfl⟩) (Pq.V hC hS hN (va_recv hK hP (ci := 1) (q0 := 1) rfl rfl)) rfl rfl hl.1 rfl (lv_room (Nat.le_of_ble_eq_true rfl)) dX0_lay_36 ⟨Nat.le_of_ble_eq_true rfl, Nat.le_of_ble_eq_true rfl⟩) hS (fun r_3 locs hw hS => ?_)
      have hw : r_3 = tB (inFr q0 n0 za) := hw
      subst hw
      refine lv_if_ne (tgt := 45) hx hb dX0_lay_39 (by decide) (fun c_39 => ?_) (fun c_39 => ?_)
      · have c_39 := tB_n.mp c_39
        obtain ⟨pp, n1, hp1, rfl, rfl⟩ := inFr_n hza c_28
        obtain ⟨qq, n2, hp2, rfl, en⟩ := inFr_n hza c_39
        have en2 : n1 = n2 := (nI_eq (by omega) (by omega)).mp en
        subst en2
        have hin : inFr (nI pp) (nI n1) za ∧ inFr (nI qq) (nI n1) za := ⟨c_28, c_39⟩
        have loop : ∀ (n k : Nat) (H : Heap) (locs : List Loc), k ≤ n1 → n1 + 1 ≤ k + n → (∀ j, j < k → kTake ka (f (pp + j))) → va_P D vwCl [(h0, .inr (0, [.int f0, .int f1, .int f2, .int f3, .int (nI k), .int f5, .int f6])), (a0, .inr (1, [.int ka, .ref wa])), (wa, .inl (cL, za, .inr (.inl f)))] H → va_D A [(h0, .inr (0, [.int f0, .int f1, .int f2, .int f3, .int (nI k), .int f5, .int f6])), (a0, .inr (1, [.int ka, .ref wa])), (wa, .inl (cL, za, .inr (.inl f)))] → va_S A s.heap H locs → W p l e (headSpec wsX0_lay ({ frames := 2, cells := 0, slots := 0, locals := 60 })).room s m ([.ref h0, .ref a0, .int (nI pp), .ref a0, .int (nI qq), .int (nI n1)] : List Value).toArray below meth c H locs 0 0 (MQ below (va_Qi (fun (r : Int32) (u : Nat) => LayRel ka ka za za f (nI pp) (nI qq) (nI n1) u r) (fun (u : Nat) (t : State) => va_P D vwCl [(h0, .inr (0, [.int f0, .int f1, .int f2, .int f3, .int (nI u), .int f5, .int f6])), (a0, .inr (1, [.int ka, .ref wa])), (wa, .inl (cL, za, .inr (.inl (va_cpy f f (nI pp).toNatClampNeg (nI qq).toNatClampNeg u))))] t.heap ∧ va_D A [(h0, .inr (0, [.int f0, .int f1, .int f2, .int f3, .int (nI u), .int f5, .int f6])), (a0, .inr (1, [.int ka, .ref wa])), (wa, .inl (cL, za, .inr (.inl (va_cpy f f (nI pp).toNatClampNeg (nI qq).toNatClampNeg u))))]) A) ([.ref h0, .ref a0, .int (nI pp), .ref a0, .int (nI qq), .int (nI n1)] : List Value).toArray s 0 0 A) (F0 m 45 ls []) := by
          intro n
          induction n with
          | zero => intro k H locs h1 h2; exact absurd h2 (by omega)
          | succ n ih =>
            intro k H locs hk hn hf hP hD hS
            refine lv_aload_n hx hb dX0_lay_45 rfl (lv_at hl 0 rfl) ?_
            refine va_get (D := D) (ci := 0) (v := .int (nI k)) (C := RX0) (T := TX0) (N := 7) hx hb hts iw_X0_lay_X0 hown hK hP 0 rfl rfl 4 (by decide) (hts _ lk_X0_lay_Cond_fieldLink_RX0_18_SpliceRoom_Knife_far_I_) (fun _ h9 => h9) rfl dX0_lay_46 ?_
            refine lv_iload hx hb dX0_lay_49 (lv_at hl 5 rfl) ?_
            refine lv_icmp_ge (tgt := 85) hx hb dX0_lay_51 (by decide) (fun c_51 => ?_) (fun c_51 => ?_)
            · have hkn : n1 ≤ k := (nI_leI (by omega) (by omega)).mp c_51
              refine lv_aload_n hx hb dX0_lay_85 rfl (lv_at hl 1 rfl) ?_
              refine va_getN (D := D) (ci := 1) (v := .ref wa) (C := RX1) (T := TX1) (N := 2) hx hb hts iw_X0_lay_X1 hown hK hP 1 rfl rfl 1 (by decide) (hC.nest (a := RX0) (i := 47) (b := "SpliceRoom$Reel") (n := "row") (d := "[J") (hh := "SpliceRoom") (by decide +kernel)) (fun _ h9 => h9) rfl dX0_lay_86 ?_
              refine lv_iload_n hx hb dX0_lay_89 rfl (lv_at hl 2 rfl) ?_
              refine lv_aload_n hx hb dX0_lay_90 rfl (lv_at hl 3 rfl) ?_
              refine va_getN (D := D) (ci := 1) (v := .ref wa) (C := RX1) (T := TX1) (N := 2) hx hb hts iw_X0_lay_X1 hown hK hP 1 rfl rfl 1 (by decide) (hC.nest (a := RX0) (i := 47) (b := "SpliceRoom$Reel") (n := "row") (d := "[J") (hh := "SpliceRoom") (by decide +kernel)) (fun _ h9 => h9) rfl dX0_lay_91 ?_
              refine lv_iload hx hb dX0_lay_94 (lv_at hl 4 rfl) ?_
              refine lv_aload_n hx hb dX0_lay_96 rfl (lv_at hl 0 rfl) ?_
              refine va_get (D := D) (ci := 0) (v := .int (nI k)) (C := RX0) (T := TX0) (N := 7) hx hb hts iw_X0_lay_X0 hown hK hP 0 rfl rfl 4 (by decide) (hts _ lk_X0_lay_Cond_fieldLink_RX0_18_SpliceRoom_Knife_far_I_) (fun _ h9 => h9) rfl dX0_lay_97 ?_
              refine va_copyl (D := D) hx hb (by rw [hml]; exact hl.1.symm) hown (hts _ lk_X0_lay_Cond_methodLink_RX0_55_arraycopyName) (hts _ lk_X0_lay_Cond_native_arraycopyName) (hts _ lk_X0_lay_Cond_static_arraycopyName) (hts _ lk_X0_lay_Cond_initialized_java_lang_System_) hK hP hD hS 2 2 1 1 rfl rfl rfl rfl rfl (nI_pos (by omega)) (nI_pos (by omega)) (nI_pos (by omega)) (by rw [nI_clamp (by omega), nI_clamp (by omega)]; omega) (by rw [nI_clamp (by omega), nI_clamp (by omega)]; omega) (fun _ _ => rfl) (Nat.le_of_ble_eq_true rfl) (Nat.le_of_ble_eq_true rfl) dX0_lay_100 (fun H locs hP hD hS => ?_)
              rw [nI_clamp (show k < 2 ^ 31 by omega)] at hP hD
              have hP : va_P D vwCl [(h0, .inr (0, [.int f0, .int f1, .int f2, .int f3, .int (nI k), .int f5, .int f6])), (a0, .inr (1, [.int ka, .ref wa])), (wa, .inl (cL, za, .inr (.inl (va_cpy f f (nI pp).toNatClampNeg (nI qq).toNatClampNeg k))))] H := hP
              have hD : va_D A [(h0, .inr (0, [.int f0, .int f1, .int f2, .int f3, .int (nI k), .int f5, .int f6])), (a0, .inr (1, [.int ka, .ref wa])), (wa, .inl (cL, za, .inr (.inl (va_cpy f f (nI pp).toNatClampNeg (nI qq).toNatClampNeg k))))] := hD
              refine lv_aload_n hx hb dX0_lay_103 rfl (lv_at hl 0 rfl) ?_
              refine va_get (D := D) (ci := 0) (v := .int (nI k)) (C := RX0) (T := TX0) (N := 7) hx hb hts iw_X0_lay_X0 hown hK hP 0 rfl rfl 4 (by decide) (hts _ lk_X0_lay_Cond_fieldLink_RX0_18_SpliceRoom_Knife_far_I_) (fun _ h9 => h9) rfl dX0_lay_104 ?_
              refine lv_iload hx hb dX0_lay_107 (lv_at hl 5 rfl) ?_
              refine lv_icmp_ge (tgt := 117) hx hb dX0_lay_109 (by decide) (fun _ => ?_) (fun c9 => absurd (nI_le hkn (by omega)) c9)
              refine lv_iload hx hb dX0_lay_117 (lv_at hl 5 rfl) ?_
              exact W.iret (v := (nI n1)) hx hb hr (fun t ht hW => ⟨⟨_, k, rfl, Or.inr (Or.inr ⟨c_15, hin, ⟨by rw [nI_clamp (by omega)]; omega, by rw [nI_clamp (by omega)]; exact hf, fun h9 => absurd h9 (by rw [nI_clamp (by omega)]; omega)⟩, by rw [nI_clamp (by omega), if_neg (by omega)]⟩), ⟨by rw [ht]; exact hP, hD⟩⟩, hS.F ht⟩) hS.2.2 dX0_lay_119
            · have hlt : k < n1 := Nat.lt_of_not_le (fun h => c_51 (nI_le h (by omega)))
              refine lv_aload_n hx hb dX0_lay_54 rfl (lv_at hl 3 rfl) ?_
              refine lv_aload_n hx hb dX0_lay_55 rfl (lv_at hl 1 rfl) ?_
              refine va_getN (D := D) (ci := 1) (v := .ref wa) (C := RX1) (T := TX1) (N := 2) hx hb hts iw_X0_lay_X1 hown hK hP 1 rfl rfl 1 (by decide) (hC.nest (a := RX0) (i := 47) (b := "SpliceRoom$Reel") (n := "row") (d := "[J") (hh := "SpliceRoom") (by decide +kernel)) (fun _ h9 => h9) rfl dX0_lay_56 ?_
              refine lv_iload_n hx hb dX0_lay_59 rfl (lv_at hl 2 rfl) ?_
              refine lv_aload_n hx hb dX0_lay_60 rfl (lv_at hl 0 rfl) ?_
              refine va_get (D := D) (ci := 0) (v := .int (nI k)) (C := RX0) (T := TX0) (N := 7) hx hb hts iw_X0_lay_X0 hown hK hP 0 rfl rfl 4 (by decide) (hts _ lk_X0_lay_Cond_fieldLink_RX0_18_SpliceRoom_Knife_far_I_) (fun _ h9 => h9) rfl dX0_lay_61 ?_
              refine lv_iadd hx hb dX0_lay_64 ?_
              refine va_lald (D := D) hx hb hK hP 2 1 rfl rfl (by rw [nI_add]; exact vp_in_nI (show pp + k < za by omega) (by omega)) dX0_lay_65 ?_
              refine lv_topl (fun y_4 e9 => ?_)
              have e9 : y_4 = f (pp + k) := e9.trans (by rw [nI_add, nI_clamp (by omega)])
              subst e9
              refine ro_i (va_runV (As := [.long (f (pp + k))]) (rest := []) ⟨hx, hb, hml, hown, hts⟩ (c_X1_takes l (h0 := a0) (v0 := f (pp + k)) (hP.sub [1] rfl)) (cwV 1 hts gX0_lay_X1_takes rfl rfl rfl (by decide +kernel) ⟨Nat.le_of_ble_eq_true rfl, Nat.le_of_ble_eq_true rfl⟩) (Pq.V hC hS hN (va_recv hK hP (ci := 1) (q0 := 1) rfl rfl)) rfl rfl hl.1 rfl (lv_room (Nat.le_of_ble_eq_true rfl)) dX0_lay_66 ⟨Nat.le_of_ble_eq_true rfl, Nat.le_of_ble_eq_true rfl⟩) hS (fun r_5 locs hw hS => ?_)
              have hw : r_5 = tB (kTake ka (f (pp + k))) := hw
              subst hw
              refine lv_if_eq (tgt := 85) hx hb dX0_lay_69 (by decide) (fun c_69 => ?_) (fun c_69 => ?_)
              · have c_69 := tB_0.mp c_69
                refine lv_aload_n hx hb dX0_lay_85 rfl (lv_at hl 1 rfl) ?_
                refine va_getN (D := D) (ci := 1) (v := .ref wa) (C := RX1) (T := TX1) (N := 2) hx hb hts iw_X0_lay_X1 hown hK hP 1 rfl rfl 1 (by decide) (hC.nest (a := RX0) (i := 47) (b := "SpliceRoom$Reel") (n := "row") (d := "[J") (hh := "SpliceRoom") (by decide +kernel)) (fun _ h9 => h9) rfl dX0_lay_86 ?_
                refine lv_iload_n hx hb dX0_lay_89 rfl (lv_at hl 2 rfl) ?_
                refine lv_aload_n hx hb dX0_lay_90 rfl (lv_at hl 3 rfl) ?_
                refine va_getN (D := D) (ci := 1) (v := .ref wa) (C := RX1) (T := TX1) (N := 2) hx hb hts iw_X0_lay_X1 hown hK hP 1 rfl rfl 1 (by decide) (hC.nest (a := RX0) (i := 47) (b := "SpliceRoom$Reel") (n := "row") (d := "[J") (hh := "SpliceRoom") (by decide +kernel)) (fun _ h9 => h9) rfl dX0_lay_91 ?_
                refine lv_iload hx hb dX0_lay_94 (lv_at hl 4 rfl) ?_
                refine lv_aload_n hx hb dX0_lay_96 rfl (lv_at hl 0 rfl) ?_
                refine va_get (D := D) (ci := 0) (v := .int (nI k)) (C := RX0) (T := TX0) (N := 7) hx hb hts iw_X0_lay_X0 hown hK hP 0 rfl rfl 4 (by decide) (hts _ lk_X0_lay_Cond_fieldLink_RX0_18_SpliceRoom_Knife_far_I_) (fun _ h9 => h9) rfl dX0_lay_97 ?_
                refine va_copyl (D := D) hx hb (by rw [hml]; exact hl.1.symm) hown (hts _ lk_X0_lay_Cond_methodLink_RX0_55_arraycopyName) (hts _ lk_X0_lay_Cond_native_arraycopyName) (hts _ lk_X0_lay_Cond_static_arraycopyName) (hts _ lk_X0_lay_Cond_initialized_java_lang_System_) hK hP hD hS 2 2 1 1 rfl rfl rfl rfl rfl (nI_pos (by omega)) (nI_pos (by omega)) (nI_pos (by omega)) (by rw [nI_clamp (by omega), nI_clamp (by omega)]; omega) (by rw [nI_clamp (by omega), nI_clamp (by omega)]; omega) (fun _ _ => rfl) (Nat.le_of_ble_eq_true rfl) (Nat.le_of_ble_eq_true rfl) dX0_lay_100 (fun H locs hP hD hS => ?_)
                rw [nI_clamp (show k < 2 ^ 31 by omega)] at hP hD
                have hP : va_P D vwCl [(h0, .inr (0, [.int f0, .int f1, .int f2, .int f3, .int (nI k), .int f5, .int f6])), (a0, .inr (1, [.int ka, .ref wa])), (wa, .inl (cL, za, .inr (.inl (va_cpy f f (nI pp).toNatClampNeg (nI qq).toNatClampNeg k))))] H := hP
                have hD : va_D A [(h0, .inr (0, [.int f0, .int f1, .int f2, .int f3, .int (nI k), .int f5, .int f6])), (a0, .inr (1, [.int ka, .ref wa])), (wa, .inl (cL, za, .inr (.inl (va_cpy f f (nI pp).toNatClampNeg (nI qq).toNatClampNeg k))))] := hD
                refine lv_aload_n hx hb dX0_lay_103 rfl (lv_at hl 0 rfl) ?_
                refine va_get (D := D) (ci := 0) (v := .int (nI k)) (C := RX0) (T := TX0) (N := 7) hx hb hts iw_X0_lay_X0 hown hK hP 0 rfl rfl 4 (by decide) (hts _ lk_X0_lay_Cond_fieldLink_RX0_18_SpliceRoom_Knife_far_I_) (fun _ h9 => h9) rfl dX0_lay_104 ?_
                refine lv_iload hx hb dX0_lay_107 (lv_at hl 5 rfl) ?_
                refine lv_icmp_ge (tgt := 117) hx hb dX0_lay_109 (by decide) (fun c9 => absurd c9 ((fun h => absurd ((nI_leI (by omega) (by omega)).mp h) (by omega)))) (fun _ => ?_)
                refine lv_bipush (v := (-4)) hx hb dX0_lay_112 (by decide) ?_
                refine lv_goto (tgt := 119) hx hb dX0_lay_114 (by decide) ?_
                exact W.iret (v := (-4)) hx hb hr (fun t ht hW => ⟨⟨_, k, rfl, Or.inr (Or.inr ⟨c_15, hin, ⟨by rw [nI_clamp (by omega)]; omega, by rw [nI_clamp (by omega)]; exact hf, fun _ => by rw [nI_clamp (by omega)]; exact c_69⟩, by rw [nI_clamp (by omega), if_pos hlt]⟩), ⟨by rw [ht]; exact hP, hD⟩⟩, hS.F ht⟩) hS.2.2 dX0_lay_119
              · have c_69 := tB_n.mp c_69
                refine lv_aload_n hx hb dX0_lay_72 rfl (lv_at hl 0 rfl) ?_
                refine lv_dup hx hb dX0_lay_73 rfl ?_
                refine va_get (D := D) (ci := 0) (v := .int (nI k)) (C := RX0) (T := TX0) (N := 7) hx hb hts iw_X0_lay_X0 hown hK hP 0 rfl rfl 4 (by decide) (hts _ lk_X0_lay_Cond_fieldLink_RX0_18_SpliceRoom_Knife_far_I_) (fun _ h9 => h9) rfl dX0_lay_74 ?_
                refine lv_iconst (v := 1) hx hb dX0_lay_77 (by decide) ?_
                refine lv_iadd hx hb dX0_lay_78 ?_
                refine lv_topi (fun y_6 e9 => ?_)
                have e9 : y_6 = nI (k + 1) := e9.trans (nI_1 k)
                subst e9
                refine va_put (D := D) (ci := 0) (v := .int (nI (k + 1))) (ty := .int) (C := RX0) (T := TX0) (N := 7) hx hb hts iw_X0_lay_X0 tyX0 tyX0_ok nmX0 hown hK hP hD hS 0 rfl rfl 4 (by decide) (hts _ lk_X0_lay_Cond_fieldLink_RX0_18_SpliceRoom_Knife_far_I_) (fun _ h9 => h9) rfl (by decide +kernel) rfl rfl (Nat.le_of_ble_eq_true rfl) dX0_lay_79 (fun H locs hP hD hS => ?_)
                have hP : va_P D vwCl [(h0, .inr (0, [.int f0, .int f1, .int f2, .int f3, .int (nI (k + 1)), .int f5, .int f6])), (a0, .inr (1, [.int ka, .ref wa])), (wa, .inl (cL, za, .inr (.inl f)))] H := hP
                have hD : va_D A [(h0, .inr (0, [.int f0, .int f1, .int f2, .int f3, .int (nI (k + 1)), .int f5, .int f6])), (a0, .inr (1, [.int ka, .ref wa])), (wa, .inl (cL, za, .inr (.inl f)))] := hD
                refine lv_goto (tgt := 45) hx hb dX0_lay_82 (by decide) ?_
                refine ih (k + 1) _ _ (by omega) (by omega) (fun j hj => ?_) hP hD hS
                by_cases e : j = k
                · rw [e]; exact c_69
                · exact hf j (by omega)
        exact loop (n1 + 1) 0 _ _ (by omega) (by omega) (fun j hj => absurd hj (by omega)) hP hD hS
      · have c_39 := tB_0.mp c_39
        refine lv_bipush (v := (-3)) hx hb dX0_lay_42 (by decide) ?_
        exact W.iret (v := (-3)) hx hb hr (fun t ht hW => ⟨⟨_, 0, rfl, Or.inr (Or.inl ⟨c_15, fun h9 => c_39 h9.2, rfl, rfl⟩), ⟨by rw [ht]; exact by rw [(cpy_0 f f p0.toNatClampNeg q0.toNatClampNeg)]; exact hP, by rw [(cpy_0 f f p0.toNatClampNeg q0.toNatClampNeg)]; exact hD⟩⟩, hS.F ht⟩) hS.2.2 dX0_lay_44
  · have c_15 := tB_0.mp c_15
    refine lv_bipush (v := (-2)) hx hb dX0_lay_18 (by decide) ?_
    exact W.iret (v := (-2)) hx hb hr (fun t ht hW => ⟨⟨_, 0, rfl, Or.inl ⟨c_15, rfl, rfl⟩, ⟨by rw [ht]; exact by rw [(cpy_0 f f p0.toNatClampNeg q0.toNatClampNeg)]; exact hP, by rw [(cpy_0 f f p0.toNatClampNeg q0.toNatClampNeg)]; exact hD⟩⟩, hS.F ht⟩) hS.2.2 dX0_lay_20
set_option maxHeartbeats 4000000 in
set_option maxRecDepth 100000 in
theorem c_X0_layNN (l : Launch) {D : va_G} {cI cL cQ : ClassId} {N0 : Nat} {sa : Nat → Nat} {Hc : Heap} {h0 : Nat} {p0 q0 n0 : Int32} : Met l yX0_lay wsX0_lay ({ frames := 0, cells := 0, slots := 0, locals := 0 }) (Pq D cI cL cQ N0 sa [.ref h0, .null, .int p0, .null, .int q0, .int n0] Hc) (va_Qi (fun (r : Int32) (_ : Unit) => r = -1) (fun _ t => t.heap = Hc) nA) 0 0 nA := by
  refine Met.ofW (cc := cX0_lay) (maxL := 6) (ret := (some .int)) (by decide) rfl ?_
  intro p e s m args below meth c s₁ B hml hv
  obtain ⟨rfl, hH, hC⟩ := hv
  have hx := B.exec
  have hb := B.bytes
  have hr := B.returns
  have hts := atoms_spec (ws := wsX0_lay) B.pre
  have hown : s.vm.findClass RX0 = some m.cls := findClass_of_methodNamed B.named
  have hlocks := B.notSynchronized
  subst hH
  have hK := hC.K
  have hl := lv_entry ([.ref h0, .null, .int p0, .null, .int q0, .int n0]) (n := 6) (Nat.le_of_ble_eq_true rfl)
  rw [lg_entry_eq]
  generalize (lg_sl ([.ref h0, .null, .int p0, .null, .int q0, .int n0]) ++ List.replicate (6 - (lg_sl ([.ref h0, .null, .int p0, .null, .int q0, .int n0])).length) Slot.unset).toArray = ls at hl ⊢
  have hl : lv_has ls 6 [(0, .ref h0), (1, .null), (2, .int p0), (3, .null), (4, .int q0), (5, .int n0)] := hl
  have hS : va_S nA s.heap s.heap [] := va_S.rf
  have hN : ∀ q, nA q → N0 ≤ q := nA_N
  refine lv_aload_nN hx hb dX0_lay_0 rfl (lv_at hl 1 rfl) ?_
  refine lv_ifnullN (tgt := 8) hx hb dX0_lay_1 (by decide) ?_
  refine lv_iconst (v := (-1)) hx hb dX0_lay_8 (by decide) ?_
  exact W.iret (v := (-1)) hx hb hr (fun t ht hW => ⟨⟨_, (), rfl, rfl, ht⟩, hS.F ht⟩) hS.2.2 dX0_lay_9
set_option maxHeartbeats 4000000 in
set_option maxRecDepth 100000 in
theorem c_X0_layNR (l : Launch) {D : va_G} {cI cL cQ : ClassId} {N0 : Nat} {sa : Nat → Nat} {Hc : Heap} {h0 b0 : Nat} {p0 q0 n0 : Int32} : Met l yX0_lay wsX0_lay ({ frames := 0, cells := 0, slots := 0, locals := 0 }) (Pq D cI cL cQ N0 sa [.ref h0, .null, .int p0, .ref b0, .int q0, .int n0] Hc) (va_Qi (fun (r : Int32) (_ : Unit) => r = -1) (fun _ t => t.heap = Hc) nA) 0 0 nA := by
  refine Met.ofW (cc := cX0_lay) (maxL := 6) (ret := (some .int)) (by decide) rfl ?_
  intro p e s m args below meth c s₁ B hml hv
  obtain ⟨rfl, hH, hC⟩ := hv
  have hx := B.exec
  have hb := B.bytes
  have hr := B.returns
  have hts := atoms_spec (ws := wsX0_lay) B.pre
  have hown : s.vm.findClass RX0 = some m.cls := findClass_of_methodNamed B.named
  have hlocks := B.notSynchronized
  subst hH
  have hK := hC.K
  have hl := lv_entry ([.ref h0, .null, .int p0, .ref b0, .int q0, .int n0]) (n := 6) (Nat.le_of_ble_eq_true rfl)
  rw [lg_entry_eq]
  generalize (lg_sl ([.ref h0, .null, .int p0, .ref b0, .int q0, .int n0]) ++ List.replicate (6 - (lg_sl ([.ref h0, .null, .int p0, .ref b0, .int q0, .int n0])).length) Slot.unset).toArray = ls at hl ⊢
  have hl : lv_has ls 6 [(0, .ref h0), (1, .null), (2, .int p0), (3, .ref b0), (4, .int q0), (5, .int n0)] := hl
  have hS : va_S nA s.heap s.heap [] := va_S.rf
  have hN : ∀ q, nA q → N0 ≤ q := nA_N
  refine lv_aload_nN hx hb dX0_lay_0 rfl (lv_at hl 1 rfl) ?_
  refine lv_ifnullN (tgt := 8) hx hb dX0_lay_1 (by decide) ?_
  refine lv_iconst (v := (-1)) hx hb dX0_lay_8 (by decide) ?_
  exact W.iret (v := (-1)) hx hb hr (fun t ht hW => ⟨⟨_, (), rfl, rfl, ht⟩, hS.F ht⟩) hS.2.2 dX0_lay_9
set_option maxHeartbeats 4000000 in
set_option maxRecDepth 100000 in
theorem c_X0_layRN (l : Launch) {D : va_G} {cI cL cQ : ClassId} {N0 : Nat} {sa : Nat → Nat} {Hc : Heap} {h0 a0 : Nat} {p0 q0 n0 : Int32} : Met l yX0_lay wsX0_lay ({ frames := 0, cells := 0, slots := 0, locals := 0 }) (Pq D cI cL cQ N0 sa [.ref h0, .ref a0, .int p0, .null, .int q0, .int n0] Hc) (va_Qi (fun (r : Int32) (_ : Unit) => r = -1) (fun _ t => t.heap = Hc) nA) 0 0 nA := by
  refine Met.ofW (cc := cX0_lay) (maxL := 6) (ret := (some .int)) (by decide) rfl ?_
  intro p e s m args below meth c s₁ B hml hv
  obtain ⟨rfl, hH, hC⟩ := hv
  have hx := B.exec
  have hb := B.bytes
  have hr := B.returns
  have hts := atoms_spec (ws := wsX0_lay) B.pre
  have hown : s.vm.findClass RX0 = some m.cls := findClass_of_methodNamed B.named
  have hlocks := B.notSynchronized
  subst hH
  have hK := hC.K
  have hl := lv_entry ([.ref h0, .ref a0, .int p0, .null, .int q0, .int n0]) (n := 6) (Nat.le_of_ble_eq_true rfl)
  rw [lg_entry_eq]
  generalize (lg_sl ([.ref h0, .ref a0, .int p0, .null, .int q0, .int n0]) ++ List.replicate (6 - (lg_sl ([.ref h0, .ref a0, .int p0, .null, .int q0, .int n0])).length) Slot.unset).toArray = ls at hl ⊢
  have hl : lv_has ls 6 [(0, .ref h0), (1, .ref a0), (2, .int p0), (3, .null), (4, .int q0), (5, .int n0)] := hl
  have hS : va_S nA s.heap s.heap [] := va_S.rf
  have hN : ∀ q, nA q → N0 ≤ q := nA_N
  refine lv_aload_n hx hb dX0_lay_0 rfl (lv_at hl 1 rfl) ?_
  refine lv_ifnull hx hb dX0_lay_1 ?_
  refine lv_aload_nN hx hb dX0_lay_4 rfl (lv_at hl 3 rfl) ?_
  refine lv_ifnonnullN hx hb dX0_lay_5 ?_
  refine lv_iconst (v := (-1)) hx hb dX0_lay_8 (by decide) ?_
  exact W.iret (v := (-1)) hx hb hr (fun t ht hW => ⟨⟨_, (), rfl, rfl, ht⟩, hS.F ht⟩) hS.2.2 dX0_lay_9
end CKnife
