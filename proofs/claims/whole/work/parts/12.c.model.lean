section CModel3
/-- among n + 1 numbers below n two are alike -/
theorem php : ∀ (n : Nat) (f : Nat → Nat), (∀ i, i < n + 1 → f i < n) → ∃ i j, i < j ∧ j < n + 1 ∧ f i = f j
  | 0, f, h => absurd (h 0 (by omega)) (by omega)
  | n + 1, f, h => by
    by_cases he : ∃ i, i < n + 1 ∧ f i = f (n + 1)
    · obtain ⟨i, hi, e⟩ := he
      exact ⟨i, n + 1, by omega, by omega, e⟩
    · have hne : ∀ i, i < n + 1 → f i ≠ f (n + 1) := fun i hi e => he ⟨i, hi, e⟩
      obtain ⟨i, j, hij, hj, e⟩ := php n (fun i => if f i = n then f (n + 1) else f i) (fun i hi => by
        have h1 := h i (by omega)
        have h2 := h (n + 1) (by omega)
        have h3 := hne i hi
        show (if f i = n then f (n + 1) else f i) < n
        split <;> omega)
      refine ⟨i, j, hij, by omega, ?_⟩
      have h1 := hne i (by omega)
      have h2 := hne j (by omega)
      have e : (if f i = n then f (n + 1) else f i) = (if f j = n then f (n + 1) else f j) := e
      split at e <;> split at e <;> first | omega | exact e
/-- a place that no hook holds: six hooks, seven places -/
theorem free7 {on : Nat → Int32} (h : ∀ p, p < 7 → ∃ j : Nat, j < 6 ∧ on j = nI p) : False := by
  have hc : ∀ p, ∃ j : Nat, p < 7 → j < 6 ∧ on j = nI p := fun p => by
    by_cases hp : p < 7
    · obtain ⟨j, h1⟩ := h p hp; exact ⟨j, fun _ => h1⟩
    · exact ⟨0, fun q => absurd q hp⟩
  obtain ⟨i, j, hij, hj, e⟩ := php 6 (fun p => (hc p).choose) (fun p hp => ((hc p).choose_spec hp).1)
  have e1 := ((hc i).choose_spec (by omega)).2
  have e2 := ((hc j).choose_spec hj).2
  have e : (hc i).choose = (hc j).choose := e
  rw [e, e2] at e1
  have := (nI_eq (a := j) (b := i) (by omega) (by omega)).mp e1
  omega
theorem iw_X3_free_X3 : ∀ w ∈ wsX30, w ∈ wsX3_free := by decide +kernel
theorem lk_X3_free_Cond_fieldLink_RX3_7_SpliceRoomModel_on_I_ : Cond.fieldLink RX3 7 "SpliceRoomModel" "on" "[I" ∈ wsX3_free := by decide +kernel
set_option maxHeartbeats 4000000 in
set_option maxRecDepth 100000 in
theorem c_X3_free (l : Launch) {D : va_G} {cI cL cQ : ClassId} {N0 : Nat} {sa : Nat → Nat} {Hc : Heap} {m0 a0 a1 a2 a3 a4 a5 : Nat} {on kd sz : Nat → Int32} {fr li : Nat → Int64} {st : Nat → Int32} {mi : Nat → Int32} (hP : va_P D vwCl [(m0, .inr (3, [.ref a0, .ref a1, .ref a2, .ref a3, .ref a4, .ref a5, .int (mi 0), .int (mi 1), .int (mi 2), .int (mi 3), .int (mi 4), .int (mi 5), .int (mi 6), .int (mi 7), .int (mi 8)])), (a0, .inl (cI, 6, .inl on)), (a1, .inl (cI, 7, .inl kd)), (a2, .inl (cI, 7, .inl sz)), (a3, .inl (cL, 280, .inr (.inl fr))), (a4, .inl (cL, 40, .inr (.inl li))), (a5, .inl (cI, 120, .inl st))] Hc) : Met l yX3_free wsX3_free ({ frames := 0, cells := 0, slots := 0, locals := 0 }) (Pq D cI cL cQ N0 sa [.ref m0] Hc) (va_Qi (fun (r : Int32) (_ : Unit) => ∃ pp : Nat, pp < 7 ∧ r = nI pp ∧ ∀ h, h < 6 → ¬ on h = nI pp) (fun _ t => t.heap = Hc) nA) 0 0 nA := by
  refine Met.ofW (cc := cX3_free) (maxL := 5) (ret := (some .int)) (by decide) rfl ?_
  intro p e s m args below meth c s₁ B hml hv
  obtain ⟨rfl, hH, hC⟩ := hv
  have hx := B.exec
  have hb := B.bytes
  have hr := B.returns
  have hts := atoms_spec (ws := wsX3_free) B.pre
  have hown : s.vm.findClass RX3 = some m.cls := findClass_of_methodNamed B.named
  have hlocks := B.notSynchronized
  subst hH
  have hK := hC.K
  have hl := lv_entry ([.ref m0]) (n := 5) (Nat.le_of_ble_eq_true rfl)
  rw [lg_entry_eq]
  generalize (lg_sl ([.ref m0]) ++ List.replicate (5 - (lg_sl ([.ref m0])).length) Slot.unset).toArray = ls at hl ⊢
  have hl : lv_has ls 5 [(0, .ref m0)] := hl
  have hP : va_P D vwCl [(m0, .inr (3, [.ref a0, .ref a1, .ref a2, .ref a3, .ref a4, .ref a5, .int (mi 0), .int (mi 1), .int (mi 2), .int (mi 3), .int (mi 4), .int (mi 5), .int (mi 6), .int (mi 7), .int (mi 8)])), (a0, .inl (cI, 6, .inl on)), (a1, .inl (cI, 7, .inl kd)), (a2, .inl (cI, 7, .inl sz)), (a3, .inl (cL, 280, .inr (.inl fr))), (a4, .inl (cL, 40, .inr (.inl li))), (a5, .inl (cI, 120, .inl st))] s.heap := hP
  have hS : va_S nA s.heap s.heap [] := va_S.rf
  have hN : ∀ q, nA q → N0 ≤ q := nA_N
  refine lv_iconst (v := (-1)) hx hb dX3_free_0 (by decide) ?_
  refine lv_istore_n (lv' := [(1, .int (-1)), (0, .ref m0)]) hx hb dX3_free_1 rfl hl (by decide) rfl (fun ls hl => ?_)
  refine lv_iconst (v := 0) hx hb dX3_free_2 (by decide) ?_
  refine lv_istore_n (lv' := [(2, .int 0), (1, .int (-1)), (0, .ref m0)]) hx hb dX3_free_3 rfl hl (by decide) rfl (fun ls hl => ?_)
  have loop : ∀ (n pp : Nat) (v : Int32) (locs : List Loc) (ls : Array Slot), pp ≤ 7 → 8 ≤ pp + n → ((v = -1 ∧ ∀ a, a < pp → ∃ h, h < 6 ∧ on h = nI a) ∨ ∃ a : Nat, a < pp ∧ v = nI a ∧ ∀ h, h < 6 → ¬ on h = nI a) → lv_has ls 5 [(2, .int (nI pp)), (1, .int v), (0, .ref m0)] → va_S nA s.heap s.heap locs → W p l e (headSpec wsX3_free ({ frames := 0, cells := 0, slots := 0, locals := 0 })).room s m ([.ref m0] : List Value).toArray below meth c s.heap locs 0 0 (MQ below (va_Qi (fun (r : Int32) (_ : Unit) => ∃ pp : Nat, pp < 7 ∧ r = nI pp ∧ ∀ h, h < 6 → ¬ on h = nI pp) (fun _ t => t.heap = s.heap) nA) ([.ref m0] : List Value).toArray s 0 0 nA) (F0 m 4 ls []) := by
    intro n
    induction n with
    | zero => intro pp v locs ls h1 h2; exact absurd h2 (by omega)
    | succ n ih =>
      intro pp v locs ls hp hn hv hl hS
      refine lv_iload_n hx hb dX3_free_4 rfl (lv_at hl 0 rfl) ?_
      refine lv_bipush (v := 7) hx hb dX3_free_5 (by decide) ?_
      refine lv_icmp_ge (tgt := 65) hx hb dX3_free_7 (by decide) (fun c_7 => ?_) (fun c_7 => ?_)
      · have e7 : pp = 7 := by have := (nI_leI (a := 7) (b := pp) (by decide) (by omega)).mp c_7; omega
        subst e7
        refine lv_iload_n hx hb dX3_free_65 rfl (lv_at hl 1 rfl) ?_
        exact W.iret (v := v) hx hb hr (fun t ht hW => ⟨⟨_, (), rfl, hv.elim (fun z9 => absurd (free7 z9.2) id) (fun ⟨a, h1, h2, h3⟩ => ⟨a, h1, h2, h3⟩), ht⟩, hS.F ht⟩) hS.2.2 dX3_free_66
      · have hlt : pp < 7 := Nat.lt_of_not_le (fun z9 => c_7 (nI_le z9 (by omega)))
        refine lv_iconst (v := 0) hx hb dX3_free_10 (by decide) ?_
        refine lv_istore_n (lv' := [(3, .int 0), (2, .int (nI pp)), (1, .int v), (0, .ref m0)]) hx hb dX3_free_11 rfl hl (by decide) rfl (fun ls hl => ?_)
        refine lv_iconst (v := 0) hx hb dX3_free_12 (by decide) ?_
        refine lv_istore (lv' := [(4, .int 0), (3, .int 0), (2, .int (nI pp)), (1, .int v), (0, .ref m0)]) hx hb dX3_free_13 hl (by decide) rfl (fun ls hl => ?_)
        have inner : ∀ (n2 i : Nat) (b : Int32) (locs : List Loc) (ls : Array Slot), i ≤ 6 → 7 ≤ i + n2 → ((b = 0 ∧ ∀ h, h < i → ¬ on h = nI pp) ∨ (b = 1 ∧ ∃ h, h < 6 ∧ on h = nI pp)) → lv_has ls 5 [(4, .int (nI i)), (3, .int b), (2, .int (nI pp)), (1, .int v), (0, .ref m0)] → va_S nA s.heap s.heap locs → W p l e (headSpec wsX3_free ({ frames := 0, cells := 0, slots := 0, locals := 0 })).room s m ([.ref m0] : List Value).toArray below meth c s.heap locs 0 0 (MQ below (va_Qi (fun (r : Int32) (_ : Unit) => ∃ pp : Nat, pp < 7 ∧ r = nI pp ∧ ∀ h, h < 6 → ¬ on h = nI pp) (fun _ t => t.heap = s.heap) nA) ([.ref m0] : List Value).toArray s 0 0 nA) (F0 m 15 ls []) := by
          intro n2
          induction n2 with
          | zero => intro i b locs ls h1 h2; exact absurd h2 (by omega)
          | succ n2 ih2 =>
            intro i b locs ls hi hn2 hb2 hl hS
            refine lv_iload hx hb dX3_free_15 (lv_at hl 0 rfl) ?_
            refine lv_bipush (v := 6) hx hb dX3_free_17 (by decide) ?_
            refine lv_icmp_ge (tgt := 49) hx hb dX3_free_19 (by decide) (fun c_19 => ?_) (fun c_19 => ?_)
            · have e6 : i = 6 := by have := (nI_leI (a := 6) (b := i) (by decide) (by omega)).mp c_19; omega
              subst e6
              refine lv_iload_n hx hb dX3_free_49 rfl (lv_at hl 1 rfl) ?_
              refine lv_if_eq (tgt := 57) hx hb dX3_free_50 (by decide) (fun c_50 => ?_) (fun c_50 => ?_)
              · refine lv_iload_n hx hb dX3_free_57 rfl (lv_at hl 2 rfl) ?_
                refine lv_istore_n (lv' := [(1, .int (nI pp)), (4, .int (nI 6)), (3, .int b), (2, .int (nI pp)), (0, .ref m0)]) hx hb dX3_free_58 rfl hl (by decide) rfl (fun ls hl => ?_)
                refine lv_iinc (v := nI (pp + 1)) (lv' := [(2, .int (nI (pp + 1))), (1, .int (nI pp)), (4, .int (nI 6)), (3, .int b), (0, .ref m0)]) hx hb dX3_free_59 hl (k := 3) rfl (nI_1 pp) (by decide) rfl (fun ls hl => ?_)
                refine lv_goto (tgt := 4) hx hb dX3_free_62 (by decide) ?_
                exact ih (pp + 1) _ _ _ (by omega) (by omega) (Or.inr ⟨pp, by omega, rfl, (hb2.resolve_right (fun z9 => absurd (z9.1.symm.trans c_50) (by decide))).2⟩) (lv_sub hl [0, 1, 4] rfl) hS
              · refine lv_iload_n hx hb dX3_free_53 rfl (lv_at hl 3 rfl) ?_
                refine lv_goto (tgt := 58) hx hb dX3_free_54 (by decide) ?_
                refine lv_istore_n (lv' := [(1, .int v), (4, .int (nI 6)), (3, .int b), (2, .int (nI pp)), (0, .ref m0)]) hx hb dX3_free_58 rfl hl (by decide) rfl (fun ls hl => ?_)
                refine lv_iinc (v := nI (pp + 1)) (lv' := [(2, .int (nI (pp + 1))), (1, .int v), (4, .int (nI 6)), (3, .int b), (0, .ref m0)]) hx hb dX3_free_59 hl (k := 3) rfl (nI_1 pp) (by decide) rfl (fun ls hl => ?_)
                refine lv_goto (tgt := 4) hx hb dX3_free_62 (by decide) ?_
                exact ih (pp + 1) _ _ _ (by omega) (by omega) (hv.elim (fun z9 => Or.inl ⟨z9.1, fun a ha => by by_cases e9 : a = pp; (rw [e9]; exact (hb2.resolve_left (fun z8 => c_50 z8.1)).2); exact z9.2 a (by omega)⟩) (fun ⟨a, h1, h2⟩ => Or.inr ⟨a, by omega, h2⟩)) (lv_sub hl [0, 1, 4] rfl) hS
            · have hlt2 : i < 6 := Nat.lt_of_not_le (fun z9 => c_19 (nI_le z9 (by omega)))
              refine lv_iload_n hx hb dX3_free_22 rfl (lv_at hl 1 rfl) ?_
              refine lv_if_ne (tgt := 37) hx hb dX3_free_23 (by decide) (fun c_23 => ?_) (fun c_23 => ?_)
              · refine lv_iconst (v := 1) hx hb dX3_free_37 (by decide) ?_
                refine lv_goto (tgt := 42) hx hb dX3_free_38 (by decide) ?_
                refine lv_istore_n (lv' := [(3, .int 1), (4, .int (nI i)), (2, .int (nI pp)), (1, .int v), (0, .ref m0)]) hx hb dX3_free_42 rfl hl (by decide) rfl (fun ls hl => ?_)
                refine lv_iinc (v := nI (i + 1)) (lv' := [(4, .int (nI (i + 1))), (3, .int 1), (2, .int (nI pp)), (1, .int v), (0, .ref m0)]) hx hb dX3_free_43 hl (k := 1) rfl (nI_1 i) (by decide) rfl (fun ls hl => ?_)
                refine lv_goto (tgt := 15) hx hb dX3_free_46 (by decide) ?_
                exact ih2 (i + 1) _ _ _ (by omega) (by omega) (Or.inr ⟨rfl, (hb2.resolve_left (fun z9 => c_23 z9.1)).2⟩) (lv_sub hl [0, 1, 2, 3, 4] rfl) hS
              · refine lv_aload_n hx hb dX3_free_26 rfl (lv_at hl 4 rfl) ?_
                refine va_get (D := D) (ci := 3) (v := .ref a0) (C := RX3) (T := TX3) (N := 15) hx hb hts iw_X3_free_X3 hown hK hP 0 rfl rfl 0 (by decide) (hts _ lk_X3_free_Cond_fieldLink_RX3_7_SpliceRoomModel_on_I_) (fun _ h9 => h9) rfl dX3_free_27 ?_
                refine lv_iload hx hb dX3_free_30 (lv_at hl 0 rfl) ?_
                refine va_iald (D := D) hx hb hK hP 1 0 rfl rfl (vp_in_nI hlt2 (by decide)) dX3_free_32 ?_
                refine lv_topi (fun y_1 e9 => ?_)
                have e9 : y_1 = on i := e9.trans (by rw [nI_clamp (by omega)])
                subst e9
                refine lv_iload_n hx hb dX3_free_33 rfl (lv_at hl 2 rfl) ?_
                refine lv_icmp_ne (tgt := 41) hx hb dX3_free_34 (by decide) (fun c_34 => ?_) (fun c_34 => ?_)
                · refine lv_iconst (v := 0) hx hb dX3_free_41 (by decide) ?_
                  refine lv_istore_n (lv' := [(3, .int 0), (4, .int (nI i)), (2, .int (nI pp)), (1, .int v), (0, .ref m0)]) hx hb dX3_free_42 rfl hl (by decide) rfl (fun ls hl => ?_)
                  refine lv_iinc (v := nI (i + 1)) (lv' := [(4, .int (nI (i + 1))), (3, .int 0), (2, .int (nI pp)), (1, .int v), (0, .ref m0)]) hx hb dX3_free_43 hl (k := 1) rfl (nI_1 i) (by decide) rfl (fun ls hl => ?_)
                  refine lv_goto (tgt := 15) hx hb dX3_free_46 (by decide) ?_
                  exact ih2 (i + 1) _ _ _ (by omega) (by omega) (Or.inl ⟨rfl, fun h h9 => by by_cases e9 : h = i; (rw [e9]; exact c_34); exact (hb2.resolve_right (fun z9 => absurd (z9.1.symm.trans c_23) (by decide))).2 h (by omega)⟩) (lv_sub hl [0, 1, 2, 3, 4] rfl) hS
                · refine lv_iconst (v := 1) hx hb dX3_free_37 (by decide) ?_
                  refine lv_goto (tgt := 42) hx hb dX3_free_38 (by decide) ?_
                  refine lv_istore_n (lv' := [(3, .int 1), (4, .int (nI i)), (2, .int (nI pp)), (1, .int v), (0, .ref m0)]) hx hb dX3_free_42 rfl hl (by decide) rfl (fun ls hl => ?_)
                  refine lv_iinc (v := nI (i + 1)) (lv' := [(4, .int (nI (i + 1))), (3, .int 1), (2, .int (nI pp)), (1, .int v), (0, .ref m0)]) hx hb dX3_free_43 hl (k := 1) rfl (nI_1 i) (by decide) rfl (fun ls hl => ?_)
                  refine lv_goto (tgt := 15) hx hb dX3_free_46 (by decide) ?_
                  exact ih2 (i + 1) _ _ _ (by omega) (by omega) (Or.inr ⟨rfl, ⟨i, hlt2, c_34⟩⟩) (lv_sub hl [0, 1, 2, 3, 4] rfl) hS
        exact inner 7 0 _ _ _ (by omega) (by omega) (Or.inl ⟨rfl, fun h h9 => absurd h9 (by omega)⟩) (lv_sub hl [0, 1, 2, 3, 4] rfl) hS
  exact loop 8 0 _ _ _ (by omega) (by omega) (Or.inl ⟨rfl, fun a ha => absurd ha (by omega)⟩) (lv_sub hl [0, 1, 2] rfl) hS
/-- what the model asks of a winding -/
abbrev wOk (h0 k0 f0 : Int32) : Prop := okH h0 ∧ (0 ≤ k0 ∧ k0 ≤ 5) ∧ (¬ (1 ≤ k0 ∧ k0 ≤ 4) ∨ (0 ≤ f0 ∧ f0 ≤ 40))
theorem iw_X3_wind_X3 : ∀ w ∈ wsX30, w ∈ wsX3_wind := by decide +kernel
theorem lk_X3_wind_Cond_constantLong_RX3_49_1_ : Cond.constantLong RX3 49 (-1) ∈ wsX3_wind := by decide +kernel
theorem lk_X3_wind_Cond_fieldLink_RX3_13_SpliceRoomModel_kinds_I_ : Cond.fieldLink RX3 13 "SpliceRoomModel" "kinds" "[I" ∈ wsX3_wind := by decide +kernel
theorem lk_X3_wind_Cond_fieldLink_RX3_16_SpliceRoomModel_sizes_I_ : Cond.fieldLink RX3 16 "SpliceRoomModel" "sizes" "[I" ∈ wsX3_wind := by decide +kernel
theorem lk_X3_wind_Cond_fieldLink_RX3_19_SpliceRoomModel_frames_J_ : Cond.fieldLink RX3 19 "SpliceRoomModel" "frames" "[J" ∈ wsX3_wind := by decide +kernel
theorem lk_X3_wind_Cond_fieldLink_RX3_29_SpliceRoomModel_code_I_ : Cond.fieldLink RX3 29 "SpliceRoomModel" "code" "I" ∈ wsX3_wind := by decide +kernel
theorem lk_X3_wind_Cond_fieldLink_RX3_7_SpliceRoomModel_on_I_ : Cond.fieldLink RX3 7 "SpliceRoomModel" "on" "[I" ∈ wsX3_wind := by decide +kernel
set_option maxHeartbeats 4000000 in
set_option maxRecDepth 100000 in
theorem c_X3_wind (l : Launch) {D : va_G} {cI cL cQ : ClassId} {N0 : Nat} {sa : Nat → Nat} {Hc : Heap} {m0 a0 a1 a2 a3 a4 a5 : Nat} {on kd sz : Nat → Int32} {fr li : Nat → Int64} {st : Nat → Int32} {mi : Nat → Int32} {h0 k0 f0 : Int32} (hP : va_P D vwCl [(m0, .inr (3, [.ref a0, .ref a1, .ref a2, .ref a3, .ref a4, .ref a5, .int (mi 0), .int (mi 1), .int (mi 2), .int (mi 3), .int (mi 4), .int (mi 5), .int (mi 6), .int (mi 7), .int (mi 8)])), (a0, .inl (cI, 6, .inl on)), (a1, .inl (cI, 7, .inl kd)), (a2, .inl (cI, 7, .inl sz)), (a3, .inl (cL, 280, .inr (.inl fr))), (a4, .inl (cL, 40, .inr (.inl li))), (a5, .inl (cI, 120, .inl st))] Hc) (hD0 : va_D nT [(m0, .inr (3, [.ref a0, .ref a1, .ref a2, .ref a3, .ref a4, .ref a5, .int (mi 0), .int (mi 1), .int (mi 2), .int (mi 3), .int (mi 4), .int (mi 5), .int (mi 6), .int (mi 7), .int (mi 8)])), (a0, .inl (cI, 6, .inl on)), (a1, .inl (cI, 7, .inl kd)), (a2, .inl (cI, 7, .inl sz)), (a3, .inl (cL, 280, .inr (.inl fr))), (a4, .inl (cL, 40, .inr (.inl li))), (a5, .inl (cI, 120, .inl st))]) (hN : ∀ q, va_A [(m0, .inr (3, [.ref a0, .ref a1, .ref a2, .ref a3, .ref a4, .ref a5, .int (mi 0), .int (mi 1), .int (mi 2), .int (mi 3), .int (mi 4), .int (mi 5), .int (mi 6), .int (mi 7), .int (mi 8)])), (a0, .inl (cI, 6, .inl on)), (a1, .inl (cI, 7, .inl kd)), (a2, .inl (cI, 7, .inl sz)), (a3, .inl (cL, 280, .inr (.inl fr))), (a4, .inl (cL, 40, .inr (.inl li))), (a5, .inl (cI, 120, .inl st))] Hc.size q → N0 ≤ q) : Met l yX3_wind wsX3_wind ({ frames := 2, cells := 0, slots := 0, locals := 60 }) (Pq D cI cL cQ N0 sa [.ref m0, .int h0, .int k0, .int f0] Hc) (va_Qi (fun (r : Int32) (u : MS) => (¬ wOk h0 k0 f0 ∧ r = 0 ∧ u = (on, kd, sz, fr, li, st, miC mi 1)) ∨ (wOk h0 k0 f0 ∧ ∃ j1 : Nat, j1 < 6 ∧ h0 = nI j1 ∧ ((k0 = 0 ∧ r = 0 ∧ u = (upd on j1 (-1), kd, sz, fr, li, st, miC mi 0)) ∨ (¬ k0 = 0 ∧ r = k0 ∧ ∃ (p1 : Nat) (g1 : Nat → Int64), p1 < 7 ∧ (∀ h, h < 6 → ¬ on h = nI p1) ∧ (∀ t, t < 40 → g1 (40 * p1 + t) = if 3 ≤ k0 then -1 else 0) ∧ (∀ t, (t < 40 * p1 ∨ 40 * p1 + 40 ≤ t) → g1 t = fr t) ∧ u = (upd on j1 (nI p1), upd kd p1 k0, upd sz p1 (if 1 ≤ k0 ∧ k0 ≤ 4 then f0 else 0), g1, li, st, miC mi 0))))) (fun (u : MS) (t : State) => va_P D vwCl [(m0, .inr (3, [.ref a0, .ref a1, .ref a2, .ref a3, .ref a4, .ref a5, .int (u.2.2.2.2.2.2 0), .int (u.2.2.2.2.2.2 1), .int (u.2.2.2.2.2.2 2), .int (u.2.2.2.2.2.2 3), .int (u.2.2.2.2.2.2 4), .int (u.2.2.2.2.2.2 5), .int (u.2.2.2.2.2.2 6), .int (u.2.2.2.2.2.2 7), .int (u.2.2.2.2.2.2 8)])), (a0, .inl (cI, 6, .inl u.1)), (a1, .inl (cI, 7, .inl u.2.1)), (a2, .inl (cI, 7, .inl u.2.2.1)), (a3, .inl (cL, 280, .inr (.inl u.2.2.2.1))), (a4, .inl (cL, 40, .inr (.inl u.2.2.2.2.1))), (a5, .inl (cI, 120, .inl u.2.2.2.2.2.1))] t.heap ∧ va_D (va_A [(m0, .inr (3, [.ref a0, .ref a1, .ref a2, .ref a3, .ref a4, .ref a5, .int (mi 0), .int (mi 1), .int (mi 2), .int (mi 3), .int (mi 4), .int (mi 5), .int (mi 6), .int (mi 7), .int (mi 8)])), (a0, .inl (cI, 6, .inl on)), (a1, .inl (cI, 7, .inl kd)), (a2, .inl (cI, 7, .inl sz)), (a3, .inl (cL, 280, .inr (.inl fr))), (a4, .inl (cL, 40, .inr (.inl li))), (a5, .inl (cI, 120, .inl st))] Hc.size) [(m0, .inr (3, [.ref a0, .ref a1, .ref a2, .ref a3, .ref a4, .ref a5, .int (u.2.2.2.2.2.2 0), .int (u.2.2.2.2.2.2 1), .int (u.2.2.2.2.2.2 2), .int (u.2.2.2.2.2.2 3), .int (u.2.2.2.2.2.2 4), .int (u.2.2.2.2.2.2 5), .int (u.2.2.2.2.2.2 6), .int (u.2.2.2.2.2.2 7), .int (u.2.2.2.2.2.2 8)])), (a0, .inl (cI, 6, .inl u.1)), (a1, .inl (cI, 7, .inl u.2.1)), (a2, .inl (cI, 7, .inl u.2.2.1)), (a3, .inl (cL, 280, .inr (.inl u.2.2.2.1))), (a4, .inl (cL, 40, .inr (.inl u.2.2.2.2.1))), (a5, .inl (cI, 120, .inl u.2.2.2.2.2.1))]) (va_A [(m0, .inr (3, [.ref a0, .ref a1, .ref a2, .ref a3, .ref a4, .ref a5, .int (mi 0), .int (mi 1), .int (mi 2), .int (mi 3), .int (mi 4), .int (mi 5), .int (mi 6), .int (mi 7), .int (mi 8)])), (a0, .inl (cI, 6, .inl on)), (a1, .inl (cI, 7, .inl kd)), (a2, .inl (cI, 7, .inl sz)), (a3, .inl (cL, 280, .inr (.inl fr))), (a4, .inl (cL, 40, .inr (.inl li))), (a5, .inl (cI, 120, .inl st))] Hc.size)) 0 0 (va_A [(m0, .inr (3, [.ref a0, .ref a1, .ref a2, .ref a3, .ref a4, .ref a5, .int (mi 0), .int (mi 1), .int (mi 2), .int (mi 3), .int (mi 4), .int (mi 5), .int (mi 6), .int (mi 7), .int (mi 8)])), (a0, .inl (cI, 6, .inl on)), (a1, .inl (cI, 7, .inl kd)), (a2, .inl (cI, 7, .inl sz)), (a3, .inl (cL, 280, .inr (.inl fr))), (a4, .inl (cL, 40, .inr (.inl li))), (a5, .inl (cI, 120, .inl st))] Hc.size) := by
  refine Met.ofW (cc := cX3_wind) (maxL := 7) (ret := (some .int)) (by decide) rfl ?_
  intro p e s m args below meth c s₁ B hml hv
  obtain ⟨rfl, hH, hC⟩ := hv
  have hx := B.exec
  have hb := B.bytes
  have hr := B.returns
  have hts := atoms_spec (ws := wsX3_wind) B.pre
  have hown : s.vm.findClass RX3 = some m.cls := findClass_of_methodNamed B.named
  have hlocks := B.notSynchronized
  subst hH
  have hK := hC.K
  have hl := lv_entry ([.ref m0, .int h0, .int k0, .int f0]) (n := 7) (Nat.le_of_ble_eq_true rfl)
  rw [lg_entry_eq]
  generalize (lg_sl ([.ref m0, .int h0, .int k0, .int f0]) ++ List.replicate (7 - (lg_sl ([.ref m0, .int h0, .int k0, .int f0])).length) Slot.unset).toArray = ls at hl ⊢
  have hl : lv_has ls 7 [(0, .ref m0), (1, .int h0), (2, .int k0), (3, .int f0)] := hl
  have hP : va_P D vwCl [(m0, .inr (3, [.ref a0, .ref a1, .ref a2, .ref a3, .ref a4, .ref a5, .int (mi 0), .int (mi 1), .int (mi 2), .int (mi 3), .int (mi 4), .int (mi 5), .int (mi 6), .int (mi 7), .int (mi 8)])), (a0, .inl (cI, 6, .inl on)), (a1, .inl (cI, 7, .inl kd)), (a2, .inl (cI, 7, .inl sz)), (a3, .inl (cL, 280, .inr (.inl fr))), (a4, .inl (cL, 40, .inr (.inl li))), (a5, .inl (cI, 120, .inl st))] s.heap := hP
  have hD := hD0.self (sz := s.heap.size)
  generalize hAe : va_A [(m0, .inr (3, [.ref a0, .ref a1, .ref a2, .ref a3, .ref a4, .ref a5, .int (mi 0), .int (mi 1), .int (mi 2), .int (mi 3), .int (mi 4), .int (mi 5), .int (mi 6), .int (mi 7), .int (mi 8)])), (a0, .inl (cI, 6, .inl on)), (a1, .inl (cI, 7, .inl kd)), (a2, .inl (cI, 7, .inl sz)), (a3, .inl (cL, 280, .inr (.inl fr))), (a4, .inl (cL, 40, .inr (.inl li))), (a5, .inl (cI, 120, .inl st))] s.heap.size = A at hD hN ⊢
  have hA : ∀ q : Nat, s.heap.size ≤ q → A q := fun q h => by rw [← hAe]; exact Or.inr h
  have hS : va_S A s.heap s.heap [] := va_S.rf
  refine lv_iload_n hx hb dX3_wind_0 rfl (lv_at hl 2 rfl) ?_
  refine lv_iconst (v := 1) hx hb dX3_wind_1 (by decide) ?_
  refine lv_iconst (v := 4) hx hb dX3_wind_2 (by decide) ?_
  refine ro_i (va_runS (As := [.int k0, .int 1, .int 4]) (rest := []) ⟨hx, hb, hml, hown, hts⟩ (c_X3_in l (v0 := k0) (l0 := 1) (u0 := 4)) (va_cwS 3 hts gX3_wind_X3_in rfl rfl rfl (by decide +kernel) ⟨Nat.le_of_ble_eq_true rfl, Nat.le_of_ble_eq_true rfl⟩) (Pq.S hC hS hN) rfl rfl hl.1 rfl (lv_room (Nat.le_of_ble_eq_true rfl)) dX3_wind_3 ⟨Nat.le_of_ble_eq_true rfl, Nat.le_of_ble_eq_true rfl⟩) hS (fun r_1 locs hw hS => ?_)
  have hw : r_1 = tB (1 ≤ k0 ∧ k0 ≤ 4) := hw
  subst hw
  refine lv_istore (lv' := [(4, .int (tB (1 ≤ k0 ∧ k0 ≤ 4))), (0, .ref m0), (1, .int h0), (2, .int k0), (3, .int f0)]) hx hb dX3_wind_6 hl (by decide) rfl (fun ls hl => ?_)
  refine lv_aload_n hx hb dX3_wind_8 rfl (lv_at hl 1 rfl) ?_
  refine lv_iload_n hx hb dX3_wind_9 rfl (lv_at hl 2 rfl) ?_
  refine ro_i (va_runS (As := [.int h0]) (rest := [.ref m0]) ⟨hx, hb, hml, hown, hts⟩ (c_X3_isHook l (v0 := h0)) (va_cwS 1 hts gX3_wind_X3_isHook rfl rfl rfl (by decide +kernel) ⟨Nat.le_of_ble_eq_true rfl, Nat.le_of_ble_eq_true rfl⟩) (Pq.S hC hS hN) rfl rfl hl.1 rfl (lv_room (Nat.le_of_ble_eq_true rfl)) dX3_wind_10 ⟨Nat.le_of_ble_eq_true rfl, Nat.le_of_ble_eq_true rfl⟩) hS (fun r_2 locs hw hS => ?_)
  have hw : r_2 = tB (0 ≤ h0 ∧ h0 ≤ 5) := hw
  subst hw
  refine lv_if_eq (tgt := 44) hx hb dX3_wind_13 (by decide) (fun c_13 => ?_) (fun c_13 => ?_)
  · have c_13 := tB_0.mp c_13
    refine lv_iconst (v := 1) hx hb dX3_wind_44 (by decide) ?_
    refine va_put (D := D) (ci := 3) (v := .int 1) (ty := .int) (C := RX3) (T := TX3) (N := 15) hx hb hts iw_X3_wind_X3 tyX3 tyX3_ok nmX3 hown hK hP hD hS 0 rfl rfl 14 (by decide) (hts _ lk_X3_wind_Cond_fieldLink_RX3_29_SpliceRoomModel_code_I_) (fun _ h9 => h9) rfl (by decide +kernel) rfl rfl (Nat.le_of_ble_eq_true rfl) dX3_wind_45 (fun H locs hP hD hS => ?_)
    have hP : va_P D vwCl [(m0, .inr (3, [.ref a0, .ref a1, .ref a2, .ref a3, .ref a4, .ref a5, .int (mi 0), .int (mi 1), .int (mi 2), .int (mi 3), .int (mi 4), .int (mi 5), .int (mi 6), .int (mi 7), .int 1])), (a0, .inl (cI, 6, .inl on)), (a1, .inl (cI, 7, .inl kd)), (a2, .inl (cI, 7, .inl sz)), (a3, .inl (cL, 280, .inr (.inl fr))), (a4, .inl (cL, 40, .inr (.inl li))), (a5, .inl (cI, 120, .inl st))] H := hP
    have hD : va_D A [(m0, .inr (3, [.ref a0, .ref a1, .ref a2, .ref a3, .ref a4, .ref a5, .int (mi 0), .int (mi 1), .int (mi 2), .int (mi 3), .int (mi 4), .int (mi 5), .int (mi 6), .int (mi 7), .int 1])), (a0, .inl (cI, 6, .inl on)), (a1, .inl (cI, 7, .inl kd)), (a2, .inl (cI, 7, .inl sz)), (a3, .inl (cL, 280, .inr (.inl fr))), (a4, .inl (cL, 40, .inr (.inl li))), (a5, .inl (cI, 120, .inl st))] := hD
    refine lv_aload_n hx hb dX3_wind_48 rfl (lv_at hl 1 rfl) ?_
    refine va_get (D := D) (ci := 3) (v := .int 1) (C := RX3) (T := TX3) (N := 15) hx hb hts iw_X3_wind_X3 hown hK hP 0 rfl rfl 14 (by decide) (hts _ lk_X3_wind_Cond_fieldLink_RX3_29_SpliceRoomModel_code_I_) (fun _ h9 => h9) rfl dX3_wind_49 ?_
    refine lv_if_le (tgt := 57) hx hb dX3_wind_52 (by decide) (fun c9 => absurd c9 (by decide)) (fun _ => ?_)
    refine lv_iconst (v := 0) hx hb dX3_wind_55 (by decide) ?_
    exact W.iret (v := 0) hx hb hr (fun t ht hW => ⟨⟨_, (on, kd, sz, fr, li, st, mi9 (mi 0) (mi 1) (mi 2) (mi 3) (mi 4) (mi 5) (mi 6) (mi 7) 1), rfl, Or.inl ⟨fun h9 => c_13 (okH_iff.mpr h9.1), rfl, rfl⟩, ⟨by rw [ht]; exact hP, hD⟩⟩, hS.F ht⟩) hS.2.2 dX3_wind_56
  · have c_13 := tB_n.mp c_13
    obtain ⟨j, hj, rfl⟩ := okH_iff.mp c_13
    refine lv_iload_n hx hb dX3_wind_16 rfl (lv_at hl 3 rfl) ?_
    refine lv_iconst (v := 0) hx hb dX3_wind_17 (by decide) ?_
    refine lv_iconst (v := 5) hx hb dX3_wind_18 (by decide) ?_
    refine ro_i (va_runS (As := [.int k0, .int 0, .int 5]) (rest := [.ref m0]) ⟨hx, hb, hml, hown, hts⟩ (c_X3_in l (v0 := k0) (l0 := 0) (u0 := 5)) (va_cwS 3 hts gX3_wind_X3_in rfl rfl rfl (by decide +kernel) ⟨Nat.le_of_ble_eq_true rfl, Nat.le_of_ble_eq_true rfl⟩) (Pq.S hC hS hN) rfl rfl hl.1 rfl (lv_room (Nat.le_of_ble_eq_true rfl)) dX3_wind_19 ⟨Nat.le_of_ble_eq_true rfl, Nat.le_of_ble_eq_true rfl⟩) hS (fun r_3 locs hw hS => ?_)
    have hw : r_3 = tB (0 ≤ k0 ∧ k0 ≤ 5) := hw
    subst hw
    refine lv_if_eq (tgt := 44) hx hb dX3_wind_22 (by decide) (fun c_22 => ?_) (fun c_22 => ?_)
    · have c_22 := tB_0.mp c_22
      refine lv_iconst (v := 1) hx hb dX3_wind_44 (by decide) ?_
      refine va_put (D := D) (ci := 3) (v := .int 1) (ty := .int) (C := RX3) (T := TX3) (N := 15) hx hb hts iw_X3_wind_X3 tyX3 tyX3_ok nmX3 hown hK hP hD hS 0 rfl rfl 14 (by decide) (hts _ lk_X3_wind_Cond_fieldLink_RX3_29_SpliceRoomModel_code_I_) (fun _ h9 => h9) rfl (by decide +kernel) rfl rfl (Nat.le_of_ble_eq_true rfl) dX3_wind_45 (fun H locs hP hD hS => ?_)
      have hP : va_P D vwCl [(m0, .inr (3, [.ref a0, .ref a1, .ref a2, .ref a3, .ref a4, .ref a5, .int (mi 0), .int (mi 1), .int (mi 2), .int (mi 3), .int (mi 4), .int (mi 5), .int (mi 6), .int (mi 7), .int 1])), (a0, .inl (cI, 6, .inl on)), (a1, .inl (cI, 7, .inl kd)), (a2, .inl (cI, 7, .inl sz)), (a3, .inl (cL, 280, .inr (.inl fr))), (a4, .inl (cL, 40, .inr (.inl li))), (a5, .inl (cI, 120, .inl st))] H := hP
      have hD : va_D A [(m0, .inr (3, [.ref a0, .ref a1, .ref a2, .ref a3, .ref a4, .ref a5, .int (mi 0), .int (mi 1), .int (mi 2), .int (mi 3), .int (mi 4), .int (mi 5), .int (mi 6), .int (mi 7), .int 1])), (a0, .inl (cI, 6, .inl on)), (a1, .inl (cI, 7, .inl kd)), (a2, .inl (cI, 7, .inl sz)), (a3, .inl (cL, 280, .inr (.inl fr))), (a4, .inl (cL, 40, .inr (.inl li))), (a5, .inl (cI, 120, .inl st))] := hD
      refine lv_aload_n hx hb dX3_wind_48 rfl (lv_at hl 1 rfl) ?_
      refine va_get (D := D) (ci := 3) (v := .int 1) (C := RX3) (T := TX3) (N := 15) hx hb hts iw_X3_wind_X3 hown hK hP 0 rfl rfl 14 (by decide) (hts _ lk_X3_wind_Cond_fieldLink_RX3_29_SpliceRoomModel_code_I_) (fun _ h9 => h9) rfl dX3_wind_49 ?_
      refine lv_if_le (tgt := 57) hx hb dX3_wind_52 (by decide) (fun c9 => absurd c9 (by decide)) (fun _ => ?_)
      refine lv_iconst (v := 0) hx hb dX3_wind_55 (by decide) ?_
      exact W.iret (v := 0) hx hb hr (fun t ht hW => ⟨⟨_, (on, kd, sz, fr, li, st, mi9 (mi 0) (mi 1) (mi 2) (mi 3) (mi 4) (mi 5) (mi 6) (mi 7) 1), rfl, Or.inl ⟨fun h9 => c_22 h9.2.1, rfl, rfl⟩, ⟨by rw [ht]; exact hP, hD⟩⟩, hS.F ht⟩) hS.2.2 dX3_wind_56
    · have c_22 := tB_n.mp c_22
      refine lv_iload hx hb dX3_wind_25 (lv_at hl 0 rfl) ?_
      refine lv_if_eq (tgt := 40) hx hb dX3_wind_27 (by decide) (fun c_27 => ?_) (fun c_27 => ?_)
      · have c_27 := tB_0.mp c_27
        refine lv_iconst (v := 0) hx hb dX3_wind_40 (by decide) ?_
        refine lv_goto (tgt := 45) hx hb dX3_wind_41 (by decide) ?_
        refine va_put (D := D) (ci := 3) (v := .int 0) (ty := .int) (C := RX3) (T := TX3) (N := 15) hx hb hts iw_X3_wind_X3 tyX3 tyX3_ok nmX3 hown hK hP hD hS 0 rfl rfl 14 (by decide) (hts _ lk_X3_wind_Cond_fieldLink_RX3_29_SpliceRoomModel_code_I_) (fun _ h9 => h9) rfl (by decide +kernel) rfl rfl (Nat.le_of_ble_eq_true rfl) dX3_wind_45 (fun H locs hP hD hS => ?_)
        have hP : va_P D vwCl [(m0, .inr (3, [.ref a0, .ref a1, .ref a2, .ref a3, .ref a4, .ref a5, .int (mi 0), .int (mi 1), .int (mi 2), .int (mi 3), .int (mi 4), .int (mi 5), .int (mi 6), .int (mi 7), .int 0])), (a0, .inl (cI, 6, .inl on)), (a1, .inl (cI, 7, .inl kd)), (a2, .inl (cI, 7, .inl sz)), (a3, .inl (cL, 280, .inr (.inl fr))), (a4, .inl (cL, 40, .inr (.inl li))), (a5, .inl (cI, 120, .inl st))] H := hP
        have hD : va_D A [(m0, .inr (3, [.ref a0, .ref a1, .ref a2, .ref a3, .ref a4, .ref a5, .int (mi 0), .int (mi 1), .int (mi 2), .int (mi 3), .int (mi 4), .int (mi 5), .int (mi 6), .int (mi 7), .int 0])), (a0, .inl (cI, 6, .inl on)), (a1, .inl (cI, 7, .inl kd)), (a2, .inl (cI, 7, .inl sz)), (a3, .inl (cL, 280, .inr (.inl fr))), (a4, .inl (cL, 40, .inr (.inl li))), (a5, .inl (cI, 120, .inl st))] := hD
        refine lv_aload_n hx hb dX3_wind_48 rfl (lv_at hl 1 rfl) ?_
        refine va_get (D := D) (ci := 3) (v := .int 0) (C := RX3) (T := TX3) (N := 15) hx hb hts iw_X3_wind_X3 hown hK hP 0 rfl rfl 14 (by decide) (hts _ lk_X3_wind_Cond_fieldLink_RX3_29_SpliceRoomModel_code_I_) (fun _ h9 => h9) rfl dX3_wind_49 ?_
        refine lv_if_le (tgt := 57) hx hb dX3_wind_52 (by decide) (fun _ => ?_) (fun c9 => absurd (by decide) c9)
        refine lv_iload_n hx hb dX3_wind_57 rfl (lv_at hl 3 rfl) ?_
        refine lv_if_ne (tgt := 70) hx hb dX3_wind_58 (by decide) (fun c_58 => ?_) (fun c_58 => ?_)
        · refine lv_aload_n hx hb dX3_wind_70 rfl (lv_at hl 1 rfl) ?_
          refine ro_i (va_runV (As := []) (rest := []) ⟨hx, hb, hml, hown, hts⟩ (c_X3_free l (mi := mi9 (mi 0) (mi 1) (mi 2) (mi 3) (mi 4) (mi 5) (mi 6) (mi 7) 0) (hP.sub [0, 1, 2, 3, 4, 5, 6] rfl)) (cwV 0 hts gX3_wind_X3_free rfl rfl rfl (by decide +kernel) ⟨Nat.le_of_ble_eq_true rfl, Nat.le_of_ble_eq_true rfl⟩) (Pq.V hC hS hN (va_recv hK hP (ci := 3) (q0 := 0) rfl rfl)) rfl rfl hl.1 rfl (lv_room (Nat.le_of_ble_eq_true rfl)) dX3_wind_71 ⟨Nat.le_of_ble_eq_true rfl, Nat.le_of_ble_eq_true rfl⟩) hS (fun r_4 locs hw hS => ?_)
          obtain ⟨pf, hpf, ef, hfree⟩ := hw
          subst ef
          refine lv_istore (lv' := [(5, .int (nI pf)), (4, .int (tB (1 ≤ k0 ∧ k0 ≤ 4))), (0, .ref m0), (1, .int (nI j)), (2, .int k0), (3, .int f0)]) hx hb dX3_wind_74 hl (by decide) rfl (fun ls hl => ?_)
          refine lv_aload_n hx hb dX3_wind_76 rfl (lv_at hl 2 rfl) ?_
          refine va_get (D := D) (ci := 3) (v := .ref a1) (C := RX3) (T := TX3) (N := 15) hx hb hts iw_X3_wind_X3 hown hK hP 0 rfl rfl 1 (by decide) (hts _ lk_X3_wind_Cond_fieldLink_RX3_13_SpliceRoomModel_kinds_I_) (fun _ h9 => h9) rfl dX3_wind_77 ?_
          refine lv_iload hx hb dX3_wind_80 (lv_at hl 0 rfl) ?_
          refine lv_iload_n hx hb dX3_wind_82 rfl (lv_at hl 4 rfl) ?_
          refine va_iast (D := D) hx hb hK hP hD hS 2 0 rfl rfl (vp_in_nI hpf (by decide)) dX3_wind_83 (fun H locs hP hD hS => ?_)
          have hP : va_P D vwCl [(m0, .inr (3, [.ref a0, .ref a1, .ref a2, .ref a3, .ref a4, .ref a5, .int (mi 0), .int (mi 1), .int (mi 2), .int (mi 3), .int (mi 4), .int (mi 5), .int (mi 6), .int (mi 7), .int 0])), (a0, .inl (cI, 6, .inl on)), (a1, .inl (cI, 7, .inl (upd kd ((nI pf).toNatClampNeg) k0))), (a2, .inl (cI, 7, .inl sz)), (a3, .inl (cL, 280, .inr (.inl fr))), (a4, .inl (cL, 40, .inr (.inl li))), (a5, .inl (cI, 120, .inl st))] H := hP
          have hD : va_D A [(m0, .inr (3, [.ref a0, .ref a1, .ref a2, .ref a3, .ref a4, .ref a5, .int (mi 0), .int (mi 1), .int (mi 2), .int (mi 3), .int (mi 4), .int (mi 5), .int (mi 6), .int (mi 7), .int 0])), (a0, .inl (cI, 6, .inl on)), (a1, .inl (cI, 7, .inl (upd kd ((nI pf).toNatClampNeg) k0))), (a2, .inl (cI, 7, .inl sz)), (a3, .inl (cL, 280, .inr (.inl fr))), (a4, .inl (cL, 40, .inr (.inl li))), (a5, .inl (cI, 120, .inl st))] := hD
          rw [nI_clamp (show pf < 2 ^ 31 by omega)] at hP hD
          refine lv_aload_n hx hb dX3_wind_84 rfl (lv_at hl 2 rfl) ?_
          refine va_get (D := D) (ci := 3) (v := .ref a2) (C := RX3) (T := TX3) (N := 15) hx hb hts iw_X3_wind_X3 hown hK hP 0 rfl rfl 2 (by decide) (hts _ lk_X3_wind_Cond_fieldLink_RX3_16_SpliceRoomModel_sizes_I_) (fun _ h9 => h9) rfl dX3_wind_85 ?_
          refine lv_iload hx hb dX3_wind_88 (lv_at hl 0 rfl) ?_
          refine lv_iload hx hb dX3_wind_90 (lv_at hl 1 rfl) ?_
          refine lv_if_eq (tgt := 99) hx hb dX3_wind_92 (by decide) (fun _ => ?_) (fun c9 => absurd (tB_0.mpr (c_27)) c9)
          refine lv_iconst (v := 0) hx hb dX3_wind_99 (by decide) ?_
          refine va_iast (D := D) hx hb hK hP hD hS 3 0 rfl rfl (vp_in_nI hpf (by decide)) dX3_wind_100 (fun H locs hP hD hS => ?_)
          have hP : va_P D vwCl [(m0, .inr (3, [.ref a0, .ref a1, .ref a2, .ref a3, .ref a4, .ref a5, .int (mi 0), .int (mi 1), .int (mi 2), .int (mi 3), .int (mi 4), .int (mi 5), .int (mi 6), .int (mi 7), .int 0])), (a0, .inl (cI, 6, .inl on)), (a1, .inl (cI, 7, .inl (upd kd pf k0))), (a2, .inl (cI, 7, .inl (upd sz ((nI pf).toNatClampNeg) 0))), (a3, .inl (cL, 280, .inr (.inl fr))), (a4, .inl (cL, 40, .inr (.inl li))), (a5, .inl (cI, 120, .inl st))] H := hP
          have hD : va_D A [(m0, .inr (3, [.ref a0, .ref a1, .ref a2, .ref a3, .ref a4, .ref a5, .int (mi 0), .int (mi 1), .int (mi 2), .int (mi 3), .int (mi 4), .int (mi 5), .int (mi 6), .int (mi 7), .int 0])), (a0, .inl (cI, 6, .inl on)), (a1, .inl (cI, 7, .inl (upd kd pf k0))), (a2, .inl (cI, 7, .inl (upd sz ((nI pf).toNatClampNeg) 0))), (a3, .inl (cL, 280, .inr (.inl fr))), (a4, .inl (cL, 40, .inr (.inl li))), (a5, .inl (cI, 120, .inl st))] := hD
          rw [nI_clamp (show pf < 2 ^ 31 by omega)] at hP hD
          have esz : 0 = if 1 ≤ k0 ∧ k0 ≤ 4 then f0 else 0 := by rw [if_neg c_27]
          have hP : va_P D vwCl [(m0, .inr (3, [.ref a0, .ref a1, .ref a2, .ref a3, .ref a4, .ref a5, .int (mi 0), .int (mi 1), .int (mi 2), .int (mi 3), .int (mi 4), .int (mi 5), .int (mi 6), .int (mi 7), .int 0])), (a0, .inl (cI, 6, .inl on)), (a1, .inl (cI, 7, .inl (upd kd pf k0))), (a2, .inl (cI, 7, .inl (upd sz pf (if 1 ≤ k0 ∧ k0 ≤ 4 then f0 else 0)))), (a3, .inl (cL, 280, .inr (.inl fr))), (a4, .inl (cL, 40, .inr (.inl li))), (a5, .inl (cI, 120, .inl st))] H := by rw [← esz]; exact hP
          have hD : va_D A [(m0, .inr (3, [.ref a0, .ref a1, .ref a2, .ref a3, .ref a4, .ref a5, .int (mi 0), .int (mi 1), .int (mi 2), .int (mi 3), .int (mi 4), .int (mi 5), .int (mi 6), .int (mi 7), .int 0])), (a0, .inl (cI, 6, .inl on)), (a1, .inl (cI, 7, .inl (upd kd pf k0))), (a2, .inl (cI, 7, .inl (upd sz pf (if 1 ≤ k0 ∧ k0 ≤ 4 then f0 else 0)))), (a3, .inl (cL, 280, .inr (.inl fr))), (a4, .inl (cL, 40, .inr (.inl li))), (a5, .inl (cI, 120, .inl st))] := by rw [← esz]; exact hD
          refine lv_iconst (v := 0) hx hb dX3_wind_101 (by decide) ?_
          refine lv_istore (lv' := [(6, .int 0), (5, .int (nI pf)), (4, .int (tB (1 ≤ k0 ∧ k0 ≤ 4))), (0, .ref m0), (1, .int (nI j)), (2, .int k0), (3, .int f0)]) hx hb dX3_wind_102 hl (by decide) rfl (fun ls hl => ?_)
          have loop : ∀ (n i : Nat) (g : Nat → Int64) (H : Heap) (locs : List Loc) (ls : Array Slot), i ≤ 40 → 41 ≤ i + n → (∀ t, t < i → g (40 * pf + t) = if 3 ≤ k0 then -1 else 0) → (∀ t, (t < 40 * pf ∨ 40 * pf + 40 ≤ t) → g t = fr t) → lv_has ls 7 [(6, .int (nI i)), (5, .int (nI pf)), (4, .int (tB (1 ≤ k0 ∧ k0 ≤ 4))), (0, .ref m0), (1, .int (nI j)), (2, .int k0), (3, .int f0)] → va_P D vwCl [(m0, .inr (3, [.ref a0, .ref a1, .ref a2, .ref a3, .ref a4, .ref a5, .int (mi 0), .int (mi 1), .int (mi 2), .int (mi 3), .int (mi 4), .int (mi 5), .int (mi 6), .int (mi 7), .int 0])), (a0, .inl (cI, 6, .inl on)), (a1, .inl (cI, 7, .inl (upd kd pf k0))), (a2, .inl (cI, 7, .inl (upd sz pf (if 1 ≤ k0 ∧ k0 ≤ 4 then f0 else 0)))), (a3, .inl (cL, 280, .inr (.inl g))), (a4, .inl (cL, 40, .inr (.inl li))), (a5, .inl (cI, 120, .inl st))] H → va_D A [(m0, .inr (3, [.ref a0, .ref a1, .ref a2, .ref a3, .ref a4, .ref a5, .int (mi 0), .int (mi 1), .int (mi 2), .int (mi 3), .int (mi 4), .int (mi 5), .int (mi 6), .int (mi 7), .int 0])), (a0, .inl (cI, 6, .inl on)), (a1, .inl (cI, 7, .inl (upd kd pf k0))), (a2, .inl (cI, 7, .inl (upd sz pf (if 1 ≤ k0 ∧ k0 ≤ 4 then f0 else 0)))), (a3, .inl (cL, 280, .inr (.inl g))), (a4, .inl (cL, 40, .inr (.inl li))), (a5, .inl (cI, 120, .inl st))] → va_S A s.heap H locs → W p l e (headSpec wsX3_wind ({ frames := 2, cells := 0, slots := 0, locals := 60 })).room s m ([.ref m0, .int (nI j), .int k0, .int f0] : List Value).toArray below meth c H locs 0 0 (MQ below (va_Qi (fun (r : Int32) (u : MS) => (¬ wOk (nI j) k0 f0 ∧ r = 0 ∧ u = (on, kd, sz, fr, li, st, miC mi 1)) ∨ (wOk (nI j) k0 f0 ∧ ∃ j1 : Nat, j1 < 6 ∧ (nI j) = nI j1 ∧ ((k0 = 0 ∧ r = 0 ∧ u = (upd on j1 (-1), kd, sz, fr, li, st, miC mi 0)) ∨ (¬ k0 = 0 ∧ r = k0 ∧ ∃ (p1 : Nat) (g1 : Nat → Int64), p1 < 7 ∧ (∀ h, h < 6 → ¬ on h = nI p1) ∧ (∀ t, t < 40 → g1 (40 * p1 + t) = if 3 ≤ k0 then -1 else 0) ∧ (∀ t, (t < 40 * p1 ∨ 40 * p1 + 40 ≤ t) → g1 t = fr t) ∧ u = (upd on j1 (nI p1), upd kd p1 k0, upd sz p1 (if 1 ≤ k0 ∧ k0 ≤ 4 then f0 else 0), g1, li, st, miC mi 0))))) (fun (u : MS) (t : State) => va_P D vwCl [(m0, .inr (3, [.ref a0, .ref a1, .ref a2, .ref a3, .ref a4, .ref a5, .int (u.2.2.2.2.2.2 0), .int (u.2.2.2.2.2.2 1), .int (u.2.2.2.2.2.2 2), .int (u.2.2.2.2.2.2 3), .int (u.2.2.2.2.2.2 4), .int (u.2.2.2.2.2.2 5), .int (u.2.2.2.2.2.2 6), .int (u.2.2.2.2.2.2 7), .int (u.2.2.2.2.2.2 8)])), (a0, .inl (cI, 6, .inl u.1)), (a1, .inl (cI, 7, .inl u.2.1)), (a2, .inl (cI, 7, .inl u.2.2.1)), (a3, .inl (cL, 280, .inr (.inl u.2.2.2.1))), (a4, .inl (cL, 40, .inr (.inl u.2.2.2.2.1))), (a5, .inl (cI, 120, .inl u.2.2.2.2.2.1))] t.heap ∧ va_D A [(m0, .inr (3, [.ref a0, .ref a1, .ref a2, .ref a3, .ref a4, .ref a5, .int (u.2.2.2.2.2.2 0), .int (u.2.2.2.2.2.2 1), .int (u.2.2.2.2.2.2 2), .int (u.2.2.2.2.2.2 3), .int (u.2.2.2.2.2.2 4), .int (u.2.2.2.2.2.2 5), .int (u.2.2.2.2.2.2 6), .int (u.2.2.2.2.2.2 7), .int (u.2.2.2.2.2.2 8)])), (a0, .inl (cI, 6, .inl u.1)), (a1, .inl (cI, 7, .inl u.2.1)), (a2, .inl (cI, 7, .inl u.2.2.1)), (a3, .inl (cL, 280, .inr (.inl u.2.2.2.1))), (a4, .inl (cL, 40, .inr (.inl u.2.2.2.2.1))), (a5, .inl (cI, 120, .inl u.2.2.2.2.2.1))]) A) ([.ref m0, .int (nI j), .int k0, .int f0] : List Value).toArray s 0 0 A) (F0 m 104 ls []) := by
            intro n
            induction n with
            | zero => intro i g H locs ls h1 h2; exact absurd h2 (by omega)
            | succ n ih =>
              intro i g H locs ls hi hn h40 hout hl hP hD hS
              refine lv_iload hx hb dX3_wind_104 (lv_at hl 0 rfl) ?_
              refine lv_bipush (v := 40) hx hb dX3_wind_106 (by decide) ?_
              refine lv_icmp_ge (tgt := 142) hx hb dX3_wind_108 (by decide) (fun c_108 => ?_) (fun c_108 => ?_)
              · have e40 : i = 40 := by have := (nI_leI (a := 40) (b := i) (by decide) (by omega)).mp c_108; omega
                subst e40
                refine lv_aload_n hx hb dX3_wind_142 rfl (lv_at hl 3 rfl) ?_
                refine va_get (D := D) (ci := 3) (v := .ref a0) (C := RX3) (T := TX3) (N := 15) hx hb hts iw_X3_wind_X3 hown hK hP 0 rfl rfl 0 (by decide) (hts _ lk_X3_wind_Cond_fieldLink_RX3_7_SpliceRoomModel_on_I_) (fun _ h9 => h9) rfl dX3_wind_143 ?_
                refine lv_iload_n hx hb dX3_wind_146 rfl (lv_at hl 4 rfl) ?_
                refine lv_iload hx hb dX3_wind_147 (lv_at hl 1 rfl) ?_
                refine va_iast (D := D) hx hb hK hP hD hS 1 0 rfl rfl (vp_in_nI hj (by decide)) dX3_wind_149 (fun H locs hP hD hS => ?_)
                have hP : va_P D vwCl [(m0, .inr (3, [.ref a0, .ref a1, .ref a2, .ref a3, .ref a4, .ref a5, .int (mi 0), .int (mi 1), .int (mi 2), .int (mi 3), .int (mi 4), .int (mi 5), .int (mi 6), .int (mi 7), .int 0])), (a0, .inl (cI, 6, .inl (upd on ((nI j).toNatClampNeg) (nI pf)))), (a1, .inl (cI, 7, .inl (upd kd pf k0))), (a2, .inl (cI, 7, .inl (upd sz pf (if 1 ≤ k0 ∧ k0 ≤ 4 then f0 else 0)))), (a3, .inl (cL, 280, .inr (.inl g))), (a4, .inl (cL, 40, .inr (.inl li))), (a5, .inl (cI, 120, .inl st))] H := hP
                have hD : va_D A [(m0, .inr (3, [.ref a0, .ref a1, .ref a2, .ref a3, .ref a4, .ref a5, .int (mi 0), .int (mi 1), .int (mi 2), .int (mi 3), .int (mi 4), .int (mi 5), .int (mi 6), .int (mi 7), .int 0])), (a0, .inl (cI, 6, .inl (upd on ((nI j).toNatClampNeg) (nI pf)))), (a1, .inl (cI, 7, .inl (upd kd pf k0))), (a2, .inl (cI, 7, .inl (upd sz pf (if 1 ≤ k0 ∧ k0 ≤ 4 then f0 else 0)))), (a3, .inl (cL, 280, .inr (.inl g))), (a4, .inl (cL, 40, .inr (.inl li))), (a5, .inl (cI, 120, .inl st))] := hD
                rw [nI_clamp (show j < 2 ^ 31 by omega)] at hP hD
                refine lv_iload_n hx hb dX3_wind_150 rfl (lv_at hl 5 rfl) ?_
                exact W.iret (v := k0) hx hb hr (fun t ht hW => ⟨⟨_, (upd on j (nI pf), upd kd pf k0, upd sz pf (if 1 ≤ k0 ∧ k0 ≤ 4 then f0 else 0), g, li, st, mi9 (mi 0) (mi 1) (mi 2) (mi 3) (mi 4) (mi 5) (mi 6) (mi 7) 0), rfl, Or.inr ⟨⟨⟨j, hj, rfl⟩, c_22, Or.inl c_27⟩, j, hj, rfl, Or.inr ⟨c_58, rfl, pf, g, hpf, hfree, fun t ht => h40 t (by omega), hout, rfl⟩⟩, ⟨by rw [ht]; exact hP, hD⟩⟩, hS.F ht⟩) hS.2.2 dX3_wind_151
              · have hlt : i < 40 := Nat.lt_of_not_le (fun z9 => c_108 (nI_le z9 (by omega)))
                refine lv_aload_n hx hb dX3_wind_111 rfl (lv_at hl 3 rfl) ?_
                refine va_get (D := D) (ci := 3) (v := .ref a3) (C := RX3) (T := TX3) (N := 15) hx hb hts iw_X3_wind_X3 hown hK hP 0 rfl rfl 3 (by decide) (hts _ lk_X3_wind_Cond_fieldLink_RX3_19_SpliceRoomModel_frames_J_) (fun _ h9 => h9) rfl dX3_wind_112 ?_
                refine lv_bipush (v := 40) hx hb dX3_wind_115 (by decide) ?_
                refine lv_iload hx hb dX3_wind_117 (lv_at hl 1 rfl) ?_
                refine lv_imul hx hb dX3_wind_119 ?_
                refine lv_iload hx hb dX3_wind_120 (lv_at hl 0 rfl) ?_
                refine lv_iadd hx hb dX3_wind_122 ?_
                refine lv_iload_n hx hb dX3_wind_123 rfl (lv_at hl 5 rfl) ?_
                refine lv_iconst (v := 3) hx hb dX3_wind_124 (by decide) ?_
                refine lv_icmp_lt (tgt := 134) hx hb dX3_wind_125 (by decide) (fun c_125 => ?_) (fun c_125 => ?_)
                · refine lv_lconst (v := 0) hx hb dX3_wind_134 (by decide) ?_
                  refine va_last (D := D) hx hb hK hP hD hS 4 1 rfl rfl (by rw [idx40]; exact vp_in_nI (show 40 * pf + i < 280 by omega) (by decide)) dX3_wind_135 (fun H locs hP hD hS => ?_)
                  have hP : va_P D vwCl [(m0, .inr (3, [.ref a0, .ref a1, .ref a2, .ref a3, .ref a4, .ref a5, .int (mi 0), .int (mi 1), .int (mi 2), .int (mi 3), .int (mi 4), .int (mi 5), .int (mi 6), .int (mi 7), .int 0])), (a0, .inl (cI, 6, .inl on)), (a1, .inl (cI, 7, .inl (upd kd pf k0))), (a2, .inl (cI, 7, .inl (upd sz pf (if 1 ≤ k0 ∧ k0 ≤ 4 then f0 else 0)))), (a3, .inl (cL, 280, .inr (.inl (vp_updL g (((40 * (nI pf)) + (nI i)).toNatClampNeg) 0)))), (a4, .inl (cL, 40, .inr (.inl li))), (a5, .inl (cI, 120, .inl st))] H := hP
                  have hD : va_D A [(m0, .inr (3, [.ref a0, .ref a1, .ref a2, .ref a3, .ref a4, .ref a5, .int (mi 0), .int (mi 1), .int (mi 2), .int (mi 3), .int (mi 4), .int (mi 5), .int (mi 6), .int (mi 7), .int 0])), (a0, .inl (cI, 6, .inl on)), (a1, .inl (cI, 7, .inl (upd kd pf k0))), (a2, .inl (cI, 7, .inl (upd sz pf (if 1 ≤ k0 ∧ k0 ≤ 4 then f0 else 0)))), (a3, .inl (cL, 280, .inr (.inl (vp_updL g (((40 * (nI pf)) + (nI i)).toNatClampNeg) 0)))), (a4, .inl (cL, 40, .inr (.inl li))), (a5, .inl (cI, 120, .inl st))] := hD
                  rw [idx40, nI_clamp (show 40 * pf + i < 2 ^ 31 by omega)] at hP hD
                  have efr : (0 : Int64) = if 3 ≤ k0 then -1 else 0 := by rw [if_neg (Int32.not_le.mpr c_125)]
                  rw [efr] at hP hD
                  refine lv_iinc (v := nI (i + 1)) (lv' := [(6, .int (nI (i + 1))), (5, .int (nI pf)), (4, .int (tB (1 ≤ k0 ∧ k0 ≤ 4))), (0, .ref m0), (1, .int (nI j)), (2, .int k0), (3, .int f0)]) hx hb dX3_wind_136 hl (k := 0) rfl (nI_1 i) (by decide) rfl (fun ls hl => ?_)
                  refine lv_goto (tgt := 104) hx hb dX3_wind_139 (by decide) ?_
                  refine ih (i + 1) _ _ _ _ (by omega) (by omega) (fun t ht => ?_) (fun t ht => ?_) (lv_sub hl [0, 1, 2, 3, 4, 5, 6] rfl) hP hD hS
                  · by_cases e9 : t = i
                    · rw [e9, pk_uLs]
                    · rw [pk_uLn (by omega)]; exact h40 t (by omega)
                  · rw [pk_uLn (by omega)]; exact hout t ht
                · refine lv_ldc2 (v := (-1)) hx hb hown (hts _ lk_X3_wind_Cond_constantLong_RX3_49_1_) dX3_wind_128 ?_
                  refine lv_goto (tgt := 135) hx hb dX3_wind_131 (by decide) ?_
                  refine va_last (D := D) hx hb hK hP hD hS 4 1 rfl rfl (by rw [idx40]; exact vp_in_nI (show 40 * pf + i < 280 by omega) (by decide)) dX3_wind_135 (fun H locs hP hD hS => ?_)
                  have hP : va_P D vwCl [(m0, .inr (3, [.ref a0, .ref a1, .ref a2, .ref a3, .ref a4, .ref a5, .int (mi 0), .int (mi 1), .int (mi 2), .int (mi 3), .int (mi 4), .int (mi 5), .int (mi 6), .int (mi 7), .int 0])), (a0, .inl (cI, 6, .inl on)), (a1, .inl (cI, 7, .inl (upd kd pf k0))), (a2, .inl (cI, 7, .inl (upd sz pf (if 1 ≤ k0 ∧ k0 ≤ 4 then f0 else 0)))), (a3, .inl (cL, 280, .inr (.inl (vp_updL g (((40 * (nI pf)) + (nI i)).toNatClampNeg) (-1))))), (a4, .inl (cL, 40, .inr (.inl li))), (a5, .inl (cI, 120, .inl st))] H := hP
                  have hD : va_D A [(m0, .inr (3, [.ref a0, .ref a1, .ref a2, .ref a3, .ref a4, .ref a5, .int (mi 0), .int (mi 1), .int (mi 2), .int (mi 3), .int (mi 4), .int (mi 5), .int (mi 6), .int (mi 7), .int 0])), (a0, .inl (cI, 6, .inl on)), (a1, .inl (cI, 7, .inl (upd kd pf k0))), (a2, .inl (cI, 7, .inl (upd sz pf (if 1 ≤ k0 ∧ k0 ≤ 4 then f0 else 0)))), (a3, .inl (cL, 280, .inr (.inl (vp_updL g (((40 * (nI pf)) + (nI i)).toNatClampNeg) (-1))))), (a4, .inl (cL, 40, .inr (.inl li))), (a5, .inl (cI, 120, .inl st))] := hD
                  rw [idx40, nI_clamp (show 40 * pf + i < 2 ^ 31 by omega)] at hP hD
                  have efr : (-1 : Int64) = if 3 ≤ k0 then -1 else 0 := by rw [if_pos (Int32.not_lt.mp c_125)]
                  rw [efr] at hP hD
                  refine lv_iinc (v := nI (i + 1)) (lv' := [(6, .int (nI (i + 1))), (5, .int (nI pf)), (4, .int (tB (1 ≤ k0 ∧ k0 ≤ 4))), (0, .ref m0), (1, .int (nI j)), (2, .int k0), (3, .int f0)]) hx hb dX3_wind_136 hl (k := 0) rfl (nI_1 i) (by decide) rfl (fun ls hl => ?_)
                  refine lv_goto (tgt := 104) hx hb dX3_wind_139 (by decide) ?_
                  refine ih (i + 1) _ _ _ _ (by omega) (by omega) (fun t ht => ?_) (fun t ht => ?_) (lv_sub hl [0, 1, 2, 3, 4, 5, 6] rfl) hP hD hS
                  · by_cases e9 : t = i
                    · rw [e9, pk_uLs]
                    · rw [pk_uLn (by omega)]; exact h40 t (by omega)
                  · rw [pk_uLn (by omega)]; exact hout t ht
          exact loop 41 0 _ _ _ _ (by omega) (by omega) (fun t ht => absurd ht (by omega)) (fun t _ => rfl) (lv_sub hl [0, 1, 2, 3, 4, 5, 6] rfl) hP hD hS
        · refine lv_aload_n hx hb dX3_wind_61 rfl (lv_at hl 1 rfl) ?_
          refine va_get (D := D) (ci := 3) (v := .ref a0) (C := RX3) (T := TX3) (N := 15) hx hb hts iw_X3_wind_X3 hown hK hP 0 rfl rfl 0 (by decide) (hts _ lk_X3_wind_Cond_fieldLink_RX3_7_SpliceRoomModel_on_I_) (fun _ h9 => h9) rfl dX3_wind_62 ?_
          refine lv_iload_n hx hb dX3_wind_65 rfl (lv_at hl 2 rfl) ?_
          refine lv_iconst (v := (-1)) hx hb dX3_wind_66 (by decide) ?_
          refine va_iast (D := D) hx hb hK hP hD hS 1 0 rfl rfl (vp_in_nI hj (by decide)) dX3_wind_67 (fun H locs hP hD hS => ?_)
          have hP : va_P D vwCl [(m0, .inr (3, [.ref a0, .ref a1, .ref a2, .ref a3, .ref a4, .ref a5, .int (mi 0), .int (mi 1), .int (mi 2), .int (mi 3), .int (mi 4), .int (mi 5), .int (mi 6), .int (mi 7), .int 0])), (a0, .inl (cI, 6, .inl (upd on ((nI j).toNatClampNeg) (-1)))), (a1, .inl (cI, 7, .inl kd)), (a2, .inl (cI, 7, .inl sz)), (a3, .inl (cL, 280, .inr (.inl fr))), (a4, .inl (cL, 40, .inr (.inl li))), (a5, .inl (cI, 120, .inl st))] H := hP
          have hD : va_D A [(m0, .inr (3, [.ref a0, .ref a1, .ref a2, .ref a3, .ref a4, .ref a5, .int (mi 0), .int (mi 1), .int (mi 2), .int (mi 3), .int (mi 4), .int (mi 5), .int (mi 6), .int (mi 7), .int 0])), (a0, .inl (cI, 6, .inl (upd on ((nI j).toNatClampNeg) (-1)))), (a1, .inl (cI, 7, .inl kd)), (a2, .inl (cI, 7, .inl sz)), (a3, .inl (cL, 280, .inr (.inl fr))), (a4, .inl (cL, 40, .inr (.inl li))), (a5, .inl (cI, 120, .inl st))] := hD
          rw [nI_clamp (show j < 2 ^ 31 by omega)] at hP hD
          refine lv_iconst (v := 0) hx hb dX3_wind_68 (by decide) ?_
          exact W.iret (v := 0) hx hb hr (fun t ht hW => ⟨⟨_, (upd on j (-1), kd, sz, fr, li, st, mi9 (mi 0) (mi 1) (mi 2) (mi 3) (mi 4) (mi 5) (mi 6) (mi 7) 0), rfl, Or.inr ⟨⟨⟨j, hj, rfl⟩, c_22, Or.inl c_27⟩, j, hj, rfl, Or.inl ⟨c_58, rfl, rfl⟩⟩, ⟨by rw [ht]; exact hP, hD⟩⟩, hS.F ht⟩) hS.2.2 dX3_wind_69
      · have c_27 := tB_n.mp c_27
        refine lv_iload_n hx hb dX3_wind_30 rfl (lv_at hl 4 rfl) ?_
        refine lv_iconst (v := 0) hx hb dX3_wind_31 (by decide) ?_
        refine lv_bipush (v := 40) hx hb dX3_wind_32 (by decide) ?_
        refine ro_i (va_runS (As := [.int f0, .int 0, .int 40]) (rest := [.ref m0]) ⟨hx, hb, hml, hown, hts⟩ (c_X3_in l (v0 := f0) (l0 := 0) (u0 := 40)) (va_cwS 3 hts gX3_wind_X3_in rfl rfl rfl (by decide +kernel) ⟨Nat.le_of_ble_eq_true rfl, Nat.le_of_ble_eq_true rfl⟩) (Pq.S hC hS hN) rfl rfl hl.1 rfl (lv_room (Nat.le_of_ble_eq_true rfl)) dX3_wind_34 ⟨Nat.le_of_ble_eq_true rfl, Nat.le_of_ble_eq_true rfl⟩) hS (fun r_5 locs hw hS => ?_)
        have hw : r_5 = tB (0 ≤ f0 ∧ f0 ≤ 40) := hw
        subst hw
        refine lv_if_eq (tgt := 44) hx hb dX3_wind_37 (by decide) (fun c_37 => ?_) (fun c_37 => ?_)
        · have c_37 := tB_0.mp c_37
          refine lv_iconst (v := 1) hx hb dX3_wind_44 (by decide) ?_
          refine va_put (D := D) (ci := 3) (v := .int 1) (ty := .int) (C := RX3) (T := TX3) (N := 15) hx hb hts iw_X3_wind_X3 tyX3 tyX3_ok nmX3 hown hK hP hD hS 0 rfl rfl 14 (by decide) (hts _ lk_X3_wind_Cond_fieldLink_RX3_29_SpliceRoomModel_code_I_) (fun _ h9 => h9) rfl (by decide +kernel) rfl rfl (Nat.le_of_ble_eq_true rfl) dX3_wind_45 (fun H locs hP hD hS => ?_)
          have hP : va_P D vwCl [(m0, .inr (3, [.ref a0, .ref a1, .ref a2, .ref a3, .ref a4, .ref a5, .int (mi 0), .int (mi 1), .int (mi 2), .int (mi 3), .int (mi 4), .int (mi 5), .int (mi 6), .int (mi 7), .int 1])), (a0, .inl (cI, 6, .inl on)), (a1, .inl (cI, 7, .inl kd)), (a2, .inl (cI, 7, .inl sz)), (a3, .inl (cL, 280, .inr (.inl fr))), (a4, .inl (cL, 40, .inr (.inl li))), (a5, .inl (cI, 120, .inl st))] H := hP
          have hD : va_D A [(m0, .inr (3, [.ref a0, .ref a1, .ref a2, .ref a3, .ref a4, .ref a5, .int (mi 0), .int (mi 1), .int (mi 2), .int (mi 3), .int (mi 4), .int (mi 5), .int (mi 6), .int (mi 7), .int 1])), (a0, .inl (cI, 6, .inl on)), (a1, .inl (cI, 7, .inl kd)), (a2, .inl (cI, 7, .inl sz)), (a3, .inl (cL, 280, .inr (.inl fr))), (a4, .inl (cL, 40, .inr (.inl li))), (a5, .inl (cI, 120, .inl st))] := hD
          refine lv_aload_n hx hb dX3_wind_48 rfl (lv_at hl 1 rfl) ?_
          refine va_get (D := D) (ci := 3) (v := .int 1) (C := RX3) (T := TX3) (N := 15) hx hb hts iw_X3_wind_X3 hown hK hP 0 rfl rfl 14 (by decide) (hts _ lk_X3_wind_Cond_fieldLink_RX3_29_SpliceRoomModel_code_I_) (fun _ h9 => h9) rfl dX3_wind_49 ?_
          refine lv_if_le (tgt := 57) hx hb dX3_wind_52 (by decide) (fun c9 => absurd c9 (by decide)) (fun _ => ?_)
          refine lv_iconst (v := 0) hx hb dX3_wind_55 (by decide) ?_
          exact W.iret (v := 0) hx hb hr (fun t ht hW => ⟨⟨_, (on, kd, sz, fr, li, st, mi9 (mi 0) (mi 1) (mi 2) (mi 3) (mi 4) (mi 5) (mi 6) (mi 7) 1), rfl, Or.inl ⟨fun h9 => h9.2.2.elim (fun z9 => z9 c_27) c_37, rfl, rfl⟩, ⟨by rw [ht]; exact hP, hD⟩⟩, hS.F ht⟩) hS.2.2 dX3_wind_56
        · have c_37 := tB_n.mp c_37
          refine lv_iconst (v := 0) hx hb dX3_wind_40 (by decide) ?_
          refine lv_goto (tgt := 45) hx hb dX3_wind_41 (by decide) ?_
          refine va_put (D := D) (ci := 3) (v := .int 0) (ty := .int) (C := RX3) (T := TX3) (N := 15) hx hb hts iw_X3_wind_X3 tyX3 tyX3_ok nmX3 hown hK hP hD hS 0 rfl rfl 14 (by decide) (hts _ lk_X3_wind_Cond_fieldLink_RX3_29_SpliceRoomModel_code_I_) (fun _ h9 => h9) rfl (by decide +kernel) rfl rfl (Nat.le_of_ble_eq_true rfl) dX3_wind_45 (fun H locs hP hD hS => ?_)
          have hP : va_P D vwCl [(m0, .inr (3, [.ref a0, .ref a1, .ref a2, .ref a3, .ref a4, .ref a5, .int (mi 0), .int (mi 1), .int (mi 2), .int (mi 3), .int (mi 4), .int (mi 5), .int (mi 6), .int (mi 7), .int 0])), (a0, .inl (cI, 6, .inl on)), (a1, .inl (cI, 7, .inl kd)), (a2, .inl (cI, 7, .inl sz)), (a3, .inl (cL, 280, .inr (.inl fr))), (a4, .inl (cL, 40, .inr (.inl li))), (a5, .inl (cI, 120, .inl st))] H := hP
          have hD : va_D A [(m0, .inr (3, [.ref a0, .ref a1, .ref a2, .ref a3, .ref a4, .ref a5, .int (mi 0), .int (mi 1), .int (mi 2), .int (mi 3), .int (mi 4), .int (mi 5), .int (mi 6), .int (mi 7), .int 0])), (a0, .inl (cI, 6, .inl on)), (a1, .inl (cI, 7, .inl kd)), (a2, .inl (cI, 7, .inl sz)), (a3, .inl (cL, 280, .inr (.inl fr))), (a4, .inl (cL, 40, .inr (.inl li))), (a5, .inl (cI, 120, .inl st))] := hD
          refine lv_aload_n hx hb dX3_wind_48 rfl (lv_at hl 1 rfl) ?_
          refine va_get (D := D) (ci := 3) (v := .int 0) (C := RX3) (T := TX3) (N := 15) hx hb hts iw_X3_wind_X3 hown hK hP 0 rfl rfl 14 (by decide) (hts _ lk_X3_wind_Cond_fieldLink_RX3_29_SpliceRoomModel_code_I_) (fun _ h9 => h9) rfl dX3_wind_49 ?_
          refine lv_if_le (tgt := 57) hx hb dX3_wind_52 (by decide) (fun _ => ?_) (fun c9 => absurd (by decide) c9)
          refine lv_iload_n hx hb dX3_wind_57 rfl (lv_at hl 3 rfl) ?_
          refine lv_if_ne (tgt := 70) hx hb dX3_wind_58 (by decide) (fun c_58 => ?_) (fun c_58 => ?_)
          · refine lv_aload_n hx hb dX3_wind_70 rfl (lv_at hl 1 rfl) ?_
            refine ro_i (va_runV (As := []) (rest := []) ⟨hx, hb, hml, hown, hts⟩ (c_X3_free l (mi := mi9 (mi 0) (mi 1) (mi 2) (mi 3) (mi 4) (mi 5) (mi 6) (mi 7) 0) (hP.sub [0, 1, 2, 3, 4, 5, 6] rfl)) (cwV 0 hts gX3_wind_X3_free rfl rfl rfl (by decide +kernel) ⟨Nat.le_of_ble_eq_true rfl, Nat.le_of_ble_eq_true rfl⟩) (Pq.V hC hS hN (va_recv hK hP (ci := 3) (q0 := 0) rfl rfl)) rfl rfl hl.1 rfl (lv_room (Nat.le_of_ble_eq_true rfl)) dX3_wind_71 ⟨Nat.le_of_ble_eq_true rfl, Nat.le_of_ble_eq_true rfl⟩) hS (fun r_6 locs hw hS => ?_)
            obtain ⟨pf, hpf, ef, hfree⟩ := hw
            subst ef
            refine lv_istore (lv' := [(5, .int (nI pf)), (4, .int (tB (1 ≤ k0 ∧ k0 ≤ 4))), (0, .ref m0), (1, .int (nI j)), (2, .int k0), (3, .int f0)]) hx hb dX3_wind_74 hl (by decide) rfl (fun ls hl => ?_)
            refine lv_aload_n hx hb dX3_wind_76 rfl (lv_at hl 2 rfl) ?_
            refine va_get (D := D) (ci := 3) (v := .ref a1) (C := RX3) (T := TX3) (N := 15) hx hb hts iw_X3_wind_X3 hown hK hP 0 rfl rfl 1 (by decide) (hts _ lk_X3_wind_Cond_fieldLink_RX3_13_SpliceRoomModel_kinds_I_) (fun _ h9 => h9) rfl dX3_wind_77 ?_
            refine lv_iload hx hb dX3_wind_80 (lv_at hl 0 rfl) ?_
            refine lv_iload_n hx hb dX3_wind_82 rfl (lv_at hl 4 rfl) ?_
            refine va_iast (D := D) hx hb hK hP hD hS 2 0 rfl rfl (vp_in_nI hpf (by decide)) dX3_wind_83 (fun H locs hP hD hS => ?_)
            have hP : va_P D vwCl [(m0, .inr (3, [.ref a0, .ref a1, .ref a2, .ref a3, .ref a4, .ref a5, .int (mi 0), .int (mi 1), .int (mi 2), .int (mi 3), .int (mi 4), .int (mi 5), .int (mi 6), .int (mi 7), .int 0])), (a0, .inl (cI, 6, .inl on)), (a1, .inl (cI, 7, .inl (upd kd ((nI pf).toNatClampNeg) k0))), (a2, .inl (cI, 7, .inl sz)), (a3, .inl (cL, 280, .inr (.inl fr))), (a4, .inl (cL, 40, .inr (.inl li))), (a5, .inl (cI, 120, .inl st))] H := hP
            have hD : va_D A [(m0, .inr (3, [.ref a0, .ref a1, .ref a2, .ref a3, .ref a4, .ref a5, .int (mi 0), .int (mi 1), .int (mi 2), .int (mi 3), .int (mi 4), .int (mi 5), .int (mi 6), .int (mi 7), .int 0])), (a0, .inl (cI, 6, .inl on)), (a1, .inl (cI, 7, .inl (upd kd ((nI pf).toNatClampNeg) k0))), (a2, .inl (cI, 7, .inl sz)), (a3, .inl (cL, 280, .inr (.inl fr))), (a4, .inl (cL, 40, .inr (.inl li))), (a5, .inl (cI, 120, .inl st))] := hD
            rw [nI_clamp (show pf < 2 ^ 31 by omega)] at hP hD
            refine lv_aload_n hx hb dX3_wind_84 rfl (lv_at hl 2 rfl) ?_
            refine va_get (D := D) (ci := 3) (v := .ref a2) (C := RX3) (T := TX3) (N := 15) hx hb hts iw_X3_wind_X3 hown hK hP 0 rfl rfl 2 (by decide) (hts _ lk_X3_wind_Cond_fieldLink_RX3_16_SpliceRoomModel_sizes_I_) (fun _ h9 => h9) rfl dX3_wind_85 ?_
            refine lv_iload hx hb dX3_wind_88 (lv_at hl 0 rfl) ?_
            refine lv_iload hx hb dX3_wind_90 (lv_at hl 1 rfl) ?_
            refine lv_if_eq (tgt := 99) hx hb dX3_wind_92 (by decide) (fun c9 => absurd c9 (tB_n.mpr (c_27))) (fun _ => ?_)
            refine lv_iload_n hx hb dX3_wind_95 rfl (lv_at hl 5 rfl) ?_
            refine lv_goto (tgt := 100) hx hb dX3_wind_96 (by decide) ?_
            refine va_iast (D := D) hx hb hK hP hD hS 3 0 rfl rfl (vp_in_nI hpf (by decide)) dX3_wind_100 (fun H locs hP hD hS => ?_)
            have hP : va_P D vwCl [(m0, .inr (3, [.ref a0, .ref a1, .ref a2, .ref a3, .ref a4, .ref a5, .int (mi 0), .int (mi 1), .int (mi 2), .int (mi 3), .int (mi 4), .int (mi 5), .int (mi 6), .int (mi 7), .int 0])), (a0, .inl (cI, 6, .inl on)), (a1, .inl (cI, 7, .inl (upd kd pf k0))), (a2, .inl (cI, 7, .inl (upd sz ((nI pf).toNatClampNeg) f0))), (a3, .inl (cL, 280, .inr (.inl fr))), (a4, .inl (cL, 40, .inr (.inl li))), (a5, .inl (cI, 120, .inl st))] H := hP
            have hD : va_D A [(m0, .inr (3, [.ref a0, .ref a1, .ref a2, .ref a3, .ref a4, .ref a5, .int (mi 0), .int (mi 1), .int (mi 2), .int (mi 3), .int (mi 4), .int (mi 5), .int (mi 6), .int (mi 7), .int 0])), (a0, .inl (cI, 6, .inl on)), (a1, .inl (cI, 7, .inl (upd kd pf k0))), (a2, .inl (cI, 7, .inl (upd sz ((nI pf).toNatClampNeg) f0))), (a3, .inl (cL, 280, .inr (.inl fr))), (a4, .inl (cL, 40, .inr (.inl li))), (a5, .inl (cI, 120, .inl st))] := hD
            rw [nI_clamp (show pf < 2 ^ 31 by omega)] at hP hD
            have esz : f0 = if 1 ≤ k0 ∧ k0 ≤ 4 then f0 else 0 := by rw [if_pos c_27]
            have hP : va_P D vwCl [(m0, .inr (3, [.ref a0, .ref a1, .ref a2, .ref a3, .ref a4, .ref a5, .int (mi 0), .int (mi 1), .int (mi 2), .int (mi 3), .int (mi 4), .int (mi 5), .int (mi 6), .int (mi 7), .int 0])), (a0, .inl (cI, 6, .inl on)), (a1, .inl (cI, 7, .inl (upd kd pf k0))), (a2, .inl (cI, 7, .inl (upd sz pf (if 1 ≤ k0 ∧ k0 ≤ 4 then f0 else 0)))), (a3, .inl (cL, 280, .inr (.inl fr))), (a4, .inl (cL, 40, .inr (.inl li))), (a5, .inl (cI, 120, .inl st))] H := by rw [← esz]; exact hP
            have hD : va_D A [(m0, .inr (3, [.ref a0, .ref a1, .ref a2, .ref a3, .ref a4, .ref a5, .int (mi 0), .int (mi 1), .int (mi 2), .int (mi 3), .int (mi 4), .int (mi 5), .int (mi 6), .int (mi 7), .int 0])), (a0, .inl (cI, 6, .inl on)), (a1, .inl (cI, 7, .inl (upd kd pf k0))), (a2, .inl (cI, 7, .inl (upd sz pf (if 1 ≤ k0 ∧ k0 ≤ 4 then f0 else 0)))), (a3, .inl (cL, 280, .inr (.inl fr))), (a4, .inl (cL, 40, .inr (.inl li))), (a5, .inl (cI, 120, .inl st))] := by rw [← esz]; exact hD
            refine lv_iconst (v := 0) hx hb dX3_wind_101 (by decide) ?_
            refine lv_istore (lv' := [(6, .int 0), (5, .int (nI pf)), (4, .int (tB (1 ≤ k0 ∧ k0 ≤ 4))), (0, .ref m0), (1, .int (nI j)), (2, .int k0), (3, .int f0)]) hx hb dX3_wind_102 hl (by decide) rfl (fun ls hl => ?_)
            have loop : ∀ (n i : Nat) (g : Nat → Int64) (H : Heap) (locs : List Loc) (ls : Array Slot), i ≤ 40 → 41 ≤ i + n → (∀ t, t < i → g (40 * pf + t) = if 3 ≤ k0 then -1 else 0) → (∀ t, (t < 40 * pf ∨ 40 * pf + 40 ≤ t) → g t = fr t) → lv_has ls 7 [(6, .int (nI i)), (5, .int (nI pf)), (4, .int (tB (1 ≤ k0 ∧ k0 ≤ 4))), (0, .ref m0), (1, .int (nI j)), (2, .int k0), (3, .int f0)] → va_P D vwCl [(m0, .inr (3, [.ref a0, .ref a1, .ref a2, .ref a3, .ref a4, .ref a5, .int (mi 0), .int (mi 1), .int (mi 2), .int (mi 3), .int (mi 4), .int (mi 5), .int (mi 6), .int (mi 7), .int 0])), (a0, .inl (cI, 6, .inl on)), (a1, .inl (cI, 7, .inl (upd kd pf k0))), (a2, .inl (cI, 7, .inl (upd sz pf (if 1 ≤ k0 ∧ k0 ≤ 4 then f0 else 0)))), (a3, .inl (cL, 280, .inr (.inl g))), (a4, .inl (cL, 40, .inr (.inl li))), (a5, .inl (cI, 120, .inl st))] H → va_D A [(m0, .inr (3, [.ref a0, .ref a1, .ref a2, .ref a3, .ref a4, .ref a5, .int (mi 0), .int (mi 1), .int (mi 2), .int (mi 3), .int (mi 4), .int (mi 5), .int (mi 6), .int (mi 7), .int 0])), (a0, .inl (cI, 6, .inl on)), (a1, .inl (cI, 7, .inl (upd kd pf k0))), (a2, .inl (cI, 7, .inl (upd sz pf (if 1 ≤ k0 ∧ k0 ≤ 4 then f0 else 0)))), (a3, .inl (cL, 280, .inr (.inl g))), (a4, .inl (cL, 40, .inr (.inl li))), (a5, .inl (cI, 120, .inl st))] → va_S A s.heap H locs → W p l e (headSpec wsX3_wind ({ frames := 2, cells := 0, slots := 0, locals := 60 })).room s m ([.ref m0, .int (nI j), .int k0, .int f0] : List Value).toArray below meth c H locs 0 0 (MQ below (va_Qi (fun (r : Int32) (u : MS) => (¬ wOk (nI j) k0 f0 ∧ r = 0 ∧ u = (on, kd, sz, fr, li, st, miC mi 1)) ∨ (wOk (nI j) k0 f0 ∧ ∃ j1 : Nat, j1 < 6 ∧ (nI j) = nI j1 ∧ ((k0 = 0 ∧ r = 0 ∧ u = (upd on j1 (-1), kd, sz, fr, li, st, miC mi 0)) ∨ (¬ k0 = 0 ∧ r = k0 ∧ ∃ (p1 : Nat) (g1 : Nat → Int64), p1 < 7 ∧ (∀ h, h < 6 → ¬ on h = nI p1) ∧ (∀ t, t < 40 → g1 (40 * p1 + t) = if 3 ≤ k0 then -1 else 0) ∧ (∀ t, (t < 40 * p1 ∨ 40 * p1 + 40 ≤ t) → g1 t = fr t) ∧ u = (upd on j1 (nI p1), upd kd p1 k0, upd sz p1 (if 1 ≤ k0 ∧ k0 ≤ 4 then f0 else 0), g1, li, st, miC mi 0))))) (fun (u : MS) (t : State) => va_P D vwCl [(m0, .inr (3, [.ref a0, .ref a1, .ref a2, .ref a3, .ref a4, .ref a5, .int (u.2.2.2.2.2.2 0), .int (u.2.2.2.2.2.2 1), .int (u.2.2.2.2.2.2 2), .int (u.2.2.2.2.2.2 3), .int (u.2.2.2.2.2.2 4), .int (u.2.2.2.2.2.2 5), .int (u.2.2.2.2.2.2 6), .int (u.2.2.2.2.2.2 7), .int (u.2.2.2.2.2.2 8)])), (a0, .inl (cI, 6, .inl u.1)), (a1, .inl (cI, 7, .inl u.2.1)), (a2, .inl (cI, 7, .inl u.2.2.1)), (a3, .inl (cL, 280, .inr (.inl u.2.2.2.1))), (a4, .inl (cL, 40, .inr (.inl u.2.2.2.2.1))), (a5, .inl (cI, 120, .inl u.2.2.2.2.2.1))] t.heap ∧ va_D A [(m0, .inr (3, [.ref a0, .ref a1, .ref a2, .ref a3, .ref a4, .ref a5, .int (u.2.2.2.2.2.2 0), .int (u.2.2.2.2.2.2 1), .int (u.2.2.2.2.2.2 2), .int (u.2.2.2.2.2.2 3), .int (u.2.2.2.2.2.2 4), .int (u.2.2.2.2.2.2 5), .int (u.2.2.2.2.2.2 6), .int (u.2.2.2.2.2.2 7), .int (u.2.2.2.2.2.2 8)])), (a0, .inl (cI, 6, .inl u.1)), (a1, .inl (cI, 7, .inl u.2.1)), (a2, .inl (cI, 7, .inl u.2.2.1)), (a3, .inl (cL, 280, .inr (.inl u.2.2.2.1))), (a4, .inl (cL, 40, .inr (.inl u.2.2.2.2.1))), (a5, .inl (cI, 120, .inl u.2.2.2.2.2.1))]) A) ([.ref m0, .int (nI j), .int k0, .int f0] : List Value).toArray s 0 0 A) (F0 m 104 ls []) := by
              intro n
              induction n with
              | zero => intro i g H locs ls h1 h2; exact absurd h2 (by omega)
              | succ n ih =>
                intro i g H locs ls hi hn h40 hout hl hP hD hS
                refine lv_iload hx hb dX3_wind_104 (lv_at hl 0 rfl) ?_
                refine lv_bipush (v := 40) hx hb dX3_wind_106 (by decide) ?_
                refine lv_icmp_ge (tgt := 142) hx hb dX3_wind_108 (by decide) (fun c_108 => ?_) (fun c_108 => ?_)
                · have e40 : i = 40 := by have := (nI_leI (a := 40) (b := i) (by decide) (by omega)).mp c_108; omega
                  subst e40
                  refine lv_aload_n hx hb dX3_wind_142 rfl (lv_at hl 3 rfl) ?_
                  refine va_get (D := D) (ci := 3) (v := .ref a0) (C := RX3) (T := TX3) (N := 15) hx hb hts iw_X3_wind_X3 hown hK hP 0 rfl rfl 0 (by decide) (hts _ lk_X3_wind_Cond_fieldLink_RX3_7_SpliceRoomModel_on_I_) (fun _ h9 => h9) rfl dX3_wind_143 ?_
                  refine lv_iload_n hx hb dX3_wind_146 rfl (lv_at hl 4 rfl) ?_
                  refine lv_iload hx hb dX3_wind_147 (lv_at hl 1 rfl) ?_
                  refine va_iast (D := D) hx hb hK hP hD hS 1 0 rfl rfl (vp_in_nI hj (by decide)) dX3_wind_149 (fun H locs hP hD hS => ?_)
                  have hP : va_P D vwCl [(m0, .inr (3, [.ref a0, .ref a1, .ref a2, .ref a3, .ref a4, .ref a5, .int (mi 0), .int (mi 1), .int (mi 2), .int (mi 3), .int (mi 4), .int (mi 5), .int (mi 6), .int (mi 7), .int 0])), (a0, .inl (cI, 6, .inl (upd on ((nI j).toNatClampNeg) (nI pf)))), (a1, .inl (cI, 7, .inl (upd kd pf k0))), (a2, .inl (cI, 7, .inl (upd sz pf (if 1 ≤ k0 ∧ k0 ≤ 4 then f0 else 0)))), (a3, .inl (cL, 280, .inr (.inl g))), (a4, .inl (cL, 40, .inr (.inl li))), (a5, .inl (cI, 120, .inl st))] H := hP
                  have hD : va_D A [(m0, .inr (3, [.ref a0, .ref a1, .ref a2, .ref a3, .ref a4, .ref a5, .int (mi 0), .int (mi 1), .int (mi 2), .int (mi 3), .int (mi 4), .int (mi 5), .int (mi 6), .int (mi 7), .int 0])), (a0, .inl (cI, 6, .inl (upd on ((nI j).toNatClampNeg) (nI pf)))), (a1, .inl (cI, 7, .inl (upd kd pf k0))), (a2, .inl (cI, 7, .inl (upd sz pf (if 1 ≤ k0 ∧ k0 ≤ 4 then f0 else 0)))), (a3, .inl (cL, 280, .inr (.inl g))), (a4, .inl (cL, 40, .inr (.inl li))), (a5, .inl (cI, 120, .inl st))] := hD
                  rw [nI_clamp (show j < 2 ^ 31 by omega)] at hP hD
                  refine lv_iload_n hx hb dX3_wind_150 rfl (lv_at hl 5 rfl) ?_
                  exact W.iret (v := k0) hx hb hr (fun t ht hW => ⟨⟨_, (upd on j (nI pf), upd kd pf k0, upd sz pf (if 1 ≤ k0 ∧ k0 ≤ 4 then f0 else 0), g, li, st, mi9 (mi 0) (mi 1) (mi 2) (mi 3) (mi 4) (mi 5) (mi 6) (mi 7) 0), rfl, Or.inr ⟨⟨⟨j, hj, rfl⟩, c_22, Or.inr c_37⟩, j, hj, rfl, Or.inr ⟨c_58, rfl, pf, g, hpf, hfree, fun t ht => h40 t (by omega), hout, rfl⟩⟩, ⟨by rw [ht]; exact hP, hD⟩⟩, hS.F ht⟩) hS.2.2 dX3_wind_151
                · have hlt : i < 40 := Nat.lt_of_not_le (fun z9 => c_108 (nI_le z9 (by omega)))
                  refine lv_aload_n hx hb dX3_wind_111 rfl (lv_at hl 3 rfl) ?_
                  refine va_get (D := D) (ci := 3) (v := .ref a3) (C := RX3) (T := TX3) (N := 15) hx hb hts iw_X3_wind_X3 hown hK hP 0 rfl rfl 3 (by decide) (hts _ lk_X3_wind_Cond_fieldLink_RX3_19_SpliceRoomModel_frames_J_) (fun _ h9 => h9) rfl dX3_wind_112 ?_
                  refine lv_bipush (v := 40) hx hb dX3_wind_115 (by decide) ?_
                  refine lv_iload hx hb dX3_wind_117 (lv_at hl 1 rfl) ?_
                  refine lv_imul hx hb dX3_wind_119 ?_
                  refine lv_iload hx hb dX3_wind_120 (lv_at hl 0 rfl) ?_
                  refine lv_iadd hx hb dX3_wind_122 ?_
                  refine lv_iload_n hx hb dX3_wind_123 rfl (lv_at hl 5 rfl) ?_
                  refine lv_iconst (v := 3) hx hb dX3_wind_124 (by decide) ?_
                  refine lv_icmp_lt (tgt := 134) hx hb dX3_wind_125 (by decide) (fun c_125 => ?_) (fun c_125 => ?_)
                  · refine lv_lconst (v := 0) hx hb dX3_wind_134 (by decide) ?_
                    refine va_last (D := D) hx hb hK hP hD hS 4 1 rfl rfl (by rw [idx40]; exact vp_in_nI (show 40 * pf + i < 280 by omega) (by decide)) dX3_wind_135 (fun H locs hP hD hS => ?_)
                    have hP : va_P D vwCl [(m0, .inr (3, [.ref a0, .ref a1, .ref a2, .ref a3, .ref a4, .ref a5, .int (mi 0), .int (mi 1), .int (mi 2), .int (mi 3), .int (mi 4), .int (mi 5), .int (mi 6), .int (mi 7), .int 0])), (a0, .inl (cI, 6, .inl on)), (a1, .inl (cI, 7, .inl (upd kd pf k0))), (a2, .inl (cI, 7, .inl (upd sz pf (if 1 ≤ k0 ∧ k0 ≤ 4 then f0 else 0)))), (a3, .inl (cL, 280, .inr (.inl (vp_updL g (((40 * (nI pf)) + (nI i)).toNatClampNeg) 0)))), (a4, .inl (cL, 40, .inr (.inl li))), (a5, .inl (cI, 120, .inl st))] H := hP
                    have hD : va_D A [(m0, .inr (3, [.ref a0, .ref a1, .ref a2, .ref a3, .ref a4, .ref a5, .int (mi 0), .int (mi 1), .int (mi 2), .int (mi 3), .int (mi 4), .int (mi 5), .int (mi 6), .int (mi 7), .int 0])), (a0, .inl (cI, 6, .inl on)), (a1, .inl (cI, 7, .inl (upd kd pf k0))), (a2, .inl (cI, 7, .inl (upd sz pf (if 1 ≤ k0 ∧ k0 ≤ 4 then f0 else 0)))), (a3, .inl (cL, 280, .inr (.inl (vp_updL g (((40 * (nI pf)) + (nI i)).toNatClampNeg) 0)))), (a4, .inl (cL, 40, .inr (.inl li))), (a5, .inl (cI, 120, .inl st))] := hD
                    rw [idx40, nI_clamp (show 40 * pf + i < 2 ^ 31 by omega)] at hP hD
                    have efr : (0 : Int64) = if 3 ≤ k0 then -1 else 0 := by rw [if_neg (Int32.not_le.mpr c_125)]
                    rw [efr] at hP hD
                    refine lv_iinc (v := nI (i + 1)) (lv' := [(6, .int (nI (i + 1))), (5, .int (nI pf)), (4, .int (tB (1 ≤ k0 ∧ k0 ≤ 4))), (0, .ref m0), (1, .int (nI j)), (2, .int k0), (3, .int f0)]) hx hb dX3_wind_136 hl (k := 0) rfl (nI_1 i) (by decide) rfl (fun ls hl => ?_)
                    refine lv_goto (tgt := 104) hx hb dX3_wind_139 (by decide) ?_
                    refine ih (i + 1) _ _ _ _ (by omega) (by omega) (fun t ht => ?_) (fun t ht => ?_) (lv_sub hl [0, 1, 2, 3, 4, 5, 6] rfl) hP hD hS
                    · by_cases e9 : t = i
                      · rw [e9, pk_uLs]
                      · rw [pk_uLn (by omega)]; exact h40 t (by omega)
                    · rw [pk_uLn (by omega)]; exact hout t ht
                  · refine lv_ldc2 (v := (-1)) hx hb hown (hts _ lk_X3_wind_Cond_constantLong_RX3_49_1_) dX3_wind_128 ?_
                    refine lv_goto (tgt := 135) hx hb dX3_wind_131 (by decide) ?_
                    refine va_last (D := D) hx hb hK hP hD hS 4 1 rfl rfl (by rw [idx40]; exact vp_in_nI (show 40 * pf + i < 280 by omega) (by decide)) dX3_wind_135 (fun H locs hP hD hS => ?_)
                    have hP : va_P D vwCl [(m0, .inr (3, [.ref a0, .ref a1, .ref a2, .ref a3, .ref a4, .ref a5, .int (mi 0), .int (mi 1), .int (mi 2), .int (mi 3), .int (mi 4), .int (mi 5), .int (mi 6), .int (mi 7), .int 0])), (a0, .inl (cI, 6, .inl on)), (a1, .inl (cI, 7, .inl (upd kd pf k0))), (a2, .inl (cI, 7, .inl (upd sz pf (if 1 ≤ k0 ∧ k0 ≤ 4 then f0 else 0)))), (a3, .inl (cL, 280, .inr (.inl (vp_updL g (((40 * (nI pf)) + (nI i)).toNatClampNeg) (-1))))), (a4, .inl (cL, 40, .inr (.inl li))), (a5, .inl (cI, 120, .inl st))] H := hP
                    have hD : va_D A [(m0, .inr (3, [.ref a0, .ref a1, .ref a2, .ref a3, .ref a4, .ref a5, .int (mi 0), .int (mi 1), .int (mi 2), .int (mi 3), .int (mi 4), .int (mi 5), .int (mi 6), .int (mi 7), .int 0])), (a0, .inl (cI, 6, .inl on)), (a1, .inl (cI, 7, .inl (upd kd pf k0))), (a2, .inl (cI, 7, .inl (upd sz pf (if 1 ≤ k0 ∧ k0 ≤ 4 then f0 else 0)))), (a3, .inl (cL, 280, .inr (.inl (vp_updL g (((40 * (nI pf)) + (nI i)).toNatClampNeg) (-1))))), (a4, .inl (cL, 40, .inr (.inl li))), (a5, .inl (cI, 120, .inl st))] := hD
                    rw [idx40, nI_clamp (show 40 * pf + i < 2 ^ 31 by omega)] at hP hD
                    have efr : (-1 : Int64) = if 3 ≤ k0 then -1 else 0 := by rw [if_pos (Int32.not_lt.mp c_125)]
                    rw [efr] at hP hD
                    refine lv_iinc (v := nI (i + 1)) (lv' := [(6, .int (nI (i + 1))), (5, .int (nI pf)), (4, .int (tB (1 ≤ k0 ∧ k0 ≤ 4))), (0, .ref m0), (1, .int (nI j)), (2, .int k0), (3, .int f0)]) hx hb dX3_wind_136 hl (k := 0) rfl (nI_1 i) (by decide) rfl (fun ls hl => ?_)
                    refine lv_goto (tgt := 104) hx hb dX3_wind_139 (by decide) ?_
                    refine ih (i + 1) _ _ _ _ (by omega) (by omega) (fun t ht => ?_) (fun t ht => ?_) (lv_sub hl [0, 1, 2, 3, 4, 5, 6] rfl) hP hD hS
                    · by_cases e9 : t = i
                      · rw [e9, pk_uLs]
                      · rw [pk_uLn (by omega)]; exact h40 t (by omega)
                    · rw [pk_uLn (by omega)]; exact hout t ht
            exact loop 41 0 _ _ _ _ (by omega) (by omega) (fun t ht => absurd ht (by omega)) (fun t _ => rfl) (lv_sub hl [0, 1, 2, 3, 4, 5, 6] rfl) hP hD hS
          · refine lv_aload_n hx hb dX3_wind_61 rfl (lv_at hl 1 rfl) ?_
            refine va_get (D := D) (ci := 3) (v := .ref a0) (C := RX3) (T := TX3) (N := 15) hx hb hts iw_X3_wind_X3 hown hK hP 0 rfl rfl 0 (by decide) (hts _ lk_X3_wind_Cond_fieldLink_RX3_7_SpliceRoomModel_on_I_) (fun _ h9 => h9) rfl dX3_wind_62 ?_
            refine lv_iload_n hx hb dX3_wind_65 rfl (lv_at hl 2 rfl) ?_
            refine lv_iconst (v := (-1)) hx hb dX3_wind_66 (by decide) ?_
            refine va_iast (D := D) hx hb hK hP hD hS 1 0 rfl rfl (vp_in_nI hj (by decide)) dX3_wind_67 (fun H locs hP hD hS => ?_)
            have hP : va_P D vwCl [(m0, .inr (3, [.ref a0, .ref a1, .ref a2, .ref a3, .ref a4, .ref a5, .int (mi 0), .int (mi 1), .int (mi 2), .int (mi 3), .int (mi 4), .int (mi 5), .int (mi 6), .int (mi 7), .int 0])), (a0, .inl (cI, 6, .inl (upd on ((nI j).toNatClampNeg) (-1)))), (a1, .inl (cI, 7, .inl kd)), (a2, .inl (cI, 7, .inl sz)), (a3, .inl (cL, 280, .inr (.inl fr))), (a4, .inl (cL, 40, .inr (.inl li))), (a5, .inl (cI, 120, .inl st))] H := hP
            have hD : va_D A [(m0, .inr (3, [.ref a0, .ref a1, .ref a2, .ref a3, .ref a4, .ref a5, .int (mi 0), .int (mi 1), .int (mi 2), .int (mi 3), .int (mi 4), .int (mi 5), .int (mi 6), .int (mi 7), .int 0])), (a0, .inl (cI, 6, .inl (upd on ((nI j).toNatClampNeg) (-1)))), (a1, .inl (cI, 7, .inl kd)), (a2, .inl (cI, 7, .inl sz)), (a3, .inl (cL, 280, .inr (.inl fr))), (a4, .inl (cL, 40, .inr (.inl li))), (a5, .inl (cI, 120, .inl st))] := hD
            rw [nI_clamp (show j < 2 ^ 31 by omega)] at hP hD
            refine lv_iconst (v := 0) hx hb dX3_wind_68 (by decide) ?_
            exact W.iret (v := 0) hx hb hr (fun t ht hW => ⟨⟨_, (upd on j (-1), kd, sz, fr, li, st, mi9 (mi 0) (mi 1) (mi 2) (mi 3) (mi 4) (mi 5) (mi 6) (mi 7) 0), rfl, Or.inr ⟨⟨⟨j, hj, rfl⟩, c_22, Or.inr c_37⟩, j, hj, rfl, Or.inl ⟨c_58, rfl, rfl⟩⟩, ⟨by rw [ht]; exact hP, hD⟩⟩, hS.F ht⟩) hS.2.2 dX3_wind_69
theorem iw_X3_twin_X3 : ∀ w ∈ wsX30, w ∈ wsX3_twin := by decide +kernel
theorem lk_X3_twin_Cond_fieldLink_RX3_13_SpliceRoomModel_kinds_I_ : Cond.fieldLink RX3 13 "SpliceRoomModel" "kinds" "[I" ∈ wsX3_twin := by decide +kernel
theorem lk_X3_twin_Cond_fieldLink_RX3_16_SpliceRoomModel_sizes_I_ : Cond.fieldLink RX3 16 "SpliceRoomModel" "sizes" "[I" ∈ wsX3_twin := by decide +kernel
theorem lk_X3_twin_Cond_fieldLink_RX3_19_SpliceRoomModel_frames_J_ : Cond.fieldLink RX3 19 "SpliceRoomModel" "frames" "[J" ∈ wsX3_twin := by decide +kernel
theorem lk_X3_twin_Cond_fieldLink_RX3_29_SpliceRoomModel_code_I_ : Cond.fieldLink RX3 29 "SpliceRoomModel" "code" "I" ∈ wsX3_twin := by decide +kernel
theorem lk_X3_twin_Cond_fieldLink_RX3_7_SpliceRoomModel_on_I_ : Cond.fieldLink RX3 7 "SpliceRoomModel" "on" "[I" ∈ wsX3_twin := by decide +kernel
set_option maxHeartbeats 4000000 in
set_option maxRecDepth 100000 in
theorem c_X3_twin (l : Launch) {D : va_G} {cI cL cQ : ClassId} {N0 : Nat} {sa : Nat → Nat} {Hc : Heap} {m0 a0 a1 a2 a3 a4 a5 : Nat} {on kd sz : Nat → Int32} {fr li : Nat → Int64} {st : Nat → Int32} {mi : Nat → Int32} {h0 o0 : Int32} (hP : va_P D vwCl [(m0, .inr (3, [.ref a0, .ref a1, .ref a2, .ref a3, .ref a4, .ref a5, .int (mi 0), .int (mi 1), .int (mi 2), .int (mi 3), .int (mi 4), .int (mi 5), .int (mi 6), .int (mi 7), .int (mi 8)])), (a0, .inl (cI, 6, .inl on)), (a1, .inl (cI, 7, .inl kd)), (a2, .inl (cI, 7, .inl sz)), (a3, .inl (cL, 280, .inr (.inl fr))), (a4, .inl (cL, 40, .inr (.inl li))), (a5, .inl (cI, 120, .inl st))] Hc) (hD0 : va_D nT [(m0, .inr (3, [.ref a0, .ref a1, .ref a2, .ref a3, .ref a4, .ref a5, .int (mi 0), .int (mi 1), .int (mi 2), .int (mi 3), .int (mi 4), .int (mi 5), .int (mi 6), .int (mi 7), .int (mi 8)])), (a0, .inl (cI, 6, .inl on)), (a1, .inl (cI, 7, .inl kd)), (a2, .inl (cI, 7, .inl sz)), (a3, .inl (cL, 280, .inr (.inl fr))), (a4, .inl (cL, 40, .inr (.inl li))), (a5, .inl (cI, 120, .inl st))]) (hN : ∀ q, va_A [(m0, .inr (3, [.ref a0, .ref a1, .ref a2, .ref a3, .ref a4, .ref a5, .int (mi 0), .int (mi 1), .int (mi 2), .int (mi 3), .int (mi 4), .int (mi 5), .int (mi 6), .int (mi 7), .int (mi 8)])), (a0, .inl (cI, 6, .inl on)), (a1, .inl (cI, 7, .inl kd)), (a2, .inl (cI, 7, .inl sz)), (a3, .inl (cL, 280, .inr (.inl fr))), (a4, .inl (cL, 40, .inr (.inl li))), (a5, .inl (cI, 120, .inl st))] Hc.size q → N0 ≤ q) (hO : OnOk on) : Met l yX3_twin wsX3_twin ({ frames := 2, cells := 0, slots := 0, locals := 60 }) (Pq D cI cL cQ N0 sa [.ref m0, .int h0, .int o0] Hc) (va_Qi (fun (r : Int32) (u : MS) => (¬ (okH h0 ∧ okH o0) ∧ r = 0 ∧ u = (on, kd, sz, fr, li, st, miC mi 1)) ∨ (∃ j1 i1 : Nat, j1 < 6 ∧ i1 < 6 ∧ h0 = nI j1 ∧ o0 = nI i1 ∧ ((¬ (1 ≤ mK on kd i1 ∧ mK on kd i1 ≤ 4) ∧ r = 0 ∧ u = (on, kd, sz, fr, li, st, miC mi 2)) ∨ ((1 ≤ mK on kd i1 ∧ mK on kd i1 ≤ 4) ∧ ∃ (p1 p2 : Nat) (g1 : Nat → Int64), p1 < 7 ∧ p2 < 7 ∧ on i1 = nI p1 ∧ (∀ h, h < 6 → ¬ on h = nI p2) ∧ r = kd p1 ∧ (∀ t, t < 40 → g1 (40 * p2 + t) = fr (40 * p1 + t)) ∧ (∀ t, (t < 40 * p2 ∨ 40 * p2 + 40 ≤ t) → g1 t = fr t) ∧ u = (upd on j1 (nI p2), upd kd p2 (kd p1), upd sz p2 (sz p1), g1, li, st, miC mi 0))))) (fun (u : MS) (t : State) => va_P D vwCl [(m0, .inr (3, [.ref a0, .ref a1, .ref a2, .ref a3, .ref a4, .ref a5, .int (u.2.2.2.2.2.2 0), .int (u.2.2.2.2.2.2 1), .int (u.2.2.2.2.2.2 2), .int (u.2.2.2.2.2.2 3), .int (u.2.2.2.2.2.2 4), .int (u.2.2.2.2.2.2 5), .int (u.2.2.2.2.2.2 6), .int (u.2.2.2.2.2.2 7), .int (u.2.2.2.2.2.2 8)])), (a0, .inl (cI, 6, .inl u.1)), (a1, .inl (cI, 7, .inl u.2.1)), (a2, .inl (cI, 7, .inl u.2.2.1)), (a3, .inl (cL, 280, .inr (.inl u.2.2.2.1))), (a4, .inl (cL, 40, .inr (.inl u.2.2.2.2.1))), (a5, .inl (cI, 120, .inl u.2.2.2.2.2.1))] t.heap ∧ va_D (va_A [(m0, .inr (3, [.ref a0, .ref a1, .ref a2, .ref a3, .ref a4, .ref a5, .int (mi 0), .int (mi 1), .int (mi 2), .int (mi 3), .int (mi 4), .int (mi 5), .int (mi 6), .int (mi 7), .int (mi 8)])), (a0, .inl (cI, 6, .inl on)), (a1, .inl (cI, 7, .inl kd)), (a2, .inl (cI, 7, .inl sz)), (a3, .inl (cL, 280, .inr (.inl fr))), (a4, .inl (cL, 40, .inr (.inl li))), (a5, .inl (cI, 120, .inl st))] Hc.size) [(m0, .inr (3, [.ref a0, .ref a1, .ref a2, .ref a3, .ref a4, .ref a5, .int (u.2.2.2.2.2.2 0), .int (u.2.2.2.2.2.2 1), .int (u.2.2.2.2.2.2 2), .int (u.2.2.2.2.2.2 3), .int (u.2.2.2.2.2.2 4), .int (u.2.2.2.2.2.2 5), .int (u.2.2.2.2.2.2 6), .int (u.2.2.2.2.2.2 7), .int (u.2.2.2.2.2.2 8)])), (a0, .inl (cI, 6, .inl u.1)), (a1, .inl (cI, 7, .inl u.2.1)), (a2, .inl (cI, 7, .inl u.2.2.1)), (a3, .inl (cL, 280, .inr (.inl u.2.2.2.1))), (a4, .inl (cL, 40, .inr (.inl u.2.2.2.2.1))), (a5, .inl (cI, 120, .inl u.2.2.2.2.2.1))]) (va_A [(m0, .inr (3, [.ref a0, .ref a1, .ref a2, .ref a3, .ref a4, .ref a5, .int (mi 0), .int (mi 1), .int (mi 2), .int (mi 3), .int (mi 4), .int (mi 5), .int (mi 6), .int (mi 7), .int (mi 8)])), (a0, .inl (cI, 6, .inl on)), (a1, .inl (cI, 7, .inl kd)), (a2, .inl (cI, 7, .inl sz)), (a3, .inl (cL, 280, .inr (.inl fr))), (a4, .inl (cL, 40, .inr (.inl li))), (a5, .inl (cI, 120, .inl st))] Hc.size)) 0 0 (va_A [(m0, .inr (3, [.ref a0, .ref a1, .ref a2, .ref a3, .ref a4, .ref a5, .int (mi 0), .int (mi 1), .int (mi 2), .int (mi 3), .int (mi 4), .int (mi 5), .int (mi 6), .int (mi 7), .int (mi 8)])), (a0, .inl (cI, 6, .inl on)), (a1, .inl (cI, 7, .inl kd)), (a2, .inl (cI, 7, .inl sz)), (a3, .inl (cL, 280, .inr (.inl fr))), (a4, .inl (cL, 40, .inr (.inl li))), (a5, .inl (cI, 120, .inl st))] Hc.size) := by
  refine Met.ofW (cc := cX3_twin) (maxL := 6) (ret := (some .int)) (by decide) rfl ?_
  intro p e s m args below meth c s₁ B hml hv
  obtain ⟨rfl, hH, hC⟩ := hv
  have hx := B.exec
  have hb := B.bytes
  have hr := B.returns
  have hts := atoms_spec (ws := wsX3_twin) B.pre
  have hown : s.vm.findClass RX3 = some m.cls := findClass_of_methodNamed B.named
  have hlocks := B.notSynchronized
  subst hH
  have hK := hC.K
  have hl := lv_entry ([.ref m0, .int h0, .int o0]) (n := 6) (Nat.le_of_ble_eq_true rfl)
  rw [lg_entry_eq]
  generalize (lg_sl ([.ref m0, .int h0, .int o0]) ++ List.replicate (6 - (lg_sl ([.ref m0, .int h0, .int o0])).length) Slot.unset).toArray = ls at hl ⊢
  have hl : lv_has ls 6 [(0, .ref m0), (1, .int h0), (2, .int o0)] := hl
  have hP : va_P D vwCl [(m0, .inr (3, [.ref a0, .ref a1, .ref a2, .ref a3, .ref a4, .ref a5, .int (mi 0), .int (mi 1), .int (mi 2), .int (mi 3), .int (mi 4), .int (mi 5), .int (mi 6), .int (mi 7), .int (mi 8)])), (a0, .inl (cI, 6, .inl on)), (a1, .inl (cI, 7, .inl kd)), (a2, .inl (cI, 7, .inl sz)), (a3, .inl (cL, 280, .inr (.inl fr))), (a4, .inl (cL, 40, .inr (.inl li))), (a5, .inl (cI, 120, .inl st))] s.heap := hP
  have hD := hD0.self (sz := s.heap.size)
  generalize hAe : va_A [(m0, .inr (3, [.ref a0, .ref a1, .ref a2, .ref a3, .ref a4, .ref a5, .int (mi 0), .int (mi 1), .int (mi 2), .int (mi 3), .int (mi 4), .int (mi 5), .int (mi 6), .int (mi 7), .int (mi 8)])), (a0, .inl (cI, 6, .inl on)), (a1, .inl (cI, 7, .inl kd)), (a2, .inl (cI, 7, .inl sz)), (a3, .inl (cL, 280, .inr (.inl fr))), (a4, .inl (cL, 40, .inr (.inl li))), (a5, .inl (cI, 120, .inl st))] s.heap.size = A at hD hN ⊢
  have hA : ∀ q : Nat, s.heap.size ≤ q → A q := fun q h => by rw [← hAe]; exact Or.inr h
  have hS : va_S A s.heap s.heap [] := va_S.rf
  refine lv_aload_n hx hb dX3_twin_0 rfl (lv_at hl 0 rfl) ?_
  refine lv_iload_n hx hb dX3_twin_1 rfl (lv_at hl 1 rfl) ?_
  refine ro_i (va_runS (As := [.int h0]) (rest := [.ref m0]) ⟨hx, hb, hml, hown, hts⟩ (c_X3_isHook l (v0 := h0)) (va_cwS 1 hts gX3_twin_X3_isHook rfl rfl rfl (by decide +kernel) ⟨Nat.le_of_ble_eq_true rfl, Nat.le_of_ble_eq_true rfl⟩) (Pq.S hC hS hN) rfl rfl hl.1 rfl (lv_room (Nat.le_of_ble_eq_true rfl)) dX3_twin_2 ⟨Nat.le_of_ble_eq_true rfl, Nat.le_of_ble_eq_true rfl⟩) hS (fun r_1 locs hw hS => ?_)
  have hw : r_1 = tB (0 ≤ h0 ∧ h0 ≤ 5) := hw
  subst hw
  refine lv_if_eq (tgt := 15) hx hb dX3_twin_5 (by decide) (fun c_5 => ?_) (fun c_5 => ?_)
  · have c_5 := tB_0.mp c_5
    refine lv_iconst (v := 1) hx hb dX3_twin_15 (by decide) ?_
    refine lv_goto (tgt := 32) hx hb dX3_twin_16 (by decide) ?_
    refine va_put (D := D) (ci := 3) (v := .int 1) (ty := .int) (C := RX3) (T := TX3) (N := 15) hx hb hts iw_X3_twin_X3 tyX3 tyX3_ok nmX3 hown hK hP hD hS 0 rfl rfl 14 (by decide) (hts _ lk_X3_twin_Cond_fieldLink_RX3_29_SpliceRoomModel_code_I_) (fun _ h9 => h9) rfl (by decide +kernel) rfl rfl (Nat.le_of_ble_eq_true rfl) dX3_twin_32 (fun H locs hP hD hS => ?_)
    have hP : va_P D vwCl [(m0, .inr (3, [.ref a0, .ref a1, .ref a2, .ref a3, .ref a4, .ref a5, .int (mi 0), .int (mi 1), .int (mi 2), .int (mi 3), .int (mi 4), .int (mi 5), .int (mi 6), .int (mi 7), .int 1])), (a0, .inl (cI, 6, .inl on)), (a1, .inl (cI, 7, .inl kd)), (a2, .inl (cI, 7, .inl sz)), (a3, .inl (cL, 280, .inr (.inl fr))), (a4, .inl (cL, 40, .inr (.inl li))), (a5, .inl (cI, 120, .inl st))] H := hP
    have hD : va_D A [(m0, .inr (3, [.ref a0, .ref a1, .ref a2, .ref a3, .ref a4, .ref a5, .int (mi 0), .int (mi 1), .int (mi 2), .int (mi 3), .int (mi 4), .int (mi 5), .int (mi 6), .int (mi 7), .int 1])), (a0, .inl (cI, 6, .inl on)), (a1, .inl (cI, 7, .inl kd)), (a2, .inl (cI, 7, .inl sz)), (a3, .inl (cL, 280, .inr (.inl fr))), (a4, .inl (cL, 40, .inr (.inl li))), (a5, .inl (cI, 120, .inl st))] := hD
    refine lv_aload_n hx hb dX3_twin_35 rfl (lv_at hl 0 rfl) ?_
    refine va_get (D := D) (ci := 3) (v := .int 1) (C := RX3) (T := TX3) (N := 15) hx hb hts iw_X3_twin_X3 hown hK hP 0 rfl rfl 14 (by decide) (hts _ lk_X3_twin_Cond_fieldLink_RX3_29_SpliceRoomModel_code_I_) (fun _ h9 => h9) rfl dX3_twin_36 ?_
    refine lv_if_le (tgt := 44) hx hb dX3_twin_39 (by decide) (fun c9 => absurd c9 (by decide)) (fun _ => ?_)
    refine lv_iconst (v := 0) hx hb dX3_twin_42 (by decide) ?_
    exact W.iret (v := 0) hx hb hr (fun t ht hW => ⟨⟨_, (on, kd, sz, fr, li, st, mi9 (mi 0) (mi 1) (mi 2) (mi 3) (mi 4) (mi 5) (mi 6) (mi 7) 1), rfl, Or.inl ⟨fun h9 => c_5 (okH_iff.mpr h9.1), rfl, rfl⟩, ⟨by rw [ht]; exact hP, hD⟩⟩, hS.F ht⟩) hS.2.2 dX3_twin_43
  · have c_5 := tB_n.mp c_5
    obtain ⟨j, hj, rfl⟩ := okH_iff.mp c_5
    refine lv_iload_n hx hb dX3_twin_8 rfl (lv_at hl 2 rfl) ?_
    refine ro_i (va_runS (As := [.int o0]) (rest := [.ref m0]) ⟨hx, hb, hml, hown, hts⟩ (c_X3_isHook l (v0 := o0)) (va_cwS 1 hts gX3_twin_X3_isHook rfl rfl rfl (by decide +kernel) ⟨Nat.le_of_ble_eq_true rfl, Nat.le_of_ble_eq_true rfl⟩) (Pq.S hC hS hN) rfl rfl hl.1 rfl (lv_room (Nat.le_of_ble_eq_true rfl)) dX3_twin_9 ⟨Nat.le_of_ble_eq_true rfl, Nat.le_of_ble_eq_true rfl⟩) hS (fun r_2 locs hw hS => ?_)
    have hw : r_2 = tB (0 ≤ o0 ∧ o0 ≤ 5) := hw
    subst hw
    refine lv_if_ne (tgt := 19) hx hb dX3_twin_12 (by decide) (fun c_12 => ?_) (fun c_12 => ?_)
    · have c_12 := tB_n.mp c_12
      obtain ⟨i, hi, rfl⟩ := okH_iff.mp c_12
      refine lv_aload_n hx hb dX3_twin_19 rfl (lv_at hl 0 rfl) ?_
      refine lv_iload_n hx hb dX3_twin_20 rfl (lv_at hl 2 rfl) ?_
      refine ro_i (va_runV (As := [.int (nI i)]) (rest := [.ref m0]) ⟨hx, hb, hml, hown, hts⟩ (c_X3_hasRow l (j := i) (hP.sub [0, 1, 2, 3, 4, 5, 6] rfl) hO hi) (cwV 1 hts gX3_twin_X3_hasRow rfl rfl rfl (by decide +kernel) ⟨Nat.le_of_ble_eq_true rfl, Nat.le_of_ble_eq_true rfl⟩) (Pq.V hC hS hN (va_recv hK hP (ci := 3) (q0 := 0) rfl rfl)) rfl rfl hl.1 rfl (lv_room (Nat.le_of_ble_eq_true rfl)) dX3_twin_21 ⟨Nat.le_of_ble_eq_true rfl, Nat.le_of_ble_eq_true rfl⟩) hS (fun r_3 locs hw hS => ?_)
      have hw : r_3 = tB (1 ≤ mK on kd i ∧ mK on kd i ≤ 4) := hw
      subst hw
      refine lv_if_ne (tgt := 31) hx hb dX3_twin_24 (by decide) (fun c_24 => ?_) (fun c_24 => ?_)
      · have c_24 := tB_n.mp c_24
        obtain ⟨pp, hp, ep⟩ := mK_n hO hi (kd := kd) (fun e9 => by rw [e9] at c_24; exact absurd c_24.1 (by decide))
        refine lv_iconst (v := 0) hx hb dX3_twin_31 (by decide) ?_
        refine va_put (D := D) (ci := 3) (v := .int 0) (ty := .int) (C := RX3) (T := TX3) (N := 15) hx hb hts iw_X3_twin_X3 tyX3 tyX3_ok nmX3 hown hK hP hD hS 0 rfl rfl 14 (by decide) (hts _ lk_X3_twin_Cond_fieldLink_RX3_29_SpliceRoomModel_code_I_) (fun _ h9 => h9) rfl (by decide +kernel) rfl rfl (Nat.le_of_ble_eq_true rfl) dX3_twin_32 (fun H locs hP hD hS => ?_)
        have hP : va_P D vwCl [(m0, .inr (3, [.ref a0, .ref a1, .ref a2, .ref a3, .ref a4, .ref a5, .int (mi 0), .int (mi 1), .int (mi 2), .int (mi 3), .int (mi 4), .int (mi 5), .int (mi 6), .int (mi 7), .int 0])), (a0, .inl (cI, 6, .inl on)), (a1, .inl (cI, 7, .inl kd)), (a2, .inl (cI, 7, .inl sz)), (a3, .inl (cL, 280, .inr (.inl fr))), (a4, .inl (cL, 40, .inr (.inl li))), (a5, .inl (cI, 120, .inl st))] H := hP
        have hD : va_D A [(m0, .inr (3, [.ref a0, .ref a1, .ref a2, .ref a3, .ref a4, .ref a5, .int (mi 0), .int (mi 1), .int (mi 2), .int (mi 3), .int (mi 4), .int (mi 5), .int (mi 6), .int (mi 7), .int 0])), (a0, .inl (cI, 6, .inl on)), (a1, .inl (cI, 7, .inl kd)), (a2, .inl (cI, 7, .inl sz)), (a3, .inl (cL, 280, .inr (.inl fr))), (a4, .inl (cL, 40, .inr (.inl li))), (a5, .inl (cI, 120, .inl st))] := hD
        refine lv_aload_n hx hb dX3_twin_35 rfl (lv_at hl 0 rfl) ?_
        refine va_get (D := D) (ci := 3) (v := .int 0) (C := RX3) (T := TX3) (N := 15) hx hb hts iw_X3_twin_X3 hown hK hP 0 rfl rfl 14 (by decide) (hts _ lk_X3_twin_Cond_fieldLink_RX3_29_SpliceRoomModel_code_I_) (fun _ h9 => h9) rfl dX3_twin_36 ?_
        refine lv_if_le (tgt := 44) hx hb dX3_twin_39 (by decide) (fun _ => ?_) (fun c9 => absurd (by decide) c9)
        refine lv_aload_n hx hb dX3_twin_44 rfl (lv_at hl 0 rfl) ?_
        refine va_get (D := D) (ci := 3) (v := .ref a0) (C := RX3) (T := TX3) (N := 15) hx hb hts iw_X3_twin_X3 hown hK hP 0 rfl rfl 0 (by decide) (hts _ lk_X3_twin_Cond_fieldLink_RX3_7_SpliceRoomModel_on_I_) (fun _ h9 => h9) rfl dX3_twin_45 ?_
        refine lv_iload_n hx hb dX3_twin_48 rfl (lv_at hl 2 rfl) ?_
        refine va_iald (D := D) hx hb hK hP 1 0 rfl rfl (vp_in_nI hi (by decide)) dX3_twin_49 ?_
        refine lv_topi (fun y_4 e9 => ?_)
        have e9 : y_4 = nI pp := e9.trans (by rw [nI_clamp (by omega)]; exact ep)
        subst e9
        refine lv_istore_n (lv' := [(3, .int (nI pp)), (0, .ref m0), (1, .int (nI j)), (2, .int (nI i))]) hx hb dX3_twin_50 rfl hl (by decide) rfl (fun ls hl => ?_)
        refine lv_aload_n hx hb dX3_twin_51 rfl (lv_at hl 1 rfl) ?_
        refine ro_i (va_runV (As := []) (rest := []) ⟨hx, hb, hml, hown, hts⟩ (c_X3_free l (mi := mi9 (mi 0) (mi 1) (mi 2) (mi 3) (mi 4) (mi 5) (mi 6) (mi 7) 0) (hP.sub [0, 1, 2, 3, 4, 5, 6] rfl)) (cwV 0 hts gX3_twin_X3_free rfl rfl rfl (by decide +kernel) ⟨Nat.le_of_ble_eq_true rfl, Nat.le_of_ble_eq_true rfl⟩) (Pq.V hC hS hN (va_recv hK hP (ci := 3) (q0 := 0) rfl rfl)) rfl rfl hl.1 rfl (lv_room (Nat.le_of_ble_eq_true rfl)) dX3_twin_52 ⟨Nat.le_of_ble_eq_true rfl, Nat.le_of_ble_eq_true rfl⟩) hS (fun r_5 locs hw hS => ?_)
        obtain ⟨pf, hpf, ef, hfree⟩ := hw
        subst ef
        refine lv_istore (lv' := [(4, .int (nI pf)), (3, .int (nI pp)), (0, .ref m0), (1, .int (nI j)), (2, .int (nI i))]) hx hb dX3_twin_55 hl (by decide) rfl (fun ls hl => ?_)
        refine lv_aload_n hx hb dX3_twin_57 rfl (lv_at hl 2 rfl) ?_
        refine va_get (D := D) (ci := 3) (v := .ref a1) (C := RX3) (T := TX3) (N := 15) hx hb hts iw_X3_twin_X3 hown hK hP 0 rfl rfl 1 (by decide) (hts _ lk_X3_twin_Cond_fieldLink_RX3_13_SpliceRoomModel_kinds_I_) (fun _ h9 => h9) rfl dX3_twin_58 ?_
        refine lv_iload hx hb dX3_twin_61 (lv_at hl 0 rfl) ?_
        refine lv_aload_n hx hb dX3_twin_63 rfl (lv_at hl 2 rfl) ?_
        refine va_get (D := D) (ci := 3) (v := .ref a1) (C := RX3) (T := TX3) (N := 15) hx hb hts iw_X3_twin_X3 hown hK hP 0 rfl rfl 1 (by decide) (hts _ lk_X3_twin_Cond_fieldLink_RX3_13_SpliceRoomModel_kinds_I_) (fun _ h9 => h9) rfl dX3_twin_64 ?_
        refine lv_iload_n hx hb dX3_twin_67 rfl (lv_at hl 1 rfl) ?_
        refine va_iald (D := D) hx hb hK hP 2 0 rfl rfl (vp_in_nI hp (by decide)) dX3_twin_68 ?_
        refine lv_topi (fun y_6 e9 => ?_)
        have e9 : y_6 = kd pp := e9.trans (by rw [nI_clamp (by omega)])
        subst e9
        refine va_iast (D := D) hx hb hK hP hD hS 2 0 rfl rfl (vp_in_nI hpf (by decide)) dX3_twin_69 (fun H locs hP hD hS => ?_)
        have hP : va_P D vwCl [(m0, .inr (3, [.ref a0, .ref a1, .ref a2, .ref a3, .ref a4, .ref a5, .int (mi 0), .int (mi 1), .int (mi 2), .int (mi 3), .int (mi 4), .int (mi 5), .int (mi 6), .int (mi 7), .int 0])), (a0, .inl (cI, 6, .inl on)), (a1, .inl (cI, 7, .inl (upd kd ((nI pf).toNatClampNeg) (kd pp)))), (a2, .inl (cI, 7, .inl sz)), (a3, .inl (cL, 280, .inr (.inl fr))), (a4, .inl (cL, 40, .inr (.inl li))), (a5, .inl (cI, 120, .inl st))] H := hP
        have hD : va_D A [(m0, .inr (3, [.ref a0, .ref a1, .ref a2, .ref a3, .ref a4, .ref a5, .int (mi 0), .int (mi 1), .int (mi 2), .int (mi 3), .int (mi 4), .int (mi 5), .int (mi 6), .int (mi 7), .int 0])), (a0, .inl (cI, 6, .inl on)), (a1, .inl (cI, 7, .inl (upd kd ((nI pf).toNatClampNeg) (kd pp)))), (a2, .inl (cI, 7, .inl sz)), (a3, .inl (cL, 280, .inr (.inl fr))), (a4, .inl (cL, 40, .inr (.inl li))), (a5, .inl (cI, 120, .inl st))] := hD
        rw [nI_clamp (show pf < 2 ^ 31 by omega)] at hP hD
        refine lv_aload_n hx hb dX3_twin_70 rfl (lv_at hl 2 rfl) ?_
        refine va_get (D := D) (ci := 3) (v := .ref a2) (C := RX3) (T := TX3) (N := 15) hx hb hts iw_X3_twin_X3 hown hK hP 0 rfl rfl 2 (by decide) (hts _ lk_X3_twin_Cond_fieldLink_RX3_16_SpliceRoomModel_sizes_I_) (fun _ h9 => h9) rfl dX3_twin_71 ?_
        refine lv_iload hx hb dX3_twin_74 (lv_at hl 0 rfl) ?_
        refine lv_aload_n hx hb dX3_twin_76 rfl (lv_at hl 2 rfl) ?_
        refine va_get (D := D) (ci := 3) (v := .ref a2) (C := RX3) (T := TX3) (N := 15) hx hb hts iw_X3_twin_X3 hown hK hP 0 rfl rfl 2 (by decide) (hts _ lk_X3_twin_Cond_fieldLink_RX3_16_SpliceRoomModel_sizes_I_) (fun _ h9 => h9) rfl dX3_twin_77 ?_
        refine lv_iload_n hx hb dX3_twin_80 rfl (lv_at hl 1 rfl) ?_
        refine va_iald (D := D) hx hb hK hP 3 0 rfl rfl (vp_in_nI hp (by decide)) dX3_twin_81 ?_
        refine lv_topi (fun y_7 e9 => ?_)
        have e9 : y_7 = sz pp := e9.trans (by rw [nI_clamp (by omega)])
        subst e9
        refine va_iast (D := D) hx hb hK hP hD hS 3 0 rfl rfl (vp_in_nI hpf (by decide)) dX3_twin_82 (fun H locs hP hD hS => ?_)
        have hP : va_P D vwCl [(m0, .inr (3, [.ref a0, .ref a1, .ref a2, .ref a3, .ref a4, .ref a5, .int (mi 0), .int (mi 1), .int (mi 2), .int (mi 3), .int (mi 4), .int (mi 5), .int (mi 6), .int (mi 7), .int 0])), (a0, .inl (cI, 6, .inl on)), (a1, .inl (cI, 7, .inl (upd kd pf (kd pp)))), (a2, .inl (cI, 7, .inl (upd sz ((nI pf).toNatClampNeg) (sz pp)))), (a3, .inl (cL, 280, .inr (.inl fr))), (a4, .inl (cL, 40, .inr (.inl li))), (a5, .inl (cI, 120, .inl st))] H := hP
        have hD : va_D A [(m0, .inr (3, [.ref a0, .ref a1, .ref a2, .ref a3, .ref a4, .ref a5, .int (mi 0), .int (mi 1), .int (mi 2), .int (mi 3), .int (mi 4), .int (mi 5), .int (mi 6), .int (mi 7), .int 0])), (a0, .inl (cI, 6, .inl on)), (a1, .inl (cI, 7, .inl (upd kd pf (kd pp)))), (a2, .inl (cI, 7, .inl (upd sz ((nI pf).toNatClampNeg) (sz pp)))), (a3, .inl (cL, 280, .inr (.inl fr))), (a4, .inl (cL, 40, .inr (.inl li))), (a5, .inl (cI, 120, .inl st))] := hD
        rw [nI_clamp (show pf < 2 ^ 31 by omega)] at hP hD
        refine lv_iconst (v := 0) hx hb dX3_twin_83 (by decide) ?_
        refine lv_istore (lv' := [(5, .int 0), (4, .int (nI pf)), (3, .int (nI pp)), (0, .ref m0), (1, .int (nI j)), (2, .int (nI i))]) hx hb dX3_twin_84 hl (by decide) rfl (fun ls hl => ?_)
        have hne : pp ≠ pf := fun e9 => hfree i hi (by rw [ep, e9])
        have loop : ∀ (n t : Nat) (g : Nat → Int64) (H : Heap) (locs : List Loc) (ls : Array Slot), t ≤ 40 → 41 ≤ t + n → (∀ a, a < t → g (40 * pf + a) = fr (40 * pp + a)) → (∀ a, (a < 40 * pf ∨ 40 * pf + 40 ≤ a) → g a = fr a) → lv_has ls 6 [(5, .int (nI t)), (4, .int (nI pf)), (3, .int (nI pp)), (0, .ref m0), (1, .int (nI j)), (2, .int (nI i))] → va_P D vwCl [(m0, .inr (3, [.ref a0, .ref a1, .ref a2, .ref a3, .ref a4, .ref a5, .int (mi 0), .int (mi 1), .int (mi 2), .int (mi 3), .int (mi 4), .int (mi 5), .int (mi 6), .int (mi 7), .int 0])), (a0, .inl (cI, 6, .inl on)), (a1, .inl (cI, 7, .inl (upd kd pf (kd pp)))), (a2, .inl (cI, 7, .inl (upd sz pf (sz pp)))), (a3, .inl (cL, 280, .inr (.inl g))), (a4, .inl (cL, 40, .inr (.inl li))), (a5, .inl (cI, 120, .inl st))] H → va_D A [(m0, .inr (3, [.ref a0, .ref a1, .ref a2, .ref a3, .ref a4, .ref a5, .int (mi 0), .int (mi 1), .int (mi 2), .int (mi 3), .int (mi 4), .int (mi 5), .int (mi 6), .int (mi 7), .int 0])), (a0, .inl (cI, 6, .inl on)), (a1, .inl (cI, 7, .inl (upd kd pf (kd pp)))), (a2, .inl (cI, 7, .inl (upd sz pf (sz pp)))), (a3, .inl (cL, 280, .inr (.inl g))), (a4, .inl (cL, 40, .inr (.inl li))), (a5, .inl (cI, 120, .inl st))] → va_S A s.heap H locs → W p l e (headSpec wsX3_twin ({ frames := 2, cells := 0, slots := 0, locals := 60 })).room s m ([.ref m0, .int (nI j), .int (nI i)] : List Value).toArray below meth c H locs 0 0 (MQ below (va_Qi (fun (r : Int32) (u : MS) => (¬ (okH (nI j) ∧ okH (nI i)) ∧ r = 0 ∧ u = (on, kd, sz, fr, li, st, miC mi 1)) ∨ (∃ j1 i1 : Nat, j1 < 6 ∧ i1 < 6 ∧ (nI j) = nI j1 ∧ (nI i) = nI i1 ∧ ((¬ (1 ≤ mK on kd i1 ∧ mK on kd i1 ≤ 4) ∧ r = 0 ∧ u = (on, kd, sz, fr, li, st, miC mi 2)) ∨ ((1 ≤ mK on kd i1 ∧ mK on kd i1 ≤ 4) ∧ ∃ (p1 p2 : Nat) (g1 : Nat → Int64), p1 < 7 ∧ p2 < 7 ∧ on i1 = nI p1 ∧ (∀ h, h < 6 → ¬ on h = nI p2) ∧ r = kd p1 ∧ (∀ t, t < 40 → g1 (40 * p2 + t) = fr (40 * p1 + t)) ∧ (∀ t, (t < 40 * p2 ∨ 40 * p2 + 40 ≤ t) → g1 t = fr t) ∧ u = (upd on j1 (nI p2), upd kd p2 (kd p1), upd sz p2 (sz p1), g1, li, st, miC mi 0))))) (fun (u : MS) (t : State) => va_P D vwCl [(m0, .inr (3, [.ref a0, .ref a1, .ref a2, .ref a3, .ref a4, .ref a5, .int (u.2.2.2.2.2.2 0), .int (u.2.2.2.2.2.2 1), .int (u.2.2.2.2.2.2 2), .int (u.2.2.2.2.2.2 3), .int (u.2.2.2.2.2.2 4), .int (u.2.2.2.2.2.2 5), .int (u.2.2.2.2.2.2 6), .int (u.2.2.2.2.2.2 7), .int (u.2.2.2.2.2.2 8)])), (a0, .inl (cI, 6, .inl u.1)), (a1, .inl (cI, 7, .inl u.2.1)), (a2, .inl (cI, 7, .inl u.2.2.1)), (a3, .inl (cL, 280, .inr (.inl u.2.2.2.1))), (a4, .inl (cL, 40, .inr (.inl u.2.2.2.2.1))), (a5, .inl (cI, 120, .inl u.2.2.2.2.2.1))] t.heap ∧ va_D A [(m0, .inr (3, [.ref a0, .ref a1, .ref a2, .ref a3, .ref a4, .ref a5, .int (u.2.2.2.2.2.2 0), .int (u.2.2.2.2.2.2 1), .int (u.2.2.2.2.2.2 2), .int (u.2.2.2.2.2.2 3), .int (u.2.2.2.2.2.2 4), .int (u.2.2.2.2.2.2 5), .int (u.2.2.2.2.2.2 6), .int (u.2.2.2.2.2.2 7), .int (u.2.2.2.2.2.2 8)])), (a0, .inl (cI, 6, .inl u.1)), (a1, .inl (cI, 7, .inl u.2.1)), (a2, .inl (cI, 7, .inl u.2.2.1)), (a3, .inl (cL, 280, .inr (.inl u.2.2.2.1))), (a4, .inl (cL, 40, .inr (.inl u.2.2.2.2.1))), (a5, .inl (cI, 120, .inl u.2.2.2.2.2.1))]) A) ([.ref m0, .int (nI j), .int (nI i)] : List Value).toArray s 0 0 A) (F0 m 86 ls []) := by
          intro n
          induction n with
          | zero => intro t g H locs ls h1 h2; exact absurd h2 (by omega)
          | succ n ih =>
            intro t g H locs ls hi9 hn h40 hout hl hP hD hS
            refine lv_iload hx hb dX3_twin_86 (lv_at hl 0 rfl) ?_
            refine lv_bipush (v := 40) hx hb dX3_twin_88 (by decide) ?_
            refine lv_icmp_ge (tgt := 124) hx hb dX3_twin_90 (by decide) (fun c_90 => ?_) (fun c_90 => ?_)
            · have e40 : t = 40 := by have := (nI_leI (a := 40) (b := t) (by decide) (by omega)).mp c_90; omega
              subst e40
              refine lv_aload_n hx hb dX3_twin_124 rfl (lv_at hl 3 rfl) ?_
              refine va_get (D := D) (ci := 3) (v := .ref a0) (C := RX3) (T := TX3) (N := 15) hx hb hts iw_X3_twin_X3 hown hK hP 0 rfl rfl 0 (by decide) (hts _ lk_X3_twin_Cond_fieldLink_RX3_7_SpliceRoomModel_on_I_) (fun _ h9 => h9) rfl dX3_twin_125 ?_
              refine lv_iload_n hx hb dX3_twin_128 rfl (lv_at hl 4 rfl) ?_
              refine lv_iload hx hb dX3_twin_129 (lv_at hl 1 rfl) ?_
              refine va_iast (D := D) hx hb hK hP hD hS 1 0 rfl rfl (vp_in_nI hj (by decide)) dX3_twin_131 (fun H locs hP hD hS => ?_)
              have hP : va_P D vwCl [(m0, .inr (3, [.ref a0, .ref a1, .ref a2, .ref a3, .ref a4, .ref a5, .int (mi 0), .int (mi 1), .int (mi 2), .int (mi 3), .int (mi 4), .int (mi 5), .int (mi 6), .int (mi 7), .int 0])), (a0, .inl (cI, 6, .inl (upd on ((nI j).toNatClampNeg) (nI pf)))), (a1, .inl (cI, 7, .inl (upd kd pf (kd pp)))), (a2, .inl (cI, 7, .inl (upd sz pf (sz pp)))), (a3, .inl (cL, 280, .inr (.inl g))), (a4, .inl (cL, 40, .inr (.inl li))), (a5, .inl (cI, 120, .inl st))] H := hP
              have hD : va_D A [(m0, .inr (3, [.ref a0, .ref a1, .ref a2, .ref a3, .ref a4, .ref a5, .int (mi 0), .int (mi 1), .int (mi 2), .int (mi 3), .int (mi 4), .int (mi 5), .int (mi 6), .int (mi 7), .int 0])), (a0, .inl (cI, 6, .inl (upd on ((nI j).toNatClampNeg) (nI pf)))), (a1, .inl (cI, 7, .inl (upd kd pf (kd pp)))), (a2, .inl (cI, 7, .inl (upd sz pf (sz pp)))), (a3, .inl (cL, 280, .inr (.inl g))), (a4, .inl (cL, 40, .inr (.inl li))), (a5, .inl (cI, 120, .inl st))] := hD
              rw [nI_clamp (show j < 2 ^ 31 by omega)] at hP hD
              refine lv_aload_n hx hb dX3_twin_132 rfl (lv_at hl 3 rfl) ?_
              refine va_get (D := D) (ci := 3) (v := .ref a1) (C := RX3) (T := TX3) (N := 15) hx hb hts iw_X3_twin_X3 hown hK hP 0 rfl rfl 1 (by decide) (hts _ lk_X3_twin_Cond_fieldLink_RX3_13_SpliceRoomModel_kinds_I_) (fun _ h9 => h9) rfl dX3_twin_133 ?_
              refine lv_iload hx hb dX3_twin_136 (lv_at hl 1 rfl) ?_
              refine va_iald (D := D) hx hb hK hP 2 0 rfl rfl (vp_in_nI hpf (by decide)) dX3_twin_138 ?_
              refine lv_topi (fun y_8 e9 => ?_)
              have e9 : y_8 = kd pp := e9.trans (by rw [nI_clamp (by omega), pk_us])
              subst e9
              exact W.iret (v := kd pp) hx hb hr (fun t ht hW => ⟨⟨_, (upd on j (nI pf), upd kd pf (kd pp), upd sz pf (sz pp), g, li, st, mi9 (mi 0) (mi 1) (mi 2) (mi 3) (mi 4) (mi 5) (mi 6) (mi 7) 0), rfl, Or.inr ⟨j, i, hj, hi, rfl, rfl, Or.inr ⟨c_24, pp, pf, g, hp, hpf, ep, hfree, rfl, fun t9 h9 => h40 t9 (by omega), hout, rfl⟩⟩, ⟨by rw [ht]; exact hP, hD⟩⟩, hS.F ht⟩) hS.2.2 dX3_twin_139
            · have hlt : t < 40 := Nat.lt_of_not_le (fun z9 => c_90 (nI_le z9 (by omega)))
              refine lv_aload_n hx hb dX3_twin_93 rfl (lv_at hl 3 rfl) ?_
              refine va_get (D := D) (ci := 3) (v := .ref a3) (C := RX3) (T := TX3) (N := 15) hx hb hts iw_X3_twin_X3 hown hK hP 0 rfl rfl 3 (by decide) (hts _ lk_X3_twin_Cond_fieldLink_RX3_19_SpliceRoomModel_frames_J_) (fun _ h9 => h9) rfl dX3_twin_94 ?_
              refine lv_bipush (v := 40) hx hb dX3_twin_97 (by decide) ?_
              refine lv_iload hx hb dX3_twin_99 (lv_at hl 1 rfl) ?_
              refine lv_imul hx hb dX3_twin_101 ?_
              refine lv_iload hx hb dX3_twin_102 (lv_at hl 0 rfl) ?_
              refine lv_iadd hx hb dX3_twin_104 ?_
              refine lv_aload_n hx hb dX3_twin_105 rfl (lv_at hl 3 rfl) ?_
              refine va_get (D := D) (ci := 3) (v := .ref a3) (C := RX3) (T := TX3) (N := 15) hx hb hts iw_X3_twin_X3 hown hK hP 0 rfl rfl 3 (by decide) (hts _ lk_X3_twin_Cond_fieldLink_RX3_19_SpliceRoomModel_frames_J_) (fun _ h9 => h9) rfl dX3_twin_106 ?_
              refine lv_bipush (v := 40) hx hb dX3_twin_109 (by decide) ?_
              refine lv_iload_n hx hb dX3_twin_111 rfl (lv_at hl 2 rfl) ?_
              refine lv_imul hx hb dX3_twin_112 ?_
              refine lv_iload hx hb dX3_twin_113 (lv_at hl 0 rfl) ?_
              refine lv_iadd hx hb dX3_twin_115 ?_
              refine va_lald (D := D) hx hb hK hP 4 1 rfl rfl (by rw [idx40]; exact vp_in_nI (show 40 * pp + t < 280 by omega) (by decide)) dX3_twin_116 ?_
              refine lv_topl (fun y_9 e9 => ?_)
              have e9 : y_9 = fr (40 * pp + t) := e9.trans (by rw [idx40, nI_clamp (by omega)]; exact hout _ (by omega))
              subst e9
              refine va_last (D := D) hx hb hK hP hD hS 4 1 rfl rfl (by rw [idx40]; exact vp_in_nI (show 40 * pf + t < 280 by omega) (by decide)) dX3_twin_117 (fun H locs hP hD hS => ?_)
              have hP : va_P D vwCl [(m0, .inr (3, [.ref a0, .ref a1, .ref a2, .ref a3, .ref a4, .ref a5, .int (mi 0), .int (mi 1), .int (mi 2), .int (mi 3), .int (mi 4), .int (mi 5), .int (mi 6), .int (mi 7), .int 0])), (a0, .inl (cI, 6, .inl on)), (a1, .inl (cI, 7, .inl (upd kd pf (kd pp)))), (a2, .inl (cI, 7, .inl (upd sz pf (sz pp)))), (a3, .inl (cL, 280, .inr (.inl (vp_updL g (((40 * (nI pf)) + (nI t)).toNatClampNeg) (fr (40 * pp + t)))))), (a4, .inl (cL, 40, .inr (.inl li))), (a5, .inl (cI, 120, .inl st))] H := hP
              have hD : va_D A [(m0, .inr (3, [.ref a0, .ref a1, .ref a2, .ref a3, .ref a4, .ref a5, .int (mi 0), .int (mi 1), .int (mi 2), .int (mi 3), .int (mi 4), .int (mi 5), .int (mi 6), .int (mi 7), .int 0])), (a0, .inl (cI, 6, .inl on)), (a1, .inl (cI, 7, .inl (upd kd pf (kd pp)))), (a2, .inl (cI, 7, .inl (upd sz pf (sz pp)))), (a3, .inl (cL, 280, .inr (.inl (vp_updL g (((40 * (nI pf)) + (nI t)).toNatClampNeg) (fr (40 * pp + t)))))), (a4, .inl (cL, 40, .inr (.inl li))), (a5, .inl (cI, 120, .inl st))] := hD
              rw [idx40, nI_clamp (show 40 * pf + t < 2 ^ 31 by omega)] at hP hD
              refine lv_iinc (v := nI (t + 1)) (lv' := [(5, .int (nI (t + 1))), (4, .int (nI pf)), (3, .int (nI pp)), (0, .ref m0), (1, .int (nI j)), (2, .int (nI i))]) hx hb dX3_twin_118 hl (k := 0) rfl (nI_1 t) (by decide) rfl (fun ls hl => ?_)
              refine lv_goto (tgt := 86) hx hb dX3_twin_121 (by decide) ?_
              refine ih (t + 1) _ _ _ _ (by omega) (by omega) (fun a ha => ?_) (fun a ha => ?_) (lv_sub hl [0, 1, 2, 3, 4, 5] rfl) hP hD hS
              · by_cases e9 : a = t
                · rw [e9, pk_uLs]
                · rw [pk_uLn (by omega)]; exact h40 a (by omega)
              · rw [pk_uLn (by omega)]; exact hout a ha
        exact loop 41 0 _ _ _ _ (by omega) (by omega) (fun a ha => absurd ha (by omega)) (fun a _ => rfl) (lv_sub hl [0, 1, 2, 3, 4, 5] rfl) hP hD hS
      · have c_24 := tB_0.mp c_24
        refine lv_iconst (v := 2) hx hb dX3_twin_27 (by decide) ?_
        refine lv_goto (tgt := 32) hx hb dX3_twin_28 (by decide) ?_
        refine va_put (D := D) (ci := 3) (v := .int 2) (ty := .int) (C := RX3) (T := TX3) (N := 15) hx hb hts iw_X3_twin_X3 tyX3 tyX3_ok nmX3 hown hK hP hD hS 0 rfl rfl 14 (by decide) (hts _ lk_X3_twin_Cond_fieldLink_RX3_29_SpliceRoomModel_code_I_) (fun _ h9 => h9) rfl (by decide +kernel) rfl rfl (Nat.le_of_ble_eq_true rfl) dX3_twin_32 (fun H locs hP hD hS => ?_)
        have hP : va_P D vwCl [(m0, .inr (3, [.ref a0, .ref a1, .ref a2, .ref a3, .ref a4, .ref a5, .int (mi 0), .int (mi 1), .int (mi 2), .int (mi 3), .int (mi 4), .int (mi 5), .int (mi 6), .int (mi 7), .int 2])), (a0, .inl (cI, 6, .inl on)), (a1, .inl (cI, 7, .inl kd)), (a2, .inl (cI, 7, .inl sz)), (a3, .inl (cL, 280, .inr (.inl fr))), (a4, .inl (cL, 40, .inr (.inl li))), (a5, .inl (cI, 120, .inl st))] H := hP
        have hD : va_D A [(m0, .inr (3, [.ref a0, .ref a1, .ref a2, .ref a3, .ref a4, .ref a5, .int (mi 0), .int (mi 1), .int (mi 2), .int (mi 3), .int (mi 4), .int (mi 5), .int (mi 6), .int (mi 7), .int 2])), (a0, .inl (cI, 6, .inl on)), (a1, .inl (cI, 7, .inl kd)), (a2, .inl (cI, 7, .inl sz)), (a3, .inl (cL, 280, .inr (.inl fr))), (a4, .inl (cL, 40, .inr (.inl li))), (a5, .inl (cI, 120, .inl st))] := hD
        refine lv_aload_n hx hb dX3_twin_35 rfl (lv_at hl 0 rfl) ?_
        refine va_get (D := D) (ci := 3) (v := .int 2) (C := RX3) (T := TX3) (N := 15) hx hb hts iw_X3_twin_X3 hown hK hP 0 rfl rfl 14 (by decide) (hts _ lk_X3_twin_Cond_fieldLink_RX3_29_SpliceRoomModel_code_I_) (fun _ h9 => h9) rfl dX3_twin_36 ?_
        refine lv_if_le (tgt := 44) hx hb dX3_twin_39 (by decide) (fun c9 => absurd c9 (by decide)) (fun _ => ?_)
        refine lv_iconst (v := 0) hx hb dX3_twin_42 (by decide) ?_
        exact W.iret (v := 0) hx hb hr (fun t ht hW => ⟨⟨_, (on, kd, sz, fr, li, st, mi9 (mi 0) (mi 1) (mi 2) (mi 3) (mi 4) (mi 5) (mi 6) (mi 7) 2), rfl, Or.inr ⟨j, i, hj, hi, rfl, rfl, Or.inl ⟨c_24, rfl, rfl⟩⟩, ⟨by rw [ht]; exact hP, hD⟩⟩, hS.F ht⟩) hS.2.2 dX3_twin_43
    · have c_12 := tB_0.mp c_12
      refine lv_iconst (v := 1) hx hb dX3_twin_15 (by decide) ?_
      refine lv_goto (tgt := 32) hx hb dX3_twin_16 (by decide) ?_
      refine va_put (D := D) (ci := 3) (v := .int 1) (ty := .int) (C := RX3) (T := TX3) (N := 15) hx hb hts iw_X3_twin_X3 tyX3 tyX3_ok nmX3 hown hK hP hD hS 0 rfl rfl 14 (by decide) (hts _ lk_X3_twin_Cond_fieldLink_RX3_29_SpliceRoomModel_code_I_) (fun _ h9 => h9) rfl (by decide +kernel) rfl rfl (Nat.le_of_ble_eq_true rfl) dX3_twin_32 (fun H locs hP hD hS => ?_)
      have hP : va_P D vwCl [(m0, .inr (3, [.ref a0, .ref a1, .ref a2, .ref a3, .ref a4, .ref a5, .int (mi 0), .int (mi 1), .int (mi 2), .int (mi 3), .int (mi 4), .int (mi 5), .int (mi 6), .int (mi 7), .int 1])), (a0, .inl (cI, 6, .inl on)), (a1, .inl (cI, 7, .inl kd)), (a2, .inl (cI, 7, .inl sz)), (a3, .inl (cL, 280, .inr (.inl fr))), (a4, .inl (cL, 40, .inr (.inl li))), (a5, .inl (cI, 120, .inl st))] H := hP
      have hD : va_D A [(m0, .inr (3, [.ref a0, .ref a1, .ref a2, .ref a3, .ref a4, .ref a5, .int (mi 0), .int (mi 1), .int (mi 2), .int (mi 3), .int (mi 4), .int (mi 5), .int (mi 6), .int (mi 7), .int 1])), (a0, .inl (cI, 6, .inl on)), (a1, .inl (cI, 7, .inl kd)), (a2, .inl (cI, 7, .inl sz)), (a3, .inl (cL, 280, .inr (.inl fr))), (a4, .inl (cL, 40, .inr (.inl li))), (a5, .inl (cI, 120, .inl st))] := hD
      refine lv_aload_n hx hb dX3_twin_35 rfl (lv_at hl 0 rfl) ?_
      refine va_get (D := D) (ci := 3) (v := .int 1) (C := RX3) (T := TX3) (N := 15) hx hb hts iw_X3_twin_X3 hown hK hP 0 rfl rfl 14 (by decide) (hts _ lk_X3_twin_Cond_fieldLink_RX3_29_SpliceRoomModel_code_I_) (fun _ h9 => h9) rfl dX3_twin_36 ?_
      refine lv_if_le (tgt := 44) hx hb dX3_twin_39 (by decide) (fun c9 => absurd c9 (by decide)) (fun _ => ?_)
      refine lv_iconst (v := 0) hx hb dX3_twin_42 (by decide) ?_
      exact W.iret (v := 0) hx hb hr (fun t ht hW => ⟨⟨_, (on, kd, sz, fr, li, st, mi9 (mi 0) (mi 1) (mi 2) (mi 3) (mi 4) (mi 5) (mi 6) (mi 7) 1), rfl, Or.inl ⟨fun h9 => c_12 (okH_iff.mpr h9.2), rfl, rfl⟩, ⟨by rw [ht]; exact hP, hD⟩⟩, hS.F ht⟩) hS.2.2 dX3_twin_43
end CModel3
