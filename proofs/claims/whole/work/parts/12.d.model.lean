section CModel4
/-- two reels that a cut may not go between, as the model has it -/
abbrev Ag2 (a b : Int32) : Prop := (a = 5 ∨ b = 5) ∨ (¬ (3 ≤ a ∧ 3 ≤ b) ∧ ¬ a = b)
def AgRel (on kd sz : Nat → Int32) (j1 j2 : Nat) (p q n r : Int32) : Prop := ((mK on kd j1 = 0 ∨ mK on kd j2 = 0) ∧ r = -1) ∨ (¬ (mK on kd j1 = 0 ∨ mK on kd j2 = 0) ∧ Ag2 (mK on kd j1) (mK on kd j2) ∧ r = -2) ∨ (¬ (mK on kd j1 = 0 ∨ mK on kd j2 = 0) ∧ ¬ Ag2 (mK on kd j1) (mK on kd j2) ∧ ∃ p1 p2 z1 z2 : Nat, (p1 < 7 ∧ p2 < 7) ∧ (z1 ≤ 40 ∧ z2 ≤ 40) ∧ (on j1 = nI p1 ∧ on j2 = nI p2) ∧ (sz p1 = nI z1 ∧ sz p2 = nI z2) ∧ ((¬ (inFr p n z1 ∧ inFr q n z2) ∧ r = -3) ∨ ((inFr p n z1 ∧ inFr q n z2) ∧ r = 0)))
theorem lt_LL {p n : Int32} {z : Nat} (hz : z ≤ 40) : ((nI z).toInt64 < p.toInt64 + n.toInt64) ↔ (z : Int) < p.toInt + n.toInt := by
  have h1 := p.toInt_lt
  have h2 := p.le_toInt
  have h3 := n.toInt_lt
  have h4 := n.le_toInt
  have e : (p.toInt64 + n.toInt64).toInt = p.toInt + n.toInt := by
    rw [Int64.toInt_add, Int32.toInt_toInt64, Int32.toInt_toInt64]
    refine Int.bmod_eq_of_le ?_ ?_ <;> omega
  rw [Int64.lt_iff_toInt_lt, e, Int32.toInt_toInt64, nI_toInt (by omega)]
set_option maxHeartbeats 4000000 in
set_option maxRecDepth 100000 in
theorem c_X3_against (l : Launch) {D : va_G} {cI cL cQ : ClassId} {N0 : Nat} {sa : Nat → Nat} {Hc : Heap} {m0 a0 a1 a2 a3 a4 a5 : Nat} {on kd sz : Nat → Int32} {fr li : Nat → Int64} {st : Nat → Int32} {mi : Nat → Int32} {j1 j2 : Nat} {p0 q0 n0 : Int32} (hP : va_P D vwCl [(m0, .inr (3, [.ref a0, .ref a1, .ref a2, .ref a3, .ref a4, .ref a5, .int (mi 0), .int (mi 1), .int (mi 2), .int (mi 3), .int (mi 4), .int (mi 5), .int (mi 6), .int (mi 7), .int (mi 8)])), (a0, .inl (cI, 6, .inl on)), (a1, .inl (cI, 7, .inl kd)), (a2, .inl (cI, 7, .inl sz)), (a3, .inl (cL, 280, .inr (.inl fr))), (a4, .inl (cL, 40, .inr (.inl li))), (a5, .inl (cI, 120, .inl st))] Hc) (hO : OnOk on) (hZ : SzOk sz) (h1 : j1 < 6) (h2 : j2 < 6) : Met l yX3_against wsX3_against ({ frames := 1, cells := 0, slots := 0, locals := 40 }) (Pq D cI cL cQ N0 sa [.ref m0, .int (nI j1), .int p0, .int (nI j2), .int q0, .int n0] Hc) (va_Qi (fun (r : Int32) (_ : Unit) => AgRel on kd sz j1 j2 p0 q0 n0 r) (fun _ t => t.heap = Hc) nA) 0 0 nA := by
  refine Met.ofW (cc := cX3_against) (maxL := 10) (ret := (some .int)) (by decide) rfl ?_
  intro p e s m args below meth c s₁ B hml hv
  obtain ⟨rfl, hH, hC⟩ := hv
  have hx := B.exec
  have hb := B.bytes
  have hr := B.returns
  have hts := atoms_spec (ws := wsX3_against) B.pre
  have hown : s.vm.findClass RX3 = some m.cls := findClass_of_methodNamed B.named
  have hlocks := B.notSynchronized
  subst hH
  have hK := hC.K
  have hl := lv_entry ([.ref m0, .int (nI j1), .int p0, .int (nI j2), .int q0, .int n0]) (n := 10) (Nat.le_of_ble_eq_true rfl)
  rw [lg_entry_eq]
  generalize (lg_sl ([.ref m0, .int (nI j1), .int p0, .int (nI j2), .int q0, .int n0]) ++ List.replicate (10 - (lg_sl ([.ref m0, .int (nI j1), .int p0, .int (nI j2), .int q0, .int n0])).length) Slot.unset).toArray = ls at hl ⊢
  have hl : lv_has ls 10 [(0, .ref m0), (1, .int (nI j1)), (2, .int p0), (3, .int (nI j2)), (4, .int q0), (5, .int n0)] := hl
  have hP : va_P D vwCl [(m0, .inr (3, [.ref a0, .ref a1, .ref a2, .ref a3, .ref a4, .ref a5, .int (mi 0), .int (mi 1), .int (mi 2), .int (mi 3), .int (mi 4), .int (mi 5), .int (mi 6), .int (mi 7), .int (mi 8)])), (a0, .inl (cI, 6, .inl on)), (a1, .inl (cI, 7, .inl kd)), (a2, .inl (cI, 7, .inl sz)), (a3, .inl (cL, 280, .inr (.inl fr))), (a4, .inl (cL, 40, .inr (.inl li))), (a5, .inl (cI, 120, .inl st))] s.heap := hP
  have hS : va_S nA s.heap s.heap [] := va_S.rf
  have hN : ∀ q, nA q → N0 ≤ q := nA_N
  refine lv_aload_n hx hb dX3_against_0 rfl (lv_at hl 0 rfl) ?_
  refine lv_iload_n hx hb dX3_against_1 rfl (lv_at hl 1 rfl) ?_
  refine ro_i (va_runV (As := [.int (nI j1)]) (rest := []) ⟨hx, hb, hml, hown, hts⟩ (c_X3_kindAt l (j := j1) (hP.sub [0, 1, 2, 3, 4, 5, 6] rfl) hO h1) (cwV 1 hts gX3_against_X3_kindAt rfl rfl rfl (by decide +kernel) ⟨Nat.le_of_ble_eq_true rfl, Nat.le_of_ble_eq_true rfl⟩) (Pq.V hC hS hN (va_recv hK hP (ci := 3) (q0 := 0) rfl rfl)) rfl rfl hl.1 rfl (lv_room (Nat.le_of_ble_eq_true rfl)) dX3_against_2 ⟨Nat.le_of_ble_eq_true rfl, Nat.le_of_ble_eq_true rfl⟩) hS (fun r_1 locs hw hS => ?_)
  have hw : r_1 = mK on kd j1 := hw
  subst hw
  refine lv_istore (lv' := [(6, .int (mK on kd j1)), (0, .ref m0), (1, .int (nI j1)), (2, .int p0), (3, .int (nI j2)), (4, .int q0), (5, .int n0)]) hx hb dX3_against_5 hl (by decide) rfl (fun ls hl => ?_)
  refine lv_aload_n hx hb dX3_against_7 rfl (lv_at hl 1 rfl) ?_
  refine lv_iload_n hx hb dX3_against_8 rfl (lv_at hl 4 rfl) ?_
  refine ro_i (va_runV (As := [.int (nI j2)]) (rest := []) ⟨hx, hb, hml, hown, hts⟩ (c_X3_kindAt l (j := j2) (hP.sub [0, 1, 2, 3, 4, 5, 6] rfl) hO h2) (cwV 1 hts gX3_against_X3_kindAt rfl rfl rfl (by decide +kernel) ⟨Nat.le_of_ble_eq_true rfl, Nat.le_of_ble_eq_true rfl⟩) (Pq.V hC hS hN (va_recv hK hP (ci := 3) (q0 := 0) rfl rfl)) rfl rfl hl.1 rfl (lv_room (Nat.le_of_ble_eq_true rfl)) dX3_against_9 ⟨Nat.le_of_ble_eq_true rfl, Nat.le_of_ble_eq_true rfl⟩) hS (fun r_2 locs hw hS => ?_)
  have hw : r_2 = mK on kd j2 := hw
  subst hw
  refine lv_istore (lv' := [(7, .int (mK on kd j2)), (6, .int (mK on kd j1)), (0, .ref m0), (1, .int (nI j1)), (2, .int p0), (3, .int (nI j2)), (4, .int q0), (5, .int n0)]) hx hb dX3_against_12 hl (by decide) rfl (fun ls hl => ?_)
  refine lv_iload hx hb dX3_against_14 (lv_at hl 1 rfl) ?_
  refine lv_if_eq (tgt := 24) hx hb dX3_against_16 (by decide) (fun c_16 => ?_) (fun c_16 => ?_)
  · refine lv_iconst (v := (-1)) hx hb dX3_against_24 (by decide) ?_
    exact W.iret (v := (-1)) hx hb hr (fun t ht hW => ⟨⟨_, (), rfl, Or.inl ⟨Or.inl c_16, rfl⟩, ht⟩, hS.F ht⟩) hS.2.2 dX3_against_25
  · refine lv_iload hx hb dX3_against_19 (lv_at hl 0 rfl) ?_
    refine lv_if_ne (tgt := 26) hx hb dX3_against_21 (by decide) (fun c_21 => ?_) (fun c_21 => ?_)
    · have hn0 : ¬ (mK on kd j1 = 0 ∨ mK on kd j2 = 0) := fun z9 => z9.elim c_16 c_21
      obtain ⟨pa, hpa, epa⟩ := mK_n hO h1 (kd := kd) c_16
      obtain ⟨pb, hpb, epb⟩ := mK_n hO h2 (kd := kd) c_21
      obtain ⟨za, hza, eza⟩ := hZ pa hpa
      obtain ⟨zb, hzb, ezb⟩ := hZ pb hpb
      have tail : ∀ (locs : List Loc) (ls : Array Slot), lv_has ls 10 [(0, .ref m0), (1, .int (nI j1)), (2, .int p0), (3, .int (nI j2)), (4, .int q0), (5, .int n0)] → va_S nA s.heap s.heap locs → ¬ Ag2 (mK on kd j1) (mK on kd j2) → W p l e (headSpec wsX3_against ({ frames := 1, cells := 0, slots := 0, locals := 40 })).room s m ([.ref m0, .int (nI j1), .int p0, .int (nI j2), .int q0, .int n0] : List Value).toArray below meth c s.heap locs 0 0 (MQ below (va_Qi (fun (r : Int32) (_ : Unit) => AgRel on kd sz j1 j2 p0 q0 n0 r) (fun _ t => t.heap = s.heap) nA) ([.ref m0, .int (nI j1), .int p0, .int (nI j2), .int q0, .int n0] : List Value).toArray s 0 0 nA) (F0 m 72 ls []) := by
        intro locs ls hl hS hn2
        refine lv_iload_n hx hb dX3_against_72 rfl (lv_at hl 2 rfl) ?_
        refine lv_if_lt (tgt := 123) hx hb dX3_against_73 (by decide) (fun c_73 => ?_) (fun c_73 => ?_)
        · refine lv_iconst (v := 0) hx hb dX3_against_123 (by decide) ?_
          refine lv_istore (lv' := [(9, .int 0), (0, .ref m0), (1, .int (nI j1)), (2, .int p0), (3, .int (nI j2)), (4, .int q0), (5, .int n0)]) hx hb dX3_against_124 hl (by decide) rfl (fun ls hl => ?_)
          refine lv_iload hx hb dX3_against_126 (lv_at hl 0 rfl) ?_
          refine lv_if_eq (tgt := 135) hx hb dX3_against_128 (by decide) (fun _ => ?_) (fun c9 => absurd (by decide) c9)
          refine lv_bipush (v := (-3)) hx hb dX3_against_135 (by decide) ?_
          exact W.iret (v := (-3)) hx hb hr (fun t ht hW => ⟨⟨_, (), rfl, Or.inr (Or.inr ⟨hn0, hn2, pa, pb, za, zb, ⟨hpa, hpb⟩, ⟨hza, hzb⟩, ⟨epa, epb⟩, ⟨eza, ezb⟩, Or.inl ⟨fun z9 => absurd (i_lt c_73) (Int.not_lt.mpr z9.1.1.1), rfl⟩⟩), ht⟩, hS.F ht⟩) hS.2.2 dX3_against_137
        · refine lv_iload hx hb dX3_against_76 (lv_at hl 4 rfl) ?_
          refine lv_if_lt (tgt := 123) hx hb dX3_against_78 (by decide) (fun c_78 => ?_) (fun c_78 => ?_)
          · refine lv_iconst (v := 0) hx hb dX3_against_123 (by decide) ?_
            refine lv_istore (lv' := [(9, .int 0), (0, .ref m0), (1, .int (nI j1)), (2, .int p0), (3, .int (nI j2)), (4, .int q0), (5, .int n0)]) hx hb dX3_against_124 hl (by decide) rfl (fun ls hl => ?_)
            refine lv_iload hx hb dX3_against_126 (lv_at hl 0 rfl) ?_
            refine lv_if_eq (tgt := 135) hx hb dX3_against_128 (by decide) (fun _ => ?_) (fun c9 => absurd (by decide) c9)
            refine lv_bipush (v := (-3)) hx hb dX3_against_135 (by decide) ?_
            exact W.iret (v := (-3)) hx hb hr (fun t ht hW => ⟨⟨_, (), rfl, Or.inr (Or.inr ⟨hn0, hn2, pa, pb, za, zb, ⟨hpa, hpb⟩, ⟨hza, hzb⟩, ⟨epa, epb⟩, ⟨eza, ezb⟩, Or.inl ⟨fun z9 => absurd (i_lt c_78) (Int.not_lt.mpr z9.2.1.1), rfl⟩⟩), ht⟩, hS.F ht⟩) hS.2.2 dX3_against_137
          · refine lv_iload hx hb dX3_against_81 (lv_at hl 5 rfl) ?_
            refine lv_if_lt (tgt := 123) hx hb dX3_against_83 (by decide) (fun c_83 => ?_) (fun c_83 => ?_)
            · refine lv_iconst (v := 0) hx hb dX3_against_123 (by decide) ?_
              refine lv_istore (lv' := [(9, .int 0), (0, .ref m0), (1, .int (nI j1)), (2, .int p0), (3, .int (nI j2)), (4, .int q0), (5, .int n0)]) hx hb dX3_against_124 hl (by decide) rfl (fun ls hl => ?_)
              refine lv_iload hx hb dX3_against_126 (lv_at hl 0 rfl) ?_
              refine lv_if_eq (tgt := 135) hx hb dX3_against_128 (by decide) (fun _ => ?_) (fun c9 => absurd (by decide) c9)
              refine lv_bipush (v := (-3)) hx hb dX3_against_135 (by decide) ?_
              exact W.iret (v := (-3)) hx hb hr (fun t ht hW => ⟨⟨_, (), rfl, Or.inr (Or.inr ⟨hn0, hn2, pa, pb, za, zb, ⟨hpa, hpb⟩, ⟨hza, hzb⟩, ⟨epa, epb⟩, ⟨eza, ezb⟩, Or.inl ⟨fun z9 => absurd (i_lt c_83) (Int.not_lt.mpr z9.1.1.2), rfl⟩⟩), ht⟩, hS.F ht⟩) hS.2.2 dX3_against_137
            · refine lv_iload_n hx hb dX3_against_86 rfl (lv_at hl 2 rfl) ?_
              refine lv_i2l hx hb dX3_against_87 rfl ?_
              refine lv_iload hx hb dX3_against_88 (lv_at hl 5 rfl) ?_
              refine lv_i2l hx hb dX3_against_90 rfl ?_
              refine lv_ladd hx hb dX3_against_91 ?_
              refine lv_aload_n hx hb dX3_against_92 rfl (lv_at hl 0 rfl) ?_
              refine lv_iload_n hx hb dX3_against_93 rfl (lv_at hl 1 rfl) ?_
              refine ro_i (va_runV (As := [.int (nI j1)]) (rest := [.long (p0.toInt64 + n0.toInt64)]) ⟨hx, hb, hml, hown, hts⟩ (c_X3_sizeAt l (j := j1) (hP.sub [0, 1, 2, 3, 4, 5, 6] rfl) h1 hpa epa) (cwV 1 hts gX3_against_X3_sizeAt rfl rfl rfl (by decide +kernel) ⟨Nat.le_of_ble_eq_true rfl, Nat.le_of_ble_eq_true rfl⟩) (Pq.V hC hS hN (va_recv hK hP (ci := 3) (q0 := 0) rfl rfl)) rfl rfl hl.1 rfl (lv_room (Nat.le_of_ble_eq_true rfl)) dX3_against_94 ⟨Nat.le_of_ble_eq_true rfl, Nat.le_of_ble_eq_true rfl⟩) hS (fun r_3 locs hw hS => ?_)
              have hw : r_3 = sz pa := hw
              subst hw
              refine lv_i2l hx hb dX3_against_97 rfl ?_
              refine lv_topl (fun y_4 e9 => ?_)
              have e9 : y_4 = (nI za).toInt64 := e9.trans (by rw [eza])
              subst e9
              refine W.lcmp hx hb dX3_against_98 ?_
              refine lv_if_gt (tgt := 123) hx hb dX3_against_99 (by decide) (fun c_99 => ?_) (fun c_99 => ?_)
              · have c_99 := (lg_cmp_gt (p0.toInt64 + n0.toInt64) ((nI za).toInt64)).mp c_99
                refine lv_iconst (v := 0) hx hb dX3_against_123 (by decide) ?_
                refine lv_istore (lv' := [(9, .int 0), (0, .ref m0), (1, .int (nI j1)), (2, .int p0), (3, .int (nI j2)), (4, .int q0), (5, .int n0)]) hx hb dX3_against_124 hl (by decide) rfl (fun ls hl => ?_)
                refine lv_iload hx hb dX3_against_126 (lv_at hl 0 rfl) ?_
                refine lv_if_eq (tgt := 135) hx hb dX3_against_128 (by decide) (fun _ => ?_) (fun c9 => absurd (by decide) c9)
                refine lv_bipush (v := (-3)) hx hb dX3_against_135 (by decide) ?_
                exact W.iret (v := (-3)) hx hb hr (fun t ht hW => ⟨⟨_, (), rfl, Or.inr (Or.inr ⟨hn0, hn2, pa, pb, za, zb, ⟨hpa, hpb⟩, ⟨hza, hzb⟩, ⟨epa, epb⟩, ⟨eza, ezb⟩, Or.inl ⟨fun z9 => by have := (lt_LL hza).mp c_99; have := z9.1.2; omega, rfl⟩⟩), ht⟩, hS.F ht⟩) hS.2.2 dX3_against_137
              · have c_99 := fun h9 => c_99 ((lg_cmp_gt (p0.toInt64 + n0.toInt64) ((nI za).toInt64)).mpr h9)
                refine lv_iload hx hb dX3_against_102 (lv_at hl 4 rfl) ?_
                refine lv_i2l hx hb dX3_against_104 rfl ?_
                refine lv_iload hx hb dX3_against_105 (lv_at hl 5 rfl) ?_
                refine lv_i2l hx hb dX3_against_107 rfl ?_
                refine lv_ladd hx hb dX3_against_108 ?_
                refine lv_aload_n hx hb dX3_against_109 rfl (lv_at hl 0 rfl) ?_
                refine lv_iload_n hx hb dX3_against_110 rfl (lv_at hl 3 rfl) ?_
                refine ro_i (va_runV (As := [.int (nI j2)]) (rest := [.long (q0.toInt64 + n0.toInt64)]) ⟨hx, hb, hml, hown, hts⟩ (c_X3_sizeAt l (j := j2) (hP.sub [0, 1, 2, 3, 4, 5, 6] rfl) h2 hpb epb) (cwV 1 hts gX3_against_X3_sizeAt rfl rfl rfl (by decide +kernel) ⟨Nat.le_of_ble_eq_true rfl, Nat.le_of_ble_eq_true rfl⟩) (Pq.V hC hS hN (va_recv hK hP (ci := 3) (q0 := 0) rfl rfl)) rfl rfl hl.1 rfl (lv_room (Nat.le_of_ble_eq_true rfl)) dX3_against_111 ⟨Nat.le_of_ble_eq_true rfl, Nat.le_of_ble_eq_true rfl⟩) hS (fun r_5 locs hw hS => ?_)
                have hw : r_5 = sz pb := hw
                subst hw
                refine lv_i2l hx hb dX3_against_114 rfl ?_
                refine lv_topl (fun y_6 e9 => ?_)
                have e9 : y_6 = (nI zb).toInt64 := e9.trans (by rw [ezb])
                subst e9
                refine W.lcmp hx hb dX3_against_115 ?_
                refine lv_if_gt (tgt := 123) hx hb dX3_against_116 (by decide) (fun c_116 => ?_) (fun c_116 => ?_)
                · have c_116 := (lg_cmp_gt (q0.toInt64 + n0.toInt64) ((nI zb).toInt64)).mp c_116
                  refine lv_iconst (v := 0) hx hb dX3_against_123 (by decide) ?_
                  refine lv_istore (lv' := [(9, .int 0), (0, .ref m0), (1, .int (nI j1)), (2, .int p0), (3, .int (nI j2)), (4, .int q0), (5, .int n0)]) hx hb dX3_against_124 hl (by decide) rfl (fun ls hl => ?_)
                  refine lv_iload hx hb dX3_against_126 (lv_at hl 0 rfl) ?_
                  refine lv_if_eq (tgt := 135) hx hb dX3_against_128 (by decide) (fun _ => ?_) (fun c9 => absurd (by decide) c9)
                  refine lv_bipush (v := (-3)) hx hb dX3_against_135 (by decide) ?_
                  exact W.iret (v := (-3)) hx hb hr (fun t ht hW => ⟨⟨_, (), rfl, Or.inr (Or.inr ⟨hn0, hn2, pa, pb, za, zb, ⟨hpa, hpb⟩, ⟨hza, hzb⟩, ⟨epa, epb⟩, ⟨eza, ezb⟩, Or.inl ⟨fun z9 => by have := (lt_LL hzb).mp c_116; have := z9.2.2; omega, rfl⟩⟩), ht⟩, hS.F ht⟩) hS.2.2 dX3_against_137
                · have c_116 := fun h9 => c_116 ((lg_cmp_gt (q0.toInt64 + n0.toInt64) ((nI zb).toInt64)).mpr h9)
                  refine lv_iconst (v := 1) hx hb dX3_against_119 (by decide) ?_
                  refine lv_goto (tgt := 124) hx hb dX3_against_120 (by decide) ?_
                  refine lv_istore (lv' := [(9, .int 1), (0, .ref m0), (1, .int (nI j1)), (2, .int p0), (3, .int (nI j2)), (4, .int q0), (5, .int n0)]) hx hb dX3_against_124 hl (by decide) rfl (fun ls hl => ?_)
                  refine lv_iload hx hb dX3_against_126 (lv_at hl 0 rfl) ?_
                  refine lv_if_eq (tgt := 135) hx hb dX3_against_128 (by decide) (fun c9 => absurd c9 (by decide)) (fun _ => ?_)
                  refine lv_iconst (v := 0) hx hb dX3_against_131 (by decide) ?_
                  refine lv_goto (tgt := 137) hx hb dX3_against_132 (by decide) ?_
                  exact W.iret (v := 0) hx hb hr (fun t ht hW => ⟨⟨_, (), rfl, Or.inr (Or.inr ⟨hn0, hn2, pa, pb, za, zb, ⟨hpa, hpb⟩, ⟨hza, hzb⟩, ⟨epa, epb⟩, ⟨eza, ezb⟩, Or.inr ⟨⟨⟨⟨i_nlt c_73, i_nlt c_83⟩, Int.not_lt.mp (fun z9 => c_99 ((lt_LL hza).mpr z9))⟩, ⟨⟨i_nlt c_78, i_nlt c_83⟩, Int.not_lt.mp (fun z9 => c_116 ((lt_LL hzb).mpr z9))⟩⟩, rfl⟩⟩), ht⟩, hS.F ht⟩) hS.2.2 dX3_against_137
      refine lv_iload hx hb dX3_against_26 (lv_at hl 1 rfl) ?_
      refine lv_iconst (v := 3) hx hb dX3_against_28 (by decide) ?_
      refine lv_icmp_lt (tgt := 42) hx hb dX3_against_29 (by decide) (fun c_29 => ?_) (fun c_29 => ?_)
      · refine lv_iconst (v := 0) hx hb dX3_against_42 (by decide) ?_
        refine lv_istore (lv' := [(8, .int 0), (7, .int (mK on kd j2)), (6, .int (mK on kd j1)), (0, .ref m0), (1, .int (nI j1)), (2, .int p0), (3, .int (nI j2)), (4, .int q0), (5, .int n0)]) hx hb dX3_against_43 hl (by decide) rfl (fun ls hl => ?_)
        refine lv_iload hx hb dX3_against_45 (lv_at hl 2 rfl) ?_
        refine lv_iconst (v := 5) hx hb dX3_against_47 (by decide) ?_
        refine lv_icmp_eq (tgt := 69) hx hb dX3_against_48 (by decide) (fun c_48 => ?_) (fun c_48 => ?_)
        · refine lv_bipush (v := (-2)) hx hb dX3_against_69 (by decide) ?_
          exact W.iret (v := (-2)) hx hb hr (fun t ht hW => ⟨⟨_, (), rfl, Or.inr (Or.inl ⟨hn0, Or.inl (Or.inl c_48), rfl⟩), ht⟩, hS.F ht⟩) hS.2.2 dX3_against_71
        · refine lv_iload hx hb dX3_against_51 (lv_at hl 1 rfl) ?_
          refine lv_iconst (v := 5) hx hb dX3_against_53 (by decide) ?_
          refine lv_icmp_eq (tgt := 69) hx hb dX3_against_54 (by decide) (fun c_54 => ?_) (fun c_54 => ?_)
          · refine lv_bipush (v := (-2)) hx hb dX3_against_69 (by decide) ?_
            exact W.iret (v := (-2)) hx hb hr (fun t ht hW => ⟨⟨_, (), rfl, Or.inr (Or.inl ⟨hn0, Or.inl (Or.inr c_54), rfl⟩), ht⟩, hS.F ht⟩) hS.2.2 dX3_against_71
          · refine lv_iload hx hb dX3_against_57 (lv_at hl 0 rfl) ?_
            refine lv_if_ne (tgt := 72) hx hb dX3_against_59 (by decide) (fun c9 => absurd (by decide) c9) (fun _ => ?_)
            refine lv_iload hx hb dX3_against_62 (lv_at hl 2 rfl) ?_
            refine lv_iload hx hb dX3_against_64 (lv_at hl 1 rfl) ?_
            refine lv_icmp_eq (tgt := 72) hx hb dX3_against_66 (by decide) (fun c_66 => ?_) (fun c_66 => ?_)
            · exact tail _ _ (lv_sub hl [3, 4, 5, 6, 7, 8] rfl) hS (fun z9 => z9.elim (fun z9 => z9.elim c_48 c_54) (fun z9 => z9.2 c_66))
            · refine lv_bipush (v := (-2)) hx hb dX3_against_69 (by decide) ?_
              exact W.iret (v := (-2)) hx hb hr (fun t ht hW => ⟨⟨_, (), rfl, Or.inr (Or.inl ⟨hn0, Or.inr ⟨fun z9 => Int32.not_lt.mpr z9.1 c_29, c_66⟩, rfl⟩), ht⟩, hS.F ht⟩) hS.2.2 dX3_against_71
      · refine lv_iload hx hb dX3_against_32 (lv_at hl 0 rfl) ?_
        refine lv_iconst (v := 3) hx hb dX3_against_34 (by decide) ?_
        refine lv_icmp_lt (tgt := 42) hx hb dX3_against_35 (by decide) (fun c_35 => ?_) (fun c_35 => ?_)
        · refine lv_iconst (v := 0) hx hb dX3_against_42 (by decide) ?_
          refine lv_istore (lv' := [(8, .int 0), (7, .int (mK on kd j2)), (6, .int (mK on kd j1)), (0, .ref m0), (1, .int (nI j1)), (2, .int p0), (3, .int (nI j2)), (4, .int q0), (5, .int n0)]) hx hb dX3_against_43 hl (by decide) rfl (fun ls hl => ?_)
          refine lv_iload hx hb dX3_against_45 (lv_at hl 2 rfl) ?_
          refine lv_iconst (v := 5) hx hb dX3_against_47 (by decide) ?_
          refine lv_icmp_eq (tgt := 69) hx hb dX3_against_48 (by decide) (fun c_48 => ?_) (fun c_48 => ?_)
          · refine lv_bipush (v := (-2)) hx hb dX3_against_69 (by decide) ?_
            exact W.iret (v := (-2)) hx hb hr (fun t ht hW => ⟨⟨_, (), rfl, Or.inr (Or.inl ⟨hn0, Or.inl (Or.inl c_48), rfl⟩), ht⟩, hS.F ht⟩) hS.2.2 dX3_against_71
          · refine lv_iload hx hb dX3_against_51 (lv_at hl 1 rfl) ?_
            refine lv_iconst (v := 5) hx hb dX3_against_53 (by decide) ?_
            refine lv_icmp_eq (tgt := 69) hx hb dX3_against_54 (by decide) (fun c_54 => ?_) (fun c_54 => ?_)
            · refine lv_bipush (v := (-2)) hx hb dX3_against_69 (by decide) ?_
              exact W.iret (v := (-2)) hx hb hr (fun t ht hW => ⟨⟨_, (), rfl, Or.inr (Or.inl ⟨hn0, Or.inl (Or.inr c_54), rfl⟩), ht⟩, hS.F ht⟩) hS.2.2 dX3_against_71
            · refine lv_iload hx hb dX3_against_57 (lv_at hl 0 rfl) ?_
              refine lv_if_ne (tgt := 72) hx hb dX3_against_59 (by decide) (fun c9 => absurd (by decide) c9) (fun _ => ?_)
              refine lv_iload hx hb dX3_against_62 (lv_at hl 2 rfl) ?_
              refine lv_iload hx hb dX3_against_64 (lv_at hl 1 rfl) ?_
              refine lv_icmp_eq (tgt := 72) hx hb dX3_against_66 (by decide) (fun c_66 => ?_) (fun c_66 => ?_)
              · exact tail _ _ (lv_sub hl [3, 4, 5, 6, 7, 8] rfl) hS (fun z9 => z9.elim (fun z9 => z9.elim c_48 c_54) (fun z9 => z9.2 c_66))
              · refine lv_bipush (v := (-2)) hx hb dX3_against_69 (by decide) ?_
                exact W.iret (v := (-2)) hx hb hr (fun t ht hW => ⟨⟨_, (), rfl, Or.inr (Or.inl ⟨hn0, Or.inr ⟨fun z9 => Int32.not_lt.mpr z9.2 c_35, c_66⟩, rfl⟩), ht⟩, hS.F ht⟩) hS.2.2 dX3_against_71
        · refine lv_iconst (v := 1) hx hb dX3_against_38 (by decide) ?_
          refine lv_goto (tgt := 43) hx hb dX3_against_39 (by decide) ?_
          refine lv_istore (lv' := [(8, .int 1), (7, .int (mK on kd j2)), (6, .int (mK on kd j1)), (0, .ref m0), (1, .int (nI j1)), (2, .int p0), (3, .int (nI j2)), (4, .int q0), (5, .int n0)]) hx hb dX3_against_43 hl (by decide) rfl (fun ls hl => ?_)
          refine lv_iload hx hb dX3_against_45 (lv_at hl 2 rfl) ?_
          refine lv_iconst (v := 5) hx hb dX3_against_47 (by decide) ?_
          refine lv_icmp_eq (tgt := 69) hx hb dX3_against_48 (by decide) (fun c_48 => ?_) (fun c_48 => ?_)
          · refine lv_bipush (v := (-2)) hx hb dX3_against_69 (by decide) ?_
            exact W.iret (v := (-2)) hx hb hr (fun t ht hW => ⟨⟨_, (), rfl, Or.inr (Or.inl ⟨hn0, Or.inl (Or.inl c_48), rfl⟩), ht⟩, hS.F ht⟩) hS.2.2 dX3_against_71
          · refine lv_iload hx hb dX3_against_51 (lv_at hl 1 rfl) ?_
            refine lv_iconst (v := 5) hx hb dX3_against_53 (by decide) ?_
            refine lv_icmp_eq (tgt := 69) hx hb dX3_against_54 (by decide) (fun c_54 => ?_) (fun c_54 => ?_)
            · refine lv_bipush (v := (-2)) hx hb dX3_against_69 (by decide) ?_
              exact W.iret (v := (-2)) hx hb hr (fun t ht hW => ⟨⟨_, (), rfl, Or.inr (Or.inl ⟨hn0, Or.inl (Or.inr c_54), rfl⟩), ht⟩, hS.F ht⟩) hS.2.2 dX3_against_71
            · refine lv_iload hx hb dX3_against_57 (lv_at hl 0 rfl) ?_
              refine lv_if_ne (tgt := 72) hx hb dX3_against_59 (by decide) (fun _ => ?_) (fun c9 => absurd c9 (by decide))
              exact tail _ _ (lv_sub hl [3, 4, 5, 6, 7, 8] rfl) hS (fun z9 => z9.elim (fun z9 => z9.elim c_48 c_54) (fun z9 => z9.1 ⟨Int32.not_lt.mp c_29, Int32.not_lt.mp c_35⟩))
    · refine lv_iconst (v := (-1)) hx hb dX3_against_24 (by decide) ?_
      exact W.iret (v := (-1)) hx hb hr (fun t ht hW => ⟨⟨_, (), rfl, Or.inl ⟨Or.inr c_21, rfl⟩, ht⟩, hS.F ht⟩) hS.2.2 dX3_against_25
/-- a frame that may come, as the model has it -/
abbrev mTake (k : Int32) (v : Int64) : Prop := ¬ (k = 4 ∧ (0 ≤ v.toInt32 ∧ v.toInt32 ≤ 999))
def MStp (kb : Int32) (f : Nat → Int64) (n k : Nat) : Prop := k ≤ n ∧ (∀ t, t < k → mTake kb (f t)) ∧ (k < n → ¬ mTake kb (f k))
theorem cpy_s {f : Nat → Int64} {a b k : Nat} : vp_updL (va_cpy f f a b k) (b + k) (f (a + k)) = va_cpy f f a b (k + 1) := by
  funext t
  by_cases e : t = b + k
  · rw [e, pk_uLs, pk_cpy_in (by omega) (by omega)]; congr 1; omega
  · rw [pk_uLn e]
    by_cases h : b ≤ t ∧ t < b + k
    · rw [pk_cpy_in h.1 h.2, pk_cpy_in h.1 (by omega)]
    · rw [pk_cpy_out (by omega), pk_cpy_out (by omega)]
theorem idx40a {p i k : Nat} : (40 : Int32) * nI p + nI i + nI k = nI (40 * p + i + k) := by rw [idx40, nI_add]
/-- a cut of the model's: what it answers, what it leaves -/
def MCut (on kd sz : Nat → Int32) (fr li : Nat → Int64) (st mi : Nat → Int32) (j1 j2 : Nat) (p q n r : Int32) (u : MS) : Prop :=
  (AgRel on kd sz j1 j2 p q n r ∧ r < 0 ∧ u = (on, kd, sz, fr, li, st, mi9 (mi 0) (mi 1) (mi 2 + 0) (mi 3 + 1) (mi 4 + 1) 0 r (mi 7) (mi 8))) ∨
  (∃ (p1 p2 z1 z2 i1 i2 n1 k1 : Nat) (l1 : Nat → Int64), ¬ (mK on kd j1 = 0 ∨ mK on kd j2 = 0) ∧ ¬ Ag2 (mK on kd j1) (mK on kd j2) ∧ (p1 < 7 ∧ p2 < 7) ∧ (z1 ≤ 40 ∧ z2 ≤ 40) ∧ (on j1 = nI p1 ∧ on j2 = nI p2) ∧ (sz p1 = nI z1 ∧ sz p2 = nI z2) ∧ (p = nI i1 ∧ q = nI i2 ∧ n = nI n1) ∧ (i1 + n1 ≤ z1 ∧ i2 + n1 ≤ z2) ∧ MStp (mK on kd j2) (fun t => fr (40 * p1 + i1 + t)) n1 k1 ∧
    ((k1 < n1 ∧ r = -4 ∧ u = (on, kd, sz, va_cpy fr fr (40 * p1 + i1) (40 * p2 + i2) k1, l1, st, mi9 (mi 0) (mi 1) (mi 2 + nI k1) (mi 3 + 1) (mi 4 + 1) (nI k1) (-4) (mi 7) (mi 8))) ∨ (k1 = n1 ∧ r = n ∧ u = (on, kd, sz, va_cpy fr fr (40 * p1 + i1) (40 * p2 + i2) k1, l1, st, mi9 (mi 0) (mi 1 + 1) (mi 2 + nI k1) (mi 3) 0 (nI k1) n (mi 7) (mi 8)))))
theorem AgRel_s {on kd sz : Nat → Int32} {j1 j2 : Nat} {p q n r : Int32} (h : AgRel on kd sz j1 j2 p q n r) : r < 0 ∨ r = 0 := by
  rcases h with ⟨-, rfl⟩ | ⟨-, -, rfl⟩ | ⟨-, -, -, -, -, -, -, -, -, -, ⟨-, rfl⟩ | ⟨-, rfl⟩⟩
  · exact Or.inl (by decide)
  · exact Or.inl (by decide)
  · exact Or.inl (by decide)
  · exact Or.inr rfl
theorem iw_X3_cut_X3 : ∀ w ∈ wsX30, w ∈ wsX3_cut := by decide +kernel
theorem lk_X3_cut_Cond_fieldLink_RX3_19_SpliceRoomModel_frames_J_ : Cond.fieldLink RX3 19 "SpliceRoomModel" "frames" "[J" ∈ wsX3_cut := by decide +kernel
theorem lk_X3_cut_Cond_fieldLink_RX3_23_SpliceRoomModel_lifted_J_ : Cond.fieldLink RX3 23 "SpliceRoomModel" "lifted" "[J" ∈ wsX3_cut := by decide +kernel
theorem lk_X3_cut_Cond_fieldLink_RX3_70_SpliceRoomModel_far_I_ : Cond.fieldLink RX3 70 "SpliceRoomModel" "far" "I" ∈ wsX3_cut := by decide +kernel
theorem lk_X3_cut_Cond_fieldLink_RX3_73_SpliceRoomModel_laid_I_ : Cond.fieldLink RX3 73 "SpliceRoomModel" "laid" "I" ∈ wsX3_cut := by decide +kernel
theorem lk_X3_cut_Cond_fieldLink_RX3_76_SpliceRoomModel_jams_I_ : Cond.fieldLink RX3 76 "SpliceRoomModel" "jams" "I" ∈ wsX3_cut := by decide +kernel
theorem lk_X3_cut_Cond_fieldLink_RX3_79_SpliceRoomModel_inRow_I_ : Cond.fieldLink RX3 79 "SpliceRoomModel" "inRow" "I" ∈ wsX3_cut := by decide +kernel
theorem lk_X3_cut_Cond_fieldLink_RX3_7_SpliceRoomModel_on_I_ : Cond.fieldLink RX3 7 "SpliceRoomModel" "on" "[I" ∈ wsX3_cut := by decide +kernel
theorem lk_X3_cut_Cond_fieldLink_RX3_82_SpliceRoomModel_well_I_ : Cond.fieldLink RX3 82 "SpliceRoomModel" "well" "I" ∈ wsX3_cut := by decide +kernel
theorem lk_X3_cut_Cond_fieldLink_RX3_85_SpliceRoomModel_told_I_ : Cond.fieldLink RX3 85 "SpliceRoomModel" "told" "I" ∈ wsX3_cut := by decide +kernel
set_option maxHeartbeats 4000000 in
set_option maxRecDepth 100000 in
theorem c_X3_cut (l : Launch) {D : va_G} {cI cL cQ : ClassId} {N0 : Nat} {sa : Nat → Nat} {Hc : Heap} {m0 a0 a1 a2 a3 a4 a5 : Nat} {on kd sz : Nat → Int32} {fr li : Nat → Int64} {st : Nat → Int32} {mi : Nat → Int32} {j1 j2 : Nat} {p0 q0 n0 : Int32} (hP : va_P D vwCl [(m0, .inr (3, [.ref a0, .ref a1, .ref a2, .ref a3, .ref a4, .ref a5, .int (mi 0), .int (mi 1), .int (mi 2), .int (mi 3), .int (mi 4), .int (mi 5), .int (mi 6), .int (mi 7), .int (mi 8)])), (a0, .inl (cI, 6, .inl on)), (a1, .inl (cI, 7, .inl kd)), (a2, .inl (cI, 7, .inl sz)), (a3, .inl (cL, 280, .inr (.inl fr))), (a4, .inl (cL, 40, .inr (.inl li))), (a5, .inl (cI, 120, .inl st))] Hc) (hD0 : va_D nT [(m0, .inr (3, [.ref a0, .ref a1, .ref a2, .ref a3, .ref a4, .ref a5, .int (mi 0), .int (mi 1), .int (mi 2), .int (mi 3), .int (mi 4), .int (mi 5), .int (mi 6), .int (mi 7), .int (mi 8)])), (a0, .inl (cI, 6, .inl on)), (a1, .inl (cI, 7, .inl kd)), (a2, .inl (cI, 7, .inl sz)), (a3, .inl (cL, 280, .inr (.inl fr))), (a4, .inl (cL, 40, .inr (.inl li))), (a5, .inl (cI, 120, .inl st))]) (hN : ∀ q, va_A [(m0, .inr (3, [.ref a0, .ref a1, .ref a2, .ref a3, .ref a4, .ref a5, .int (mi 0), .int (mi 1), .int (mi 2), .int (mi 3), .int (mi 4), .int (mi 5), .int (mi 6), .int (mi 7), .int (mi 8)])), (a0, .inl (cI, 6, .inl on)), (a1, .inl (cI, 7, .inl kd)), (a2, .inl (cI, 7, .inl sz)), (a3, .inl (cL, 280, .inr (.inl fr))), (a4, .inl (cL, 40, .inr (.inl li))), (a5, .inl (cI, 120, .inl st))] Hc.size q → N0 ≤ q) (hO : OnOk on) (hZ : SzOk sz) (h1 : j1 < 6) (h2 : j2 < 6) : Met l yX3_cut wsX3_cut ({ frames := 2, cells := 0, slots := 0, locals := 80 }) (Pq D cI cL cQ N0 sa [.ref m0, .int (nI j1), .int p0, .int (nI j2), .int q0, .int n0] Hc) (va_Qi (fun (r : Int32) (u : MS) => MCut on kd sz fr li st mi j1 j2 p0 q0 n0 r u) (fun (u : MS) (t : State) => va_P D vwCl [(m0, .inr (3, [.ref a0, .ref a1, .ref a2, .ref a3, .ref a4, .ref a5, .int (u.2.2.2.2.2.2 0), .int (u.2.2.2.2.2.2 1), .int (u.2.2.2.2.2.2 2), .int (u.2.2.2.2.2.2 3), .int (u.2.2.2.2.2.2 4), .int (u.2.2.2.2.2.2 5), .int (u.2.2.2.2.2.2 6), .int (u.2.2.2.2.2.2 7), .int (u.2.2.2.2.2.2 8)])), (a0, .inl (cI, 6, .inl u.1)), (a1, .inl (cI, 7, .inl u.2.1)), (a2, .inl (cI, 7, .inl u.2.2.1)), (a3, .inl (cL, 280, .inr (.inl u.2.2.2.1))), (a4, .inl (cL, 40, .inr (.inl u.2.2.2.2.1))), (a5, .inl (cI, 120, .inl u.2.2.2.2.2.1))] t.heap ∧ va_D (va_A [(m0, .inr (3, [.ref a0, .ref a1, .ref a2, .ref a3, .ref a4, .ref a5, .int (mi 0), .int (mi 1), .int (mi 2), .int (mi 3), .int (mi 4), .int (mi 5), .int (mi 6), .int (mi 7), .int (mi 8)])), (a0, .inl (cI, 6, .inl on)), (a1, .inl (cI, 7, .inl kd)), (a2, .inl (cI, 7, .inl sz)), (a3, .inl (cL, 280, .inr (.inl fr))), (a4, .inl (cL, 40, .inr (.inl li))), (a5, .inl (cI, 120, .inl st))] Hc.size) [(m0, .inr (3, [.ref a0, .ref a1, .ref a2, .ref a3, .ref a4, .ref a5, .int (u.2.2.2.2.2.2 0), .int (u.2.2.2.2.2.2 1), .int (u.2.2.2.2.2.2 2), .int (u.2.2.2.2.2.2 3), .int (u.2.2.2.2.2.2 4), .int (u.2.2.2.2.2.2 5), .int (u.2.2.2.2.2.2 6), .int (u.2.2.2.2.2.2 7), .int (u.2.2.2.2.2.2 8)])), (a0, .inl (cI, 6, .inl u.1)), (a1, .inl (cI, 7, .inl u.2.1)), (a2, .inl (cI, 7, .inl u.2.2.1)), (a3, .inl (cL, 280, .inr (.inl u.2.2.2.1))), (a4, .inl (cL, 40, .inr (.inl u.2.2.2.2.1))), (a5, .inl (cI, 120, .inl u.2.2.2.2.2.1))]) (va_A [(m0, .inr (3, [.ref a0, .ref a1, .ref a2, .ref a3, .ref a4, .ref a5, .int (mi 0), .int (mi 1), .int (mi 2), .int (mi 3), .int (mi 4), .int (mi 5), .int (mi 6), .int (mi 7), .int (mi 8)])), (a0, .inl (cI, 6, .inl on)), (a1, .inl (cI, 7, .inl kd)), (a2, .inl (cI, 7, .inl sz)), (a3, .inl (cL, 280, .inr (.inl fr))), (a4, .inl (cL, 40, .inr (.inl li))), (a5, .inl (cI, 120, .inl st))] Hc.size)) 0 0 (va_A [(m0, .inr (3, [.ref a0, .ref a1, .ref a2, .ref a3, .ref a4, .ref a5, .int (mi 0), .int (mi 1), .int (mi 2), .int (mi 3), .int (mi 4), .int (mi 5), .int (mi 6), .int (mi 7), .int (mi 8)])), (a0, .inl (cI, 6, .inl on)), (a1, .inl (cI, 7, .inl kd)), (a2, .inl (cI, 7, .inl sz)), (a3, .inl (cL, 280, .inr (.inl fr))), (a4, .inl (cL, 40, .inr (.inl li))), (a5, .inl (cI, 120, .inl st))] Hc.size) := by
  refine Met.ofW (cc := cX3_cut) (maxL := 8) (ret := (some .int)) (by decide) rfl ?_
  intro p e s m args below meth c s₁ B hml hv
  obtain ⟨rfl, hH, hC⟩ := hv
  have hx := B.exec
  have hb := B.bytes
  have hr := B.returns
  have hts := atoms_spec (ws := wsX3_cut) B.pre
  have hown : s.vm.findClass RX3 = some m.cls := findClass_of_methodNamed B.named
  have hlocks := B.notSynchronized
  subst hH
  have hK := hC.K
  have hl := lv_entry ([.ref m0, .int (nI j1), .int p0, .int (nI j2), .int q0, .int n0]) (n := 8) (Nat.le_of_ble_eq_true rfl)
  rw [lg_entry_eq]
  generalize (lg_sl ([.ref m0, .int (nI j1), .int p0, .int (nI j2), .int q0, .int n0]) ++ List.replicate (8 - (lg_sl ([.ref m0, .int (nI j1), .int p0, .int (nI j2), .int q0, .int n0])).length) Slot.unset).toArray = ls at hl ⊢
  have hl : lv_has ls 8 [(0, .ref m0), (1, .int (nI j1)), (2, .int p0), (3, .int (nI j2)), (4, .int q0), (5, .int n0)] := hl
  have hP : va_P D vwCl [(m0, .inr (3, [.ref a0, .ref a1, .ref a2, .ref a3, .ref a4, .ref a5, .int (mi 0), .int (mi 1), .int (mi 2), .int (mi 3), .int (mi 4), .int (mi 5), .int (mi 6), .int (mi 7), .int (mi 8)])), (a0, .inl (cI, 6, .inl on)), (a1, .inl (cI, 7, .inl kd)), (a2, .inl (cI, 7, .inl sz)), (a3, .inl (cL, 280, .inr (.inl fr))), (a4, .inl (cL, 40, .inr (.inl li))), (a5, .inl (cI, 120, .inl st))] s.heap := hP
  have hD := hD0.self (sz := s.heap.size)
  generalize hAe : va_A [(m0, .inr (3, [.ref a0, .ref a1, .ref a2, .ref a3, .ref a4, .ref a5, .int (mi 0), .int (mi 1), .int (mi 2), .int (mi 3), .int (mi 4), .int (mi 5), .int (mi 6), .int (mi 7), .int (mi 8)])), (a0, .inl (cI, 6, .inl on)), (a1, .inl (cI, 7, .inl kd)), (a2, .inl (cI, 7, .inl sz)), (a3, .inl (cL, 280, .inr (.inl fr))), (a4, .inl (cL, 40, .inr (.inl li))), (a5, .inl (cI, 120, .inl st))] s.heap.size = A at hD hN ⊢
  have hA : ∀ q : Nat, s.heap.size ≤ q → A q := fun q h => by rw [← hAe]; exact Or.inr h
  have hS : va_S A s.heap s.heap [] := va_S.rf
  refine lv_aload_n hx hb dX3_cut_0 rfl (lv_at hl 0 rfl) ?_
  refine lv_iload_n hx hb dX3_cut_1 rfl (lv_at hl 1 rfl) ?_
  refine lv_iload_n hx hb dX3_cut_2 rfl (lv_at hl 2 rfl) ?_
  refine lv_iload_n hx hb dX3_cut_3 rfl (lv_at hl 3 rfl) ?_
  refine lv_iload hx hb dX3_cut_4 (lv_at hl 4 rfl) ?_
  refine lv_iload hx hb dX3_cut_6 (lv_at hl 5 rfl) ?_
  refine ro_i (va_runV (As := [.int (nI j1), .int p0, .int (nI j2), .int q0, .int n0]) (rest := []) ⟨hx, hb, hml, hown, hts⟩ (c_X3_against l (p0 := p0) (q0 := q0) (n0 := n0) (hP.sub [0, 1, 2, 3, 4, 5, 6] rfl) hO hZ h1 h2) (cwV 5 hts gX3_cut_X3_against rfl rfl rfl (by decide +kernel) ⟨Nat.le_of_ble_eq_true rfl, Nat.le_of_ble_eq_true rfl⟩) (Pq.V hC hS hN (va_recv hK hP (ci := 3) (q0 := 0) rfl rfl)) rfl rfl hl.1 rfl (lv_room (Nat.le_of_ble_eq_true rfl)) dX3_cut_8 ⟨Nat.le_of_ble_eq_true rfl, Nat.le_of_ble_eq_true rfl⟩) hS (fun g0 locs hw hS => ?_)
  have hw : AgRel on kd sz j1 j2 p0 q0 n0 g0 := hw
  refine lv_istore (lv' := [(6, .int g0), (0, .ref m0), (1, .int (nI j1)), (2, .int p0), (3, .int (nI j2)), (4, .int q0), (5, .int n0)]) hx hb dX3_cut_11 hl (by decide) rfl (fun ls hl => ?_)
  refine lv_aload_n hx hb dX3_cut_13 rfl (lv_at hl 1 rfl) ?_
  refine lv_iconst (v := 0) hx hb dX3_cut_14 (by decide) ?_
  refine va_put (D := D) (ci := 3) (v := .int 0) (ty := .int) (C := RX3) (T := TX3) (N := 15) hx hb hts iw_X3_cut_X3 tyX3 tyX3_ok nmX3 hown hK hP hD hS 0 rfl rfl 11 (by decide) (hts _ lk_X3_cut_Cond_fieldLink_RX3_70_SpliceRoomModel_far_I_) (fun _ h9 => h9) rfl (by decide +kernel) rfl rfl (Nat.le_of_ble_eq_true rfl) dX3_cut_15 (fun H locs hP hD hS => ?_)
  have hP : va_P D vwCl [(m0, .inr (3, [.ref a0, .ref a1, .ref a2, .ref a3, .ref a4, .ref a5, .int (mi 0), .int (mi 1), .int (mi 2), .int (mi 3), .int (mi 4), .int 0, .int (mi 6), .int (mi 7), .int (mi 8)])), (a0, .inl (cI, 6, .inl on)), (a1, .inl (cI, 7, .inl kd)), (a2, .inl (cI, 7, .inl sz)), (a3, .inl (cL, 280, .inr (.inl fr))), (a4, .inl (cL, 40, .inr (.inl li))), (a5, .inl (cI, 120, .inl st))] H := hP
  have hD : va_D A [(m0, .inr (3, [.ref a0, .ref a1, .ref a2, .ref a3, .ref a4, .ref a5, .int (mi 0), .int (mi 1), .int (mi 2), .int (mi 3), .int (mi 4), .int 0, .int (mi 6), .int (mi 7), .int (mi 8)])), (a0, .inl (cI, 6, .inl on)), (a1, .inl (cI, 7, .inl kd)), (a2, .inl (cI, 7, .inl sz)), (a3, .inl (cL, 280, .inr (.inl fr))), (a4, .inl (cL, 40, .inr (.inl li))), (a5, .inl (cI, 120, .inl st))] := hD
  refine lv_iload hx hb dX3_cut_18 (lv_at hl 0 rfl) ?_
  refine lv_if_ne (tgt := 159) hx hb dX3_cut_20 (by decide) (fun c_20 => ?_) (fun c_20 => ?_)
  · have hneg : g0 < 0 := (AgRel_s hw).resolve_right c_20
    refine lv_aload_n hx hb dX3_cut_159 rfl (lv_at hl 1 rfl) ?_
    refine lv_dup hx hb dX3_cut_160 rfl ?_
    refine va_get (D := D) (ci := 3) (v := .int (mi 2)) (C := RX3) (T := TX3) (N := 15) hx hb hts iw_X3_cut_X3 hown hK hP 0 rfl rfl 8 (by decide) (hts _ lk_X3_cut_Cond_fieldLink_RX3_73_SpliceRoomModel_laid_I_) (fun _ h9 => h9) rfl dX3_cut_161 ?_
    refine lv_aload_n hx hb dX3_cut_164 rfl (lv_at hl 1 rfl) ?_
    refine va_get (D := D) (ci := 3) (v := .int 0) (C := RX3) (T := TX3) (N := 15) hx hb hts iw_X3_cut_X3 hown hK hP 0 rfl rfl 11 (by decide) (hts _ lk_X3_cut_Cond_fieldLink_RX3_70_SpliceRoomModel_far_I_) (fun _ h9 => h9) rfl dX3_cut_165 ?_
    refine lv_iadd hx hb dX3_cut_168 ?_
    refine va_put (D := D) (ci := 3) (v := .int ((mi 2) + 0)) (ty := .int) (C := RX3) (T := TX3) (N := 15) hx hb hts iw_X3_cut_X3 tyX3 tyX3_ok nmX3 hown hK hP hD hS 0 rfl rfl 8 (by decide) (hts _ lk_X3_cut_Cond_fieldLink_RX3_73_SpliceRoomModel_laid_I_) (fun _ h9 => h9) rfl (by decide +kernel) rfl rfl (Nat.le_of_ble_eq_true rfl) dX3_cut_169 (fun H locs hP hD hS => ?_)
    have hP : va_P D vwCl [(m0, .inr (3, [.ref a0, .ref a1, .ref a2, .ref a3, .ref a4, .ref a5, .int (mi 0), .int (mi 1), .int ((mi 2) + 0), .int (mi 3), .int (mi 4), .int 0, .int (mi 6), .int (mi 7), .int (mi 8)])), (a0, .inl (cI, 6, .inl on)), (a1, .inl (cI, 7, .inl kd)), (a2, .inl (cI, 7, .inl sz)), (a3, .inl (cL, 280, .inr (.inl fr))), (a4, .inl (cL, 40, .inr (.inl li))), (a5, .inl (cI, 120, .inl st))] H := hP
    have hD : va_D A [(m0, .inr (3, [.ref a0, .ref a1, .ref a2, .ref a3, .ref a4, .ref a5, .int (mi 0), .int (mi 1), .int ((mi 2) + 0), .int (mi 3), .int (mi 4), .int 0, .int (mi 6), .int (mi 7), .int (mi 8)])), (a0, .inl (cI, 6, .inl on)), (a1, .inl (cI, 7, .inl kd)), (a2, .inl (cI, 7, .inl sz)), (a3, .inl (cL, 280, .inr (.inl fr))), (a4, .inl (cL, 40, .inr (.inl li))), (a5, .inl (cI, 120, .inl st))] := hD
    refine lv_aload_n hx hb dX3_cut_172 rfl (lv_at hl 1 rfl) ?_
    refine lv_iload hx hb dX3_cut_173 (lv_at hl 0 rfl) ?_
    refine lv_if_ge (tgt := 187) hx hb dX3_cut_175 (by decide) (fun c9 => absurd c9 (Int32.not_le.mpr hneg)) (fun _ => ?_)
    refine lv_aload_n hx hb dX3_cut_178 rfl (lv_at hl 1 rfl) ?_
    refine va_get (D := D) (ci := 3) (v := .int (mi 3)) (C := RX3) (T := TX3) (N := 15) hx hb hts iw_X3_cut_X3 hown hK hP 0 rfl rfl 9 (by decide) (hts _ lk_X3_cut_Cond_fieldLink_RX3_76_SpliceRoomModel_jams_I_) (fun _ h9 => h9) rfl dX3_cut_179 ?_
    refine lv_iconst (v := 1) hx hb dX3_cut_182 (by decide) ?_
    refine lv_iadd hx hb dX3_cut_183 ?_
    refine lv_goto (tgt := 191) hx hb dX3_cut_184 (by decide) ?_
    refine va_put (D := D) (ci := 3) (v := .int ((mi 3) + 1)) (ty := .int) (C := RX3) (T := TX3) (N := 15) hx hb hts iw_X3_cut_X3 tyX3 tyX3_ok nmX3 hown hK hP hD hS 0 rfl rfl 9 (by decide) (hts _ lk_X3_cut_Cond_fieldLink_RX3_76_SpliceRoomModel_jams_I_) (fun _ h9 => h9) rfl (by decide +kernel) rfl rfl (Nat.le_of_ble_eq_true rfl) dX3_cut_191 (fun H locs hP hD hS => ?_)
    have hP : va_P D vwCl [(m0, .inr (3, [.ref a0, .ref a1, .ref a2, .ref a3, .ref a4, .ref a5, .int (mi 0), .int (mi 1), .int ((mi 2) + 0), .int ((mi 3) + 1), .int (mi 4), .int 0, .int (mi 6), .int (mi 7), .int (mi 8)])), (a0, .inl (cI, 6, .inl on)), (a1, .inl (cI, 7, .inl kd)), (a2, .inl (cI, 7, .inl sz)), (a3, .inl (cL, 280, .inr (.inl fr))), (a4, .inl (cL, 40, .inr (.inl li))), (a5, .inl (cI, 120, .inl st))] H := hP
    have hD : va_D A [(m0, .inr (3, [.ref a0, .ref a1, .ref a2, .ref a3, .ref a4, .ref a5, .int (mi 0), .int (mi 1), .int ((mi 2) + 0), .int ((mi 3) + 1), .int (mi 4), .int 0, .int (mi 6), .int (mi 7), .int (mi 8)])), (a0, .inl (cI, 6, .inl on)), (a1, .inl (cI, 7, .inl kd)), (a2, .inl (cI, 7, .inl sz)), (a3, .inl (cL, 280, .inr (.inl fr))), (a4, .inl (cL, 40, .inr (.inl li))), (a5, .inl (cI, 120, .inl st))] := hD
    refine lv_aload_n hx hb dX3_cut_194 rfl (lv_at hl 1 rfl) ?_
    refine lv_iload hx hb dX3_cut_195 (lv_at hl 0 rfl) ?_
    refine lv_if_ge (tgt := 209) hx hb dX3_cut_197 (by decide) (fun c9 => absurd c9 (Int32.not_le.mpr hneg)) (fun _ => ?_)
    refine lv_aload_n hx hb dX3_cut_200 rfl (lv_at hl 1 rfl) ?_
    refine va_get (D := D) (ci := 3) (v := .int (mi 4)) (C := RX3) (T := TX3) (N := 15) hx hb hts iw_X3_cut_X3 hown hK hP 0 rfl rfl 10 (by decide) (hts _ lk_X3_cut_Cond_fieldLink_RX3_79_SpliceRoomModel_inRow_I_) (fun _ h9 => h9) rfl dX3_cut_201 ?_
    refine lv_iconst (v := 1) hx hb dX3_cut_204 (by decide) ?_
    refine lv_iadd hx hb dX3_cut_205 ?_
    refine lv_goto (tgt := 210) hx hb dX3_cut_206 (by decide) ?_
    refine va_put (D := D) (ci := 3) (v := .int ((mi 4) + 1)) (ty := .int) (C := RX3) (T := TX3) (N := 15) hx hb hts iw_X3_cut_X3 tyX3 tyX3_ok nmX3 hown hK hP hD hS 0 rfl rfl 10 (by decide) (hts _ lk_X3_cut_Cond_fieldLink_RX3_79_SpliceRoomModel_inRow_I_) (fun _ h9 => h9) rfl (by decide +kernel) rfl rfl (Nat.le_of_ble_eq_true rfl) dX3_cut_210 (fun H locs hP hD hS => ?_)
    have hP : va_P D vwCl [(m0, .inr (3, [.ref a0, .ref a1, .ref a2, .ref a3, .ref a4, .ref a5, .int (mi 0), .int (mi 1), .int ((mi 2) + 0), .int ((mi 3) + 1), .int ((mi 4) + 1), .int 0, .int (mi 6), .int (mi 7), .int (mi 8)])), (a0, .inl (cI, 6, .inl on)), (a1, .inl (cI, 7, .inl kd)), (a2, .inl (cI, 7, .inl sz)), (a3, .inl (cL, 280, .inr (.inl fr))), (a4, .inl (cL, 40, .inr (.inl li))), (a5, .inl (cI, 120, .inl st))] H := hP
    have hD : va_D A [(m0, .inr (3, [.ref a0, .ref a1, .ref a2, .ref a3, .ref a4, .ref a5, .int (mi 0), .int (mi 1), .int ((mi 2) + 0), .int ((mi 3) + 1), .int ((mi 4) + 1), .int 0, .int (mi 6), .int (mi 7), .int (mi 8)])), (a0, .inl (cI, 6, .inl on)), (a1, .inl (cI, 7, .inl kd)), (a2, .inl (cI, 7, .inl sz)), (a3, .inl (cL, 280, .inr (.inl fr))), (a4, .inl (cL, 40, .inr (.inl li))), (a5, .inl (cI, 120, .inl st))] := hD
    refine lv_aload_n hx hb dX3_cut_213 rfl (lv_at hl 1 rfl) ?_
    refine lv_iload hx hb dX3_cut_214 (lv_at hl 0 rfl) ?_
    refine lv_if_ge (tgt := 226) hx hb dX3_cut_216 (by decide) (fun c9 => absurd c9 (Int32.not_le.mpr hneg)) (fun _ => ?_)
    refine lv_aload_n hx hb dX3_cut_219 rfl (lv_at hl 1 rfl) ?_
    refine va_get (D := D) (ci := 3) (v := .int (mi 1)) (C := RX3) (T := TX3) (N := 15) hx hb hts iw_X3_cut_X3 hown hK hP 0 rfl rfl 7 (by decide) (hts _ lk_X3_cut_Cond_fieldLink_RX3_82_SpliceRoomModel_well_I_) (fun _ h9 => h9) rfl dX3_cut_220 ?_
    refine lv_goto (tgt := 232) hx hb dX3_cut_223 (by decide) ?_
    refine va_put (D := D) (ci := 3) (v := .int (mi 1)) (ty := .int) (C := RX3) (T := TX3) (N := 15) hx hb hts iw_X3_cut_X3 tyX3 tyX3_ok nmX3 hown hK hP hD hS 0 rfl rfl 7 (by decide) (hts _ lk_X3_cut_Cond_fieldLink_RX3_82_SpliceRoomModel_well_I_) (fun _ h9 => h9) rfl (by decide +kernel) rfl rfl (Nat.le_of_ble_eq_true rfl) dX3_cut_232 (fun H locs hP hD hS => ?_)
    have hP : va_P D vwCl [(m0, .inr (3, [.ref a0, .ref a1, .ref a2, .ref a3, .ref a4, .ref a5, .int (mi 0), .int (mi 1), .int ((mi 2) + 0), .int ((mi 3) + 1), .int ((mi 4) + 1), .int 0, .int (mi 6), .int (mi 7), .int (mi 8)])), (a0, .inl (cI, 6, .inl on)), (a1, .inl (cI, 7, .inl kd)), (a2, .inl (cI, 7, .inl sz)), (a3, .inl (cL, 280, .inr (.inl fr))), (a4, .inl (cL, 40, .inr (.inl li))), (a5, .inl (cI, 120, .inl st))] H := hP
    have hD : va_D A [(m0, .inr (3, [.ref a0, .ref a1, .ref a2, .ref a3, .ref a4, .ref a5, .int (mi 0), .int (mi 1), .int ((mi 2) + 0), .int ((mi 3) + 1), .int ((mi 4) + 1), .int 0, .int (mi 6), .int (mi 7), .int (mi 8)])), (a0, .inl (cI, 6, .inl on)), (a1, .inl (cI, 7, .inl kd)), (a2, .inl (cI, 7, .inl sz)), (a3, .inl (cL, 280, .inr (.inl fr))), (a4, .inl (cL, 40, .inr (.inl li))), (a5, .inl (cI, 120, .inl st))] := hD
    refine lv_aload_n hx hb dX3_cut_235 rfl (lv_at hl 1 rfl) ?_
    refine lv_iload hx hb dX3_cut_236 (lv_at hl 0 rfl) ?_
    refine lv_if_ge (tgt := 246) hx hb dX3_cut_238 (by decide) (fun c9 => absurd c9 (Int32.not_le.mpr hneg)) (fun _ => ?_)
    refine lv_iload hx hb dX3_cut_241 (lv_at hl 0 rfl) ?_
    refine lv_goto (tgt := 248) hx hb dX3_cut_243 (by decide) ?_
    refine va_put (D := D) (ci := 3) (v := .int g0) (ty := .int) (C := RX3) (T := TX3) (N := 15) hx hb hts iw_X3_cut_X3 tyX3 tyX3_ok nmX3 hown hK hP hD hS 0 rfl rfl 12 (by decide) (hts _ lk_X3_cut_Cond_fieldLink_RX3_85_SpliceRoomModel_told_I_) (fun _ h9 => h9) rfl (by decide +kernel) rfl rfl (Nat.le_of_ble_eq_true rfl) dX3_cut_248 (fun H locs hP hD hS => ?_)
    have hP : va_P D vwCl [(m0, .inr (3, [.ref a0, .ref a1, .ref a2, .ref a3, .ref a4, .ref a5, .int (mi 0), .int (mi 1), .int ((mi 2) + 0), .int ((mi 3) + 1), .int ((mi 4) + 1), .int 0, .int g0, .int (mi 7), .int (mi 8)])), (a0, .inl (cI, 6, .inl on)), (a1, .inl (cI, 7, .inl kd)), (a2, .inl (cI, 7, .inl sz)), (a3, .inl (cL, 280, .inr (.inl fr))), (a4, .inl (cL, 40, .inr (.inl li))), (a5, .inl (cI, 120, .inl st))] H := hP
    have hD : va_D A [(m0, .inr (3, [.ref a0, .ref a1, .ref a2, .ref a3, .ref a4, .ref a5, .int (mi 0), .int (mi 1), .int ((mi 2) + 0), .int ((mi 3) + 1), .int ((mi 4) + 1), .int 0, .int g0, .int (mi 7), .int (mi 8)])), (a0, .inl (cI, 6, .inl on)), (a1, .inl (cI, 7, .inl kd)), (a2, .inl (cI, 7, .inl sz)), (a3, .inl (cL, 280, .inr (.inl fr))), (a4, .inl (cL, 40, .inr (.inl li))), (a5, .inl (cI, 120, .inl st))] := hD
    refine lv_aload_n hx hb dX3_cut_251 rfl (lv_at hl 1 rfl) ?_
    refine va_get (D := D) (ci := 3) (v := .int g0) (C := RX3) (T := TX3) (N := 15) hx hb hts iw_X3_cut_X3 hown hK hP 0 rfl rfl 12 (by decide) (hts _ lk_X3_cut_Cond_fieldLink_RX3_85_SpliceRoomModel_told_I_) (fun _ h9 => h9) rfl dX3_cut_252 ?_
    exact W.iret (v := g0) hx hb hr (fun t ht hW => ⟨⟨_, (on, kd, sz, fr, li, st, mi9 (mi 0) (mi 1) ((mi 2) + 0) ((mi 3) + 1) ((mi 4) + 1) 0 g0 (mi 7) (mi 8)), rfl, Or.inl ⟨hw, hneg, rfl⟩, ⟨by rw [ht]; exact hP, hD⟩⟩, hS.F ht⟩) hS.2.2 dX3_cut_255
  · subst c_20
    obtain ⟨-, e9⟩ | ⟨-, -, e9⟩ | ⟨hn0, hn2, pa, pb, za, zb, ⟨hpa, hpb⟩, ⟨hza, hzb⟩, ⟨epa, epb⟩, ⟨eza, ezb⟩, ⟨-, e9⟩ | ⟨⟨hi1, hi2⟩, -⟩⟩ := hw
    · exact absurd e9 (by decide)
    · exact absurd e9 (by decide)
    · exact absurd e9 (by decide)
    obtain ⟨ia, n1, hb1, rfl, rfl⟩ := inFr_n hza hi1
    obtain ⟨ib, n2, hb2, rfl, en⟩ := inFr_n hzb hi2
    have en2 : n1 = n2 := (nI_eq (by omega) (by omega)).mp en
    subst en2
    refine lv_iconst (v := 0) hx hb dX3_cut_23 (by decide) ?_
    refine lv_istore (lv' := [(7, .int 0), (6, .int 0), (0, .ref m0), (1, .int (nI j1)), (2, .int (nI ia)), (3, .int (nI j2)), (4, .int (nI ib)), (5, .int (nI n1))]) hx hb dX3_cut_24 hl (by decide) rfl (fun ls hl => ?_)
    have loop2 : ∀ (n k : Nat) (lf : Nat → Int64) (H : Heap) (locs : List Loc) (ls : Array Slot), k ≤ n1 → n1 + 1 ≤ k + n → (∀ t, t < n1 → lf t = fr (40 * pa + ia + t)) → (∀ t, t < k → mTake (mK on kd j2) (fr (40 * pa + ia + t))) → lv_has ls 8 [(6, .int 0), (0, .ref m0), (1, .int (nI j1)), (2, .int (nI ia)), (3, .int (nI j2)), (4, .int (nI ib)), (5, .int (nI n1))] → va_P D vwCl [(m0, .inr (3, [.ref a0, .ref a1, .ref a2, .ref a3, .ref a4, .ref a5, .int (mi 0), .int (mi 1), .int (mi 2), .int (mi 3), .int (mi 4), .int (nI k), .int (mi 6), .int (mi 7), .int (mi 8)])), (a0, .inl (cI, 6, .inl on)), (a1, .inl (cI, 7, .inl kd)), (a2, .inl (cI, 7, .inl sz)), (a3, .inl (cL, 280, .inr (.inl (va_cpy fr fr (40 * pa + ia) (40 * pb + ib) k)))), (a4, .inl (cL, 40, .inr (.inl lf))), (a5, .inl (cI, 120, .inl st))] H → va_D A [(m0, .inr (3, [.ref a0, .ref a1, .ref a2, .ref a3, .ref a4, .ref a5, .int (mi 0), .int (mi 1), .int (mi 2), .int (mi 3), .int (mi 4), .int (nI k), .int (mi 6), .int (mi 7), .int (mi 8)])), (a0, .inl (cI, 6, .inl on)), (a1, .inl (cI, 7, .inl kd)), (a2, .inl (cI, 7, .inl sz)), (a3, .inl (cL, 280, .inr (.inl (va_cpy fr fr (40 * pa + ia) (40 * pb + ib) k)))), (a4, .inl (cL, 40, .inr (.inl lf))), (a5, .inl (cI, 120, .inl st))] → va_S A s.heap H locs → W p l e (headSpec wsX3_cut ({ frames := 2, cells := 0, slots := 0, locals := 80 })).room s m ([.ref m0, .int (nI j1), .int (nI ia), .int (nI j2), .int (nI ib), .int (nI n1)] : List Value).toArray below meth c H locs 0 0 (MQ below (va_Qi (fun (r : Int32) (u : MS) => MCut on kd sz fr li st mi j1 j2 (nI ia) (nI ib) (nI n1) r u) (fun (u : MS) (t : State) => va_P D vwCl [(m0, .inr (3, [.ref a0, .ref a1, .ref a2, .ref a3, .ref a4, .ref a5, .int (u.2.2.2.2.2.2 0), .int (u.2.2.2.2.2.2 1), .int (u.2.2.2.2.2.2 2), .int (u.2.2.2.2.2.2 3), .int (u.2.2.2.2.2.2 4), .int (u.2.2.2.2.2.2 5), .int (u.2.2.2.2.2.2 6), .int (u.2.2.2.2.2.2 7), .int (u.2.2.2.2.2.2 8)])), (a0, .inl (cI, 6, .inl u.1)), (a1, .inl (cI, 7, .inl u.2.1)), (a2, .inl (cI, 7, .inl u.2.2.1)), (a3, .inl (cL, 280, .inr (.inl u.2.2.2.1))), (a4, .inl (cL, 40, .inr (.inl u.2.2.2.2.1))), (a5, .inl (cI, 120, .inl u.2.2.2.2.2.1))] t.heap ∧ va_D A [(m0, .inr (3, [.ref a0, .ref a1, .ref a2, .ref a3, .ref a4, .ref a5, .int (u.2.2.2.2.2.2 0), .int (u.2.2.2.2.2.2 1), .int (u.2.2.2.2.2.2 2), .int (u.2.2.2.2.2.2 3), .int (u.2.2.2.2.2.2 4), .int (u.2.2.2.2.2.2 5), .int (u.2.2.2.2.2.2 6), .int (u.2.2.2.2.2.2 7), .int (u.2.2.2.2.2.2 8)])), (a0, .inl (cI, 6, .inl u.1)), (a1, .inl (cI, 7, .inl u.2.1)), (a2, .inl (cI, 7, .inl u.2.2.1)), (a3, .inl (cL, 280, .inr (.inl u.2.2.2.1))), (a4, .inl (cL, 40, .inr (.inl u.2.2.2.2.1))), (a5, .inl (cI, 120, .inl u.2.2.2.2.2.1))]) A) ([.ref m0, .int (nI j1), .int (nI ia), .int (nI j2), .int (nI ib), .int (nI n1)] : List Value).toArray s 0 0 A) (F0 m 65 ls []) := by
      intro n
      induction n with
      | zero => intro k lf H locs ls h1 h2; exact absurd h2 (by omega)
      | succ n ih =>
        intro k lf H locs ls hk hn hlf hmt hl hP hD hS
        refine lv_aload_n hx hb dX3_cut_65 rfl (lv_at hl 1 rfl) ?_
        refine va_get (D := D) (ci := 3) (v := .int (nI k)) (C := RX3) (T := TX3) (N := 15) hx hb hts iw_X3_cut_X3 hown hK hP 0 rfl rfl 11 (by decide) (hts _ lk_X3_cut_Cond_fieldLink_RX3_70_SpliceRoomModel_far_I_) (fun _ h9 => h9) rfl dX3_cut_66 ?_
        refine lv_iload hx hb dX3_cut_69 (lv_at hl 6 rfl) ?_
        refine lv_icmp_ge (tgt := 159) hx hb dX3_cut_71 (by decide) (fun c_71 => ?_) (fun c_71 => ?_)
        · have ekn : k = n1 := by have := (nI_leI (a := n1) (b := k) (by omega) (by omega)).mp c_71; omega
          refine lv_aload_n hx hb dX3_cut_159 rfl (lv_at hl 1 rfl) ?_
          refine lv_dup hx hb dX3_cut_160 rfl ?_
          refine va_get (D := D) (ci := 3) (v := .int (mi 2)) (C := RX3) (T := TX3) (N := 15) hx hb hts iw_X3_cut_X3 hown hK hP 0 rfl rfl 8 (by decide) (hts _ lk_X3_cut_Cond_fieldLink_RX3_73_SpliceRoomModel_laid_I_) (fun _ h9 => h9) rfl dX3_cut_161 ?_
          refine lv_aload_n hx hb dX3_cut_164 rfl (lv_at hl 1 rfl) ?_
          refine va_get (D := D) (ci := 3) (v := .int (nI k)) (C := RX3) (T := TX3) (N := 15) hx hb hts iw_X3_cut_X3 hown hK hP 0 rfl rfl 11 (by decide) (hts _ lk_X3_cut_Cond_fieldLink_RX3_70_SpliceRoomModel_far_I_) (fun _ h9 => h9) rfl dX3_cut_165 ?_
          refine lv_iadd hx hb dX3_cut_168 ?_
          refine va_put (D := D) (ci := 3) (v := .int ((mi 2) + (nI k))) (ty := .int) (C := RX3) (T := TX3) (N := 15) hx hb hts iw_X3_cut_X3 tyX3 tyX3_ok nmX3 hown hK hP hD hS 0 rfl rfl 8 (by decide) (hts _ lk_X3_cut_Cond_fieldLink_RX3_73_SpliceRoomModel_laid_I_) (fun _ h9 => h9) rfl (by decide +kernel) rfl rfl (Nat.le_of_ble_eq_true rfl) dX3_cut_169 (fun H locs hP hD hS => ?_)
          have hP : va_P D vwCl [(m0, .inr (3, [.ref a0, .ref a1, .ref a2, .ref a3, .ref a4, .ref a5, .int (mi 0), .int (mi 1), .int ((mi 2) + (nI k)), .int (mi 3), .int (mi 4), .int (nI k), .int (mi 6), .int (mi 7), .int (mi 8)])), (a0, .inl (cI, 6, .inl on)), (a1, .inl (cI, 7, .inl kd)), (a2, .inl (cI, 7, .inl sz)), (a3, .inl (cL, 280, .inr (.inl (va_cpy fr fr (40 * pa + ia) (40 * pb + ib) k)))), (a4, .inl (cL, 40, .inr (.inl lf))), (a5, .inl (cI, 120, .inl st))] H := hP
          have hD : va_D A [(m0, .inr (3, [.ref a0, .ref a1, .ref a2, .ref a3, .ref a4, .ref a5, .int (mi 0), .int (mi 1), .int ((mi 2) + (nI k)), .int (mi 3), .int (mi 4), .int (nI k), .int (mi 6), .int (mi 7), .int (mi 8)])), (a0, .inl (cI, 6, .inl on)), (a1, .inl (cI, 7, .inl kd)), (a2, .inl (cI, 7, .inl sz)), (a3, .inl (cL, 280, .inr (.inl (va_cpy fr fr (40 * pa + ia) (40 * pb + ib) k)))), (a4, .inl (cL, 40, .inr (.inl lf))), (a5, .inl (cI, 120, .inl st))] := hD
          refine lv_aload_n hx hb dX3_cut_172 rfl (lv_at hl 1 rfl) ?_
          refine lv_iload hx hb dX3_cut_173 (lv_at hl 0 rfl) ?_
          refine lv_if_ge (tgt := 187) hx hb dX3_cut_175 (by decide) (fun _ => ?_) (fun c9 => absurd (by decide) c9)
          refine lv_aload_n hx hb dX3_cut_187 rfl (lv_at hl 1 rfl) ?_
          refine va_get (D := D) (ci := 3) (v := .int (mi 3)) (C := RX3) (T := TX3) (N := 15) hx hb hts iw_X3_cut_X3 hown hK hP 0 rfl rfl 9 (by decide) (hts _ lk_X3_cut_Cond_fieldLink_RX3_76_SpliceRoomModel_jams_I_) (fun _ h9 => h9) rfl dX3_cut_188 ?_
          refine va_put (D := D) (ci := 3) (v := .int (mi 3)) (ty := .int) (C := RX3) (T := TX3) (N := 15) hx hb hts iw_X3_cut_X3 tyX3 tyX3_ok nmX3 hown hK hP hD hS 0 rfl rfl 9 (by decide) (hts _ lk_X3_cut_Cond_fieldLink_RX3_76_SpliceRoomModel_jams_I_) (fun _ h9 => h9) rfl (by decide +kernel) rfl rfl (Nat.le_of_ble_eq_true rfl) dX3_cut_191 (fun H locs hP hD hS => ?_)
          have hP : va_P D vwCl [(m0, .inr (3, [.ref a0, .ref a1, .ref a2, .ref a3, .ref a4, .ref a5, .int (mi 0), .int (mi 1), .int ((mi 2) + (nI k)), .int (mi 3), .int (mi 4), .int (nI k), .int (mi 6), .int (mi 7), .int (mi 8)])), (a0, .inl (cI, 6, .inl on)), (a1, .inl (cI, 7, .inl kd)), (a2, .inl (cI, 7, .inl sz)), (a3, .inl (cL, 280, .inr (.inl (va_cpy fr fr (40 * pa + ia) (40 * pb + ib) k)))), (a4, .inl (cL, 40, .inr (.inl lf))), (a5, .inl (cI, 120, .inl st))] H := hP
          have hD : va_D A [(m0, .inr (3, [.ref a0, .ref a1, .ref a2, .ref a3, .ref a4, .ref a5, .int (mi 0), .int (mi 1), .int ((mi 2) + (nI k)), .int (mi 3), .int (mi 4), .int (nI k), .int (mi 6), .int (mi 7), .int (mi 8)])), (a0, .inl (cI, 6, .inl on)), (a1, .inl (cI, 7, .inl kd)), (a2, .inl (cI, 7, .inl sz)), (a3, .inl (cL, 280, .inr (.inl (va_cpy fr fr (40 * pa + ia) (40 * pb + ib) k)))), (a4, .inl (cL, 40, .inr (.inl lf))), (a5, .inl (cI, 120, .inl st))] := hD
          refine lv_aload_n hx hb dX3_cut_194 rfl (lv_at hl 1 rfl) ?_
          refine lv_iload hx hb dX3_cut_195 (lv_at hl 0 rfl) ?_
          refine lv_if_ge (tgt := 209) hx hb dX3_cut_197 (by decide) (fun _ => ?_) (fun c9 => absurd (by decide) c9)
          refine lv_iconst (v := 0) hx hb dX3_cut_209 (by decide) ?_
          refine va_put (D := D) (ci := 3) (v := .int 0) (ty := .int) (C := RX3) (T := TX3) (N := 15) hx hb hts iw_X3_cut_X3 tyX3 tyX3_ok nmX3 hown hK hP hD hS 0 rfl rfl 10 (by decide) (hts _ lk_X3_cut_Cond_fieldLink_RX3_79_SpliceRoomModel_inRow_I_) (fun _ h9 => h9) rfl (by decide +kernel) rfl rfl (Nat.le_of_ble_eq_true rfl) dX3_cut_210 (fun H locs hP hD hS => ?_)
          have hP : va_P D vwCl [(m0, .inr (3, [.ref a0, .ref a1, .ref a2, .ref a3, .ref a4, .ref a5, .int (mi 0), .int (mi 1), .int ((mi 2) + (nI k)), .int (mi 3), .int 0, .int (nI k), .int (mi 6), .int (mi 7), .int (mi 8)])), (a0, .inl (cI, 6, .inl on)), (a1, .inl (cI, 7, .inl kd)), (a2, .inl (cI, 7, .inl sz)), (a3, .inl (cL, 280, .inr (.inl (va_cpy fr fr (40 * pa + ia) (40 * pb + ib) k)))), (a4, .inl (cL, 40, .inr (.inl lf))), (a5, .inl (cI, 120, .inl st))] H := hP
          have hD : va_D A [(m0, .inr (3, [.ref a0, .ref a1, .ref a2, .ref a3, .ref a4, .ref a5, .int (mi 0), .int (mi 1), .int ((mi 2) + (nI k)), .int (mi 3), .int 0, .int (nI k), .int (mi 6), .int (mi 7), .int (mi 8)])), (a0, .inl (cI, 6, .inl on)), (a1, .inl (cI, 7, .inl kd)), (a2, .inl (cI, 7, .inl sz)), (a3, .inl (cL, 280, .inr (.inl (va_cpy fr fr (40 * pa + ia) (40 * pb + ib) k)))), (a4, .inl (cL, 40, .inr (.inl lf))), (a5, .inl (cI, 120, .inl st))] := hD
          refine lv_aload_n hx hb dX3_cut_213 rfl (lv_at hl 1 rfl) ?_
          refine lv_iload hx hb dX3_cut_214 (lv_at hl 0 rfl) ?_
          refine lv_if_ge (tgt := 226) hx hb dX3_cut_216 (by decide) (fun _ => ?_) (fun c9 => absurd (by decide) c9)
          refine lv_aload_n hx hb dX3_cut_226 rfl (lv_at hl 1 rfl) ?_
          refine va_get (D := D) (ci := 3) (v := .int (mi 1)) (C := RX3) (T := TX3) (N := 15) hx hb hts iw_X3_cut_X3 hown hK hP 0 rfl rfl 7 (by decide) (hts _ lk_X3_cut_Cond_fieldLink_RX3_82_SpliceRoomModel_well_I_) (fun _ h9 => h9) rfl dX3_cut_227 ?_
          refine lv_iconst (v := 1) hx hb dX3_cut_230 (by decide) ?_
          refine lv_iadd hx hb dX3_cut_231 ?_
          refine va_put (D := D) (ci := 3) (v := .int ((mi 1) + 1)) (ty := .int) (C := RX3) (T := TX3) (N := 15) hx hb hts iw_X3_cut_X3 tyX3 tyX3_ok nmX3 hown hK hP hD hS 0 rfl rfl 7 (by decide) (hts _ lk_X3_cut_Cond_fieldLink_RX3_82_SpliceRoomModel_well_I_) (fun _ h9 => h9) rfl (by decide +kernel) rfl rfl (Nat.le_of_ble_eq_true rfl) dX3_cut_232 (fun H locs hP hD hS => ?_)
          have hP : va_P D vwCl [(m0, .inr (3, [.ref a0, .ref a1, .ref a2, .ref a3, .ref a4, .ref a5, .int (mi 0), .int ((mi 1) + 1), .int ((mi 2) + (nI k)), .int (mi 3), .int 0, .int (nI k), .int (mi 6), .int (mi 7), .int (mi 8)])), (a0, .inl (cI, 6, .inl on)), (a1, .inl (cI, 7, .inl kd)), (a2, .inl (cI, 7, .inl sz)), (a3, .inl (cL, 280, .inr (.inl (va_cpy fr fr (40 * pa + ia) (40 * pb + ib) k)))), (a4, .inl (cL, 40, .inr (.inl lf))), (a5, .inl (cI, 120, .inl st))] H := hP
          have hD : va_D A [(m0, .inr (3, [.ref a0, .ref a1, .ref a2, .ref a3, .ref a4, .ref a5, .int (mi 0), .int ((mi 1) + 1), .int ((mi 2) + (nI k)), .int (mi 3), .int 0, .int (nI k), .int (mi 6), .int (mi 7), .int (mi 8)])), (a0, .inl (cI, 6, .inl on)), (a1, .inl (cI, 7, .inl kd)), (a2, .inl (cI, 7, .inl sz)), (a3, .inl (cL, 280, .inr (.inl (va_cpy fr fr (40 * pa + ia) (40 * pb + ib) k)))), (a4, .inl (cL, 40, .inr (.inl lf))), (a5, .inl (cI, 120, .inl st))] := hD
          refine lv_aload_n hx hb dX3_cut_235 rfl (lv_at hl 1 rfl) ?_
          refine lv_iload hx hb dX3_cut_236 (lv_at hl 0 rfl) ?_
          refine lv_if_ge (tgt := 246) hx hb dX3_cut_238 (by decide) (fun _ => ?_) (fun c9 => absurd (by decide) c9)
          refine lv_iload hx hb dX3_cut_246 (lv_at hl 6 rfl) ?_
          refine va_put (D := D) (ci := 3) (v := .int (nI n1)) (ty := .int) (C := RX3) (T := TX3) (N := 15) hx hb hts iw_X3_cut_X3 tyX3 tyX3_ok nmX3 hown hK hP hD hS 0 rfl rfl 12 (by decide) (hts _ lk_X3_cut_Cond_fieldLink_RX3_85_SpliceRoomModel_told_I_) (fun _ h9 => h9) rfl (by decide +kernel) rfl rfl (Nat.le_of_ble_eq_true rfl) dX3_cut_248 (fun H locs hP hD hS => ?_)
          have hP : va_P D vwCl [(m0, .inr (3, [.ref a0, .ref a1, .ref a2, .ref a3, .ref a4, .ref a5, .int (mi 0), .int ((mi 1) + 1), .int ((mi 2) + (nI k)), .int (mi 3), .int 0, .int (nI k), .int (nI n1), .int (mi 7), .int (mi 8)])), (a0, .inl (cI, 6, .inl on)), (a1, .inl (cI, 7, .inl kd)), (a2, .inl (cI, 7, .inl sz)), (a3, .inl (cL, 280, .inr (.inl (va_cpy fr fr (40 * pa + ia) (40 * pb + ib) k)))), (a4, .inl (cL, 40, .inr (.inl lf))), (a5, .inl (cI, 120, .inl st))] H := hP
          have hD : va_D A [(m0, .inr (3, [.ref a0, .ref a1, .ref a2, .ref a3, .ref a4, .ref a5, .int (mi 0), .int ((mi 1) + 1), .int ((mi 2) + (nI k)), .int (mi 3), .int 0, .int (nI k), .int (nI n1), .int (mi 7), .int (mi 8)])), (a0, .inl (cI, 6, .inl on)), (a1, .inl (cI, 7, .inl kd)), (a2, .inl (cI, 7, .inl sz)), (a3, .inl (cL, 280, .inr (.inl (va_cpy fr fr (40 * pa + ia) (40 * pb + ib) k)))), (a4, .inl (cL, 40, .inr (.inl lf))), (a5, .inl (cI, 120, .inl st))] := hD
          refine lv_aload_n hx hb dX3_cut_251 rfl (lv_at hl 1 rfl) ?_
          refine va_get (D := D) (ci := 3) (v := .int (nI n1)) (C := RX3) (T := TX3) (N := 15) hx hb hts iw_X3_cut_X3 hown hK hP 0 rfl rfl 12 (by decide) (hts _ lk_X3_cut_Cond_fieldLink_RX3_85_SpliceRoomModel_told_I_) (fun _ h9 => h9) rfl dX3_cut_252 ?_
          exact W.iret (v := nI n1) hx hb hr (fun t ht hW => ⟨⟨_, (on, kd, sz, va_cpy fr fr (40 * pa + ia) (40 * pb + ib) k, lf, st, mi9 (mi 0) ((mi 1) + 1) ((mi 2) + (nI k)) (mi 3) 0 (nI k) (nI n1) (mi 7) (mi 8)), rfl, Or.inr ⟨pa, pb, za, zb, ia, ib, n1, k, lf, hn0, hn2, ⟨hpa, hpb⟩, ⟨hza, hzb⟩, ⟨epa, epb⟩, ⟨eza, ezb⟩, ⟨rfl, rfl, rfl⟩, ⟨hb1, hb2⟩, ⟨hk, hmt, fun z9 => absurd z9 (by omega)⟩, Or.inr ⟨ekn, rfl, rfl⟩⟩, ⟨by rw [ht]; exact hP, hD⟩⟩, hS.F ht⟩) hS.2.2 dX3_cut_255
        · have hlt : k < n1 := Nat.lt_of_not_le (fun z9 => c_71 (nI_le z9 (by omega)))
          refine lv_iload hx hb dX3_cut_74 (lv_at hl 0 rfl) ?_
          refine lv_if_ne (tgt := 159) hx hb dX3_cut_76 (by decide) (fun c9 => absurd (by decide) c9) (fun _ => ?_)
          refine lv_aload_n hx hb dX3_cut_79 rfl (lv_at hl 1 rfl) ?_
          refine lv_iload_n hx hb dX3_cut_80 rfl (lv_at hl 4 rfl) ?_
          refine ro_i (va_runV (As := [.int (nI j2)]) (rest := []) ⟨hx, hb, hml, hown, hts⟩ (c_X3_kindAt l (j := j2) (mi := mi9 (mi 0) (mi 1) (mi 2) (mi 3) (mi 4) (nI k) (mi 6) (mi 7) (mi 8)) (hP.sub [0, 1, 2, 3, 4, 5, 6] rfl) hO h2) (cwV 1 hts gX3_cut_X3_kindAt rfl rfl rfl (by decide +kernel) ⟨Nat.le_of_ble_eq_true rfl, Nat.le_of_ble_eq_true rfl⟩) (Pq.V hC hS hN (va_recv hK hP (ci := 3) (q0 := 0) rfl rfl)) rfl rfl hl.1 rfl (lv_room (Nat.le_of_ble_eq_true rfl)) dX3_cut_81 ⟨Nat.le_of_ble_eq_true rfl, Nat.le_of_ble_eq_true rfl⟩) hS (fun r_1 locs hw hS => ?_)
          have hw : r_1 = mK on kd j2 := hw
          subst hw
          refine lv_iconst (v := 4) hx hb dX3_cut_84 (by decide) ?_
          refine lv_icmp_ne (tgt := 115) hx hb dX3_cut_85 (by decide) (fun c_85 => ?_) (fun c_85 => ?_)
          · refine lv_aload_n hx hb dX3_cut_115 rfl (lv_at hl 1 rfl) ?_
            refine va_get (D := D) (ci := 3) (v := .ref a3) (C := RX3) (T := TX3) (N := 15) hx hb hts iw_X3_cut_X3 hown hK hP 0 rfl rfl 3 (by decide) (hts _ lk_X3_cut_Cond_fieldLink_RX3_19_SpliceRoomModel_frames_J_) (fun _ h9 => h9) rfl dX3_cut_116 ?_
            refine lv_bipush (v := 40) hx hb dX3_cut_119 (by decide) ?_
            refine lv_aload_n hx hb dX3_cut_121 rfl (lv_at hl 1 rfl) ?_
            refine va_get (D := D) (ci := 3) (v := .ref a0) (C := RX3) (T := TX3) (N := 15) hx hb hts iw_X3_cut_X3 hown hK hP 0 rfl rfl 0 (by decide) (hts _ lk_X3_cut_Cond_fieldLink_RX3_7_SpliceRoomModel_on_I_) (fun _ h9 => h9) rfl dX3_cut_122 ?_
            refine lv_iload_n hx hb dX3_cut_125 rfl (lv_at hl 4 rfl) ?_
            refine va_iald (D := D) hx hb hK hP 1 0 rfl rfl (vp_in_nI h2 (by decide)) dX3_cut_126 ?_
            refine lv_topi (fun y_2 e9 => ?_)
            have e9 : y_2 = nI pb := e9.trans (by rw [nI_clamp (by omega)]; exact epb)
            subst e9
            refine lv_imul hx hb dX3_cut_127 ?_
            refine lv_iload hx hb dX3_cut_128 (lv_at hl 5 rfl) ?_
            refine lv_iadd hx hb dX3_cut_130 ?_
            refine lv_aload_n hx hb dX3_cut_131 rfl (lv_at hl 1 rfl) ?_
            refine va_get (D := D) (ci := 3) (v := .int (nI k)) (C := RX3) (T := TX3) (N := 15) hx hb hts iw_X3_cut_X3 hown hK hP 0 rfl rfl 11 (by decide) (hts _ lk_X3_cut_Cond_fieldLink_RX3_70_SpliceRoomModel_far_I_) (fun _ h9 => h9) rfl dX3_cut_132 ?_
            refine lv_iadd hx hb dX3_cut_135 ?_
            refine lv_aload_n hx hb dX3_cut_136 rfl (lv_at hl 1 rfl) ?_
            refine va_get (D := D) (ci := 3) (v := .ref a4) (C := RX3) (T := TX3) (N := 15) hx hb hts iw_X3_cut_X3 hown hK hP 0 rfl rfl 4 (by decide) (hts _ lk_X3_cut_Cond_fieldLink_RX3_23_SpliceRoomModel_lifted_J_) (fun _ h9 => h9) rfl dX3_cut_137 ?_
            refine lv_aload_n hx hb dX3_cut_140 rfl (lv_at hl 1 rfl) ?_
            refine va_get (D := D) (ci := 3) (v := .int (nI k)) (C := RX3) (T := TX3) (N := 15) hx hb hts iw_X3_cut_X3 hown hK hP 0 rfl rfl 11 (by decide) (hts _ lk_X3_cut_Cond_fieldLink_RX3_70_SpliceRoomModel_far_I_) (fun _ h9 => h9) rfl dX3_cut_141 ?_
            refine va_lald (D := D) hx hb hK hP 5 1 rfl rfl (vp_in_nI (show k < 40 by omega) (by decide)) dX3_cut_144 ?_
            refine lv_topl (fun y_3 e9 => ?_)
            have e9 : y_3 = fr (40 * pa + ia + k) := e9.trans (by rw [nI_clamp (by omega)]; exact hlf k hlt)
            subst e9
            refine va_last (D := D) hx hb hK hP hD hS 4 1 rfl rfl (by rw [idx40a]; exact vp_in_nI (show 40 * pb + ib + k < 280 by omega) (by decide)) dX3_cut_145 (fun H locs hP hD hS => ?_)
            have hP : va_P D vwCl [(m0, .inr (3, [.ref a0, .ref a1, .ref a2, .ref a3, .ref a4, .ref a5, .int (mi 0), .int (mi 1), .int (mi 2), .int (mi 3), .int (mi 4), .int (nI k), .int (mi 6), .int (mi 7), .int (mi 8)])), (a0, .inl (cI, 6, .inl on)), (a1, .inl (cI, 7, .inl kd)), (a2, .inl (cI, 7, .inl sz)), (a3, .inl (cL, 280, .inr (.inl (vp_updL (va_cpy fr fr (40 * pa + ia) (40 * pb + ib) k) ((((40 * (nI pb)) + (nI ib)) + (nI k)).toNatClampNeg) (fr (40 * pa + ia + k)))))), (a4, .inl (cL, 40, .inr (.inl lf))), (a5, .inl (cI, 120, .inl st))] H := hP
            have hD : va_D A [(m0, .inr (3, [.ref a0, .ref a1, .ref a2, .ref a3, .ref a4, .ref a5, .int (mi 0), .int (mi 1), .int (mi 2), .int (mi 3), .int (mi 4), .int (nI k), .int (mi 6), .int (mi 7), .int (mi 8)])), (a0, .inl (cI, 6, .inl on)), (a1, .inl (cI, 7, .inl kd)), (a2, .inl (cI, 7, .inl sz)), (a3, .inl (cL, 280, .inr (.inl (vp_updL (va_cpy fr fr (40 * pa + ia) (40 * pb + ib) k) ((((40 * (nI pb)) + (nI ib)) + (nI k)).toNatClampNeg) (fr (40 * pa + ia + k)))))), (a4, .inl (cL, 40, .inr (.inl lf))), (a5, .inl (cI, 120, .inl st))] := hD
            rw [idx40a, nI_clamp (show 40 * pb + ib + k < 2 ^ 31 by omega), cpy_s] at hP hD
            refine lv_aload_n hx hb dX3_cut_146 rfl (lv_at hl 1 rfl) ?_
            refine lv_dup hx hb dX3_cut_147 rfl ?_
            refine va_get (D := D) (ci := 3) (v := .int (nI k)) (C := RX3) (T := TX3) (N := 15) hx hb hts iw_X3_cut_X3 hown hK hP 0 rfl rfl 11 (by decide) (hts _ lk_X3_cut_Cond_fieldLink_RX3_70_SpliceRoomModel_far_I_) (fun _ h9 => h9) rfl dX3_cut_148 ?_
            refine lv_iconst (v := 1) hx hb dX3_cut_151 (by decide) ?_
            refine lv_iadd hx hb dX3_cut_152 ?_
            refine lv_topi (fun y_4 e9 => ?_)
            have e9 : y_4 = nI (k + 1) := e9.trans (nI_1 k)
            subst e9
            refine va_put (D := D) (ci := 3) (v := .int (nI (k + 1))) (ty := .int) (C := RX3) (T := TX3) (N := 15) hx hb hts iw_X3_cut_X3 tyX3 tyX3_ok nmX3 hown hK hP hD hS 0 rfl rfl 11 (by decide) (hts _ lk_X3_cut_Cond_fieldLink_RX3_70_SpliceRoomModel_far_I_) (fun _ h9 => h9) rfl (by decide +kernel) rfl rfl (Nat.le_of_ble_eq_true rfl) dX3_cut_153 (fun H locs hP hD hS => ?_)
            have hP : va_P D vwCl [(m0, .inr (3, [.ref a0, .ref a1, .ref a2, .ref a3, .ref a4, .ref a5, .int (mi 0), .int (mi 1), .int (mi 2), .int (mi 3), .int (mi 4), .int (nI (k + 1)), .int (mi 6), .int (mi 7), .int (mi 8)])), (a0, .inl (cI, 6, .inl on)), (a1, .inl (cI, 7, .inl kd)), (a2, .inl (cI, 7, .inl sz)), (a3, .inl (cL, 280, .inr (.inl (va_cpy fr fr (40 * pa + ia) (40 * pb + ib) (k + 1))))), (a4, .inl (cL, 40, .inr (.inl lf))), (a5, .inl (cI, 120, .inl st))] H := hP
            have hD : va_D A [(m0, .inr (3, [.ref a0, .ref a1, .ref a2, .ref a3, .ref a4, .ref a5, .int (mi 0), .int (mi 1), .int (mi 2), .int (mi 3), .int (mi 4), .int (nI (k + 1)), .int (mi 6), .int (mi 7), .int (mi 8)])), (a0, .inl (cI, 6, .inl on)), (a1, .inl (cI, 7, .inl kd)), (a2, .inl (cI, 7, .inl sz)), (a3, .inl (cL, 280, .inr (.inl (va_cpy fr fr (40 * pa + ia) (40 * pb + ib) (k + 1))))), (a4, .inl (cL, 40, .inr (.inl lf))), (a5, .inl (cI, 120, .inl st))] := hD
            refine lv_goto (tgt := 65) hx hb dX3_cut_156 (by decide) ?_
            exact ih (k + 1) lf _ _ _ (by omega) (by omega) hlf (fun t ht => by by_cases e9 : t = k; (rw [e9]; exact fun z9 => c_85 z9.1); exact hmt t (by omega)) (lv_sub hl [0, 1, 2, 3, 4, 5, 6] rfl) hP hD hS
          · refine lv_aload_n hx hb dX3_cut_88 rfl (lv_at hl 1 rfl) ?_
            refine va_get (D := D) (ci := 3) (v := .ref a4) (C := RX3) (T := TX3) (N := 15) hx hb hts iw_X3_cut_X3 hown hK hP 0 rfl rfl 4 (by decide) (hts _ lk_X3_cut_Cond_fieldLink_RX3_23_SpliceRoomModel_lifted_J_) (fun _ h9 => h9) rfl dX3_cut_89 ?_
            refine lv_aload_n hx hb dX3_cut_92 rfl (lv_at hl 1 rfl) ?_
            refine va_get (D := D) (ci := 3) (v := .int (nI k)) (C := RX3) (T := TX3) (N := 15) hx hb hts iw_X3_cut_X3 hown hK hP 0 rfl rfl 11 (by decide) (hts _ lk_X3_cut_Cond_fieldLink_RX3_70_SpliceRoomModel_far_I_) (fun _ h9 => h9) rfl dX3_cut_93 ?_
            refine va_lald (D := D) hx hb hK hP 5 1 rfl rfl (vp_in_nI (show k < 40 by omega) (by decide)) dX3_cut_96 ?_
            refine lv_topl (fun y_5 e9 => ?_)
            have e9 : y_5 = fr (40 * pa + ia + k) := e9.trans (by rw [nI_clamp (by omega)]; exact hlf k hlt)
            subst e9
            refine lv_l2i hx hb dX3_cut_97 rfl ?_
            refine lv_iconst (v := 0) hx hb dX3_cut_98 (by decide) ?_
            refine lv_sipush (v := 999) hx hb dX3_cut_99 (by decide) ?_
            refine ro_i (va_runS (As := [.int ((fr (40 * pa + ia + k)).toInt32), .int 0, .int 999]) (rest := []) ⟨hx, hb, hml, hown, hts⟩ (c_X3_in l (v0 := (fr (40 * pa + ia + k)).toInt32) (l0 := 0) (u0 := 999)) (va_cwS 3 hts gX3_cut_X3_in rfl rfl rfl (by decide +kernel) ⟨Nat.le_of_ble_eq_true rfl, Nat.le_of_ble_eq_true rfl⟩) (Pq.S hC hS hN) rfl rfl hl.1 rfl (lv_room (Nat.le_of_ble_eq_true rfl)) dX3_cut_102 ⟨Nat.le_of_ble_eq_true rfl, Nat.le_of_ble_eq_true rfl⟩) hS (fun r_6 locs hw hS => ?_)
            have hw : r_6 = tB (0 ≤ ((fr (40 * pa + ia + k)).toInt32) ∧ ((fr (40 * pa + ia + k)).toInt32) ≤ 999) := hw
            subst hw
            refine lv_if_eq (tgt := 115) hx hb dX3_cut_105 (by decide) (fun c_105 => ?_) (fun c_105 => ?_)
            · have c_105 := tB_0.mp c_105
              refine lv_aload_n hx hb dX3_cut_115 rfl (lv_at hl 1 rfl) ?_
              refine va_get (D := D) (ci := 3) (v := .ref a3) (C := RX3) (T := TX3) (N := 15) hx hb hts iw_X3_cut_X3 hown hK hP 0 rfl rfl 3 (by decide) (hts _ lk_X3_cut_Cond_fieldLink_RX3_19_SpliceRoomModel_frames_J_) (fun _ h9 => h9) rfl dX3_cut_116 ?_
              refine lv_bipush (v := 40) hx hb dX3_cut_119 (by decide) ?_
              refine lv_aload_n hx hb dX3_cut_121 rfl (lv_at hl 1 rfl) ?_
              refine va_get (D := D) (ci := 3) (v := .ref a0) (C := RX3) (T := TX3) (N := 15) hx hb hts iw_X3_cut_X3 hown hK hP 0 rfl rfl 0 (by decide) (hts _ lk_X3_cut_Cond_fieldLink_RX3_7_SpliceRoomModel_on_I_) (fun _ h9 => h9) rfl dX3_cut_122 ?_
              refine lv_iload_n hx hb dX3_cut_125 rfl (lv_at hl 4 rfl) ?_
              refine va_iald (D := D) hx hb hK hP 1 0 rfl rfl (vp_in_nI h2 (by decide)) dX3_cut_126 ?_
              refine lv_topi (fun y_7 e9 => ?_)
              have e9 : y_7 = nI pb := e9.trans (by rw [nI_clamp (by omega)]; exact epb)
              subst e9
              refine lv_imul hx hb dX3_cut_127 ?_
              refine lv_iload hx hb dX3_cut_128 (lv_at hl 5 rfl) ?_
              refine lv_iadd hx hb dX3_cut_130 ?_
              refine lv_aload_n hx hb dX3_cut_131 rfl (lv_at hl 1 rfl) ?_
              refine va_get (D := D) (ci := 3) (v := .int (nI k)) (C := RX3) (T := TX3) (N := 15) hx hb hts iw_X3_cut_X3 hown hK hP 0 rfl rfl 11 (by decide) (hts _ lk_X3_cut_Cond_fieldLink_RX3_70_SpliceRoomModel_far_I_) (fun _ h9 => h9) rfl dX3_cut_132 ?_
              refine lv_iadd hx hb dX3_cut_135 ?_
              refine lv_aload_n hx hb dX3_cut_136 rfl (lv_at hl 1 rfl) ?_
              refine va_get (D := D) (ci := 3) (v := .ref a4) (C := RX3) (T := TX3) (N := 15) hx hb hts iw_X3_cut_X3 hown hK hP 0 rfl rfl 4 (by decide) (hts _ lk_X3_cut_Cond_fieldLink_RX3_23_SpliceRoomModel_lifted_J_) (fun _ h9 => h9) rfl dX3_cut_137 ?_
              refine lv_aload_n hx hb dX3_cut_140 rfl (lv_at hl 1 rfl) ?_
              refine va_get (D := D) (ci := 3) (v := .int (nI k)) (C := RX3) (T := TX3) (N := 15) hx hb hts iw_X3_cut_X3 hown hK hP 0 rfl rfl 11 (by decide) (hts _ lk_X3_cut_Cond_fieldLink_RX3_70_SpliceRoomModel_far_I_) (fun _ h9 => h9) rfl dX3_cut_141 ?_
              refine va_lald (D := D) hx hb hK hP 5 1 rfl rfl (vp_in_nI (show k < 40 by omega) (by decide)) dX3_cut_144 ?_
              refine lv_topl (fun y_8 e9 => ?_)
              have e9 : y_8 = fr (40 * pa + ia + k) := e9.trans (by rw [nI_clamp (by omega)]; exact hlf k hlt)
              subst e9
              refine va_last (D := D) hx hb hK hP hD hS 4 1 rfl rfl (by rw [idx40a]; exact vp_in_nI (show 40 * pb + ib + k < 280 by omega) (by decide)) dX3_cut_145 (fun H locs hP hD hS => ?_)
              have hP : va_P D vwCl [(m0, .inr (3, [.ref a0, .ref a1, .ref a2, .ref a3, .ref a4, .ref a5, .int (mi 0), .int (mi 1), .int (mi 2), .int (mi 3), .int (mi 4), .int (nI k), .int (mi 6), .int (mi 7), .int (mi 8)])), (a0, .inl (cI, 6, .inl on)), (a1, .inl (cI, 7, .inl kd)), (a2, .inl (cI, 7, .inl sz)), (a3, .inl (cL, 280, .inr (.inl (vp_updL (va_cpy fr fr (40 * pa + ia) (40 * pb + ib) k) ((((40 * (nI pb)) + (nI ib)) + (nI k)).toNatClampNeg) (fr (40 * pa + ia + k)))))), (a4, .inl (cL, 40, .inr (.inl lf))), (a5, .inl (cI, 120, .inl st))] H := hP
              have hD : va_D A [(m0, .inr (3, [.ref a0, .ref a1, .ref a2, .ref a3, .ref a4, .ref a5, .int (mi 0), .int (mi 1), .int (mi 2), .int (mi 3), .int (mi 4), .int (nI k), .int (mi 6), .int (mi 7), .int (mi 8)])), (a0, .inl (cI, 6, .inl on)), (a1, .inl (cI, 7, .inl kd)), (a2, .inl (cI, 7, .inl sz)), (a3, .inl (cL, 280, .inr (.inl (vp_updL (va_cpy fr fr (40 * pa + ia) (40 * pb + ib) k) ((((40 * (nI pb)) + (nI ib)) + (nI k)).toNatClampNeg) (fr (40 * pa + ia + k)))))), (a4, .inl (cL, 40, .inr (.inl lf))), (a5, .inl (cI, 120, .inl st))] := hD
              rw [idx40a, nI_clamp (show 40 * pb + ib + k < 2 ^ 31 by omega), cpy_s] at hP hD
              refine lv_aload_n hx hb dX3_cut_146 rfl (lv_at hl 1 rfl) ?_
              refine lv_dup hx hb dX3_cut_147 rfl ?_
              refine va_get (D := D) (ci := 3) (v := .int (nI k)) (C := RX3) (T := TX3) (N := 15) hx hb hts iw_X3_cut_X3 hown hK hP 0 rfl rfl 11 (by decide) (hts _ lk_X3_cut_Cond_fieldLink_RX3_70_SpliceRoomModel_far_I_) (fun _ h9 => h9) rfl dX3_cut_148 ?_
              refine lv_iconst (v := 1) hx hb dX3_cut_151 (by decide) ?_
              refine lv_iadd hx hb dX3_cut_152 ?_
              refine lv_topi (fun y_9 e9 => ?_)
              have e9 : y_9 = nI (k + 1) := e9.trans (nI_1 k)
              subst e9
              refine va_put (D := D) (ci := 3) (v := .int (nI (k + 1))) (ty := .int) (C := RX3) (T := TX3) (N := 15) hx hb hts iw_X3_cut_X3 tyX3 tyX3_ok nmX3 hown hK hP hD hS 0 rfl rfl 11 (by decide) (hts _ lk_X3_cut_Cond_fieldLink_RX3_70_SpliceRoomModel_far_I_) (fun _ h9 => h9) rfl (by decide +kernel) rfl rfl (Nat.le_of_ble_eq_true rfl) dX3_cut_153 (fun H locs hP hD hS => ?_)
              have hP : va_P D vwCl [(m0, .inr (3, [.ref a0, .ref a1, .ref a2, .ref a3, .ref a4, .ref a5, .int (mi 0), .int (mi 1), .int (mi 2), .int (mi 3), .int (mi 4), .int (nI (k + 1)), .int (mi 6), .int (mi 7), .int (mi 8)])), (a0, .inl (cI, 6, .inl on)), (a1, .inl (cI, 7, .inl kd)), (a2, .inl (cI, 7, .inl sz)), (a3, .inl (cL, 280, .inr (.inl (va_cpy fr fr (40 * pa + ia) (40 * pb + ib) (k + 1))))), (a4, .inl (cL, 40, .inr (.inl lf))), (a5, .inl (cI, 120, .inl st))] H := hP
              have hD : va_D A [(m0, .inr (3, [.ref a0, .ref a1, .ref a2, .ref a3, .ref a4, .ref a5, .int (mi 0), .int (mi 1), .int (mi 2), .int (mi 3), .int (mi 4), .int (nI (k + 1)), .int (mi 6), .int (mi 7), .int (mi 8)])), (a0, .inl (cI, 6, .inl on)), (a1, .inl (cI, 7, .inl kd)), (a2, .inl (cI, 7, .inl sz)), (a3, .inl (cL, 280, .inr (.inl (va_cpy fr fr (40 * pa + ia) (40 * pb + ib) (k + 1))))), (a4, .inl (cL, 40, .inr (.inl lf))), (a5, .inl (cI, 120, .inl st))] := hD
              refine lv_goto (tgt := 65) hx hb dX3_cut_156 (by decide) ?_
              exact ih (k + 1) lf _ _ _ (by omega) (by omega) hlf (fun t ht => by by_cases e9 : t = k; (rw [e9]; exact fun z9 => c_105 z9.2); exact hmt t (by omega)) (lv_sub hl [0, 1, 2, 3, 4, 5, 6] rfl) hP hD hS
            · have c_105 := tB_n.mp c_105
              refine lv_bipush (v := (-4)) hx hb dX3_cut_108 (by decide) ?_
              refine lv_istore (lv' := [(6, .int (-4)), (0, .ref m0), (1, .int (nI j1)), (2, .int (nI ia)), (3, .int (nI j2)), (4, .int (nI ib)), (5, .int (nI n1))]) hx hb dX3_cut_110 hl (by decide) rfl (fun ls hl => ?_)
              refine lv_goto (tgt := 65) hx hb dX3_cut_112 (by decide) ?_
              refine lv_aload_n hx hb dX3_cut_65 rfl (lv_at hl 1 rfl) ?_
              refine va_get (D := D) (ci := 3) (v := .int (nI k)) (C := RX3) (T := TX3) (N := 15) hx hb hts iw_X3_cut_X3 hown hK hP 0 rfl rfl 11 (by decide) (hts _ lk_X3_cut_Cond_fieldLink_RX3_70_SpliceRoomModel_far_I_) (fun _ h9 => h9) rfl dX3_cut_66 ?_
              refine lv_iload hx hb dX3_cut_69 (lv_at hl 6 rfl) ?_
              refine lv_icmp_ge (tgt := 159) hx hb dX3_cut_71 (by decide) (fun c9 => absurd c9 (fun z9 => absurd ((nI_leI (by omega) (by omega)).mp z9) (by omega))) (fun _ => ?_)
              refine lv_iload hx hb dX3_cut_74 (lv_at hl 0 rfl) ?_
              refine lv_if_ne (tgt := 159) hx hb dX3_cut_76 (by decide) (fun _ => ?_) (fun c9 => absurd c9 (by decide))
              refine lv_aload_n hx hb dX3_cut_159 rfl (lv_at hl 1 rfl) ?_
              refine lv_dup hx hb dX3_cut_160 rfl ?_
              refine va_get (D := D) (ci := 3) (v := .int (mi 2)) (C := RX3) (T := TX3) (N := 15) hx hb hts iw_X3_cut_X3 hown hK hP 0 rfl rfl 8 (by decide) (hts _ lk_X3_cut_Cond_fieldLink_RX3_73_SpliceRoomModel_laid_I_) (fun _ h9 => h9) rfl dX3_cut_161 ?_
              refine lv_aload_n hx hb dX3_cut_164 rfl (lv_at hl 1 rfl) ?_
              refine va_get (D := D) (ci := 3) (v := .int (nI k)) (C := RX3) (T := TX3) (N := 15) hx hb hts iw_X3_cut_X3 hown hK hP 0 rfl rfl 11 (by decide) (hts _ lk_X3_cut_Cond_fieldLink_RX3_70_SpliceRoomModel_far_I_) (fun _ h9 => h9) rfl dX3_cut_165 ?_
              refine lv_iadd hx hb dX3_cut_168 ?_
              refine va_put (D := D) (ci := 3) (v := .int ((mi 2) + (nI k))) (ty := .int) (C := RX3) (T := TX3) (N := 15) hx hb hts iw_X3_cut_X3 tyX3 tyX3_ok nmX3 hown hK hP hD hS 0 rfl rfl 8 (by decide) (hts _ lk_X3_cut_Cond_fieldLink_RX3_73_SpliceRoomModel_laid_I_) (fun _ h9 => h9) rfl (by decide +kernel) rfl rfl (Nat.le_of_ble_eq_true rfl) dX3_cut_169 (fun H locs hP hD hS => ?_)
              have hP : va_P D vwCl [(m0, .inr (3, [.ref a0, .ref a1, .ref a2, .ref a3, .ref a4, .ref a5, .int (mi 0), .int (mi 1), .int ((mi 2) + (nI k)), .int (mi 3), .int (mi 4), .int (nI k), .int (mi 6), .int (mi 7), .int (mi 8)])), (a0, .inl (cI, 6, .inl on)), (a1, .inl (cI, 7, .inl kd)), (a2, .inl (cI, 7, .inl sz)), (a3, .inl (cL, 280, .inr (.inl (va_cpy fr fr (40 * pa + ia) (40 * pb + ib) k)))), (a4, .inl (cL, 40, .inr (.inl lf))), (a5, .inl (cI, 120, .inl st))] H := hP
              have hD : va_D A [(m0, .inr (3, [.ref a0, .ref a1, .ref a2, .ref a3, .ref a4, .ref a5, .int (mi 0), .int (mi 1), .int ((mi 2) + (nI k)), .int (mi 3), .int (mi 4), .int (nI k), .int (mi 6), .int (mi 7), .int (mi 8)])), (a0, .inl (cI, 6, .inl on)), (a1, .inl (cI, 7, .inl kd)), (a2, .inl (cI, 7, .inl sz)), (a3, .inl (cL, 280, .inr (.inl (va_cpy fr fr (40 * pa + ia) (40 * pb + ib) k)))), (a4, .inl (cL, 40, .inr (.inl lf))), (a5, .inl (cI, 120, .inl st))] := hD
              refine lv_aload_n hx hb dX3_cut_172 rfl (lv_at hl 1 rfl) ?_
              refine lv_iload hx hb dX3_cut_173 (lv_at hl 0 rfl) ?_
              refine lv_if_ge (tgt := 187) hx hb dX3_cut_175 (by decide) (fun c9 => absurd c9 (by decide)) (fun _ => ?_)
              refine lv_aload_n hx hb dX3_cut_178 rfl (lv_at hl 1 rfl) ?_
              refine va_get (D := D) (ci := 3) (v := .int (mi 3)) (C := RX3) (T := TX3) (N := 15) hx hb hts iw_X3_cut_X3 hown hK hP 0 rfl rfl 9 (by decide) (hts _ lk_X3_cut_Cond_fieldLink_RX3_76_SpliceRoomModel_jams_I_) (fun _ h9 => h9) rfl dX3_cut_179 ?_
              refine lv_iconst (v := 1) hx hb dX3_cut_182 (by decide) ?_
              refine lv_iadd hx hb dX3_cut_183 ?_
              refine lv_goto (tgt := 191) hx hb dX3_cut_184 (by decide) ?_
              refine va_put (D := D) (ci := 3) (v := .int ((mi 3) + 1)) (ty := .int) (C := RX3) (T := TX3) (N := 15) hx hb hts iw_X3_cut_X3 tyX3 tyX3_ok nmX3 hown hK hP hD hS 0 rfl rfl 9 (by decide) (hts _ lk_X3_cut_Cond_fieldLink_RX3_76_SpliceRoomModel_jams_I_) (fun _ h9 => h9) rfl (by decide +kernel) rfl rfl (Nat.le_of_ble_eq_true rfl) dX3_cut_191 (fun H locs hP hD hS => ?_)
              have hP : va_P D vwCl [(m0, .inr (3, [.ref a0, .ref a1, .ref a2, .ref a3, .ref a4, .ref a5, .int (mi 0), .int (mi 1), .int ((mi 2) + (nI k)), .int ((mi 3) + 1), .int (mi 4), .int (nI k), .int (mi 6), .int (mi 7), .int (mi 8)])), (a0, .inl (cI, 6, .inl on)), (a1, .inl (cI, 7, .inl kd)), (a2, .inl (cI, 7, .inl sz)), (a3, .inl (cL, 280, .inr (.inl (va_cpy fr fr (40 * pa + ia) (40 * pb + ib) k)))), (a4, .inl (cL, 40, .inr (.inl lf))), (a5, .inl (cI, 120, .inl st))] H := hP
              have hD : va_D A [(m0, .inr (3, [.ref a0, .ref a1, .ref a2, .ref a3, .ref a4, .ref a5, .int (mi 0), .int (mi 1), .int ((mi 2) + (nI k)), .int ((mi 3) + 1), .int (mi 4), .int (nI k), .int (mi 6), .int (mi 7), .int (mi 8)])), (a0, .inl (cI, 6, .inl on)), (a1, .inl (cI, 7, .inl kd)), (a2, .inl (cI, 7, .inl sz)), (a3, .inl (cL, 280, .inr (.inl (va_cpy fr fr (40 * pa + ia) (40 * pb + ib) k)))), (a4, .inl (cL, 40, .inr (.inl lf))), (a5, .inl (cI, 120, .inl st))] := hD
              refine lv_aload_n hx hb dX3_cut_194 rfl (lv_at hl 1 rfl) ?_
              refine lv_iload hx hb dX3_cut_195 (lv_at hl 0 rfl) ?_
              refine lv_if_ge (tgt := 209) hx hb dX3_cut_197 (by decide) (fun c9 => absurd c9 (by decide)) (fun _ => ?_)
              refine lv_aload_n hx hb dX3_cut_200 rfl (lv_at hl 1 rfl) ?_
              refine va_get (D := D) (ci := 3) (v := .int (mi 4)) (C := RX3) (T := TX3) (N := 15) hx hb hts iw_X3_cut_X3 hown hK hP 0 rfl rfl 10 (by decide) (hts _ lk_X3_cut_Cond_fieldLink_RX3_79_SpliceRoomModel_inRow_I_) (fun _ h9 => h9) rfl dX3_cut_201 ?_
              refine lv_iconst (v := 1) hx hb dX3_cut_204 (by decide) ?_
              refine lv_iadd hx hb dX3_cut_205 ?_
              refine lv_goto (tgt := 210) hx hb dX3_cut_206 (by decide) ?_
              refine va_put (D := D) (ci := 3) (v := .int ((mi 4) + 1)) (ty := .int) (C := RX3) (T := TX3) (N := 15) hx hb hts iw_X3_cut_X3 tyX3 tyX3_ok nmX3 hown hK hP hD hS 0 rfl rfl 10 (by decide) (hts _ lk_X3_cut_Cond_fieldLink_RX3_79_SpliceRoomModel_inRow_I_) (fun _ h9 => h9) rfl (by decide +kernel) rfl rfl (Nat.le_of_ble_eq_true rfl) dX3_cut_210 (fun H locs hP hD hS => ?_)
              have hP : va_P D vwCl [(m0, .inr (3, [.ref a0, .ref a1, .ref a2, .ref a3, .ref a4, .ref a5, .int (mi 0), .int (mi 1), .int ((mi 2) + (nI k)), .int ((mi 3) + 1), .int ((mi 4) + 1), .int (nI k), .int (mi 6), .int (mi 7), .int (mi 8)])), (a0, .inl (cI, 6, .inl on)), (a1, .inl (cI, 7, .inl kd)), (a2, .inl (cI, 7, .inl sz)), (a3, .inl (cL, 280, .inr (.inl (va_cpy fr fr (40 * pa + ia) (40 * pb + ib) k)))), (a4, .inl (cL, 40, .inr (.inl lf))), (a5, .inl (cI, 120, .inl st))] H := hP
              have hD : va_D A [(m0, .inr (3, [.ref a0, .ref a1, .ref a2, .ref a3, .ref a4, .ref a5, .int (mi 0), .int (mi 1), .int ((mi 2) + (nI k)), .int ((mi 3) + 1), .int ((mi 4) + 1), .int (nI k), .int (mi 6), .int (mi 7), .int (mi 8)])), (a0, .inl (cI, 6, .inl on)), (a1, .inl (cI, 7, .inl kd)), (a2, .inl (cI, 7, .inl sz)), (a3, .inl (cL, 280, .inr (.inl (va_cpy fr fr (40 * pa + ia) (40 * pb + ib) k)))), (a4, .inl (cL, 40, .inr (.inl lf))), (a5, .inl (cI, 120, .inl st))] := hD
              refine lv_aload_n hx hb dX3_cut_213 rfl (lv_at hl 1 rfl) ?_
              refine lv_iload hx hb dX3_cut_214 (lv_at hl 0 rfl) ?_
              refine lv_if_ge (tgt := 226) hx hb dX3_cut_216 (by decide) (fun c9 => absurd c9 (by decide)) (fun _ => ?_)
              refine lv_aload_n hx hb dX3_cut_219 rfl (lv_at hl 1 rfl) ?_
              refine va_get (D := D) (ci := 3) (v := .int (mi 1)) (C := RX3) (T := TX3) (N := 15) hx hb hts iw_X3_cut_X3 hown hK hP 0 rfl rfl 7 (by decide) (hts _ lk_X3_cut_Cond_fieldLink_RX3_82_SpliceRoomModel_well_I_) (fun _ h9 => h9) rfl dX3_cut_220 ?_
              refine lv_goto (tgt := 232) hx hb dX3_cut_223 (by decide) ?_
              refine va_put (D := D) (ci := 3) (v := .int (mi 1)) (ty := .int) (C := RX3) (T := TX3) (N := 15) hx hb hts iw_X3_cut_X3 tyX3 tyX3_ok nmX3 hown hK hP hD hS 0 rfl rfl 7 (by decide) (hts _ lk_X3_cut_Cond_fieldLink_RX3_82_SpliceRoomModel_well_I_) (fun _ h9 => h9) rfl (by decide +kernel) rfl rfl (Nat.le_of_ble_eq_true rfl) dX3_cut_232 (fun H locs hP hD hS => ?_)
              have hP : va_P D vwCl [(m0, .inr (3, [.ref a0, .ref a1, .ref a2, .ref a3, .ref a4, .ref a5, .int (mi 0), .int (mi 1), .int ((mi 2) + (nI k)), .int ((mi 3) + 1), .int ((mi 4) + 1), .int (nI k), .int (mi 6), .int (mi 7), .int (mi 8)])), (a0, .inl (cI, 6, .inl on)), (a1, .inl (cI, 7, .inl kd)), (a2, .inl (cI, 7, .inl sz)), (a3, .inl (cL, 280, .inr (.inl (va_cpy fr fr (40 * pa + ia) (40 * pb + ib) k)))), (a4, .inl (cL, 40, .inr (.inl lf))), (a5, .inl (cI, 120, .inl st))] H := hP
              have hD : va_D A [(m0, .inr (3, [.ref a0, .ref a1, .ref a2, .ref a3, .ref a4, .ref a5, .int (mi 0), .int (mi 1), .int ((mi 2) + (nI k)), .int ((mi 3) + 1), .int ((mi 4) + 1), .int (nI k), .int (mi 6), .int (mi 7), .int (mi 8)])), (a0, .inl (cI, 6, .inl on)), (a1, .inl (cI, 7, .inl kd)), (a2, .inl (cI, 7, .inl sz)), (a3, .inl (cL, 280, .inr (.inl (va_cpy fr fr (40 * pa + ia) (40 * pb + ib) k)))), (a4, .inl (cL, 40, .inr (.inl lf))), (a5, .inl (cI, 120, .inl st))] := hD
              refine lv_aload_n hx hb dX3_cut_235 rfl (lv_at hl 1 rfl) ?_
              refine lv_iload hx hb dX3_cut_236 (lv_at hl 0 rfl) ?_
              refine lv_if_ge (tgt := 246) hx hb dX3_cut_238 (by decide) (fun c9 => absurd c9 (by decide)) (fun _ => ?_)
              refine lv_iload hx hb dX3_cut_241 (lv_at hl 0 rfl) ?_
              refine lv_goto (tgt := 248) hx hb dX3_cut_243 (by decide) ?_
              refine va_put (D := D) (ci := 3) (v := .int (-4)) (ty := .int) (C := RX3) (T := TX3) (N := 15) hx hb hts iw_X3_cut_X3 tyX3 tyX3_ok nmX3 hown hK hP hD hS 0 rfl rfl 12 (by decide) (hts _ lk_X3_cut_Cond_fieldLink_RX3_85_SpliceRoomModel_told_I_) (fun _ h9 => h9) rfl (by decide +kernel) rfl rfl (Nat.le_of_ble_eq_true rfl) dX3_cut_248 (fun H locs hP hD hS => ?_)
              have hP : va_P D vwCl [(m0, .inr (3, [.ref a0, .ref a1, .ref a2, .ref a3, .ref a4, .ref a5, .int (mi 0), .int (mi 1), .int ((mi 2) + (nI k)), .int ((mi 3) + 1), .int ((mi 4) + 1), .int (nI k), .int (-4), .int (mi 7), .int (mi 8)])), (a0, .inl (cI, 6, .inl on)), (a1, .inl (cI, 7, .inl kd)), (a2, .inl (cI, 7, .inl sz)), (a3, .inl (cL, 280, .inr (.inl (va_cpy fr fr (40 * pa + ia) (40 * pb + ib) k)))), (a4, .inl (cL, 40, .inr (.inl lf))), (a5, .inl (cI, 120, .inl st))] H := hP
              have hD : va_D A [(m0, .inr (3, [.ref a0, .ref a1, .ref a2, .ref a3, .ref a4, .ref a5, .int (mi 0), .int (mi 1), .int ((mi 2) + (nI k)), .int ((mi 3) + 1), .int ((mi 4) + 1), .int (nI k), .int (-4), .int (mi 7), .int (mi 8)])), (a0, .inl (cI, 6, .inl on)), (a1, .inl (cI, 7, .inl kd)), (a2, .inl (cI, 7, .inl sz)), (a3, .inl (cL, 280, .inr (.inl (va_cpy fr fr (40 * pa + ia) (40 * pb + ib) k)))), (a4, .inl (cL, 40, .inr (.inl lf))), (a5, .inl (cI, 120, .inl st))] := hD
              refine lv_aload_n hx hb dX3_cut_251 rfl (lv_at hl 1 rfl) ?_
              refine va_get (D := D) (ci := 3) (v := .int (-4)) (C := RX3) (T := TX3) (N := 15) hx hb hts iw_X3_cut_X3 hown hK hP 0 rfl rfl 12 (by decide) (hts _ lk_X3_cut_Cond_fieldLink_RX3_85_SpliceRoomModel_told_I_) (fun _ h9 => h9) rfl dX3_cut_252 ?_
              exact W.iret (v := (-4)) hx hb hr (fun t ht hW => ⟨⟨_, (on, kd, sz, va_cpy fr fr (40 * pa + ia) (40 * pb + ib) k, lf, st, mi9 (mi 0) (mi 1) ((mi 2) + (nI k)) ((mi 3) + 1) ((mi 4) + 1) (nI k) (-4) (mi 7) (mi 8)), rfl, Or.inr ⟨pa, pb, za, zb, ia, ib, n1, k, lf, hn0, hn2, ⟨hpa, hpb⟩, ⟨hza, hzb⟩, ⟨epa, epb⟩, ⟨eza, ezb⟩, ⟨rfl, rfl, rfl⟩, ⟨hb1, hb2⟩, ⟨hk, hmt, fun _ z9 => z9 ⟨c_85, c_105⟩⟩, Or.inl ⟨hlt, rfl, rfl⟩⟩, ⟨by rw [ht]; exact hP, hD⟩⟩, hS.F ht⟩) hS.2.2 dX3_cut_255
    have loop1 : ∀ (n k : Nat) (lf : Nat → Int64) (H : Heap) (locs : List Loc) (ls : Array Slot), k ≤ n1 → n1 + 1 ≤ k + n → (∀ t, t < k → lf t = fr (40 * pa + ia + t)) → lv_has ls 8 [(7, .int (nI k)), (6, .int 0), (0, .ref m0), (1, .int (nI j1)), (2, .int (nI ia)), (3, .int (nI j2)), (4, .int (nI ib)), (5, .int (nI n1))] → va_P D vwCl [(m0, .inr (3, [.ref a0, .ref a1, .ref a2, .ref a3, .ref a4, .ref a5, .int (mi 0), .int (mi 1), .int (mi 2), .int (mi 3), .int (mi 4), .int 0, .int (mi 6), .int (mi 7), .int (mi 8)])), (a0, .inl (cI, 6, .inl on)), (a1, .inl (cI, 7, .inl kd)), (a2, .inl (cI, 7, .inl sz)), (a3, .inl (cL, 280, .inr (.inl fr))), (a4, .inl (cL, 40, .inr (.inl lf))), (a5, .inl (cI, 120, .inl st))] H → va_D A [(m0, .inr (3, [.ref a0, .ref a1, .ref a2, .ref a3, .ref a4, .ref a5, .int (mi 0), .int (mi 1), .int (mi 2), .int (mi 3), .int (mi 4), .int 0, .int (mi 6), .int (mi 7), .int (mi 8)])), (a0, .inl (cI, 6, .inl on)), (a1, .inl (cI, 7, .inl kd)), (a2, .inl (cI, 7, .inl sz)), (a3, .inl (cL, 280, .inr (.inl fr))), (a4, .inl (cL, 40, .inr (.inl lf))), (a5, .inl (cI, 120, .inl st))] → va_S A s.heap H locs → W p l e (headSpec wsX3_cut ({ frames := 2, cells := 0, slots := 0, locals := 80 })).room s m ([.ref m0, .int (nI j1), .int (nI ia), .int (nI j2), .int (nI ib), .int (nI n1)] : List Value).toArray below meth c H locs 0 0 (MQ below (va_Qi (fun (r : Int32) (u : MS) => MCut on kd sz fr li st mi j1 j2 (nI ia) (nI ib) (nI n1) r u) (fun (u : MS) (t : State) => va_P D vwCl [(m0, .inr (3, [.ref a0, .ref a1, .ref a2, .ref a3, .ref a4, .ref a5, .int (u.2.2.2.2.2.2 0), .int (u.2.2.2.2.2.2 1), .int (u.2.2.2.2.2.2 2), .int (u.2.2.2.2.2.2 3), .int (u.2.2.2.2.2.2 4), .int (u.2.2.2.2.2.2 5), .int (u.2.2.2.2.2.2 6), .int (u.2.2.2.2.2.2 7), .int (u.2.2.2.2.2.2 8)])), (a0, .inl (cI, 6, .inl u.1)), (a1, .inl (cI, 7, .inl u.2.1)), (a2, .inl (cI, 7, .inl u.2.2.1)), (a3, .inl (cL, 280, .inr (.inl u.2.2.2.1))), (a4, .inl (cL, 40, .inr (.inl u.2.2.2.2.1))), (a5, .inl (cI, 120, .inl u.2.2.2.2.2.1))] t.heap ∧ va_D A [(m0, .inr (3, [.ref a0, .ref a1, .ref a2, .ref a3, .ref a4, .ref a5, .int (u.2.2.2.2.2.2 0), .int (u.2.2.2.2.2.2 1), .int (u.2.2.2.2.2.2 2), .int (u.2.2.2.2.2.2 3), .int (u.2.2.2.2.2.2 4), .int (u.2.2.2.2.2.2 5), .int (u.2.2.2.2.2.2 6), .int (u.2.2.2.2.2.2 7), .int (u.2.2.2.2.2.2 8)])), (a0, .inl (cI, 6, .inl u.1)), (a1, .inl (cI, 7, .inl u.2.1)), (a2, .inl (cI, 7, .inl u.2.2.1)), (a3, .inl (cL, 280, .inr (.inl u.2.2.2.1))), (a4, .inl (cL, 40, .inr (.inl u.2.2.2.2.1))), (a5, .inl (cI, 120, .inl u.2.2.2.2.2.1))]) A) ([.ref m0, .int (nI j1), .int (nI ia), .int (nI j2), .int (nI ib), .int (nI n1)] : List Value).toArray s 0 0 A) (F0 m 26 ls []) := by
      intro n
      induction n with
      | zero => intro k lf H locs ls h1 h2; exact absurd h2 (by omega)
      | succ n ih =>
        intro k lf H locs ls hk hn hlf hl hP hD hS
        refine lv_iload hx hb dX3_cut_26 (lv_at hl 0 rfl) ?_
        refine lv_iload hx hb dX3_cut_28 (lv_at hl 7 rfl) ?_
        refine lv_icmp_ge (tgt := 65) hx hb dX3_cut_30 (by decide) (fun c_30 => ?_) (fun c_30 => ?_)
        · have ekn : k = n1 := by have := (nI_leI (a := n1) (b := k) (by omega) (by omega)).mp c_30; omega
          subst ekn
          refine loop2 (k + 1) 0 lf _ _ _ (by omega) (by omega) hlf (fun t ht => absurd ht (by omega)) (lv_sub hl [1, 2, 3, 4, 5, 6, 7] rfl) ?_ ?_ hS
          · rw [cpy_0]; exact hP
          · rw [cpy_0]; exact hD
        · have hlt : k < n1 := Nat.lt_of_not_le (fun z9 => c_30 (nI_le z9 (by omega)))
          refine lv_aload_n hx hb dX3_cut_33 rfl (lv_at hl 2 rfl) ?_
          refine va_get (D := D) (ci := 3) (v := .ref a4) (C := RX3) (T := TX3) (N := 15) hx hb hts iw_X3_cut_X3 hown hK hP 0 rfl rfl 4 (by decide) (hts _ lk_X3_cut_Cond_fieldLink_RX3_23_SpliceRoomModel_lifted_J_) (fun _ h9 => h9) rfl dX3_cut_34 ?_
          refine lv_iload hx hb dX3_cut_37 (lv_at hl 0 rfl) ?_
          refine lv_aload_n hx hb dX3_cut_39 rfl (lv_at hl 2 rfl) ?_
          refine va_get (D := D) (ci := 3) (v := .ref a3) (C := RX3) (T := TX3) (N := 15) hx hb hts iw_X3_cut_X3 hown hK hP 0 rfl rfl 3 (by decide) (hts _ lk_X3_cut_Cond_fieldLink_RX3_19_SpliceRoomModel_frames_J_) (fun _ h9 => h9) rfl dX3_cut_40 ?_
          refine lv_bipush (v := 40) hx hb dX3_cut_43 (by decide) ?_
          refine lv_aload_n hx hb dX3_cut_45 rfl (lv_at hl 2 rfl) ?_
          refine va_get (D := D) (ci := 3) (v := .ref a0) (C := RX3) (T := TX3) (N := 15) hx hb hts iw_X3_cut_X3 hown hK hP 0 rfl rfl 0 (by decide) (hts _ lk_X3_cut_Cond_fieldLink_RX3_7_SpliceRoomModel_on_I_) (fun _ h9 => h9) rfl dX3_cut_46 ?_
          refine lv_iload_n hx hb dX3_cut_49 rfl (lv_at hl 3 rfl) ?_
          refine va_iald (D := D) hx hb hK hP 1 0 rfl rfl (vp_in_nI h1 (by decide)) dX3_cut_50 ?_
          refine lv_topi (fun y_10 e9 => ?_)
          have e9 : y_10 = nI pa := e9.trans (by rw [nI_clamp (by omega)]; exact epa)
          subst e9
          refine lv_imul hx hb dX3_cut_51 ?_
          refine lv_iload_n hx hb dX3_cut_52 rfl (lv_at hl 4 rfl) ?_
          refine lv_iadd hx hb dX3_cut_53 ?_
          refine lv_iload hx hb dX3_cut_54 (lv_at hl 0 rfl) ?_
          refine lv_iadd hx hb dX3_cut_56 ?_
          refine va_lald (D := D) hx hb hK hP 4 1 rfl rfl (by rw [idx40a]; exact vp_in_nI (show 40 * pa + ia + k < 280 by omega) (by decide)) dX3_cut_57 ?_
          refine lv_topl (fun y_11 e9 => ?_)
          have e9 : y_11 = fr (40 * pa + ia + k) := e9.trans (by rw [idx40a, nI_clamp (by omega)])
          subst e9
          refine va_last (D := D) hx hb hK hP hD hS 5 1 rfl rfl (vp_in_nI (show k < 40 by omega) (by decide)) dX3_cut_58 (fun H locs hP hD hS => ?_)
          have hP : va_P D vwCl [(m0, .inr (3, [.ref a0, .ref a1, .ref a2, .ref a3, .ref a4, .ref a5, .int (mi 0), .int (mi 1), .int (mi 2), .int (mi 3), .int (mi 4), .int 0, .int (mi 6), .int (mi 7), .int (mi 8)])), (a0, .inl (cI, 6, .inl on)), (a1, .inl (cI, 7, .inl kd)), (a2, .inl (cI, 7, .inl sz)), (a3, .inl (cL, 280, .inr (.inl fr))), (a4, .inl (cL, 40, .inr (.inl (vp_updL lf ((nI k).toNatClampNeg) (fr (40 * pa + ia + k)))))), (a5, .inl (cI, 120, .inl st))] H := hP
          have hD : va_D A [(m0, .inr (3, [.ref a0, .ref a1, .ref a2, .ref a3, .ref a4, .ref a5, .int (mi 0), .int (mi 1), .int (mi 2), .int (mi 3), .int (mi 4), .int 0, .int (mi 6), .int (mi 7), .int (mi 8)])), (a0, .inl (cI, 6, .inl on)), (a1, .inl (cI, 7, .inl kd)), (a2, .inl (cI, 7, .inl sz)), (a3, .inl (cL, 280, .inr (.inl fr))), (a4, .inl (cL, 40, .inr (.inl (vp_updL lf ((nI k).toNatClampNeg) (fr (40 * pa + ia + k)))))), (a5, .inl (cI, 120, .inl st))] := hD
          rw [nI_clamp (show k < 2 ^ 31 by omega)] at hP hD
          refine lv_iinc (v := nI (k + 1)) (lv' := [(7, .int (nI (k + 1))), (6, .int 0), (0, .ref m0), (1, .int (nI j1)), (2, .int (nI ia)), (3, .int (nI j2)), (4, .int (nI ib)), (5, .int (nI n1))]) hx hb dX3_cut_59 hl (k := 0) rfl (nI_1 k) (by decide) rfl (fun ls hl => ?_)
          refine lv_goto (tgt := 26) hx hb dX3_cut_62 (by decide) ?_
          refine ih (k + 1) _ _ _ _ (by omega) (by omega) (fun t ht => ?_) (lv_sub hl [0, 1, 2, 3, 4, 5, 6, 7] rfl) hP hD hS
          by_cases e9 : t = k
          · rw [e9, pk_uLs]
          · rw [pk_uLn e9]; exact hlf t (by omega)
    exact loop1 (n1 + 1) 0 _ _ _ _ (by omega) (by omega) (fun t ht => absurd ht (by omega)) (lv_sub hl [0, 1, 2, 3, 4, 5, 6, 7] rfl) hP hD hS
end CModel4
