section CLaw2
theorem lk_L_law_88 : Cond.constantLong RL 88 4294967295 ∈ wsL_law := List.mem_of_getElem? (i := 7) (by decide +kernel)
section L
variable {p : Program} {l : Launch} {e : Env} {R : Room} {s : State} {m : MethodId} {args : Array Value} {below : List Frame} {meth : Method} {c : Code} {H : Heap} {locs : List Loc} {cells slots : Nat} {Q : State → Prop}
variable {cc : ByteArray} {pc : Nat} {ls : Array Slot} {rest : List Value} {A : Nat → Prop} {H0 : Heap}
/-- a read of the script, under a name -/
theorem ld_g (hexec : p.tables.exec = Jvm.exec) (hb : c.code = cc) {b L : Nat} {xs : Nat → Int32} (hX : va_X b L xs s H0) (hbl : b < H0.size) (hbA : ¬ A b) (hS : va_S A H0 H locs) {i g : Int32} (hg : g = xs i.toNatClampNeg) (hin : vp_in i L) (hdg : decode cc pc = .ok (.iaload, 1))
    (kk : W p l e R s m args below meth c H locs cells slots Q (F0 m (pc + 1) ls (.int g :: rest))) : W p l e R s m args below meth c H locs cells slots Q (F0 m pc ls (.int i :: .ref b :: rest)) := by
  subst hg
  exact va_sld hexec hb hX hbl hbA hS hin hdg kk
end L
set_option maxHeartbeats 4000000 in
set_option maxRecDepth 100000 in
theorem lc_wind {p : Program} {l : Launch} {e : Env} {s : State} {m : MethodId} {args : Array Value} {below : List Frame} {meth : Method} {c : Code} {Q : State → Prop} {D : va_G} {cI cL cQ : ClassId} {sa : Nat → Nat} {b L : Nat} {xs : Nat → Int32} (K0 : LC p l s m args c D cI cL cQ sa b L xs) {x ah ak b0 b1 b2 b3 b4 m0 a0 a1 a2 a3 a4 a5 o : Nat} {n : Nat} (hlt : 6 * n + 6 ≤ L) {cs : CS} {v : MS} {F : Nat → Prop} {fo : Nat → Int64} {H : Heap} {locs : List Loc} {ls : Array Slot} (I : LI D cI cL cQ s.heap.size x ah ak b0 b1 b2 b3 b4 m0 a0 a1 a2 a3 a4 a5 o F cs v fo H) (R : Rel cs v) (hS : va_S (fun q => s.heap.size ≤ q) s.heap H locs) (hl : lv_has ls 8 [(4, .int (nI (6 * n))), (3, .ref o), (2, .ref m0), (1, .ref x), (0, .ref b)])
    (kk : ∀ (F1 : Nat → Prop) (cs1 : CS) (v1 : MS) (fo1 : Nat → Int64) (H1 : Heap) (locs1 : List Loc) (ls1 : Array Slot), LI D cI cL cQ s.heap.size x ah ak b0 b1 b2 b3 b4 m0 a0 a1 a2 a3 a4 a5 o F1 cs1 v1 fo1 H1 → Rel cs1 v1 → va_S (fun q => s.heap.size ≤ q) s.heap H1 locs1 → lv_has ls1 8 [(4, .int (nI (6 * n))), (3, .ref o), (2, .ref m0), (1, .ref x), (0, .ref b)] → W p l e room_1 s m args below meth c H1 locs1 (20 + 4 * (n + 1)) (1000 + 54 * (n + 1)) Q (F0 m 1197 ls1 [])) : W p l e room_1 s m args below meth c H locs (20 + 4 * n) (1000 + 54 * n) Q (F0 m 116 ls []) := by
  obtain ⟨hx, hb, hml, hown, hts, hC, hl0, hX, hbl, hL⟩ := K0
  have hK := hC.K
  have hbA : ¬ s.heap.size ≤ b := Nat.not_le_of_lt hbl
  have hN : ∀ q : Nat, s.heap.size ≤ q → s.heap.size ≤ q := fun _ z => z
  obtain ⟨hk, re, kn, sh, k⟩ := cs
  obtain ⟨on, kd, sz, fr, li, st, mi⟩ := v
  obtain ⟨g1, hg1⟩ : ∃ g : Int32, g = xs (nI (6 * n) + 1).toNatClampNeg := ⟨_, rfl⟩
  obtain ⟨g2, hg2⟩ : ∃ g : Int32, g = xs (nI (6 * n) + 2).toNatClampNeg := ⟨_, rfl⟩
  obtain ⟨g3, hg3⟩ : ∃ g : Int32, g = xs (nI (6 * n) + 3).toNatClampNeg := ⟨_, rfl⟩
  refine lv_aload_n hx hb dL_law_116 rfl (lv_at hl 3 rfl) ?_
  refine lv_aload_n hx hb dL_law_117 rfl (lv_at hl 4 rfl) ?_
  refine lv_iload hx hb dL_law_118 (lv_at hl 0 rfl) ?_
  refine lv_iconst (v := 1) hx hb dL_law_120 (by decide) ?_
  refine lv_iadd hx hb dL_law_121 ?_
  refine ld_g hx hb hX hbl hbA hS hg1 (vin (k := 1) (by decide) hlt hL) dL_law_122 ?_
  refine lv_aload_n hx hb dL_law_123 rfl (lv_at hl 4 rfl) ?_
  refine lv_iload hx hb dL_law_124 (lv_at hl 0 rfl) ?_
  refine lv_iconst (v := 2) hx hb dL_law_126 (by decide) ?_
  refine lv_iadd hx hb dL_law_127 ?_
  refine ld_g hx hb hX hbl hbA hS hg2 (vin (k := 2) (by decide) hlt hL) dL_law_128 ?_
  refine lv_aload_n hx hb dL_law_129 rfl (lv_at hl 4 rfl) ?_
  refine lv_iload hx hb dL_law_130 (lv_at hl 0 rfl) ?_
  refine lv_iconst (v := 3) hx hb dL_law_132 (by decide) ?_
  refine lv_iadd hx hb dL_law_133 ?_
  refine ld_g hx hb hX hbl hbA hS hg3 (vin (k := 3) (by decide) hlt hL) dL_law_134 ?_
  refine lv_aload_n hx hb dL_law_135 rfl (lv_at hl 1 rfl) ?_
  have hS0 := hS.1
  refine va_calli (vx_runSW (As := [.ref x, .int g1, .int g2, .int g3, .ref o]) (rest := []) ⟨hx, hb, hml, hown, hts⟩ (c_L_wind l hl0 I.1 (I.NF hS.1) I.2.2.2.1 I.2.2.2.2.2.2.1 I.2.2.2.2.2.2.2) (vx_cwSW 5 hts gL_law_L_wind rfl rfl rfl (by decide +kernel) ⟨Nat.le_of_ble_eq_true rfl, Nat.le_of_ble_eq_true rfl⟩) (Pq.S hC hS hN) rfl rfl hl.1 rfl (lv_room (Nat.le_of_ble_eq_true rfl)) dL_law_136 ⟨fit_c (by omega), fit_s (by omega)⟩) hS (fun q _ z => I.NO hS.1 q z) (I.NO hS.1) (fun r u t H1 locs ht hvm hw hB hz1 hk1 hS => ?_)
  rw [ht] at hB
  have I1 : LI D cI cL cQ s.heap.size x ah ak b0 b1 b2 b3 b4 m0 a0 a1 a2 a3 a4 a5 o (fun q => F q ∨ H.size ≤ q) u.1 (on, kd, sz, fr, li, st, mi) u.2 H1 := I.cls hS0 hk1 hB.1 hB.2
  refine lv_istore (lv' := [(5, .int r), (4, .int (nI (6 * n))), (3, .ref o), (2, .ref m0), (1, .ref x), (0, .ref b)]) hx hb dL_law_139 hl (by decide) rfl (fun ls hl => ?_)
  refine lv_aload_n hx hb dL_law_141 rfl (lv_at hl 3 rfl) ?_
  refine lv_aload_n hx hb dL_law_142 rfl (lv_at hl 5 rfl) ?_
  refine lv_iload hx hb dL_law_143 (lv_at hl 1 rfl) ?_
  refine lv_iconst (v := 1) hx hb dL_law_145 (by decide) ?_
  refine lv_iadd hx hb dL_law_146 ?_
  refine ld_g hx hb hX hbl hbA hS hg1 (vin (k := 1) (by decide) hlt hL) dL_law_147 ?_
  refine lv_aload_n hx hb dL_law_148 rfl (lv_at hl 5 rfl) ?_
  refine lv_iload hx hb dL_law_149 (lv_at hl 1 rfl) ?_
  refine lv_iconst (v := 2) hx hb dL_law_151 (by decide) ?_
  refine lv_iadd hx hb dL_law_152 ?_
  refine ld_g hx hb hX hbl hbA hS hg2 (vin (k := 2) (by decide) hlt hL) dL_law_153 ?_
  refine lv_aload_n hx hb dL_law_154 rfl (lv_at hl 5 rfl) ?_
  refine lv_iload hx hb dL_law_155 (lv_at hl 1 rfl) ?_
  refine lv_iconst (v := 3) hx hb dL_law_157 (by decide) ?_
  refine lv_iadd hx hb dL_law_158 ?_
  refine ld_g hx hb hX hbl hbA hS hg3 (vin (k := 3) (by decide) hlt hL) dL_law_159 ?_
  have hMP : va_P D vwCl [(m0, .inr (3, [.ref a0, .ref a1, .ref a2, .ref a3, .ref a4, .ref a5, .int (mi 0), .int (mi 1), .int (mi 2), .int (mi 3), .int (mi 4), .int (mi 5), .int (mi 6), .int (mi 7), .int (mi 8)])), (a0, .inl (cI, 6, .inl on)), (a1, .inl (cI, 7, .inl kd)), (a2, .inl (cI, 7, .inl sz)), (a3, .inl (cL, 280, .inr (.inl fr))), (a4, .inl (cL, 40, .inr (.inl li))), (a5, .inl (cI, 120, .inl st))] H1 := I1.2.1
  have hMD : va_D nT [(m0, .inr (3, [.ref a0, .ref a1, .ref a2, .ref a3, .ref a4, .ref a5, .int (mi 0), .int (mi 1), .int (mi 2), .int (mi 3), .int (mi 4), .int (mi 5), .int (mi 6), .int (mi 7), .int (mi 8)])), (a0, .inl (cI, 6, .inl on)), (a1, .inl (cI, 7, .inl kd)), (a2, .inl (cI, 7, .inl sz)), (a3, .inl (cL, 280, .inr (.inl fr))), (a4, .inl (cL, 40, .inr (.inl li))), (a5, .inl (cI, 120, .inl st))] := I1.2.2.1
  have hMA : ∀ q, va_A [(m0, .inr (3, [.ref a0, .ref a1, .ref a2, .ref a3, .ref a4, .ref a5, .int (mi 0), .int (mi 1), .int (mi 2), .int (mi 3), .int (mi 4), .int (mi 5), .int (mi 6), .int (mi 7), .int (mi 8)])), (a0, .inl (cI, 6, .inl on)), (a1, .inl (cI, 7, .inl kd)), (a2, .inl (cI, 7, .inl sz)), (a3, .inl (cL, 280, .inr (.inl fr))), (a4, .inl (cL, 40, .inr (.inl li))), (a5, .inl (cI, 120, .inl st))] H1.size q → s.heap.size ≤ q := I1.A hS.1
  refine va_calli (va_runV (As := [.int g1, .int g2, .int g3]) (rest := []) ⟨hx, hb, hml, hown, hts⟩ (c_X3_wind l hMP hMD hMA) (cwV 3 hts gL_law_X3_wind rfl rfl rfl (by decide +kernel) ⟨Nat.le_of_ble_eq_true rfl, Nat.le_of_ble_eq_true rfl⟩) (Pq.V hC hS hN (va_recv hK hMP (ci := 3) (q0 := 0) rfl rfl)) rfl rfl hl.1 rfl (lv_room (Nat.le_of_ble_eq_true rfl)) dL_law_160 ⟨fit_c (by omega), fit_s (by omega)⟩) hS (fun q _ z => hMA q z) hMA (fun bb v2 t2 H2 locs ht2 hvm2 hw2 hB2 hz2 hk2 hS => ?_)
  rw [ht2] at hB2
  have I2 : LI D cI cL cQ s.heap.size x ah ak b0 b1 b2 b3 b4 m0 a0 a1 a2 a3 a4 a5 o (fun q => F q ∨ H.size ≤ q) u.1 v2 u.2 H2 := I1.mod hk2 hB2.1 hB2.2
  have hA := r_wind R hw hw2
  refine lv_istore (lv' := [(6, .int bb), (5, .int r), (4, .int (nI (6 * n))), (3, .ref o), (2, .ref m0), (1, .ref x), (0, .ref b)]) hx hb dL_law_163 hl (by decide) rfl (fun ls hl => ?_)
  refine lv_aload_n hx hb dL_law_165 rfl (lv_at hl 4 rfl) ?_
  refine ro_i (va_runV (As := []) (rest := []) ⟨hx, hb, hml, hown, hts⟩ (c_X3_thrown l I2.2.1) (cwV 0 hts gL_law_X3_thrown rfl rfl rfl (by decide +kernel) ⟨Nat.le_of_ble_eq_true rfl, Nat.le_of_ble_eq_true rfl⟩) (Pq.V hC hS hN (va_recv hK I2.2.1 (ci := 3) (q0 := 0) rfl rfl)) rfl rfl hl.1 rfl (lv_room (Nat.le_of_ble_eq_true rfl)) dL_law_166 ⟨fit_c (by omega), fit_s (by omega)⟩) hS (fun r2 locs hw3 hS => ?_)
  have hw3 : r2 = r := hw3.trans hA.1
  refine lv_iload hx hb dL_law_169 (lv_at hl 1 rfl) ?_
  refine lv_icmp_eq (tgt := 176) hx hb dL_law_171 (by decide) (fun _ => ?_) (fun c9 => absurd (hw3) c9)
  refine lv_iload hx hb dL_law_176 (lv_at hl 1 rfl) ?_
  refine lv_if_ne (tgt := 193) hx hb dL_law_178 (by decide) (fun c_178 => ?_) (fun c_178 => ?_)
  · refine lv_goto (tgt := 1197) hx hb dL_law_193 (by decide) ?_
    refine W.widen (k := 20 + 4 * (n + 1)) (n := 1000 + 54 * (n + 1)) (by omega) (by omega) ?_
    exact kk _ _ _ _ _ _ _ I2 hA.2.2 hS (lv_sub hl [2, 3, 4, 5, 6] rfl)
  · refine lv_aload_n hx hb dL_law_181 rfl (lv_at hl 3 rfl) ?_
    refine lv_iconst (v := 0) hx hb dL_law_182 (by decide) ?_
    refine va_lald (D := D) hx hb hK I2.2.2.2.1 0 1 rfl rfl in01 dL_law_183 ?_
    refine lv_iload hx hb dL_law_184 (lv_at hl 0 rfl) ?_
    refine lv_i2l hx hb dL_law_186 rfl ?_
    refine W.lcmp hx hb dL_law_187 ?_
    refine lv_if_eq (tgt := 193) hx hb dL_law_188 (by decide) (fun _ => ?_) (fun c9 => absurd ((lg_cmp_eq (u.2 (0 : Int32).toNatClampNeg) bb.toInt64).mpr (by rw [sb_cl0]; exact hA.2.1 c_178)) c9)
    refine lv_goto (tgt := 1197) hx hb dL_law_193 (by decide) ?_
    refine W.widen (k := 20 + 4 * (n + 1)) (n := 1000 + 54 * (n + 1)) (by omega) (by omega) ?_
    exact kk _ _ _ _ _ _ _ I2 hA.2.2 hS (lv_sub hl [2, 3, 4, 5, 6] rfl)
set_option maxHeartbeats 4000000 in
set_option maxRecDepth 100000 in
theorem lc_hang {p : Program} {l : Launch} {e : Env} {s : State} {m : MethodId} {args : Array Value} {below : List Frame} {meth : Method} {c : Code} {Q : State → Prop} {D : va_G} {cI cL cQ : ClassId} {sa : Nat → Nat} {b L : Nat} {xs : Nat → Int32} (K0 : LC p l s m args c D cI cL cQ sa b L xs) {x ah ak b0 b1 b2 b3 b4 m0 a0 a1 a2 a3 a4 a5 o : Nat} {n : Nat} (hlt : 6 * n + 6 ≤ L) {cs : CS} {v : MS} {F : Nat → Prop} {fo : Nat → Int64} {H : Heap} {locs : List Loc} {ls : Array Slot} (I : LI D cI cL cQ s.heap.size x ah ak b0 b1 b2 b3 b4 m0 a0 a1 a2 a3 a4 a5 o F cs v fo H) (R : Rel cs v) (hS : va_S (fun q => s.heap.size ≤ q) s.heap H locs) (hl : lv_has ls 8 [(4, .int (nI (6 * n))), (3, .ref o), (2, .ref m0), (1, .ref x), (0, .ref b)])
    (kk : ∀ (F1 : Nat → Prop) (cs1 : CS) (v1 : MS) (fo1 : Nat → Int64) (H1 : Heap) (locs1 : List Loc) (ls1 : Array Slot), LI D cI cL cQ s.heap.size x ah ak b0 b1 b2 b3 b4 m0 a0 a1 a2 a3 a4 a5 o F1 cs1 v1 fo1 H1 → Rel cs1 v1 → va_S (fun q => s.heap.size ≤ q) s.heap H1 locs1 → lv_has ls1 8 [(4, .int (nI (6 * n))), (3, .ref o), (2, .ref m0), (1, .ref x), (0, .ref b)] → W p l e room_1 s m args below meth c H1 locs1 (20 + 4 * (n + 1)) (1000 + 54 * (n + 1)) Q (F0 m 1197 ls1 [])) : W p l e room_1 s m args below meth c H locs (20 + 4 * n) (1000 + 54 * n) Q (F0 m 196 ls []) := by
  obtain ⟨hx, hb, hml, hown, hts, hC, hl0, hX, hbl, hL⟩ := K0
  have hK := hC.K
  have hbA : ¬ s.heap.size ≤ b := Nat.not_le_of_lt hbl
  have hN : ∀ q : Nat, s.heap.size ≤ q → s.heap.size ≤ q := fun _ z => z
  obtain ⟨hk, re, kn, sh, k⟩ := cs
  obtain ⟨on, kd, sz, fr, li, st, mi⟩ := v
  obtain ⟨g1, hg1⟩ : ∃ g : Int32, g = xs (nI (6 * n) + 1).toNatClampNeg := ⟨_, rfl⟩
  obtain ⟨g2, hg2⟩ : ∃ g : Int32, g = xs (nI (6 * n) + 2).toNatClampNeg := ⟨_, rfl⟩
  refine lv_aload_n hx hb dL_law_196 rfl (lv_at hl 3 rfl) ?_
  refine lv_aload_n hx hb dL_law_197 rfl (lv_at hl 4 rfl) ?_
  refine lv_iload hx hb dL_law_198 (lv_at hl 0 rfl) ?_
  refine lv_iconst (v := 1) hx hb dL_law_200 (by decide) ?_
  refine lv_iadd hx hb dL_law_201 ?_
  refine ld_g hx hb hX hbl hbA hS hg1 (vin (k := 1) (by decide) hlt hL) dL_law_202 ?_
  refine lv_aload_n hx hb dL_law_203 rfl (lv_at hl 4 rfl) ?_
  refine lv_iload hx hb dL_law_204 (lv_at hl 0 rfl) ?_
  refine lv_iconst (v := 2) hx hb dL_law_206 (by decide) ?_
  refine lv_iadd hx hb dL_law_207 ?_
  refine ld_g hx hb hX hbl hbA hS hg2 (vin (k := 2) (by decide) hlt hL) dL_law_208 ?_
  refine lv_aload_n hx hb dL_law_209 rfl (lv_at hl 1 rfl) ?_
  have hS0 := hS.1
  refine va_calli (vx_runSW (As := [.ref x, .int g1, .int g2, .ref o]) (rest := []) ⟨hx, hb, hml, hown, hts⟩ (c_L_hang l hl0 I.1 (I.NF hS.1) I.2.2.2.1 I.2.2.2.2.2.2.1 I.2.2.2.2.2.2.2) (vx_cwSW 4 hts gL_law_L_hang rfl rfl rfl (by decide +kernel) ⟨Nat.le_of_ble_eq_true rfl, Nat.le_of_ble_eq_true rfl⟩) (Pq.S hC hS hN) rfl rfl hl.1 rfl (lv_room (Nat.le_of_ble_eq_true rfl)) dL_law_210 ⟨fit_c (by omega), fit_s (by omega)⟩) hS (fun q _ z => I.NO hS.1 q z) (I.NO hS.1) (fun r u t H1 locs ht hvm hw hB hz1 hk1 hS => ?_)
  rw [ht] at hB
  have I1 : LI D cI cL cQ s.heap.size x ah ak b0 b1 b2 b3 b4 m0 a0 a1 a2 a3 a4 a5 o (fun q => F q ∨ H.size ≤ q) u.1 (on, kd, sz, fr, li, st, mi) u.2 H1 := I.cls hS0 hk1 hB.1 hB.2
  refine lv_istore (lv' := [(5, .int r), (4, .int (nI (6 * n))), (3, .ref o), (2, .ref m0), (1, .ref x), (0, .ref b)]) hx hb dL_law_213 hl (by decide) rfl (fun ls hl => ?_)
  refine lv_aload_n hx hb dL_law_215 rfl (lv_at hl 3 rfl) ?_
  refine lv_aload_n hx hb dL_law_216 rfl (lv_at hl 5 rfl) ?_
  refine lv_iload hx hb dL_law_217 (lv_at hl 1 rfl) ?_
  refine lv_iconst (v := 1) hx hb dL_law_219 (by decide) ?_
  refine lv_iadd hx hb dL_law_220 ?_
  refine ld_g hx hb hX hbl hbA hS hg1 (vin (k := 1) (by decide) hlt hL) dL_law_221 ?_
  refine lv_aload_n hx hb dL_law_222 rfl (lv_at hl 5 rfl) ?_
  refine lv_iload hx hb dL_law_223 (lv_at hl 1 rfl) ?_
  refine lv_iconst (v := 2) hx hb dL_law_225 (by decide) ?_
  refine lv_iadd hx hb dL_law_226 ?_
  refine ld_g hx hb hX hbl hbA hS hg2 (vin (k := 2) (by decide) hlt hL) dL_law_227 ?_
  have hMP : va_P D vwCl [(m0, .inr (3, [.ref a0, .ref a1, .ref a2, .ref a3, .ref a4, .ref a5, .int (mi 0), .int (mi 1), .int (mi 2), .int (mi 3), .int (mi 4), .int (mi 5), .int (mi 6), .int (mi 7), .int (mi 8)])), (a0, .inl (cI, 6, .inl on)), (a1, .inl (cI, 7, .inl kd)), (a2, .inl (cI, 7, .inl sz)), (a3, .inl (cL, 280, .inr (.inl fr))), (a4, .inl (cL, 40, .inr (.inl li))), (a5, .inl (cI, 120, .inl st))] H1 := I1.2.1
  have hMD : va_D nT [(m0, .inr (3, [.ref a0, .ref a1, .ref a2, .ref a3, .ref a4, .ref a5, .int (mi 0), .int (mi 1), .int (mi 2), .int (mi 3), .int (mi 4), .int (mi 5), .int (mi 6), .int (mi 7), .int (mi 8)])), (a0, .inl (cI, 6, .inl on)), (a1, .inl (cI, 7, .inl kd)), (a2, .inl (cI, 7, .inl sz)), (a3, .inl (cL, 280, .inr (.inl fr))), (a4, .inl (cL, 40, .inr (.inl li))), (a5, .inl (cI, 120, .inl st))] := I1.2.2.1
  have hMA : ∀ q, va_A [(m0, .inr (3, [.ref a0, .ref a1, .ref a2, .ref a3, .ref a4, .ref a5, .int (mi 0), .int (mi 1), .int (mi 2), .int (mi 3), .int (mi 4), .int (mi 5), .int (mi 6), .int (mi 7), .int (mi 8)])), (a0, .inl (cI, 6, .inl on)), (a1, .inl (cI, 7, .inl kd)), (a2, .inl (cI, 7, .inl sz)), (a3, .inl (cL, 280, .inr (.inl fr))), (a4, .inl (cL, 40, .inr (.inl li))), (a5, .inl (cI, 120, .inl st))] H1.size q → s.heap.size ≤ q := I1.A hS.1
  refine va_calli (va_runV (As := [.int g1, .int g2]) (rest := []) ⟨hx, hb, hml, hown, hts⟩ (c_X3_hang l hMP hMD hMA (R.1.okOn)) (cwV 2 hts gL_law_X3_hang rfl rfl rfl (by decide +kernel) ⟨Nat.le_of_ble_eq_true rfl, Nat.le_of_ble_eq_true rfl⟩) (Pq.V hC hS hN (va_recv hK hMP (ci := 3) (q0 := 0) rfl rfl)) rfl rfl hl.1 rfl (lv_room (Nat.le_of_ble_eq_true rfl)) dL_law_228 ⟨fit_c (by omega), fit_s (by omega)⟩) hS (fun q _ z => hMA q z) hMA (fun bb v2 t2 H2 locs ht2 hvm2 hw2 hB2 hz2 hk2 hS => ?_)
  rw [ht2] at hB2
  have I2 : LI D cI cL cQ s.heap.size x ah ak b0 b1 b2 b3 b4 m0 a0 a1 a2 a3 a4 a5 o (fun q => F q ∨ H.size ≤ q) u.1 v2 u.2 H2 := I1.mod hk2 hB2.1 hB2.2
  have hA := r_hang R hw hw2
  refine lv_istore (lv' := [(6, .int bb), (5, .int r), (4, .int (nI (6 * n))), (3, .ref o), (2, .ref m0), (1, .ref x), (0, .ref b)]) hx hb dL_law_231 hl (by decide) rfl (fun ls hl => ?_)
  refine lv_aload_n hx hb dL_law_233 rfl (lv_at hl 4 rfl) ?_
  refine ro_i (va_runV (As := []) (rest := []) ⟨hx, hb, hml, hown, hts⟩ (c_X3_thrown l I2.2.1) (cwV 0 hts gL_law_X3_thrown rfl rfl rfl (by decide +kernel) ⟨Nat.le_of_ble_eq_true rfl, Nat.le_of_ble_eq_true rfl⟩) (Pq.V hC hS hN (va_recv hK I2.2.1 (ci := 3) (q0 := 0) rfl rfl)) rfl rfl hl.1 rfl (lv_room (Nat.le_of_ble_eq_true rfl)) dL_law_234 ⟨fit_c (by omega), fit_s (by omega)⟩) hS (fun r2 locs hw3 hS => ?_)
  have hw3 : r2 = r := hw3.trans hA.1
  refine lv_iload hx hb dL_law_237 (lv_at hl 1 rfl) ?_
  refine lv_icmp_eq (tgt := 244) hx hb dL_law_239 (by decide) (fun _ => ?_) (fun c9 => absurd (hw3) c9)
  refine lv_iload hx hb dL_law_244 (lv_at hl 1 rfl) ?_
  refine lv_if_ne (tgt := 261) hx hb dL_law_246 (by decide) (fun c_246 => ?_) (fun c_246 => ?_)
  · refine lv_goto (tgt := 1197) hx hb dL_law_261 (by decide) ?_
    refine W.widen (k := 20 + 4 * (n + 1)) (n := 1000 + 54 * (n + 1)) (by omega) (by omega) ?_
    exact kk _ _ _ _ _ _ _ I2 hA.2.2 hS (lv_sub hl [2, 3, 4, 5, 6] rfl)
  · refine lv_aload_n hx hb dL_law_249 rfl (lv_at hl 3 rfl) ?_
    refine lv_iconst (v := 0) hx hb dL_law_250 (by decide) ?_
    refine va_lald (D := D) hx hb hK I2.2.2.2.1 0 1 rfl rfl in01 dL_law_251 ?_
    refine lv_iload hx hb dL_law_252 (lv_at hl 0 rfl) ?_
    refine lv_i2l hx hb dL_law_254 rfl ?_
    refine W.lcmp hx hb dL_law_255 ?_
    refine lv_if_eq (tgt := 261) hx hb dL_law_256 (by decide) (fun _ => ?_) (fun c9 => absurd ((lg_cmp_eq (u.2 (0 : Int32).toNatClampNeg) bb.toInt64).mpr (by rw [sb_cl0]; exact hA.2.1 c_246)) c9)
    refine lv_goto (tgt := 1197) hx hb dL_law_261 (by decide) ?_
    refine W.widen (k := 20 + 4 * (n + 1)) (n := 1000 + 54 * (n + 1)) (by omega) (by omega) ?_
    exact kk _ _ _ _ _ _ _ I2 hA.2.2 hS (lv_sub hl [2, 3, 4, 5, 6] rfl)
set_option maxHeartbeats 4000000 in
set_option maxRecDepth 100000 in
theorem lc_twin {p : Program} {l : Launch} {e : Env} {s : State} {m : MethodId} {args : Array Value} {below : List Frame} {meth : Method} {c : Code} {Q : State → Prop} {D : va_G} {cI cL cQ : ClassId} {sa : Nat → Nat} {b L : Nat} {xs : Nat → Int32} (K0 : LC p l s m args c D cI cL cQ sa b L xs) {x ah ak b0 b1 b2 b3 b4 m0 a0 a1 a2 a3 a4 a5 o : Nat} {n : Nat} (hlt : 6 * n + 6 ≤ L) {cs : CS} {v : MS} {F : Nat → Prop} {fo : Nat → Int64} {H : Heap} {locs : List Loc} {ls : Array Slot} (I : LI D cI cL cQ s.heap.size x ah ak b0 b1 b2 b3 b4 m0 a0 a1 a2 a3 a4 a5 o F cs v fo H) (R : Rel cs v) (hS : va_S (fun q => s.heap.size ≤ q) s.heap H locs) (hl : lv_has ls 8 [(4, .int (nI (6 * n))), (3, .ref o), (2, .ref m0), (1, .ref x), (0, .ref b)])
    (kk : ∀ (F1 : Nat → Prop) (cs1 : CS) (v1 : MS) (fo1 : Nat → Int64) (H1 : Heap) (locs1 : List Loc) (ls1 : Array Slot), LI D cI cL cQ s.heap.size x ah ak b0 b1 b2 b3 b4 m0 a0 a1 a2 a3 a4 a5 o F1 cs1 v1 fo1 H1 → Rel cs1 v1 → va_S (fun q => s.heap.size ≤ q) s.heap H1 locs1 → lv_has ls1 8 [(4, .int (nI (6 * n))), (3, .ref o), (2, .ref m0), (1, .ref x), (0, .ref b)] → W p l e room_1 s m args below meth c H1 locs1 (20 + 4 * (n + 1)) (1000 + 54 * (n + 1)) Q (F0 m 1197 ls1 [])) : W p l e room_1 s m args below meth c H locs (20 + 4 * n) (1000 + 54 * n) Q (F0 m 264 ls []) := by
  obtain ⟨hx, hb, hml, hown, hts, hC, hl0, hX, hbl, hL⟩ := K0
  have hK := hC.K
  have hbA : ¬ s.heap.size ≤ b := Nat.not_le_of_lt hbl
  have hN : ∀ q : Nat, s.heap.size ≤ q → s.heap.size ≤ q := fun _ z => z
  obtain ⟨hk, re, kn, sh, k⟩ := cs
  obtain ⟨on, kd, sz, fr, li, st, mi⟩ := v
  obtain ⟨g1, hg1⟩ : ∃ g : Int32, g = xs (nI (6 * n) + 1).toNatClampNeg := ⟨_, rfl⟩
  obtain ⟨g2, hg2⟩ : ∃ g : Int32, g = xs (nI (6 * n) + 2).toNatClampNeg := ⟨_, rfl⟩
  refine lv_aload_n hx hb dL_law_264 rfl (lv_at hl 3 rfl) ?_
  refine lv_aload_n hx hb dL_law_265 rfl (lv_at hl 4 rfl) ?_
  refine lv_iload hx hb dL_law_266 (lv_at hl 0 rfl) ?_
  refine lv_iconst (v := 1) hx hb dL_law_268 (by decide) ?_
  refine lv_iadd hx hb dL_law_269 ?_
  refine ld_g hx hb hX hbl hbA hS hg1 (vin (k := 1) (by decide) hlt hL) dL_law_270 ?_
  refine lv_aload_n hx hb dL_law_271 rfl (lv_at hl 4 rfl) ?_
  refine lv_iload hx hb dL_law_272 (lv_at hl 0 rfl) ?_
  refine lv_iconst (v := 2) hx hb dL_law_274 (by decide) ?_
  refine lv_iadd hx hb dL_law_275 ?_
  refine ld_g hx hb hX hbl hbA hS hg2 (vin (k := 2) (by decide) hlt hL) dL_law_276 ?_
  refine lv_aload_n hx hb dL_law_277 rfl (lv_at hl 1 rfl) ?_
  have hS0 := hS.1
  refine va_calli (vx_runSW (As := [.ref x, .int g1, .int g2, .ref o]) (rest := []) ⟨hx, hb, hml, hown, hts⟩ (c_L_twin l hl0 I.1 (I.NF hS.1) I.2.2.2.1 I.2.2.2.2.2.2.1 I.2.2.2.2.2.2.2) (vx_cwSW 4 hts gL_law_L_twin rfl rfl rfl (by decide +kernel) ⟨Nat.le_of_ble_eq_true rfl, Nat.le_of_ble_eq_true rfl⟩) (Pq.S hC hS hN) rfl rfl hl.1 rfl (lv_room (Nat.le_of_ble_eq_true rfl)) dL_law_278 ⟨fit_c (by omega), fit_s (by omega)⟩) hS (fun q _ z => I.NO hS.1 q z) (I.NO hS.1) (fun r u t H1 locs ht hvm hw hB hz1 hk1 hS => ?_)
  rw [ht] at hB
  have I1 : LI D cI cL cQ s.heap.size x ah ak b0 b1 b2 b3 b4 m0 a0 a1 a2 a3 a4 a5 o (fun q => F q ∨ H.size ≤ q) u.1 (on, kd, sz, fr, li, st, mi) u.2 H1 := I.cls hS0 hk1 hB.1 hB.2
  refine lv_istore (lv' := [(5, .int r), (4, .int (nI (6 * n))), (3, .ref o), (2, .ref m0), (1, .ref x), (0, .ref b)]) hx hb dL_law_281 hl (by decide) rfl (fun ls hl => ?_)
  refine lv_aload_n hx hb dL_law_283 rfl (lv_at hl 3 rfl) ?_
  refine lv_aload_n hx hb dL_law_284 rfl (lv_at hl 5 rfl) ?_
  refine lv_iload hx hb dL_law_285 (lv_at hl 1 rfl) ?_
  refine lv_iconst (v := 1) hx hb dL_law_287 (by decide) ?_
  refine lv_iadd hx hb dL_law_288 ?_
  refine ld_g hx hb hX hbl hbA hS hg1 (vin (k := 1) (by decide) hlt hL) dL_law_289 ?_
  refine lv_aload_n hx hb dL_law_290 rfl (lv_at hl 5 rfl) ?_
  refine lv_iload hx hb dL_law_291 (lv_at hl 1 rfl) ?_
  refine lv_iconst (v := 2) hx hb dL_law_293 (by decide) ?_
  refine lv_iadd hx hb dL_law_294 ?_
  refine ld_g hx hb hX hbl hbA hS hg2 (vin (k := 2) (by decide) hlt hL) dL_law_295 ?_
  have hMP : va_P D vwCl [(m0, .inr (3, [.ref a0, .ref a1, .ref a2, .ref a3, .ref a4, .ref a5, .int (mi 0), .int (mi 1), .int (mi 2), .int (mi 3), .int (mi 4), .int (mi 5), .int (mi 6), .int (mi 7), .int (mi 8)])), (a0, .inl (cI, 6, .inl on)), (a1, .inl (cI, 7, .inl kd)), (a2, .inl (cI, 7, .inl sz)), (a3, .inl (cL, 280, .inr (.inl fr))), (a4, .inl (cL, 40, .inr (.inl li))), (a5, .inl (cI, 120, .inl st))] H1 := I1.2.1
  have hMD : va_D nT [(m0, .inr (3, [.ref a0, .ref a1, .ref a2, .ref a3, .ref a4, .ref a5, .int (mi 0), .int (mi 1), .int (mi 2), .int (mi 3), .int (mi 4), .int (mi 5), .int (mi 6), .int (mi 7), .int (mi 8)])), (a0, .inl (cI, 6, .inl on)), (a1, .inl (cI, 7, .inl kd)), (a2, .inl (cI, 7, .inl sz)), (a3, .inl (cL, 280, .inr (.inl fr))), (a4, .inl (cL, 40, .inr (.inl li))), (a5, .inl (cI, 120, .inl st))] := I1.2.2.1
  have hMA : ∀ q, va_A [(m0, .inr (3, [.ref a0, .ref a1, .ref a2, .ref a3, .ref a4, .ref a5, .int (mi 0), .int (mi 1), .int (mi 2), .int (mi 3), .int (mi 4), .int (mi 5), .int (mi 6), .int (mi 7), .int (mi 8)])), (a0, .inl (cI, 6, .inl on)), (a1, .inl (cI, 7, .inl kd)), (a2, .inl (cI, 7, .inl sz)), (a3, .inl (cL, 280, .inr (.inl fr))), (a4, .inl (cL, 40, .inr (.inl li))), (a5, .inl (cI, 120, .inl st))] H1.size q → s.heap.size ≤ q := I1.A hS.1
  refine va_calli (va_runV (As := [.int g1, .int g2]) (rest := []) ⟨hx, hb, hml, hown, hts⟩ (c_X3_twin l hMP hMD hMA (R.1.okOn)) (cwV 2 hts gL_law_X3_twin rfl rfl rfl (by decide +kernel) ⟨Nat.le_of_ble_eq_true rfl, Nat.le_of_ble_eq_true rfl⟩) (Pq.V hC hS hN (va_recv hK hMP (ci := 3) (q0 := 0) rfl rfl)) rfl rfl hl.1 rfl (lv_room (Nat.le_of_ble_eq_true rfl)) dL_law_296 ⟨fit_c (by omega), fit_s (by omega)⟩) hS (fun q _ z => hMA q z) hMA (fun bb v2 t2 H2 locs ht2 hvm2 hw2 hB2 hz2 hk2 hS => ?_)
  rw [ht2] at hB2
  have I2 : LI D cI cL cQ s.heap.size x ah ak b0 b1 b2 b3 b4 m0 a0 a1 a2 a3 a4 a5 o (fun q => F q ∨ H.size ≤ q) u.1 v2 u.2 H2 := I1.mod hk2 hB2.1 hB2.2
  have hA := r_twin R hw hw2
  refine lv_istore (lv' := [(6, .int bb), (5, .int r), (4, .int (nI (6 * n))), (3, .ref o), (2, .ref m0), (1, .ref x), (0, .ref b)]) hx hb dL_law_299 hl (by decide) rfl (fun ls hl => ?_)
  refine lv_aload_n hx hb dL_law_301 rfl (lv_at hl 4 rfl) ?_
  refine ro_i (va_runV (As := []) (rest := []) ⟨hx, hb, hml, hown, hts⟩ (c_X3_thrown l I2.2.1) (cwV 0 hts gL_law_X3_thrown rfl rfl rfl (by decide +kernel) ⟨Nat.le_of_ble_eq_true rfl, Nat.le_of_ble_eq_true rfl⟩) (Pq.V hC hS hN (va_recv hK I2.2.1 (ci := 3) (q0 := 0) rfl rfl)) rfl rfl hl.1 rfl (lv_room (Nat.le_of_ble_eq_true rfl)) dL_law_302 ⟨fit_c (by omega), fit_s (by omega)⟩) hS (fun r2 locs hw3 hS => ?_)
  have hw3 : r2 = r := hw3.trans hA.1
  refine lv_iload hx hb dL_law_305 (lv_at hl 1 rfl) ?_
  refine lv_icmp_eq (tgt := 312) hx hb dL_law_307 (by decide) (fun _ => ?_) (fun c9 => absurd (hw3) c9)
  refine lv_iload hx hb dL_law_312 (lv_at hl 1 rfl) ?_
  refine lv_if_ne (tgt := 329) hx hb dL_law_314 (by decide) (fun c_314 => ?_) (fun c_314 => ?_)
  · refine lv_goto (tgt := 1197) hx hb dL_law_329 (by decide) ?_
    refine W.widen (k := 20 + 4 * (n + 1)) (n := 1000 + 54 * (n + 1)) (by omega) (by omega) ?_
    exact kk _ _ _ _ _ _ _ I2 hA.2.2 hS (lv_sub hl [2, 3, 4, 5, 6] rfl)
  · refine lv_aload_n hx hb dL_law_317 rfl (lv_at hl 3 rfl) ?_
    refine lv_iconst (v := 0) hx hb dL_law_318 (by decide) ?_
    refine va_lald (D := D) hx hb hK I2.2.2.2.1 0 1 rfl rfl in01 dL_law_319 ?_
    refine lv_iload hx hb dL_law_320 (lv_at hl 0 rfl) ?_
    refine lv_i2l hx hb dL_law_322 rfl ?_
    refine W.lcmp hx hb dL_law_323 ?_
    refine lv_if_eq (tgt := 329) hx hb dL_law_324 (by decide) (fun _ => ?_) (fun c9 => absurd ((lg_cmp_eq (u.2 (0 : Int32).toNatClampNeg) bb.toInt64).mpr (by rw [sb_cl0]; exact hA.2.1 c_314)) c9)
    refine lv_goto (tgt := 1197) hx hb dL_law_329 (by decide) ?_
    refine W.widen (k := 20 + 4 * (n + 1)) (n := 1000 + 54 * (n + 1)) (by omega) (by omega) ?_
    exact kk _ _ _ _ _ _ _ I2 hA.2.2 hS (lv_sub hl [2, 3, 4, 5, 6] rfl)
set_option maxHeartbeats 4000000 in
set_option maxRecDepth 100000 in
theorem lc_mark {p : Program} {l : Launch} {e : Env} {s : State} {m : MethodId} {args : Array Value} {below : List Frame} {meth : Method} {c : Code} {Q : State → Prop} {D : va_G} {cI cL cQ : ClassId} {sa : Nat → Nat} {b L : Nat} {xs : Nat → Int32} (K0 : LC p l s m args c D cI cL cQ sa b L xs) {x ah ak b0 b1 b2 b3 b4 m0 a0 a1 a2 a3 a4 a5 o : Nat} {n : Nat} (hlt : 6 * n + 6 ≤ L) {cs : CS} {v : MS} {F : Nat → Prop} {fo : Nat → Int64} {H : Heap} {locs : List Loc} {ls : Array Slot} (I : LI D cI cL cQ s.heap.size x ah ak b0 b1 b2 b3 b4 m0 a0 a1 a2 a3 a4 a5 o F cs v fo H) (R : Rel cs v) (hS : va_S (fun q => s.heap.size ≤ q) s.heap H locs) (hl : lv_has ls 8 [(4, .int (nI (6 * n))), (3, .ref o), (2, .ref m0), (1, .ref x), (0, .ref b)])
    (kk : ∀ (F1 : Nat → Prop) (cs1 : CS) (v1 : MS) (fo1 : Nat → Int64) (H1 : Heap) (locs1 : List Loc) (ls1 : Array Slot), LI D cI cL cQ s.heap.size x ah ak b0 b1 b2 b3 b4 m0 a0 a1 a2 a3 a4 a5 o F1 cs1 v1 fo1 H1 → Rel cs1 v1 → va_S (fun q => s.heap.size ≤ q) s.heap H1 locs1 → lv_has ls1 8 [(4, .int (nI (6 * n))), (3, .ref o), (2, .ref m0), (1, .ref x), (0, .ref b)] → W p l e room_1 s m args below meth c H1 locs1 (20 + 4 * (n + 1)) (1000 + 54 * (n + 1)) Q (F0 m 1197 ls1 [])) : W p l e room_1 s m args below meth c H locs (20 + 4 * n) (1000 + 54 * n) Q (F0 m 332 ls []) := by
  obtain ⟨hx, hb, hml, hown, hts, hC, hl0, hX, hbl, hL⟩ := K0
  have hK := hC.K
  have hbA : ¬ s.heap.size ≤ b := Nat.not_le_of_lt hbl
  have hN : ∀ q : Nat, s.heap.size ≤ q → s.heap.size ≤ q := fun _ z => z
  obtain ⟨hk, re, kn, sh, k⟩ := cs
  obtain ⟨on, kd, sz, fr, li, st, mi⟩ := v
  obtain ⟨g1, hg1⟩ : ∃ g : Int32, g = xs (nI (6 * n) + 1).toNatClampNeg := ⟨_, rfl⟩
  obtain ⟨g2, hg2⟩ : ∃ g : Int32, g = xs (nI (6 * n) + 2).toNatClampNeg := ⟨_, rfl⟩
  obtain ⟨g3, hg3⟩ : ∃ g : Int32, g = xs (nI (6 * n) + 3).toNatClampNeg := ⟨_, rfl⟩
  obtain ⟨g4, hg4⟩ : ∃ g : Int32, g = xs (nI (6 * n) + 4).toNatClampNeg := ⟨_, rfl⟩
  refine lv_aload_n hx hb dL_law_332 rfl (lv_at hl 3 rfl) ?_
  refine lv_aload_n hx hb dL_law_333 rfl (lv_at hl 4 rfl) ?_
  refine lv_iload hx hb dL_law_334 (lv_at hl 0 rfl) ?_
  refine lv_iconst (v := 1) hx hb dL_law_336 (by decide) ?_
  refine lv_iadd hx hb dL_law_337 ?_
  refine ld_g hx hb hX hbl hbA hS hg1 (vin (k := 1) (by decide) hlt hL) dL_law_338 ?_
  refine lv_aload_n hx hb dL_law_339 rfl (lv_at hl 4 rfl) ?_
  refine lv_iload hx hb dL_law_340 (lv_at hl 0 rfl) ?_
  refine lv_iconst (v := 2) hx hb dL_law_342 (by decide) ?_
  refine lv_iadd hx hb dL_law_343 ?_
  refine ld_g hx hb hX hbl hbA hS hg2 (vin (k := 2) (by decide) hlt hL) dL_law_344 ?_
  refine lv_aload_n hx hb dL_law_345 rfl (lv_at hl 4 rfl) ?_
  refine lv_iload hx hb dL_law_346 (lv_at hl 0 rfl) ?_
  refine lv_iconst (v := 3) hx hb dL_law_348 (by decide) ?_
  refine lv_iadd hx hb dL_law_349 ?_
  refine ld_g hx hb hX hbl hbA hS hg3 (vin (k := 3) (by decide) hlt hL) dL_law_350 ?_
  refine lv_i2l hx hb dL_law_351 rfl ?_
  refine lv_bipush (v := 32) hx hb dL_law_352 (by decide) ?_
  refine lv_lshl hx hb dL_law_354 rfl ?_
  refine lv_aload_n hx hb dL_law_355 rfl (lv_at hl 4 rfl) ?_
  refine lv_iload hx hb dL_law_356 (lv_at hl 0 rfl) ?_
  refine lv_iconst (v := 4) hx hb dL_law_358 (by decide) ?_
  refine lv_iadd hx hb dL_law_359 ?_
  refine ld_g hx hb hX hbl hbA hS hg4 (vin (k := 4) (by decide) hlt hL) dL_law_360 ?_
  refine lv_i2l hx hb dL_law_361 rfl ?_
  refine lv_ldc2 (v := 4294967295) hx hb hown (hts _ lk_L_law_88) dL_law_362 ?_
  refine lv_land hx hb dL_law_365 ?_
  refine lv_lor hx hb dL_law_366 ?_
  have hS0 := hS.1
  refine va_calli (vx_runSW (As := [.ref x, .int g1, .int g2, .long ((g3.toInt64 <<< ((32 : Int32).toInt64 &&& 63)) ||| (g4.toInt64 &&& 4294967295))]) (rest := []) ⟨hx, hb, hml, hown, hts⟩ (c_L_mark l hl0 I.1 (I.NF hS.1) (fo := fo)) (vx_cwSW 4 hts gL_law_L_mark rfl rfl rfl (by decide +kernel) ⟨Nat.le_of_ble_eq_true rfl, Nat.le_of_ble_eq_true rfl⟩) (Pq.S hC hS hN) rfl rfl hl.1 rfl (lv_room (Nat.le_of_ble_eq_true rfl)) dL_law_367 ⟨fit_c (by omega), fit_s (by omega)⟩) hS (fun q _ z => I.NF hS.1 q z) (I.NF hS.1) (fun r u t H1 locs ht hvm hw hB hz1 hk1 hS => ?_)
  rw [ht] at hB
  have hu2 : u.2 = fo := hB.2
  have I1 : LI D cI cL cQ s.heap.size x ah ak b0 b1 b2 b3 b4 m0 a0 a1 a2 a3 a4 a5 o (fun q => F q ∨ H.size ≤ q) u.1 (on, kd, sz, fr, li, st, mi) u.2 H1 := by rw [hu2]; exact I.clsv hS0 hk1 hB.1
  refine lv_istore (lv' := [(5, .int r), (4, .int (nI (6 * n))), (3, .ref o), (2, .ref m0), (1, .ref x), (0, .ref b)]) hx hb dL_law_370 hl (by decide) rfl (fun ls hl => ?_)
  refine lv_aload_n hx hb dL_law_372 rfl (lv_at hl 3 rfl) ?_
  refine lv_aload_n hx hb dL_law_373 rfl (lv_at hl 5 rfl) ?_
  refine lv_iload hx hb dL_law_374 (lv_at hl 1 rfl) ?_
  refine lv_iconst (v := 1) hx hb dL_law_376 (by decide) ?_
  refine lv_iadd hx hb dL_law_377 ?_
  refine ld_g hx hb hX hbl hbA hS hg1 (vin (k := 1) (by decide) hlt hL) dL_law_378 ?_
  refine lv_aload_n hx hb dL_law_379 rfl (lv_at hl 5 rfl) ?_
  refine lv_iload hx hb dL_law_380 (lv_at hl 1 rfl) ?_
  refine lv_iconst (v := 2) hx hb dL_law_382 (by decide) ?_
  refine lv_iadd hx hb dL_law_383 ?_
  refine ld_g hx hb hX hbl hbA hS hg2 (vin (k := 2) (by decide) hlt hL) dL_law_384 ?_
  refine lv_aload_n hx hb dL_law_385 rfl (lv_at hl 5 rfl) ?_
  refine lv_iload hx hb dL_law_386 (lv_at hl 1 rfl) ?_
  refine lv_iconst (v := 3) hx hb dL_law_388 (by decide) ?_
  refine lv_iadd hx hb dL_law_389 ?_
  refine ld_g hx hb hX hbl hbA hS hg3 (vin (k := 3) (by decide) hlt hL) dL_law_390 ?_
  refine lv_i2l hx hb dL_law_391 rfl ?_
  refine lv_bipush (v := 32) hx hb dL_law_392 (by decide) ?_
  refine lv_lshl hx hb dL_law_394 rfl ?_
  refine lv_aload_n hx hb dL_law_395 rfl (lv_at hl 5 rfl) ?_
  refine lv_iload hx hb dL_law_396 (lv_at hl 1 rfl) ?_
  refine lv_iconst (v := 4) hx hb dL_law_398 (by decide) ?_
  refine lv_iadd hx hb dL_law_399 ?_
  refine ld_g hx hb hX hbl hbA hS hg4 (vin (k := 4) (by decide) hlt hL) dL_law_400 ?_
  refine lv_i2l hx hb dL_law_401 rfl ?_
  refine lv_ldc2 (v := 4294967295) hx hb hown (hts _ lk_L_law_88) dL_law_402 ?_
  refine lv_land hx hb dL_law_405 ?_
  refine lv_lor hx hb dL_law_406 ?_
  have hMP : va_P D vwCl [(m0, .inr (3, [.ref a0, .ref a1, .ref a2, .ref a3, .ref a4, .ref a5, .int (mi 0), .int (mi 1), .int (mi 2), .int (mi 3), .int (mi 4), .int (mi 5), .int (mi 6), .int (mi 7), .int (mi 8)])), (a0, .inl (cI, 6, .inl on)), (a1, .inl (cI, 7, .inl kd)), (a2, .inl (cI, 7, .inl sz)), (a3, .inl (cL, 280, .inr (.inl fr))), (a4, .inl (cL, 40, .inr (.inl li))), (a5, .inl (cI, 120, .inl st))] H1 := I1.2.1
  have hMD : va_D nT [(m0, .inr (3, [.ref a0, .ref a1, .ref a2, .ref a3, .ref a4, .ref a5, .int (mi 0), .int (mi 1), .int (mi 2), .int (mi 3), .int (mi 4), .int (mi 5), .int (mi 6), .int (mi 7), .int (mi 8)])), (a0, .inl (cI, 6, .inl on)), (a1, .inl (cI, 7, .inl kd)), (a2, .inl (cI, 7, .inl sz)), (a3, .inl (cL, 280, .inr (.inl fr))), (a4, .inl (cL, 40, .inr (.inl li))), (a5, .inl (cI, 120, .inl st))] := I1.2.2.1
  have hMA : ∀ q, va_A [(m0, .inr (3, [.ref a0, .ref a1, .ref a2, .ref a3, .ref a4, .ref a5, .int (mi 0), .int (mi 1), .int (mi 2), .int (mi 3), .int (mi 4), .int (mi 5), .int (mi 6), .int (mi 7), .int (mi 8)])), (a0, .inl (cI, 6, .inl on)), (a1, .inl (cI, 7, .inl kd)), (a2, .inl (cI, 7, .inl sz)), (a3, .inl (cL, 280, .inr (.inl fr))), (a4, .inl (cL, 40, .inr (.inl li))), (a5, .inl (cI, 120, .inl st))] H1.size q → s.heap.size ≤ q := I1.A hS.1
  refine va_callv (va_runV (As := [.int g1, .int g2, .long ((g3.toInt64 <<< ((32 : Int32).toInt64 &&& 63)) ||| (g4.toInt64 &&& 4294967295))]) (rest := []) ⟨hx, hb, hml, hown, hts⟩ (c_X3_mark l hMP hMD hMA (R.1.okOn) (R.1.2.2.2)) (cwV 3 hts gL_law_X3_mark rfl rfl rfl (by decide +kernel) ⟨Nat.le_of_ble_eq_true rfl, Nat.le_of_ble_eq_true rfl⟩) (Pq.V hC hS hN (va_recv hK hMP (ci := 3) (q0 := 0) rfl rfl)) rfl rfl hl.1 rfl (lv_room (Nat.le_of_ble_eq_true rfl)) dL_law_407 ⟨fit_c (by omega), fit_s (by omega)⟩) hS (fun q _ z => hMA q z) hMA (fun v2 t2 H2 locs ht2 hvm2 hw2 hB2 hz2 hk2 hS => ?_)
  rw [ht2] at hB2
  have I2 : LI D cI cL cQ s.heap.size x ah ak b0 b1 b2 b3 b4 m0 a0 a1 a2 a3 a4 a5 o (fun q => F q ∨ H.size ≤ q) u.1 v2 u.2 H2 := I1.mod hk2 hB2.1 hB2.2
  have hA := r_mark R hw hw2
  refine lv_aload_n hx hb dL_law_410 rfl (lv_at hl 3 rfl) ?_
  refine ro_i (va_runV (As := []) (rest := []) ⟨hx, hb, hml, hown, hts⟩ (c_X3_thrown l I2.2.1) (cwV 0 hts gL_law_X3_thrown rfl rfl rfl (by decide +kernel) ⟨Nat.le_of_ble_eq_true rfl, Nat.le_of_ble_eq_true rfl⟩) (Pq.V hC hS hN (va_recv hK I2.2.1 (ci := 3) (q0 := 0) rfl rfl)) rfl rfl hl.1 rfl (lv_room (Nat.le_of_ble_eq_true rfl)) dL_law_411 ⟨fit_c (by omega), fit_s (by omega)⟩) hS (fun r2 locs hw3 hS => ?_)
  have hw3 : r2 = r := hw3.trans hA.1
  refine lv_iload hx hb dL_law_414 (lv_at hl 0 rfl) ?_
  refine lv_icmp_eq (tgt := 421) hx hb dL_law_416 (by decide) (fun _ => ?_) (fun c9 => absurd (hw3) c9)
  refine lv_goto (tgt := 1197) hx hb dL_law_421 (by decide) ?_
  refine W.widen (k := 20 + 4 * (n + 1)) (n := 1000 + 54 * (n + 1)) (by omega) (by omega) ?_
  exact kk _ _ _ _ _ _ _ I2 hA.2 hS (lv_sub hl [1, 2, 3, 4, 5] rfl)
set_option maxHeartbeats 4000000 in
set_option maxRecDepth 100000 in
theorem lc_paste {p : Program} {l : Launch} {e : Env} {s : State} {m : MethodId} {args : Array Value} {below : List Frame} {meth : Method} {c : Code} {Q : State → Prop} {D : va_G} {cI cL cQ : ClassId} {sa : Nat → Nat} {b L : Nat} {xs : Nat → Int32} (K0 : LC p l s m args c D cI cL cQ sa b L xs) {x ah ak b0 b1 b2 b3 b4 m0 a0 a1 a2 a3 a4 a5 o : Nat} {n : Nat} (hlt : 6 * n + 6 ≤ L) {cs : CS} {v : MS} {F : Nat → Prop} {fo : Nat → Int64} {H : Heap} {locs : List Loc} {ls : Array Slot} (I : LI D cI cL cQ s.heap.size x ah ak b0 b1 b2 b3 b4 m0 a0 a1 a2 a3 a4 a5 o F cs v fo H) (R : Rel cs v) (hS : va_S (fun q => s.heap.size ≤ q) s.heap H locs) (hl : lv_has ls 8 [(4, .int (nI (6 * n))), (3, .ref o), (2, .ref m0), (1, .ref x), (0, .ref b)])
    (kk : ∀ (F1 : Nat → Prop) (cs1 : CS) (v1 : MS) (fo1 : Nat → Int64) (H1 : Heap) (locs1 : List Loc) (ls1 : Array Slot), LI D cI cL cQ s.heap.size x ah ak b0 b1 b2 b3 b4 m0 a0 a1 a2 a3 a4 a5 o F1 cs1 v1 fo1 H1 → Rel cs1 v1 → va_S (fun q => s.heap.size ≤ q) s.heap H1 locs1 → lv_has ls1 8 [(4, .int (nI (6 * n))), (3, .ref o), (2, .ref m0), (1, .ref x), (0, .ref b)] → W p l e room_1 s m args below meth c H1 locs1 (20 + 4 * (n + 1)) (1000 + 54 * (n + 1)) Q (F0 m 1197 ls1 [])) : W p l e room_1 s m args below meth c H locs (20 + 4 * n) (1000 + 54 * n) Q (F0 m 424 ls []) := by
  obtain ⟨hx, hb, hml, hown, hts, hC, hl0, hX, hbl, hL⟩ := K0
  have hK := hC.K
  have hbA : ¬ s.heap.size ≤ b := Nat.not_le_of_lt hbl
  have hN : ∀ q : Nat, s.heap.size ≤ q → s.heap.size ≤ q := fun _ z => z
  obtain ⟨hk, re, kn, sh, k⟩ := cs
  obtain ⟨on, kd, sz, fr, li, st, mi⟩ := v
  obtain ⟨g1, hg1⟩ : ∃ g : Int32, g = xs (nI (6 * n) + 1).toNatClampNeg := ⟨_, rfl⟩
  obtain ⟨g2, hg2⟩ : ∃ g : Int32, g = xs (nI (6 * n) + 2).toNatClampNeg := ⟨_, rfl⟩
  obtain ⟨g3, hg3⟩ : ∃ g : Int32, g = xs (nI (6 * n) + 3).toNatClampNeg := ⟨_, rfl⟩
  obtain ⟨g4, hg4⟩ : ∃ g : Int32, g = xs (nI (6 * n) + 4).toNatClampNeg := ⟨_, rfl⟩
  refine lv_aload_n hx hb dL_law_424 rfl (lv_at hl 3 rfl) ?_
  refine lv_aload_n hx hb dL_law_425 rfl (lv_at hl 4 rfl) ?_
  refine lv_iload hx hb dL_law_426 (lv_at hl 0 rfl) ?_
  refine lv_iconst (v := 1) hx hb dL_law_428 (by decide) ?_
  refine lv_iadd hx hb dL_law_429 ?_
  refine ld_g hx hb hX hbl hbA hS hg1 (vin (k := 1) (by decide) hlt hL) dL_law_430 ?_
  refine lv_aload_n hx hb dL_law_431 rfl (lv_at hl 4 rfl) ?_
  refine lv_iload hx hb dL_law_432 (lv_at hl 0 rfl) ?_
  refine lv_iconst (v := 2) hx hb dL_law_434 (by decide) ?_
  refine lv_iadd hx hb dL_law_435 ?_
  refine ld_g hx hb hX hbl hbA hS hg2 (vin (k := 2) (by decide) hlt hL) dL_law_436 ?_
  refine lv_aload_n hx hb dL_law_437 rfl (lv_at hl 4 rfl) ?_
  refine lv_iload hx hb dL_law_438 (lv_at hl 0 rfl) ?_
  refine lv_iconst (v := 3) hx hb dL_law_440 (by decide) ?_
  refine lv_iadd hx hb dL_law_441 ?_
  refine ld_g hx hb hX hbl hbA hS hg3 (vin (k := 3) (by decide) hlt hL) dL_law_442 ?_
  refine lv_aload_n hx hb dL_law_443 rfl (lv_at hl 4 rfl) ?_
  refine lv_iload hx hb dL_law_444 (lv_at hl 0 rfl) ?_
  refine lv_iconst (v := 4) hx hb dL_law_446 (by decide) ?_
  refine lv_iadd hx hb dL_law_447 ?_
  refine ld_g hx hb hX hbl hbA hS hg4 (vin (k := 4) (by decide) hlt hL) dL_law_448 ?_
  refine lv_if_eq (tgt := 456) hx hb dL_law_449 (by decide) (fun c_449 => ?_) (fun c_449 => ?_)
  · refine lv_iconst (v := 0) hx hb dL_law_456 (by decide) ?_
    refine lv_aload_n hx hb dL_law_457 rfl (lv_at hl 1 rfl) ?_
    have hS0 := hS.1
    refine va_calli (vx_runSW (As := [.ref x, .int g1, .int g2, .int g3, .int 0, .ref o]) (rest := []) ⟨hx, hb, hml, hown, hts⟩ (c_L_paste l hl0 I.1 (I.NF hS.1) I.2.2.2.1 I.2.2.2.2.2.2.1 I.2.2.2.2.2.2.2) (vx_cwSW 6 hts gL_law_L_paste rfl rfl rfl (by decide +kernel) ⟨Nat.le_of_ble_eq_true rfl, Nat.le_of_ble_eq_true rfl⟩) (Pq.S hC hS hN) rfl rfl hl.1 rfl (lv_room (Nat.le_of_ble_eq_true rfl)) dL_law_458 ⟨fit_c (by omega), fit_s (by omega)⟩) hS (fun q _ z => I.NO hS.1 q z) (I.NO hS.1) (fun r u t H1 locs ht hvm hw hB hz1 hk1 hS => ?_)
    rw [ht] at hB
    have I1 : LI D cI cL cQ s.heap.size x ah ak b0 b1 b2 b3 b4 m0 a0 a1 a2 a3 a4 a5 o (fun q => F q ∨ H.size ≤ q) u.1 (on, kd, sz, fr, li, st, mi) u.2 H1 := I.cls hS0 hk1 hB.1 hB.2
    refine lv_istore (lv' := [(5, .int r), (4, .int (nI (6 * n))), (3, .ref o), (2, .ref m0), (1, .ref x), (0, .ref b)]) hx hb dL_law_461 hl (by decide) rfl (fun ls hl => ?_)
    refine lv_aload_n hx hb dL_law_463 rfl (lv_at hl 3 rfl) ?_
    refine lv_aload_n hx hb dL_law_464 rfl (lv_at hl 5 rfl) ?_
    refine lv_iload hx hb dL_law_465 (lv_at hl 1 rfl) ?_
    refine lv_iconst (v := 1) hx hb dL_law_467 (by decide) ?_
    refine lv_iadd hx hb dL_law_468 ?_
    refine ld_g hx hb hX hbl hbA hS hg1 (vin (k := 1) (by decide) hlt hL) dL_law_469 ?_
    refine lv_aload_n hx hb dL_law_470 rfl (lv_at hl 5 rfl) ?_
    refine lv_iload hx hb dL_law_471 (lv_at hl 1 rfl) ?_
    refine lv_iconst (v := 2) hx hb dL_law_473 (by decide) ?_
    refine lv_iadd hx hb dL_law_474 ?_
    refine ld_g hx hb hX hbl hbA hS hg2 (vin (k := 2) (by decide) hlt hL) dL_law_475 ?_
    refine lv_aload_n hx hb dL_law_476 rfl (lv_at hl 5 rfl) ?_
    refine lv_iload hx hb dL_law_477 (lv_at hl 1 rfl) ?_
    refine lv_iconst (v := 3) hx hb dL_law_479 (by decide) ?_
    refine lv_iadd hx hb dL_law_480 ?_
    refine ld_g hx hb hX hbl hbA hS hg3 (vin (k := 3) (by decide) hlt hL) dL_law_481 ?_
    refine lv_aload_n hx hb dL_law_482 rfl (lv_at hl 5 rfl) ?_
    refine lv_iload hx hb dL_law_483 (lv_at hl 1 rfl) ?_
    refine lv_iconst (v := 4) hx hb dL_law_485 (by decide) ?_
    refine lv_iadd hx hb dL_law_486 ?_
    refine ld_g hx hb hX hbl hbA hS hg4 (vin (k := 4) (by decide) hlt hL) dL_law_487 ?_
    refine lv_if_eq (tgt := 495) hx hb dL_law_488 (by decide) (fun _ => ?_) (fun c9 => absurd (c_449) c9)
    refine lv_iconst (v := 0) hx hb dL_law_495 (by decide) ?_
    have hMP : va_P D vwCl [(m0, .inr (3, [.ref a0, .ref a1, .ref a2, .ref a3, .ref a4, .ref a5, .int (mi 0), .int (mi 1), .int (mi 2), .int (mi 3), .int (mi 4), .int (mi 5), .int (mi 6), .int (mi 7), .int (mi 8)])), (a0, .inl (cI, 6, .inl on)), (a1, .inl (cI, 7, .inl kd)), (a2, .inl (cI, 7, .inl sz)), (a3, .inl (cL, 280, .inr (.inl fr))), (a4, .inl (cL, 40, .inr (.inl li))), (a5, .inl (cI, 120, .inl st))] H1 := I1.2.1
    have hMD : va_D nT [(m0, .inr (3, [.ref a0, .ref a1, .ref a2, .ref a3, .ref a4, .ref a5, .int (mi 0), .int (mi 1), .int (mi 2), .int (mi 3), .int (mi 4), .int (mi 5), .int (mi 6), .int (mi 7), .int (mi 8)])), (a0, .inl (cI, 6, .inl on)), (a1, .inl (cI, 7, .inl kd)), (a2, .inl (cI, 7, .inl sz)), (a3, .inl (cL, 280, .inr (.inl fr))), (a4, .inl (cL, 40, .inr (.inl li))), (a5, .inl (cI, 120, .inl st))] := I1.2.2.1
    have hMA : ∀ q, va_A [(m0, .inr (3, [.ref a0, .ref a1, .ref a2, .ref a3, .ref a4, .ref a5, .int (mi 0), .int (mi 1), .int (mi 2), .int (mi 3), .int (mi 4), .int (mi 5), .int (mi 6), .int (mi 7), .int (mi 8)])), (a0, .inl (cI, 6, .inl on)), (a1, .inl (cI, 7, .inl kd)), (a2, .inl (cI, 7, .inl sz)), (a3, .inl (cL, 280, .inr (.inl fr))), (a4, .inl (cL, 40, .inr (.inl li))), (a5, .inl (cI, 120, .inl st))] H1.size q → s.heap.size ≤ q := I1.A hS.1
    refine va_calli (va_runV (As := [.int g1, .int g2, .int g3, .int 0]) (rest := []) ⟨hx, hb, hml, hown, hts⟩ (c_X3_paste l hMP hMD hMA (R.1.okOn) (R.1.2.2.2)) (cwV 4 hts gL_law_X3_paste rfl rfl rfl (by decide +kernel) ⟨Nat.le_of_ble_eq_true rfl, Nat.le_of_ble_eq_true rfl⟩) (Pq.V hC hS hN (va_recv hK hMP (ci := 3) (q0 := 0) rfl rfl)) rfl rfl hl.1 rfl (lv_room (Nat.le_of_ble_eq_true rfl)) dL_law_496 ⟨fit_c (by omega), fit_s (by omega)⟩) hS (fun q _ z => hMA q z) hMA (fun bb v2 t2 H2 locs ht2 hvm2 hw2 hB2 hz2 hk2 hS => ?_)
    rw [ht2] at hB2
    have I2 : LI D cI cL cQ s.heap.size x ah ak b0 b1 b2 b3 b4 m0 a0 a1 a2 a3 a4 a5 o (fun q => F q ∨ H.size ≤ q) u.1 v2 u.2 H2 := I1.mod hk2 hB2.1 hB2.2
    have hA := r_paste R hw hw2
    refine lv_istore (lv' := [(6, .int bb), (5, .int r), (4, .int (nI (6 * n))), (3, .ref o), (2, .ref m0), (1, .ref x), (0, .ref b)]) hx hb dL_law_499 hl (by decide) rfl (fun ls hl => ?_)
    refine lv_aload_n hx hb dL_law_501 rfl (lv_at hl 4 rfl) ?_
    refine ro_i (va_runV (As := []) (rest := []) ⟨hx, hb, hml, hown, hts⟩ (c_X3_thrown l I2.2.1) (cwV 0 hts gL_law_X3_thrown rfl rfl rfl (by decide +kernel) ⟨Nat.le_of_ble_eq_true rfl, Nat.le_of_ble_eq_true rfl⟩) (Pq.V hC hS hN (va_recv hK I2.2.1 (ci := 3) (q0 := 0) rfl rfl)) rfl rfl hl.1 rfl (lv_room (Nat.le_of_ble_eq_true rfl)) dL_law_502 ⟨fit_c (by omega), fit_s (by omega)⟩) hS (fun r2 locs hw3 hS => ?_)
    have hw3 : r2 = r := hw3.trans hA.1
    refine lv_iload hx hb dL_law_505 (lv_at hl 1 rfl) ?_
    refine lv_icmp_eq (tgt := 512) hx hb dL_law_507 (by decide) (fun _ => ?_) (fun c9 => absurd (hw3) c9)
    refine lv_iload hx hb dL_law_512 (lv_at hl 1 rfl) ?_
    refine lv_if_ne (tgt := 536) hx hb dL_law_514 (by decide) (fun c_514 => ?_) (fun c_514 => ?_)
    · refine lv_goto (tgt := 1197) hx hb dL_law_536 (by decide) ?_
      refine W.widen (k := 20 + 4 * (n + 1)) (n := 1000 + 54 * (n + 1)) (by omega) (by omega) ?_
      exact kk _ _ _ _ _ _ _ I2 hA.2.2 hS (lv_sub hl [2, 3, 4, 5, 6] rfl)
    · refine lv_aload_n hx hb dL_law_517 rfl (lv_at hl 3 rfl) ?_
      refine lv_iconst (v := 0) hx hb dL_law_518 (by decide) ?_
      refine va_lald (D := D) hx hb hK I2.2.2.2.1 0 1 rfl rfl in01 dL_law_519 ?_
      refine lv_iload hx hb dL_law_520 (lv_at hl 0 rfl) ?_
      refine lv_if_eq (tgt := 529) hx hb dL_law_522 (by decide) (fun c_522 => ?_) (fun c_522 => ?_)
      · refine lv_lconst (v := 0) hx hb dL_law_529 (by decide) ?_
        refine W.lcmp hx hb dL_law_530 ?_
        refine lv_if_eq (tgt := 536) hx hb dL_law_531 (by decide) (fun _ => ?_) (fun c9 => absurd ((lg_cmp_eq (u.2 (0 : Int32).toNatClampNeg) 0).mpr (by rw [sb_cl0, hA.2.1 c_514, if_pos c_522])) c9)
        refine lv_goto (tgt := 1197) hx hb dL_law_536 (by decide) ?_
        refine W.widen (k := 20 + 4 * (n + 1)) (n := 1000 + 54 * (n + 1)) (by omega) (by omega) ?_
        exact kk _ _ _ _ _ _ _ I2 hA.2.2 hS (lv_sub hl [2, 3, 4, 5, 6] rfl)
      · refine lv_lconst (v := 1) hx hb dL_law_525 (by decide) ?_
        refine lv_goto (tgt := 530) hx hb dL_law_526 (by decide) ?_
        refine W.lcmp hx hb dL_law_530 ?_
        refine lv_if_eq (tgt := 536) hx hb dL_law_531 (by decide) (fun _ => ?_) (fun c9 => absurd ((lg_cmp_eq (u.2 (0 : Int32).toNatClampNeg) 1).mpr (by rw [sb_cl0, hA.2.1 c_514, if_neg c_522])) c9)
        refine lv_goto (tgt := 1197) hx hb dL_law_536 (by decide) ?_
        refine W.widen (k := 20 + 4 * (n + 1)) (n := 1000 + 54 * (n + 1)) (by omega) (by omega) ?_
        exact kk _ _ _ _ _ _ _ I2 hA.2.2 hS (lv_sub hl [2, 3, 4, 5, 6] rfl)
  · refine lv_iconst (v := 1) hx hb dL_law_452 (by decide) ?_
    refine lv_goto (tgt := 457) hx hb dL_law_453 (by decide) ?_
    refine lv_aload_n hx hb dL_law_457 rfl (lv_at hl 1 rfl) ?_
    have hS0 := hS.1
    refine va_calli (vx_runSW (As := [.ref x, .int g1, .int g2, .int g3, .int 1, .ref o]) (rest := []) ⟨hx, hb, hml, hown, hts⟩ (c_L_paste l hl0 I.1 (I.NF hS.1) I.2.2.2.1 I.2.2.2.2.2.2.1 I.2.2.2.2.2.2.2) (vx_cwSW 6 hts gL_law_L_paste rfl rfl rfl (by decide +kernel) ⟨Nat.le_of_ble_eq_true rfl, Nat.le_of_ble_eq_true rfl⟩) (Pq.S hC hS hN) rfl rfl hl.1 rfl (lv_room (Nat.le_of_ble_eq_true rfl)) dL_law_458 ⟨fit_c (by omega), fit_s (by omega)⟩) hS (fun q _ z => I.NO hS.1 q z) (I.NO hS.1) (fun r u t H1 locs ht hvm hw hB hz1 hk1 hS => ?_)
    rw [ht] at hB
    have I1 : LI D cI cL cQ s.heap.size x ah ak b0 b1 b2 b3 b4 m0 a0 a1 a2 a3 a4 a5 o (fun q => F q ∨ H.size ≤ q) u.1 (on, kd, sz, fr, li, st, mi) u.2 H1 := I.cls hS0 hk1 hB.1 hB.2
    refine lv_istore (lv' := [(5, .int r), (4, .int (nI (6 * n))), (3, .ref o), (2, .ref m0), (1, .ref x), (0, .ref b)]) hx hb dL_law_461 hl (by decide) rfl (fun ls hl => ?_)
    refine lv_aload_n hx hb dL_law_463 rfl (lv_at hl 3 rfl) ?_
    refine lv_aload_n hx hb dL_law_464 rfl (lv_at hl 5 rfl) ?_
    refine lv_iload hx hb dL_law_465 (lv_at hl 1 rfl) ?_
    refine lv_iconst (v := 1) hx hb dL_law_467 (by decide) ?_
    refine lv_iadd hx hb dL_law_468 ?_
    refine ld_g hx hb hX hbl hbA hS hg1 (vin (k := 1) (by decide) hlt hL) dL_law_469 ?_
    refine lv_aload_n hx hb dL_law_470 rfl (lv_at hl 5 rfl) ?_
    refine lv_iload hx hb dL_law_471 (lv_at hl 1 rfl) ?_
    refine lv_iconst (v := 2) hx hb dL_law_473 (by decide) ?_
    refine lv_iadd hx hb dL_law_474 ?_
    refine ld_g hx hb hX hbl hbA hS hg2 (vin (k := 2) (by decide) hlt hL) dL_law_475 ?_
    refine lv_aload_n hx hb dL_law_476 rfl (lv_at hl 5 rfl) ?_
    refine lv_iload hx hb dL_law_477 (lv_at hl 1 rfl) ?_
    refine lv_iconst (v := 3) hx hb dL_law_479 (by decide) ?_
    refine lv_iadd hx hb dL_law_480 ?_
    refine ld_g hx hb hX hbl hbA hS hg3 (vin (k := 3) (by decide) hlt hL) dL_law_481 ?_
    refine lv_aload_n hx hb dL_law_482 rfl (lv_at hl 5 rfl) ?_
    refine lv_iload hx hb dL_law_483 (lv_at hl 1 rfl) ?_
    refine lv_iconst (v := 4) hx hb dL_law_485 (by decide) ?_
    refine lv_iadd hx hb dL_law_486 ?_
    refine ld_g hx hb hX hbl hbA hS hg4 (vin (k := 4) (by decide) hlt hL) dL_law_487 ?_
    refine lv_if_eq (tgt := 495) hx hb dL_law_488 (by decide) (fun c9 => absurd c9 (c_449)) (fun _ => ?_)
    refine lv_iconst (v := 1) hx hb dL_law_491 (by decide) ?_
    refine lv_goto (tgt := 496) hx hb dL_law_492 (by decide) ?_
    have hMP : va_P D vwCl [(m0, .inr (3, [.ref a0, .ref a1, .ref a2, .ref a3, .ref a4, .ref a5, .int (mi 0), .int (mi 1), .int (mi 2), .int (mi 3), .int (mi 4), .int (mi 5), .int (mi 6), .int (mi 7), .int (mi 8)])), (a0, .inl (cI, 6, .inl on)), (a1, .inl (cI, 7, .inl kd)), (a2, .inl (cI, 7, .inl sz)), (a3, .inl (cL, 280, .inr (.inl fr))), (a4, .inl (cL, 40, .inr (.inl li))), (a5, .inl (cI, 120, .inl st))] H1 := I1.2.1
    have hMD : va_D nT [(m0, .inr (3, [.ref a0, .ref a1, .ref a2, .ref a3, .ref a4, .ref a5, .int (mi 0), .int (mi 1), .int (mi 2), .int (mi 3), .int (mi 4), .int (mi 5), .int (mi 6), .int (mi 7), .int (mi 8)])), (a0, .inl (cI, 6, .inl on)), (a1, .inl (cI, 7, .inl kd)), (a2, .inl (cI, 7, .inl sz)), (a3, .inl (cL, 280, .inr (.inl fr))), (a4, .inl (cL, 40, .inr (.inl li))), (a5, .inl (cI, 120, .inl st))] := I1.2.2.1
    have hMA : ∀ q, va_A [(m0, .inr (3, [.ref a0, .ref a1, .ref a2, .ref a3, .ref a4, .ref a5, .int (mi 0), .int (mi 1), .int (mi 2), .int (mi 3), .int (mi 4), .int (mi 5), .int (mi 6), .int (mi 7), .int (mi 8)])), (a0, .inl (cI, 6, .inl on)), (a1, .inl (cI, 7, .inl kd)), (a2, .inl (cI, 7, .inl sz)), (a3, .inl (cL, 280, .inr (.inl fr))), (a4, .inl (cL, 40, .inr (.inl li))), (a5, .inl (cI, 120, .inl st))] H1.size q → s.heap.size ≤ q := I1.A hS.1
    refine va_calli (va_runV (As := [.int g1, .int g2, .int g3, .int 1]) (rest := []) ⟨hx, hb, hml, hown, hts⟩ (c_X3_paste l hMP hMD hMA (R.1.okOn) (R.1.2.2.2)) (cwV 4 hts gL_law_X3_paste rfl rfl rfl (by decide +kernel) ⟨Nat.le_of_ble_eq_true rfl, Nat.le_of_ble_eq_true rfl⟩) (Pq.V hC hS hN (va_recv hK hMP (ci := 3) (q0 := 0) rfl rfl)) rfl rfl hl.1 rfl (lv_room (Nat.le_of_ble_eq_true rfl)) dL_law_496 ⟨fit_c (by omega), fit_s (by omega)⟩) hS (fun q _ z => hMA q z) hMA (fun bb v2 t2 H2 locs ht2 hvm2 hw2 hB2 hz2 hk2 hS => ?_)
    rw [ht2] at hB2
    have I2 : LI D cI cL cQ s.heap.size x ah ak b0 b1 b2 b3 b4 m0 a0 a1 a2 a3 a4 a5 o (fun q => F q ∨ H.size ≤ q) u.1 v2 u.2 H2 := I1.mod hk2 hB2.1 hB2.2
    have hA := r_paste R hw hw2
    refine lv_istore (lv' := [(6, .int bb), (5, .int r), (4, .int (nI (6 * n))), (3, .ref o), (2, .ref m0), (1, .ref x), (0, .ref b)]) hx hb dL_law_499 hl (by decide) rfl (fun ls hl => ?_)
    refine lv_aload_n hx hb dL_law_501 rfl (lv_at hl 4 rfl) ?_
    refine ro_i (va_runV (As := []) (rest := []) ⟨hx, hb, hml, hown, hts⟩ (c_X3_thrown l I2.2.1) (cwV 0 hts gL_law_X3_thrown rfl rfl rfl (by decide +kernel) ⟨Nat.le_of_ble_eq_true rfl, Nat.le_of_ble_eq_true rfl⟩) (Pq.V hC hS hN (va_recv hK I2.2.1 (ci := 3) (q0 := 0) rfl rfl)) rfl rfl hl.1 rfl (lv_room (Nat.le_of_ble_eq_true rfl)) dL_law_502 ⟨fit_c (by omega), fit_s (by omega)⟩) hS (fun r2 locs hw3 hS => ?_)
    have hw3 : r2 = r := hw3.trans hA.1
    refine lv_iload hx hb dL_law_505 (lv_at hl 1 rfl) ?_
    refine lv_icmp_eq (tgt := 512) hx hb dL_law_507 (by decide) (fun _ => ?_) (fun c9 => absurd (hw3) c9)
    refine lv_iload hx hb dL_law_512 (lv_at hl 1 rfl) ?_
    refine lv_if_ne (tgt := 536) hx hb dL_law_514 (by decide) (fun c_514 => ?_) (fun c_514 => ?_)
    · refine lv_goto (tgt := 1197) hx hb dL_law_536 (by decide) ?_
      refine W.widen (k := 20 + 4 * (n + 1)) (n := 1000 + 54 * (n + 1)) (by omega) (by omega) ?_
      exact kk _ _ _ _ _ _ _ I2 hA.2.2 hS (lv_sub hl [2, 3, 4, 5, 6] rfl)
    · refine lv_aload_n hx hb dL_law_517 rfl (lv_at hl 3 rfl) ?_
      refine lv_iconst (v := 0) hx hb dL_law_518 (by decide) ?_
      refine va_lald (D := D) hx hb hK I2.2.2.2.1 0 1 rfl rfl in01 dL_law_519 ?_
      refine lv_iload hx hb dL_law_520 (lv_at hl 0 rfl) ?_
      refine lv_if_eq (tgt := 529) hx hb dL_law_522 (by decide) (fun c_522 => ?_) (fun c_522 => ?_)
      · refine lv_lconst (v := 0) hx hb dL_law_529 (by decide) ?_
        refine W.lcmp hx hb dL_law_530 ?_
        refine lv_if_eq (tgt := 536) hx hb dL_law_531 (by decide) (fun _ => ?_) (fun c9 => absurd ((lg_cmp_eq (u.2 (0 : Int32).toNatClampNeg) 0).mpr (by rw [sb_cl0, hA.2.1 c_514, if_pos c_522])) c9)
        refine lv_goto (tgt := 1197) hx hb dL_law_536 (by decide) ?_
        refine W.widen (k := 20 + 4 * (n + 1)) (n := 1000 + 54 * (n + 1)) (by omega) (by omega) ?_
        exact kk _ _ _ _ _ _ _ I2 hA.2.2 hS (lv_sub hl [2, 3, 4, 5, 6] rfl)
      · refine lv_lconst (v := 1) hx hb dL_law_525 (by decide) ?_
        refine lv_goto (tgt := 530) hx hb dL_law_526 (by decide) ?_
        refine W.lcmp hx hb dL_law_530 ?_
        refine lv_if_eq (tgt := 536) hx hb dL_law_531 (by decide) (fun _ => ?_) (fun c9 => absurd ((lg_cmp_eq (u.2 (0 : Int32).toNatClampNeg) 1).mpr (by rw [sb_cl0, hA.2.1 c_514, if_neg c_522])) c9)
        refine lv_goto (tgt := 1197) hx hb dL_law_536 (by decide) ?_
        refine W.widen (k := 20 + 4 * (n + 1)) (n := 1000 + 54 * (n + 1)) (by omega) (by omega) ?_
        exact kk _ _ _ _ _ _ _ I2 hA.2.2 hS (lv_sub hl [2, 3, 4, 5, 6] rfl)
set_option maxHeartbeats 4000000 in
set_option maxRecDepth 100000 in
theorem lc_pull {p : Program} {l : Launch} {e : Env} {s : State} {m : MethodId} {args : Array Value} {below : List Frame} {meth : Method} {c : Code} {Q : State → Prop} {D : va_G} {cI cL cQ : ClassId} {sa : Nat → Nat} {b L : Nat} {xs : Nat → Int32} (K0 : LC p l s m args c D cI cL cQ sa b L xs) {x ah ak b0 b1 b2 b3 b4 m0 a0 a1 a2 a3 a4 a5 o : Nat} {n : Nat} (hlt : 6 * n + 6 ≤ L) {cs : CS} {v : MS} {F : Nat → Prop} {fo : Nat → Int64} {H : Heap} {locs : List Loc} {ls : Array Slot} (I : LI D cI cL cQ s.heap.size x ah ak b0 b1 b2 b3 b4 m0 a0 a1 a2 a3 a4 a5 o F cs v fo H) (R : Rel cs v) (hS : va_S (fun q => s.heap.size ≤ q) s.heap H locs) (hl : lv_has ls 8 [(4, .int (nI (6 * n))), (3, .ref o), (2, .ref m0), (1, .ref x), (0, .ref b)])
    (kk : ∀ (F1 : Nat → Prop) (cs1 : CS) (v1 : MS) (fo1 : Nat → Int64) (H1 : Heap) (locs1 : List Loc) (ls1 : Array Slot), LI D cI cL cQ s.heap.size x ah ak b0 b1 b2 b3 b4 m0 a0 a1 a2 a3 a4 a5 o F1 cs1 v1 fo1 H1 → Rel cs1 v1 → va_S (fun q => s.heap.size ≤ q) s.heap H1 locs1 → lv_has ls1 8 [(4, .int (nI (6 * n))), (3, .ref o), (2, .ref m0), (1, .ref x), (0, .ref b)] → W p l e room_1 s m args below meth c H1 locs1 (20 + 4 * (n + 1)) (1000 + 54 * (n + 1)) Q (F0 m 1197 ls1 [])) : W p l e room_1 s m args below meth c H locs (20 + 4 * n) (1000 + 54 * n) Q (F0 m 539 ls []) := by
  obtain ⟨hx, hb, hml, hown, hts, hC, hl0, hX, hbl, hL⟩ := K0
  have hK := hC.K
  have hbA : ¬ s.heap.size ≤ b := Nat.not_le_of_lt hbl
  have hN : ∀ q : Nat, s.heap.size ≤ q → s.heap.size ≤ q := fun _ z => z
  obtain ⟨hk, re, kn, sh, k⟩ := cs
  obtain ⟨on, kd, sz, fr, li, st, mi⟩ := v
  obtain ⟨g1, hg1⟩ : ∃ g : Int32, g = xs (nI (6 * n) + 1).toNatClampNeg := ⟨_, rfl⟩
  obtain ⟨g2, hg2⟩ : ∃ g : Int32, g = xs (nI (6 * n) + 2).toNatClampNeg := ⟨_, rfl⟩
  refine lv_aload_n hx hb dL_law_539 rfl (lv_at hl 3 rfl) ?_
  refine lv_aload_n hx hb dL_law_540 rfl (lv_at hl 4 rfl) ?_
  refine lv_iload hx hb dL_law_541 (lv_at hl 0 rfl) ?_
  refine lv_iconst (v := 1) hx hb dL_law_543 (by decide) ?_
  refine lv_iadd hx hb dL_law_544 ?_
  refine ld_g hx hb hX hbl hbA hS hg1 (vin (k := 1) (by decide) hlt hL) dL_law_545 ?_
  refine lv_aload_n hx hb dL_law_546 rfl (lv_at hl 4 rfl) ?_
  refine lv_iload hx hb dL_law_547 (lv_at hl 0 rfl) ?_
  refine lv_iconst (v := 2) hx hb dL_law_549 (by decide) ?_
  refine lv_iadd hx hb dL_law_550 ?_
  refine ld_g hx hb hX hbl hbA hS hg2 (vin (k := 2) (by decide) hlt hL) dL_law_551 ?_
  refine lv_aload_n hx hb dL_law_552 rfl (lv_at hl 1 rfl) ?_
  have hS0 := hS.1
  refine va_calli (vx_runSW (As := [.ref x, .int g1, .int g2, .ref o]) (rest := []) ⟨hx, hb, hml, hown, hts⟩ (c_L_pull l hl0 I.1 (I.NF hS.1) I.2.2.2.1 I.2.2.2.2.2.2.1 I.2.2.2.2.2.2.2) (vx_cwSW 4 hts gL_law_L_pull rfl rfl rfl (by decide +kernel) ⟨Nat.le_of_ble_eq_true rfl, Nat.le_of_ble_eq_true rfl⟩) (Pq.S hC hS hN) rfl rfl hl.1 rfl (lv_room (Nat.le_of_ble_eq_true rfl)) dL_law_553 ⟨fit_c (by omega), fit_s (by omega)⟩) hS (fun q _ z => I.NO hS.1 q z) (I.NO hS.1) (fun r u t H1 locs ht hvm hw hB hz1 hk1 hS => ?_)
  rw [ht] at hB
  have I1 : LI D cI cL cQ s.heap.size x ah ak b0 b1 b2 b3 b4 m0 a0 a1 a2 a3 a4 a5 o (fun q => F q ∨ H.size ≤ q) u.1 (on, kd, sz, fr, li, st, mi) u.2 H1 := I.cls hS0 hk1 hB.1 hB.2
  refine lv_istore (lv' := [(5, .int r), (4, .int (nI (6 * n))), (3, .ref o), (2, .ref m0), (1, .ref x), (0, .ref b)]) hx hb dL_law_556 hl (by decide) rfl (fun ls hl => ?_)
  refine lv_aload_n hx hb dL_law_558 rfl (lv_at hl 3 rfl) ?_
  refine lv_aload_n hx hb dL_law_559 rfl (lv_at hl 5 rfl) ?_
  refine lv_iload hx hb dL_law_560 (lv_at hl 1 rfl) ?_
  refine lv_iconst (v := 1) hx hb dL_law_562 (by decide) ?_
  refine lv_iadd hx hb dL_law_563 ?_
  refine ld_g hx hb hX hbl hbA hS hg1 (vin (k := 1) (by decide) hlt hL) dL_law_564 ?_
  refine lv_aload_n hx hb dL_law_565 rfl (lv_at hl 5 rfl) ?_
  refine lv_iload hx hb dL_law_566 (lv_at hl 1 rfl) ?_
  refine lv_iconst (v := 2) hx hb dL_law_568 (by decide) ?_
  refine lv_iadd hx hb dL_law_569 ?_
  refine ld_g hx hb hX hbl hbA hS hg2 (vin (k := 2) (by decide) hlt hL) dL_law_570 ?_
  have hMP : va_P D vwCl [(m0, .inr (3, [.ref a0, .ref a1, .ref a2, .ref a3, .ref a4, .ref a5, .int (mi 0), .int (mi 1), .int (mi 2), .int (mi 3), .int (mi 4), .int (mi 5), .int (mi 6), .int (mi 7), .int (mi 8)])), (a0, .inl (cI, 6, .inl on)), (a1, .inl (cI, 7, .inl kd)), (a2, .inl (cI, 7, .inl sz)), (a3, .inl (cL, 280, .inr (.inl fr))), (a4, .inl (cL, 40, .inr (.inl li))), (a5, .inl (cI, 120, .inl st))] H1 := I1.2.1
  have hMD : va_D nT [(m0, .inr (3, [.ref a0, .ref a1, .ref a2, .ref a3, .ref a4, .ref a5, .int (mi 0), .int (mi 1), .int (mi 2), .int (mi 3), .int (mi 4), .int (mi 5), .int (mi 6), .int (mi 7), .int (mi 8)])), (a0, .inl (cI, 6, .inl on)), (a1, .inl (cI, 7, .inl kd)), (a2, .inl (cI, 7, .inl sz)), (a3, .inl (cL, 280, .inr (.inl fr))), (a4, .inl (cL, 40, .inr (.inl li))), (a5, .inl (cI, 120, .inl st))] := I1.2.2.1
  have hMA : ∀ q, va_A [(m0, .inr (3, [.ref a0, .ref a1, .ref a2, .ref a3, .ref a4, .ref a5, .int (mi 0), .int (mi 1), .int (mi 2), .int (mi 3), .int (mi 4), .int (mi 5), .int (mi 6), .int (mi 7), .int (mi 8)])), (a0, .inl (cI, 6, .inl on)), (a1, .inl (cI, 7, .inl kd)), (a2, .inl (cI, 7, .inl sz)), (a3, .inl (cL, 280, .inr (.inl fr))), (a4, .inl (cL, 40, .inr (.inl li))), (a5, .inl (cI, 120, .inl st))] H1.size q → s.heap.size ≤ q := I1.A hS.1
  refine va_calli (va_runV (As := [.int g1, .int g2]) (rest := []) ⟨hx, hb, hml, hown, hts⟩ (c_X3_pull l hMP hMD hMA (R.1.okOn) (R.1.2.2.2)) (cwV 2 hts gL_law_X3_pull rfl rfl rfl (by decide +kernel) ⟨Nat.le_of_ble_eq_true rfl, Nat.le_of_ble_eq_true rfl⟩) (Pq.V hC hS hN (va_recv hK hMP (ci := 3) (q0 := 0) rfl rfl)) rfl rfl hl.1 rfl (lv_room (Nat.le_of_ble_eq_true rfl)) dL_law_571 ⟨fit_c (by omega), fit_s (by omega)⟩) hS (fun q _ z => hMA q z) hMA (fun bb v2 t2 H2 locs ht2 hvm2 hw2 hB2 hz2 hk2 hS => ?_)
  rw [ht2] at hB2
  have I2 : LI D cI cL cQ s.heap.size x ah ak b0 b1 b2 b3 b4 m0 a0 a1 a2 a3 a4 a5 o (fun q => F q ∨ H.size ≤ q) u.1 v2 u.2 H2 := I1.mod hk2 hB2.1 hB2.2
  have hA := r_pull R hw hw2
  refine lv_istore (lv' := [(6, .int bb), (5, .int r), (4, .int (nI (6 * n))), (3, .ref o), (2, .ref m0), (1, .ref x), (0, .ref b)]) hx hb dL_law_574 hl (by decide) rfl (fun ls hl => ?_)
  refine lv_aload_n hx hb dL_law_576 rfl (lv_at hl 4 rfl) ?_
  refine ro_i (va_runV (As := []) (rest := []) ⟨hx, hb, hml, hown, hts⟩ (c_X3_thrown l I2.2.1) (cwV 0 hts gL_law_X3_thrown rfl rfl rfl (by decide +kernel) ⟨Nat.le_of_ble_eq_true rfl, Nat.le_of_ble_eq_true rfl⟩) (Pq.V hC hS hN (va_recv hK I2.2.1 (ci := 3) (q0 := 0) rfl rfl)) rfl rfl hl.1 rfl (lv_room (Nat.le_of_ble_eq_true rfl)) dL_law_577 ⟨fit_c (by omega), fit_s (by omega)⟩) hS (fun r2 locs hw3 hS => ?_)
  have hw3 : r2 = r := hw3.trans hA.1
  refine lv_iload hx hb dL_law_580 (lv_at hl 1 rfl) ?_
  refine lv_icmp_eq (tgt := 587) hx hb dL_law_582 (by decide) (fun _ => ?_) (fun c9 => absurd (hw3) c9)
  refine lv_iload hx hb dL_law_587 (lv_at hl 1 rfl) ?_
  refine lv_if_ne (tgt := 611) hx hb dL_law_589 (by decide) (fun c_589 => ?_) (fun c_589 => ?_)
  · refine lv_goto (tgt := 1197) hx hb dL_law_611 (by decide) ?_
    refine W.widen (k := 20 + 4 * (n + 1)) (n := 1000 + 54 * (n + 1)) (by omega) (by omega) ?_
    exact kk _ _ _ _ _ _ _ I2 hA.2.2 hS (lv_sub hl [2, 3, 4, 5, 6] rfl)
  · refine lv_aload_n hx hb dL_law_592 rfl (lv_at hl 3 rfl) ?_
    refine lv_iconst (v := 0) hx hb dL_law_593 (by decide) ?_
    refine va_lald (D := D) hx hb hK I2.2.2.2.1 0 1 rfl rfl in01 dL_law_594 ?_
    refine lv_iload hx hb dL_law_595 (lv_at hl 0 rfl) ?_
    refine lv_if_eq (tgt := 604) hx hb dL_law_597 (by decide) (fun c_597 => ?_) (fun c_597 => ?_)
    · refine lv_lconst (v := 0) hx hb dL_law_604 (by decide) ?_
      refine W.lcmp hx hb dL_law_605 ?_
      refine lv_if_eq (tgt := 611) hx hb dL_law_606 (by decide) (fun _ => ?_) (fun c9 => absurd ((lg_cmp_eq (u.2 (0 : Int32).toNatClampNeg) 0).mpr (by rw [sb_cl0, hA.2.1 c_589, if_pos c_597])) c9)
      refine lv_goto (tgt := 1197) hx hb dL_law_611 (by decide) ?_
      refine W.widen (k := 20 + 4 * (n + 1)) (n := 1000 + 54 * (n + 1)) (by omega) (by omega) ?_
      exact kk _ _ _ _ _ _ _ I2 hA.2.2 hS (lv_sub hl [2, 3, 4, 5, 6] rfl)
    · refine lv_lconst (v := 1) hx hb dL_law_600 (by decide) ?_
      refine lv_goto (tgt := 605) hx hb dL_law_601 (by decide) ?_
      refine W.lcmp hx hb dL_law_605 ?_
      refine lv_if_eq (tgt := 611) hx hb dL_law_606 (by decide) (fun _ => ?_) (fun c9 => absurd ((lg_cmp_eq (u.2 (0 : Int32).toNatClampNeg) 1).mpr (by rw [sb_cl0, hA.2.1 c_589, if_neg c_597])) c9)
      refine lv_goto (tgt := 1197) hx hb dL_law_611 (by decide) ?_
      refine W.widen (k := 20 + 4 * (n + 1)) (n := 1000 + 54 * (n + 1)) (by omega) (by omega) ?_
      exact kk _ _ _ _ _ _ _ I2 hA.2.2 hS (lv_sub hl [2, 3, 4, 5, 6] rfl)
set_option maxHeartbeats 4000000 in
set_option maxRecDepth 100000 in
theorem lc_splice {p : Program} {l : Launch} {e : Env} {s : State} {m : MethodId} {args : Array Value} {below : List Frame} {meth : Method} {c : Code} {Q : State → Prop} {D : va_G} {cI cL cQ : ClassId} {sa : Nat → Nat} {b L : Nat} {xs : Nat → Int32} (K0 : LC p l s m args c D cI cL cQ sa b L xs) {x ah ak b0 b1 b2 b3 b4 m0 a0 a1 a2 a3 a4 a5 o : Nat} {n : Nat} (hlt : 6 * n + 6 ≤ L) {cs : CS} {v : MS} {F : Nat → Prop} {fo : Nat → Int64} {H : Heap} {locs : List Loc} {ls : Array Slot} (I : LI D cI cL cQ s.heap.size x ah ak b0 b1 b2 b3 b4 m0 a0 a1 a2 a3 a4 a5 o F cs v fo H) (R : Rel cs v) (hS : va_S (fun q => s.heap.size ≤ q) s.heap H locs) (hl : lv_has ls 8 [(4, .int (nI (6 * n))), (3, .ref o), (2, .ref m0), (1, .ref x), (0, .ref b)])
    (kk : ∀ (F1 : Nat → Prop) (cs1 : CS) (v1 : MS) (fo1 : Nat → Int64) (H1 : Heap) (locs1 : List Loc) (ls1 : Array Slot), LI D cI cL cQ s.heap.size x ah ak b0 b1 b2 b3 b4 m0 a0 a1 a2 a3 a4 a5 o F1 cs1 v1 fo1 H1 → Rel cs1 v1 → va_S (fun q => s.heap.size ≤ q) s.heap H1 locs1 → lv_has ls1 8 [(4, .int (nI (6 * n))), (3, .ref o), (2, .ref m0), (1, .ref x), (0, .ref b)] → W p l e room_1 s m args below meth c H1 locs1 (20 + 4 * (n + 1)) (1000 + 54 * (n + 1)) Q (F0 m 1197 ls1 [])) : W p l e room_1 s m args below meth c H locs (20 + 4 * n) (1000 + 54 * n) Q (F0 m 614 ls []) := by
  obtain ⟨hx, hb, hml, hown, hts, hC, hl0, hX, hbl, hL⟩ := K0
  have hK := hC.K
  have hbA : ¬ s.heap.size ≤ b := Nat.not_le_of_lt hbl
  have hN : ∀ q : Nat, s.heap.size ≤ q → s.heap.size ≤ q := fun _ z => z
  obtain ⟨hk, re, kn, sh, k⟩ := cs
  obtain ⟨on, kd, sz, fr, li, st, mi⟩ := v
  obtain ⟨g1, hg1⟩ : ∃ g : Int32, g = xs (nI (6 * n) + 1).toNatClampNeg := ⟨_, rfl⟩
  obtain ⟨g2, hg2⟩ : ∃ g : Int32, g = xs (nI (6 * n) + 2).toNatClampNeg := ⟨_, rfl⟩
  obtain ⟨g3, hg3⟩ : ∃ g : Int32, g = xs (nI (6 * n) + 3).toNatClampNeg := ⟨_, rfl⟩
  obtain ⟨g4, hg4⟩ : ∃ g : Int32, g = xs (nI (6 * n) + 4).toNatClampNeg := ⟨_, rfl⟩
  obtain ⟨g5, hg5⟩ : ∃ g : Int32, g = xs (nI (6 * n) + 5).toNatClampNeg := ⟨_, rfl⟩
  refine lv_aload_n hx hb dL_law_614 rfl (lv_at hl 3 rfl) ?_
  refine lv_aload_n hx hb dL_law_615 rfl (lv_at hl 4 rfl) ?_
  refine lv_iload hx hb dL_law_616 (lv_at hl 0 rfl) ?_
  refine lv_iconst (v := 1) hx hb dL_law_618 (by decide) ?_
  refine lv_iadd hx hb dL_law_619 ?_
  refine ld_g hx hb hX hbl hbA hS hg1 (vin (k := 1) (by decide) hlt hL) dL_law_620 ?_
  refine lv_aload_n hx hb dL_law_621 rfl (lv_at hl 4 rfl) ?_
  refine lv_iload hx hb dL_law_622 (lv_at hl 0 rfl) ?_
  refine lv_iconst (v := 2) hx hb dL_law_624 (by decide) ?_
  refine lv_iadd hx hb dL_law_625 ?_
  refine ld_g hx hb hX hbl hbA hS hg2 (vin (k := 2) (by decide) hlt hL) dL_law_626 ?_
  refine lv_aload_n hx hb dL_law_627 rfl (lv_at hl 4 rfl) ?_
  refine lv_iload hx hb dL_law_628 (lv_at hl 0 rfl) ?_
  refine lv_iconst (v := 3) hx hb dL_law_630 (by decide) ?_
  refine lv_iadd hx hb dL_law_631 ?_
  refine ld_g hx hb hX hbl hbA hS hg3 (vin (k := 3) (by decide) hlt hL) dL_law_632 ?_
  refine lv_aload_n hx hb dL_law_633 rfl (lv_at hl 4 rfl) ?_
  refine lv_iload hx hb dL_law_634 (lv_at hl 0 rfl) ?_
  refine lv_iconst (v := 4) hx hb dL_law_636 (by decide) ?_
  refine lv_iadd hx hb dL_law_637 ?_
  refine ld_g hx hb hX hbl hbA hS hg4 (vin (k := 4) (by decide) hlt hL) dL_law_638 ?_
  refine lv_aload_n hx hb dL_law_639 rfl (lv_at hl 4 rfl) ?_
  refine lv_iload hx hb dL_law_640 (lv_at hl 0 rfl) ?_
  refine lv_iconst (v := 5) hx hb dL_law_642 (by decide) ?_
  refine lv_iadd hx hb dL_law_643 ?_
  refine ld_g hx hb hX hbl hbA hS hg5 (vin (k := 5) (by decide) hlt hL) dL_law_644 ?_
  refine lv_aload_n hx hb dL_law_645 rfl (lv_at hl 1 rfl) ?_
  have hS0 := hS.1
  refine va_calli (vx_runSW (As := [.ref x, .int g1, .int g2, .int g3, .int g4, .int g5, .ref o]) (rest := []) ⟨hx, hb, hml, hown, hts⟩ (c_L_splice l hl0 I.1 (I.NF hS.1) I.2.2.2.1 I.2.2.2.2.2.2.1 I.2.2.2.2.2.2.2) (vx_cwSW 7 hts gL_law_L_splice rfl rfl rfl (by decide +kernel) ⟨Nat.le_of_ble_eq_true rfl, Nat.le_of_ble_eq_true rfl⟩) (Pq.S hC hS hN) rfl rfl hl.1 rfl (lv_room (Nat.le_of_ble_eq_true rfl)) dL_law_646 ⟨fit_c (by omega), fit_s (by omega)⟩) hS (fun q _ z => I.NO hS.1 q z) (I.NO hS.1) (fun r u t H1 locs ht hvm hw hB hz1 hk1 hS => ?_)
  rw [ht] at hB
  have I1 : LI D cI cL cQ s.heap.size x ah ak b0 b1 b2 b3 b4 m0 a0 a1 a2 a3 a4 a5 o (fun q => F q ∨ H.size ≤ q) u.1 (on, kd, sz, fr, li, st, mi) u.2 H1 := I.cls hS0 hk1 hB.1 hB.2
  refine lv_istore (lv' := [(5, .int r), (4, .int (nI (6 * n))), (3, .ref o), (2, .ref m0), (1, .ref x), (0, .ref b)]) hx hb dL_law_649 hl (by decide) rfl (fun ls hl => ?_)
  refine lv_aload_n hx hb dL_law_651 rfl (lv_at hl 3 rfl) ?_
  refine lv_aload_n hx hb dL_law_652 rfl (lv_at hl 5 rfl) ?_
  refine lv_iload hx hb dL_law_653 (lv_at hl 1 rfl) ?_
  refine lv_iconst (v := 1) hx hb dL_law_655 (by decide) ?_
  refine lv_iadd hx hb dL_law_656 ?_
  refine ld_g hx hb hX hbl hbA hS hg1 (vin (k := 1) (by decide) hlt hL) dL_law_657 ?_
  refine lv_aload_n hx hb dL_law_658 rfl (lv_at hl 5 rfl) ?_
  refine lv_iload hx hb dL_law_659 (lv_at hl 1 rfl) ?_
  refine lv_iconst (v := 2) hx hb dL_law_661 (by decide) ?_
  refine lv_iadd hx hb dL_law_662 ?_
  refine ld_g hx hb hX hbl hbA hS hg2 (vin (k := 2) (by decide) hlt hL) dL_law_663 ?_
  refine lv_aload_n hx hb dL_law_664 rfl (lv_at hl 5 rfl) ?_
  refine lv_iload hx hb dL_law_665 (lv_at hl 1 rfl) ?_
  refine lv_iconst (v := 3) hx hb dL_law_667 (by decide) ?_
  refine lv_iadd hx hb dL_law_668 ?_
  refine ld_g hx hb hX hbl hbA hS hg3 (vin (k := 3) (by decide) hlt hL) dL_law_669 ?_
  refine lv_aload_n hx hb dL_law_670 rfl (lv_at hl 5 rfl) ?_
  refine lv_iload hx hb dL_law_671 (lv_at hl 1 rfl) ?_
  refine lv_iconst (v := 4) hx hb dL_law_673 (by decide) ?_
  refine lv_iadd hx hb dL_law_674 ?_
  refine ld_g hx hb hX hbl hbA hS hg4 (vin (k := 4) (by decide) hlt hL) dL_law_675 ?_
  refine lv_aload_n hx hb dL_law_676 rfl (lv_at hl 5 rfl) ?_
  refine lv_iload hx hb dL_law_677 (lv_at hl 1 rfl) ?_
  refine lv_iconst (v := 5) hx hb dL_law_679 (by decide) ?_
  refine lv_iadd hx hb dL_law_680 ?_
  refine ld_g hx hb hX hbl hbA hS hg5 (vin (k := 5) (by decide) hlt hL) dL_law_681 ?_
  have hMP : va_P D vwCl [(m0, .inr (3, [.ref a0, .ref a1, .ref a2, .ref a3, .ref a4, .ref a5, .int (mi 0), .int (mi 1), .int (mi 2), .int (mi 3), .int (mi 4), .int (mi 5), .int (mi 6), .int (mi 7), .int (mi 8)])), (a0, .inl (cI, 6, .inl on)), (a1, .inl (cI, 7, .inl kd)), (a2, .inl (cI, 7, .inl sz)), (a3, .inl (cL, 280, .inr (.inl fr))), (a4, .inl (cL, 40, .inr (.inl li))), (a5, .inl (cI, 120, .inl st))] H1 := I1.2.1
  have hMD : va_D nT [(m0, .inr (3, [.ref a0, .ref a1, .ref a2, .ref a3, .ref a4, .ref a5, .int (mi 0), .int (mi 1), .int (mi 2), .int (mi 3), .int (mi 4), .int (mi 5), .int (mi 6), .int (mi 7), .int (mi 8)])), (a0, .inl (cI, 6, .inl on)), (a1, .inl (cI, 7, .inl kd)), (a2, .inl (cI, 7, .inl sz)), (a3, .inl (cL, 280, .inr (.inl fr))), (a4, .inl (cL, 40, .inr (.inl li))), (a5, .inl (cI, 120, .inl st))] := I1.2.2.1
  have hMA : ∀ q, va_A [(m0, .inr (3, [.ref a0, .ref a1, .ref a2, .ref a3, .ref a4, .ref a5, .int (mi 0), .int (mi 1), .int (mi 2), .int (mi 3), .int (mi 4), .int (mi 5), .int (mi 6), .int (mi 7), .int (mi 8)])), (a0, .inl (cI, 6, .inl on)), (a1, .inl (cI, 7, .inl kd)), (a2, .inl (cI, 7, .inl sz)), (a3, .inl (cL, 280, .inr (.inl fr))), (a4, .inl (cL, 40, .inr (.inl li))), (a5, .inl (cI, 120, .inl st))] H1.size q → s.heap.size ≤ q := I1.A hS.1
  refine va_calli (va_runV (As := [.int g1, .int g2, .int g3, .int g4, .int g5]) (rest := []) ⟨hx, hb, hml, hown, hts⟩ (c_X3_splice l hMP hMD hMA (R.1.okOn) (R.1.2.2.2)) (cwV 5 hts gL_law_X3_splice rfl rfl rfl (by decide +kernel) ⟨Nat.le_of_ble_eq_true rfl, Nat.le_of_ble_eq_true rfl⟩) (Pq.V hC hS hN (va_recv hK hMP (ci := 3) (q0 := 0) rfl rfl)) rfl rfl hl.1 rfl (lv_room (Nat.le_of_ble_eq_true rfl)) dL_law_682 ⟨fit_c (by omega), fit_s (by omega)⟩) hS (fun q _ z => hMA q z) hMA (fun bb v2 t2 H2 locs ht2 hvm2 hw2 hB2 hz2 hk2 hS => ?_)
  rw [ht2] at hB2
  have I2 : LI D cI cL cQ s.heap.size x ah ak b0 b1 b2 b3 b4 m0 a0 a1 a2 a3 a4 a5 o (fun q => F q ∨ H.size ≤ q) u.1 v2 u.2 H2 := I1.mod hk2 hB2.1 hB2.2
  have hA := r_splice R hw hw2
  refine lv_istore (lv' := [(6, .int bb), (5, .int r), (4, .int (nI (6 * n))), (3, .ref o), (2, .ref m0), (1, .ref x), (0, .ref b)]) hx hb dL_law_685 hl (by decide) rfl (fun ls hl => ?_)
  refine lv_aload_n hx hb dL_law_687 rfl (lv_at hl 4 rfl) ?_
  refine ro_i (va_runV (As := []) (rest := []) ⟨hx, hb, hml, hown, hts⟩ (c_X3_thrown l I2.2.1) (cwV 0 hts gL_law_X3_thrown rfl rfl rfl (by decide +kernel) ⟨Nat.le_of_ble_eq_true rfl, Nat.le_of_ble_eq_true rfl⟩) (Pq.V hC hS hN (va_recv hK I2.2.1 (ci := 3) (q0 := 0) rfl rfl)) rfl rfl hl.1 rfl (lv_room (Nat.le_of_ble_eq_true rfl)) dL_law_688 ⟨fit_c (by omega), fit_s (by omega)⟩) hS (fun r2 locs hw3 hS => ?_)
  have hw3 : r2 = r := hw3.trans hA.1
  refine lv_iload hx hb dL_law_691 (lv_at hl 1 rfl) ?_
  refine lv_icmp_eq (tgt := 698) hx hb dL_law_693 (by decide) (fun _ => ?_) (fun c9 => absurd (hw3) c9)
  refine lv_iload hx hb dL_law_698 (lv_at hl 1 rfl) ?_
  refine lv_if_ne (tgt := 715) hx hb dL_law_700 (by decide) (fun c_700 => ?_) (fun c_700 => ?_)
  · refine lv_goto (tgt := 1197) hx hb dL_law_715 (by decide) ?_
    refine W.widen (k := 20 + 4 * (n + 1)) (n := 1000 + 54 * (n + 1)) (by omega) (by omega) ?_
    exact kk _ _ _ _ _ _ _ I2 hA.2.2 hS (lv_sub hl [2, 3, 4, 5, 6] rfl)
  · refine lv_aload_n hx hb dL_law_703 rfl (lv_at hl 3 rfl) ?_
    refine lv_iconst (v := 0) hx hb dL_law_704 (by decide) ?_
    refine va_lald (D := D) hx hb hK I2.2.2.2.1 0 1 rfl rfl in01 dL_law_705 ?_
    refine lv_iload hx hb dL_law_706 (lv_at hl 0 rfl) ?_
    refine lv_i2l hx hb dL_law_708 rfl ?_
    refine W.lcmp hx hb dL_law_709 ?_
    refine lv_if_eq (tgt := 715) hx hb dL_law_710 (by decide) (fun _ => ?_) (fun c9 => absurd ((lg_cmp_eq (u.2 (0 : Int32).toNatClampNeg) bb.toInt64).mpr (by rw [sb_cl0]; exact hA.2.1 c_700)) c9)
    refine lv_goto (tgt := 1197) hx hb dL_law_715 (by decide) ?_
    refine W.widen (k := 20 + 4 * (n + 1)) (n := 1000 + 54 * (n + 1)) (by omega) (by omega) ?_
    exact kk _ _ _ _ _ _ _ I2 hA.2.2 hS (lv_sub hl [2, 3, 4, 5, 6] rfl)
set_option maxHeartbeats 4000000 in
set_option maxRecDepth 100000 in
theorem lc_step {p : Program} {l : Launch} {e : Env} {s : State} {m : MethodId} {args : Array Value} {below : List Frame} {meth : Method} {c : Code} {Q : State → Prop} {D : va_G} {cI cL cQ : ClassId} {sa : Nat → Nat} {b L : Nat} {xs : Nat → Int32} (K0 : LC p l s m args c D cI cL cQ sa b L xs) {x ah ak b0 b1 b2 b3 b4 m0 a0 a1 a2 a3 a4 a5 o : Nat} {n : Nat} (hlt : 6 * n + 6 ≤ L) {cs : CS} {v : MS} {F : Nat → Prop} {fo : Nat → Int64} {H : Heap} {locs : List Loc} {ls : Array Slot} (I : LI D cI cL cQ s.heap.size x ah ak b0 b1 b2 b3 b4 m0 a0 a1 a2 a3 a4 a5 o F cs v fo H) (R : Rel cs v) (hS : va_S (fun q => s.heap.size ≤ q) s.heap H locs) (hl : lv_has ls 8 [(4, .int (nI (6 * n))), (3, .ref o), (2, .ref m0), (1, .ref x), (0, .ref b)])
    (kk : ∀ (F1 : Nat → Prop) (cs1 : CS) (v1 : MS) (fo1 : Nat → Int64) (H1 : Heap) (locs1 : List Loc) (ls1 : Array Slot), LI D cI cL cQ s.heap.size x ah ak b0 b1 b2 b3 b4 m0 a0 a1 a2 a3 a4 a5 o F1 cs1 v1 fo1 H1 → Rel cs1 v1 → va_S (fun q => s.heap.size ≤ q) s.heap H1 locs1 → lv_has ls1 8 [(4, .int (nI (6 * n))), (3, .ref o), (2, .ref m0), (1, .ref x), (0, .ref b)] → W p l e room_1 s m args below meth c H1 locs1 (20 + 4 * (n + 1)) (1000 + 54 * (n + 1)) Q (F0 m 1197 ls1 [])) : W p l e room_1 s m args below meth c H locs (20 + 4 * n) (1000 + 54 * n) Q (F0 m 718 ls []) := by
  obtain ⟨hx, hb, hml, hown, hts, hC, hl0, hX, hbl, hL⟩ := K0
  have hK := hC.K
  have hbA : ¬ s.heap.size ≤ b := Nat.not_le_of_lt hbl
  have hN : ∀ q : Nat, s.heap.size ≤ q → s.heap.size ≤ q := fun _ z => z
  obtain ⟨hk, re, kn, sh, k⟩ := cs
  obtain ⟨on, kd, sz, fr, li, st, mi⟩ := v
  obtain ⟨g1, hg1⟩ : ∃ g : Int32, g = xs (nI (6 * n) + 1).toNatClampNeg := ⟨_, rfl⟩
  obtain ⟨g2, hg2⟩ : ∃ g : Int32, g = xs (nI (6 * n) + 2).toNatClampNeg := ⟨_, rfl⟩
  obtain ⟨g3, hg3⟩ : ∃ g : Int32, g = xs (nI (6 * n) + 3).toNatClampNeg := ⟨_, rfl⟩
  obtain ⟨g4, hg4⟩ : ∃ g : Int32, g = xs (nI (6 * n) + 4).toNatClampNeg := ⟨_, rfl⟩
  obtain ⟨g5, hg5⟩ : ∃ g : Int32, g = xs (nI (6 * n) + 5).toNatClampNeg := ⟨_, rfl⟩
  refine lv_aload_n hx hb dL_law_718 rfl (lv_at hl 3 rfl) ?_
  refine lv_aload_n hx hb dL_law_719 rfl (lv_at hl 4 rfl) ?_
  refine lv_iload hx hb dL_law_720 (lv_at hl 0 rfl) ?_
  refine lv_iconst (v := 1) hx hb dL_law_722 (by decide) ?_
  refine lv_iadd hx hb dL_law_723 ?_
  refine ld_g hx hb hX hbl hbA hS hg1 (vin (k := 1) (by decide) hlt hL) dL_law_724 ?_
  refine lv_aload_n hx hb dL_law_725 rfl (lv_at hl 4 rfl) ?_
  refine lv_iload hx hb dL_law_726 (lv_at hl 0 rfl) ?_
  refine lv_iconst (v := 2) hx hb dL_law_728 (by decide) ?_
  refine lv_iadd hx hb dL_law_729 ?_
  refine ld_g hx hb hX hbl hbA hS hg2 (vin (k := 2) (by decide) hlt hL) dL_law_730 ?_
  refine lv_aload_n hx hb dL_law_731 rfl (lv_at hl 4 rfl) ?_
  refine lv_iload hx hb dL_law_732 (lv_at hl 0 rfl) ?_
  refine lv_iconst (v := 3) hx hb dL_law_734 (by decide) ?_
  refine lv_iadd hx hb dL_law_735 ?_
  refine ld_g hx hb hX hbl hbA hS hg3 (vin (k := 3) (by decide) hlt hL) dL_law_736 ?_
  refine lv_aload_n hx hb dL_law_737 rfl (lv_at hl 4 rfl) ?_
  refine lv_iload hx hb dL_law_738 (lv_at hl 0 rfl) ?_
  refine lv_iconst (v := 4) hx hb dL_law_740 (by decide) ?_
  refine lv_iadd hx hb dL_law_741 ?_
  refine ld_g hx hb hX hbl hbA hS hg4 (vin (k := 4) (by decide) hlt hL) dL_law_742 ?_
  refine lv_aload_n hx hb dL_law_743 rfl (lv_at hl 4 rfl) ?_
  refine lv_iload hx hb dL_law_744 (lv_at hl 0 rfl) ?_
  refine lv_iconst (v := 5) hx hb dL_law_746 (by decide) ?_
  refine lv_iadd hx hb dL_law_747 ?_
  refine ld_g hx hb hX hbl hbA hS hg5 (vin (k := 5) (by decide) hlt hL) dL_law_748 ?_
  refine lv_aload_n hx hb dL_law_749 rfl (lv_at hl 1 rfl) ?_
  have hS0 := hS.1
  refine va_calli (vx_runSW (As := [.ref x, .int g1, .int g2, .int g3, .int g4, .int g5, .ref o]) (rest := []) ⟨hx, hb, hml, hown, hts⟩ (c_L_step l hl0 I.1 (I.NF hS.1) I.2.2.2.1 I.2.2.2.2.2.2.1 I.2.2.2.2.2.2.2 (R.kn)) (vx_cwSW 7 hts gL_law_L_step rfl rfl rfl (by decide +kernel) ⟨Nat.le_of_ble_eq_true rfl, Nat.le_of_ble_eq_true rfl⟩) (Pq.S hC hS hN) rfl rfl hl.1 rfl (lv_room (Nat.le_of_ble_eq_true rfl)) dL_law_750 ⟨fit_c (by omega), fit_s (by omega)⟩) hS (fun q _ z => I.NO hS.1 q z) (I.NO hS.1) (fun r u t H1 locs ht hvm hw hB hz1 hk1 hS => ?_)
  rw [ht] at hB
  have I1 : LI D cI cL cQ s.heap.size x ah ak b0 b1 b2 b3 b4 m0 a0 a1 a2 a3 a4 a5 o (fun q => F q ∨ H.size ≤ q) u.1 (on, kd, sz, fr, li, st, mi) u.2 H1 := I.cls hS0 hk1 hB.1 hB.2
  refine lv_istore (lv' := [(5, .int r), (4, .int (nI (6 * n))), (3, .ref o), (2, .ref m0), (1, .ref x), (0, .ref b)]) hx hb dL_law_753 hl (by decide) rfl (fun ls hl => ?_)
  refine lv_aload_n hx hb dL_law_755 rfl (lv_at hl 3 rfl) ?_
  refine lv_aload_n hx hb dL_law_756 rfl (lv_at hl 5 rfl) ?_
  refine lv_iload hx hb dL_law_757 (lv_at hl 1 rfl) ?_
  refine lv_iconst (v := 1) hx hb dL_law_759 (by decide) ?_
  refine lv_iadd hx hb dL_law_760 ?_
  refine ld_g hx hb hX hbl hbA hS hg1 (vin (k := 1) (by decide) hlt hL) dL_law_761 ?_
  refine lv_aload_n hx hb dL_law_762 rfl (lv_at hl 5 rfl) ?_
  refine lv_iload hx hb dL_law_763 (lv_at hl 1 rfl) ?_
  refine lv_iconst (v := 2) hx hb dL_law_765 (by decide) ?_
  refine lv_iadd hx hb dL_law_766 ?_
  refine ld_g hx hb hX hbl hbA hS hg2 (vin (k := 2) (by decide) hlt hL) dL_law_767 ?_
  refine lv_aload_n hx hb dL_law_768 rfl (lv_at hl 5 rfl) ?_
  refine lv_iload hx hb dL_law_769 (lv_at hl 1 rfl) ?_
  refine lv_iconst (v := 3) hx hb dL_law_771 (by decide) ?_
  refine lv_iadd hx hb dL_law_772 ?_
  refine ld_g hx hb hX hbl hbA hS hg3 (vin (k := 3) (by decide) hlt hL) dL_law_773 ?_
  refine lv_aload_n hx hb dL_law_774 rfl (lv_at hl 5 rfl) ?_
  refine lv_iload hx hb dL_law_775 (lv_at hl 1 rfl) ?_
  refine lv_iconst (v := 4) hx hb dL_law_777 (by decide) ?_
  refine lv_iadd hx hb dL_law_778 ?_
  refine ld_g hx hb hX hbl hbA hS hg4 (vin (k := 4) (by decide) hlt hL) dL_law_779 ?_
  refine lv_aload_n hx hb dL_law_780 rfl (lv_at hl 5 rfl) ?_
  refine lv_iload hx hb dL_law_781 (lv_at hl 1 rfl) ?_
  refine lv_iconst (v := 5) hx hb dL_law_783 (by decide) ?_
  refine lv_iadd hx hb dL_law_784 ?_
  refine ld_g hx hb hX hbl hbA hS hg5 (vin (k := 5) (by decide) hlt hL) dL_law_785 ?_
  have hMP : va_P D vwCl [(m0, .inr (3, [.ref a0, .ref a1, .ref a2, .ref a3, .ref a4, .ref a5, .int (mi 0), .int (mi 1), .int (mi 2), .int (mi 3), .int (mi 4), .int (mi 5), .int (mi 6), .int (mi 7), .int (mi 8)])), (a0, .inl (cI, 6, .inl on)), (a1, .inl (cI, 7, .inl kd)), (a2, .inl (cI, 7, .inl sz)), (a3, .inl (cL, 280, .inr (.inl fr))), (a4, .inl (cL, 40, .inr (.inl li))), (a5, .inl (cI, 120, .inl st))] H1 := I1.2.1
  have hMD : va_D nT [(m0, .inr (3, [.ref a0, .ref a1, .ref a2, .ref a3, .ref a4, .ref a5, .int (mi 0), .int (mi 1), .int (mi 2), .int (mi 3), .int (mi 4), .int (mi 5), .int (mi 6), .int (mi 7), .int (mi 8)])), (a0, .inl (cI, 6, .inl on)), (a1, .inl (cI, 7, .inl kd)), (a2, .inl (cI, 7, .inl sz)), (a3, .inl (cL, 280, .inr (.inl fr))), (a4, .inl (cL, 40, .inr (.inl li))), (a5, .inl (cI, 120, .inl st))] := I1.2.2.1
  have hMA : ∀ q, va_A [(m0, .inr (3, [.ref a0, .ref a1, .ref a2, .ref a3, .ref a4, .ref a5, .int (mi 0), .int (mi 1), .int (mi 2), .int (mi 3), .int (mi 4), .int (mi 5), .int (mi 6), .int (mi 7), .int (mi 8)])), (a0, .inl (cI, 6, .inl on)), (a1, .inl (cI, 7, .inl kd)), (a2, .inl (cI, 7, .inl sz)), (a3, .inl (cL, 280, .inr (.inl fr))), (a4, .inl (cL, 40, .inr (.inl li))), (a5, .inl (cI, 120, .inl st))] H1.size q → s.heap.size ≤ q := I1.A hS.1
  refine va_calli (va_runV (As := [.int g1, .int g2, .int g3, .int g4, .int g5]) (rest := []) ⟨hx, hb, hml, hown, hts⟩ (c_X3_step l hMP hMD hMA (R.mk)) (cwV 5 hts gL_law_X3_step rfl rfl rfl (by decide +kernel) ⟨Nat.le_of_ble_eq_true rfl, Nat.le_of_ble_eq_true rfl⟩) (Pq.V hC hS hN (va_recv hK hMP (ci := 3) (q0 := 0) rfl rfl)) rfl rfl hl.1 rfl (lv_room (Nat.le_of_ble_eq_true rfl)) dL_law_786 ⟨fit_c (by omega), fit_s (by omega)⟩) hS (fun q _ z => hMA q z) hMA (fun bb v2 t2 H2 locs ht2 hvm2 hw2 hB2 hz2 hk2 hS => ?_)
  rw [ht2] at hB2
  have I2 : LI D cI cL cQ s.heap.size x ah ak b0 b1 b2 b3 b4 m0 a0 a1 a2 a3 a4 a5 o (fun q => F q ∨ H.size ≤ q) u.1 v2 u.2 H2 := I1.mod hk2 hB2.1 hB2.2
  have hA := r_step R hw hw2
  refine lv_istore (lv' := [(6, .int bb), (5, .int r), (4, .int (nI (6 * n))), (3, .ref o), (2, .ref m0), (1, .ref x), (0, .ref b)]) hx hb dL_law_789 hl (by decide) rfl (fun ls hl => ?_)
  refine lv_aload_n hx hb dL_law_791 rfl (lv_at hl 4 rfl) ?_
  refine ro_i (va_runV (As := []) (rest := []) ⟨hx, hb, hml, hown, hts⟩ (c_X3_thrown l I2.2.1) (cwV 0 hts gL_law_X3_thrown rfl rfl rfl (by decide +kernel) ⟨Nat.le_of_ble_eq_true rfl, Nat.le_of_ble_eq_true rfl⟩) (Pq.V hC hS hN (va_recv hK I2.2.1 (ci := 3) (q0 := 0) rfl rfl)) rfl rfl hl.1 rfl (lv_room (Nat.le_of_ble_eq_true rfl)) dL_law_792 ⟨fit_c (by omega), fit_s (by omega)⟩) hS (fun r2 locs hw3 hS => ?_)
  have hw3 : r2 = r := hw3.trans hA.1
  refine lv_iload hx hb dL_law_795 (lv_at hl 1 rfl) ?_
  refine lv_icmp_eq (tgt := 802) hx hb dL_law_797 (by decide) (fun _ => ?_) (fun c9 => absurd (hw3) c9)
  refine lv_iload hx hb dL_law_802 (lv_at hl 1 rfl) ?_
  refine lv_if_ne (tgt := 819) hx hb dL_law_804 (by decide) (fun c_804 => ?_) (fun c_804 => ?_)
  · refine lv_goto (tgt := 1197) hx hb dL_law_819 (by decide) ?_
    refine W.widen (k := 20 + 4 * (n + 1)) (n := 1000 + 54 * (n + 1)) (by omega) (by omega) ?_
    exact kk _ _ _ _ _ _ _ I2 hA.2.2 hS (lv_sub hl [2, 3, 4, 5, 6] rfl)
  · refine lv_aload_n hx hb dL_law_807 rfl (lv_at hl 3 rfl) ?_
    refine lv_iconst (v := 0) hx hb dL_law_808 (by decide) ?_
    refine va_lald (D := D) hx hb hK I2.2.2.2.1 0 1 rfl rfl in01 dL_law_809 ?_
    refine lv_iload hx hb dL_law_810 (lv_at hl 0 rfl) ?_
    refine lv_i2l hx hb dL_law_812 rfl ?_
    refine W.lcmp hx hb dL_law_813 ?_
    refine lv_if_eq (tgt := 819) hx hb dL_law_814 (by decide) (fun _ => ?_) (fun c9 => absurd ((lg_cmp_eq (u.2 (0 : Int32).toNatClampNeg) bb.toInt64).mpr (by rw [sb_cl0]; exact hA.2.1 c_804)) c9)
    refine lv_goto (tgt := 1197) hx hb dL_law_819 (by decide) ?_
    refine W.widen (k := 20 + 4 * (n + 1)) (n := 1000 + 54 * (n + 1)) (by omega) (by omega) ?_
    exact kk _ _ _ _ _ _ _ I2 hA.2.2 hS (lv_sub hl [2, 3, 4, 5, 6] rfl)
set_option maxHeartbeats 4000000 in
set_option maxRecDepth 100000 in
theorem lc_play {p : Program} {l : Launch} {e : Env} {s : State} {m : MethodId} {args : Array Value} {below : List Frame} {meth : Method} {c : Code} {Q : State → Prop} {D : va_G} {cI cL cQ : ClassId} {sa : Nat → Nat} {b L : Nat} {xs : Nat → Int32} (K0 : LC p l s m args c D cI cL cQ sa b L xs) {x ah ak b0 b1 b2 b3 b4 m0 a0 a1 a2 a3 a4 a5 o : Nat} {n : Nat} (hlt : 6 * n + 6 ≤ L) {cs : CS} {v : MS} {F : Nat → Prop} {fo : Nat → Int64} {H : Heap} {locs : List Loc} {ls : Array Slot} (I : LI D cI cL cQ s.heap.size x ah ak b0 b1 b2 b3 b4 m0 a0 a1 a2 a3 a4 a5 o F cs v fo H) (R : Rel cs v) (hS : va_S (fun q => s.heap.size ≤ q) s.heap H locs) (hl : lv_has ls 8 [(4, .int (nI (6 * n))), (3, .ref o), (2, .ref m0), (1, .ref x), (0, .ref b)])
    (kk : ∀ (F1 : Nat → Prop) (cs1 : CS) (v1 : MS) (fo1 : Nat → Int64) (H1 : Heap) (locs1 : List Loc) (ls1 : Array Slot), LI D cI cL cQ s.heap.size x ah ak b0 b1 b2 b3 b4 m0 a0 a1 a2 a3 a4 a5 o F1 cs1 v1 fo1 H1 → Rel cs1 v1 → va_S (fun q => s.heap.size ≤ q) s.heap H1 locs1 → lv_has ls1 8 [(4, .int (nI (6 * n))), (3, .ref o), (2, .ref m0), (1, .ref x), (0, .ref b)] → W p l e room_1 s m args below meth c H1 locs1 (20 + 4 * (n + 1)) (1000 + 54 * (n + 1)) Q (F0 m 1197 ls1 [])) : W p l e room_1 s m args below meth c H locs (20 + 4 * n) (1000 + 54 * n) Q (F0 m 822 ls []) := by
  obtain ⟨hx, hb, hml, hown, hts, hC, hl0, hX, hbl, hL⟩ := K0
  have hK := hC.K
  have hbA : ¬ s.heap.size ≤ b := Nat.not_le_of_lt hbl
  have hN : ∀ q : Nat, s.heap.size ≤ q → s.heap.size ≤ q := fun _ z => z
  obtain ⟨hk, re, kn, sh, k⟩ := cs
  obtain ⟨on, kd, sz, fr, li, st, mi⟩ := v
  obtain ⟨g1, hg1⟩ : ∃ g : Int32, g = xs (nI (6 * n) + 1).toNatClampNeg := ⟨_, rfl⟩
  refine lv_aload_n hx hb dL_law_822 rfl (lv_at hl 3 rfl) ?_
  refine lv_aload_n hx hb dL_law_823 rfl (lv_at hl 4 rfl) ?_
  refine lv_iload hx hb dL_law_824 (lv_at hl 0 rfl) ?_
  refine lv_iconst (v := 1) hx hb dL_law_826 (by decide) ?_
  refine lv_iadd hx hb dL_law_827 ?_
  refine ld_g hx hb hX hbl hbA hS hg1 (vin (k := 1) (by decide) hlt hL) dL_law_828 ?_
  refine lv_if_eq (tgt := 836) hx hb dL_law_829 (by decide) (fun c_829 => ?_) (fun c_829 => ?_)
  · refine lv_iconst (v := 0) hx hb dL_law_836 (by decide) ?_
    refine lv_aload_n hx hb dL_law_837 rfl (lv_at hl 1 rfl) ?_
    have hS0 := hS.1
    refine va_calli (vx_runSW (As := [.ref x, .int 0, .ref o]) (rest := []) ⟨hx, hb, hml, hown, hts⟩ (c_L_play l hl0 I.1 (I.NF hS.1) I.2.2.2.1 I.2.2.2.2.2.2.1 I.2.2.2.2.2.2.2 (R.kn) (R.sh)) (vx_cwSW 3 hts gL_law_L_play rfl rfl rfl (by decide +kernel) ⟨Nat.le_of_ble_eq_true rfl, Nat.le_of_ble_eq_true rfl⟩) (Pq.S hC hS hN) rfl rfl hl.1 rfl (lv_room (Nat.le_of_ble_eq_true rfl)) dL_law_838 ⟨fit_c (by omega), fit_s (by omega)⟩) hS (fun q _ z => I.NO hS.1 q z) (I.NO hS.1) (fun r u t H1 locs ht hvm hw hB hz1 hk1 hS => ?_)
    rw [ht] at hB
    have I1 : LI D cI cL cQ s.heap.size x ah ak b0 b1 b2 b3 b4 m0 a0 a1 a2 a3 a4 a5 o (fun q => F q ∨ H.size ≤ q) u.1 (on, kd, sz, fr, li, st, mi) u.2 H1 := I.cls hS0 hk1 hB.1 hB.2
    refine lv_istore (lv' := [(5, .int r), (4, .int (nI (6 * n))), (3, .ref o), (2, .ref m0), (1, .ref x), (0, .ref b)]) hx hb dL_law_841 hl (by decide) rfl (fun ls hl => ?_)
    refine lv_aload_n hx hb dL_law_843 rfl (lv_at hl 3 rfl) ?_
    refine lv_aload_n hx hb dL_law_844 rfl (lv_at hl 5 rfl) ?_
    refine lv_iload hx hb dL_law_845 (lv_at hl 1 rfl) ?_
    refine lv_iconst (v := 1) hx hb dL_law_847 (by decide) ?_
    refine lv_iadd hx hb dL_law_848 ?_
    refine ld_g hx hb hX hbl hbA hS hg1 (vin (k := 1) (by decide) hlt hL) dL_law_849 ?_
    refine lv_if_eq (tgt := 857) hx hb dL_law_850 (by decide) (fun _ => ?_) (fun c9 => absurd (c_829) c9)
    refine lv_iconst (v := 0) hx hb dL_law_857 (by decide) ?_
    have hMP : va_P D vwCl [(m0, .inr (3, [.ref a0, .ref a1, .ref a2, .ref a3, .ref a4, .ref a5, .int (mi 0), .int (mi 1), .int (mi 2), .int (mi 3), .int (mi 4), .int (mi 5), .int (mi 6), .int (mi 7), .int (mi 8)])), (a0, .inl (cI, 6, .inl on)), (a1, .inl (cI, 7, .inl kd)), (a2, .inl (cI, 7, .inl sz)), (a3, .inl (cL, 280, .inr (.inl fr))), (a4, .inl (cL, 40, .inr (.inl li))), (a5, .inl (cI, 120, .inl st))] H1 := I1.2.1
    have hMD : va_D nT [(m0, .inr (3, [.ref a0, .ref a1, .ref a2, .ref a3, .ref a4, .ref a5, .int (mi 0), .int (mi 1), .int (mi 2), .int (mi 3), .int (mi 4), .int (mi 5), .int (mi 6), .int (mi 7), .int (mi 8)])), (a0, .inl (cI, 6, .inl on)), (a1, .inl (cI, 7, .inl kd)), (a2, .inl (cI, 7, .inl sz)), (a3, .inl (cL, 280, .inr (.inl fr))), (a4, .inl (cL, 40, .inr (.inl li))), (a5, .inl (cI, 120, .inl st))] := I1.2.2.1
    have hMA : ∀ q, va_A [(m0, .inr (3, [.ref a0, .ref a1, .ref a2, .ref a3, .ref a4, .ref a5, .int (mi 0), .int (mi 1), .int (mi 2), .int (mi 3), .int (mi 4), .int (mi 5), .int (mi 6), .int (mi 7), .int (mi 8)])), (a0, .inl (cI, 6, .inl on)), (a1, .inl (cI, 7, .inl kd)), (a2, .inl (cI, 7, .inl sz)), (a3, .inl (cL, 280, .inr (.inl fr))), (a4, .inl (cL, 40, .inr (.inl li))), (a5, .inl (cI, 120, .inl st))] H1.size q → s.heap.size ≤ q := I1.A hS.1
    refine va_calli (va_runV (As := [.int 0]) (rest := []) ⟨hx, hb, hml, hown, hts⟩ (c_X3_play l hMP hMD hMA (R.1.okOn) (R.1.2.2.2) (R.mk) (R.ms)) (cwV 1 hts gL_law_X3_play rfl rfl rfl (by decide +kernel) ⟨Nat.le_of_ble_eq_true rfl, Nat.le_of_ble_eq_true rfl⟩) (Pq.V hC hS hN (va_recv hK hMP (ci := 3) (q0 := 0) rfl rfl)) rfl rfl hl.1 rfl (lv_room (Nat.le_of_ble_eq_true rfl)) dL_law_858 ⟨fit_c (by omega), fit_s (by omega)⟩) hS (fun q _ z => hMA q z) hMA (fun bb v2 t2 H2 locs ht2 hvm2 hw2 hB2 hz2 hk2 hS => ?_)
    rw [ht2] at hB2
    have I2 : LI D cI cL cQ s.heap.size x ah ak b0 b1 b2 b3 b4 m0 a0 a1 a2 a3 a4 a5 o (fun q => F q ∨ H.size ≤ q) u.1 v2 u.2 H2 := I1.mod hk2 hB2.1 hB2.2
    have hA := r_play R hw hw2
    refine lv_istore (lv' := [(6, .int bb), (5, .int r), (4, .int (nI (6 * n))), (3, .ref o), (2, .ref m0), (1, .ref x), (0, .ref b)]) hx hb dL_law_861 hl (by decide) rfl (fun ls hl => ?_)
    refine lv_aload_n hx hb dL_law_863 rfl (lv_at hl 4 rfl) ?_
    refine ro_i (va_runV (As := []) (rest := []) ⟨hx, hb, hml, hown, hts⟩ (c_X3_thrown l I2.2.1) (cwV 0 hts gL_law_X3_thrown rfl rfl rfl (by decide +kernel) ⟨Nat.le_of_ble_eq_true rfl, Nat.le_of_ble_eq_true rfl⟩) (Pq.V hC hS hN (va_recv hK I2.2.1 (ci := 3) (q0 := 0) rfl rfl)) rfl rfl hl.1 rfl (lv_room (Nat.le_of_ble_eq_true rfl)) dL_law_864 ⟨fit_c (by omega), fit_s (by omega)⟩) hS (fun r2 locs hw3 hS => ?_)
    have hw3 : r2 = r := hw3.trans hA.1
    refine lv_iload hx hb dL_law_867 (lv_at hl 1 rfl) ?_
    refine lv_icmp_eq (tgt := 874) hx hb dL_law_869 (by decide) (fun _ => ?_) (fun c9 => absurd (hw3) c9)
    refine lv_iload hx hb dL_law_874 (lv_at hl 1 rfl) ?_
    refine lv_if_ne (tgt := 891) hx hb dL_law_876 (by decide) (fun c_876 => ?_) (fun c_876 => ?_)
    · refine lv_goto (tgt := 1197) hx hb dL_law_891 (by decide) ?_
      refine W.widen (k := 20 + 4 * (n + 1)) (n := 1000 + 54 * (n + 1)) (by omega) (by omega) ?_
      exact kk _ _ _ _ _ _ _ I2 hA.2.2 hS (lv_sub hl [2, 3, 4, 5, 6] rfl)
    · refine lv_aload_n hx hb dL_law_879 rfl (lv_at hl 3 rfl) ?_
      refine lv_iconst (v := 0) hx hb dL_law_880 (by decide) ?_
      refine va_lald (D := D) hx hb hK I2.2.2.2.1 0 1 rfl rfl in01 dL_law_881 ?_
      refine lv_iload hx hb dL_law_882 (lv_at hl 0 rfl) ?_
      refine lv_i2l hx hb dL_law_884 rfl ?_
      refine W.lcmp hx hb dL_law_885 ?_
      refine lv_if_eq (tgt := 891) hx hb dL_law_886 (by decide) (fun _ => ?_) (fun c9 => absurd ((lg_cmp_eq (u.2 (0 : Int32).toNatClampNeg) bb.toInt64).mpr (by rw [sb_cl0]; exact hA.2.1 c_876)) c9)
      refine lv_goto (tgt := 1197) hx hb dL_law_891 (by decide) ?_
      refine W.widen (k := 20 + 4 * (n + 1)) (n := 1000 + 54 * (n + 1)) (by omega) (by omega) ?_
      exact kk _ _ _ _ _ _ _ I2 hA.2.2 hS (lv_sub hl [2, 3, 4, 5, 6] rfl)
  · refine lv_iconst (v := 1) hx hb dL_law_832 (by decide) ?_
    refine lv_goto (tgt := 837) hx hb dL_law_833 (by decide) ?_
    refine lv_aload_n hx hb dL_law_837 rfl (lv_at hl 1 rfl) ?_
    have hS0 := hS.1
    refine va_calli (vx_runSW (As := [.ref x, .int 1, .ref o]) (rest := []) ⟨hx, hb, hml, hown, hts⟩ (c_L_play l hl0 I.1 (I.NF hS.1) I.2.2.2.1 I.2.2.2.2.2.2.1 I.2.2.2.2.2.2.2 (R.kn) (R.sh)) (vx_cwSW 3 hts gL_law_L_play rfl rfl rfl (by decide +kernel) ⟨Nat.le_of_ble_eq_true rfl, Nat.le_of_ble_eq_true rfl⟩) (Pq.S hC hS hN) rfl rfl hl.1 rfl (lv_room (Nat.le_of_ble_eq_true rfl)) dL_law_838 ⟨fit_c (by omega), fit_s (by omega)⟩) hS (fun q _ z => I.NO hS.1 q z) (I.NO hS.1) (fun r u t H1 locs ht hvm hw hB hz1 hk1 hS => ?_)
    rw [ht] at hB
    have I1 : LI D cI cL cQ s.heap.size x ah ak b0 b1 b2 b3 b4 m0 a0 a1 a2 a3 a4 a5 o (fun q => F q ∨ H.size ≤ q) u.1 (on, kd, sz, fr, li, st, mi) u.2 H1 := I.cls hS0 hk1 hB.1 hB.2
    refine lv_istore (lv' := [(5, .int r), (4, .int (nI (6 * n))), (3, .ref o), (2, .ref m0), (1, .ref x), (0, .ref b)]) hx hb dL_law_841 hl (by decide) rfl (fun ls hl => ?_)
    refine lv_aload_n hx hb dL_law_843 rfl (lv_at hl 3 rfl) ?_
    refine lv_aload_n hx hb dL_law_844 rfl (lv_at hl 5 rfl) ?_
    refine lv_iload hx hb dL_law_845 (lv_at hl 1 rfl) ?_
    refine lv_iconst (v := 1) hx hb dL_law_847 (by decide) ?_
    refine lv_iadd hx hb dL_law_848 ?_
    refine ld_g hx hb hX hbl hbA hS hg1 (vin (k := 1) (by decide) hlt hL) dL_law_849 ?_
    refine lv_if_eq (tgt := 857) hx hb dL_law_850 (by decide) (fun c9 => absurd c9 (c_829)) (fun _ => ?_)
    refine lv_iconst (v := 1) hx hb dL_law_853 (by decide) ?_
    refine lv_goto (tgt := 858) hx hb dL_law_854 (by decide) ?_
    have hMP : va_P D vwCl [(m0, .inr (3, [.ref a0, .ref a1, .ref a2, .ref a3, .ref a4, .ref a5, .int (mi 0), .int (mi 1), .int (mi 2), .int (mi 3), .int (mi 4), .int (mi 5), .int (mi 6), .int (mi 7), .int (mi 8)])), (a0, .inl (cI, 6, .inl on)), (a1, .inl (cI, 7, .inl kd)), (a2, .inl (cI, 7, .inl sz)), (a3, .inl (cL, 280, .inr (.inl fr))), (a4, .inl (cL, 40, .inr (.inl li))), (a5, .inl (cI, 120, .inl st))] H1 := I1.2.1
    have hMD : va_D nT [(m0, .inr (3, [.ref a0, .ref a1, .ref a2, .ref a3, .ref a4, .ref a5, .int (mi 0), .int (mi 1), .int (mi 2), .int (mi 3), .int (mi 4), .int (mi 5), .int (mi 6), .int (mi 7), .int (mi 8)])), (a0, .inl (cI, 6, .inl on)), (a1, .inl (cI, 7, .inl kd)), (a2, .inl (cI, 7, .inl sz)), (a3, .inl (cL, 280, .inr (.inl fr))), (a4, .inl (cL, 40, .inr (.inl li))), (a5, .inl (cI, 120, .inl st))] := I1.2.2.1
    have hMA : ∀ q, va_A [(m0, .inr (3, [.ref a0, .ref a1, .ref a2, .ref a3, .ref a4, .ref a5, .int (mi 0), .int (mi 1), .int (mi 2), .int (mi 3), .int (mi 4), .int (mi 5), .int (mi 6), .int (mi 7), .int (mi 8)])), (a0, .inl (cI, 6, .inl on)), (a1, .inl (cI, 7, .inl kd)), (a2, .inl (cI, 7, .inl sz)), (a3, .inl (cL, 280, .inr (.inl fr))), (a4, .inl (cL, 40, .inr (.inl li))), (a5, .inl (cI, 120, .inl st))] H1.size q → s.heap.size ≤ q := I1.A hS.1
    refine va_calli (va_runV (As := [.int 1]) (rest := []) ⟨hx, hb, hml, hown, hts⟩ (c_X3_play l hMP hMD hMA (R.1.okOn) (R.1.2.2.2) (R.mk) (R.ms)) (cwV 1 hts gL_law_X3_play rfl rfl rfl (by decide +kernel) ⟨Nat.le_of_ble_eq_true rfl, Nat.le_of_ble_eq_true rfl⟩) (Pq.V hC hS hN (va_recv hK hMP (ci := 3) (q0 := 0) rfl rfl)) rfl rfl hl.1 rfl (lv_room (Nat.le_of_ble_eq_true rfl)) dL_law_858 ⟨fit_c (by omega), fit_s (by omega)⟩) hS (fun q _ z => hMA q z) hMA (fun bb v2 t2 H2 locs ht2 hvm2 hw2 hB2 hz2 hk2 hS => ?_)
    rw [ht2] at hB2
    have I2 : LI D cI cL cQ s.heap.size x ah ak b0 b1 b2 b3 b4 m0 a0 a1 a2 a3 a4 a5 o (fun q => F q ∨ H.size ≤ q) u.1 v2 u.2 H2 := I1.mod hk2 hB2.1 hB2.2
    have hA := r_play R hw hw2
    refine lv_istore (lv' := [(6, .int bb), (5, .int r), (4, .int (nI (6 * n))), (3, .ref o), (2, .ref m0), (1, .ref x), (0, .ref b)]) hx hb dL_law_861 hl (by decide) rfl (fun ls hl => ?_)
    refine lv_aload_n hx hb dL_law_863 rfl (lv_at hl 4 rfl) ?_
    refine ro_i (va_runV (As := []) (rest := []) ⟨hx, hb, hml, hown, hts⟩ (c_X3_thrown l I2.2.1) (cwV 0 hts gL_law_X3_thrown rfl rfl rfl (by decide +kernel) ⟨Nat.le_of_ble_eq_true rfl, Nat.le_of_ble_eq_true rfl⟩) (Pq.V hC hS hN (va_recv hK I2.2.1 (ci := 3) (q0 := 0) rfl rfl)) rfl rfl hl.1 rfl (lv_room (Nat.le_of_ble_eq_true rfl)) dL_law_864 ⟨fit_c (by omega), fit_s (by omega)⟩) hS (fun r2 locs hw3 hS => ?_)
    have hw3 : r2 = r := hw3.trans hA.1
    refine lv_iload hx hb dL_law_867 (lv_at hl 1 rfl) ?_
    refine lv_icmp_eq (tgt := 874) hx hb dL_law_869 (by decide) (fun _ => ?_) (fun c9 => absurd (hw3) c9)
    refine lv_iload hx hb dL_law_874 (lv_at hl 1 rfl) ?_
    refine lv_if_ne (tgt := 891) hx hb dL_law_876 (by decide) (fun c_876 => ?_) (fun c_876 => ?_)
    · refine lv_goto (tgt := 1197) hx hb dL_law_891 (by decide) ?_
      refine W.widen (k := 20 + 4 * (n + 1)) (n := 1000 + 54 * (n + 1)) (by omega) (by omega) ?_
      exact kk _ _ _ _ _ _ _ I2 hA.2.2 hS (lv_sub hl [2, 3, 4, 5, 6] rfl)
    · refine lv_aload_n hx hb dL_law_879 rfl (lv_at hl 3 rfl) ?_
      refine lv_iconst (v := 0) hx hb dL_law_880 (by decide) ?_
      refine va_lald (D := D) hx hb hK I2.2.2.2.1 0 1 rfl rfl in01 dL_law_881 ?_
      refine lv_iload hx hb dL_law_882 (lv_at hl 0 rfl) ?_
      refine lv_i2l hx hb dL_law_884 rfl ?_
      refine W.lcmp hx hb dL_law_885 ?_
      refine lv_if_eq (tgt := 891) hx hb dL_law_886 (by decide) (fun _ => ?_) (fun c9 => absurd ((lg_cmp_eq (u.2 (0 : Int32).toNatClampNeg) bb.toInt64).mpr (by rw [sb_cl0]; exact hA.2.1 c_876)) c9)
      refine lv_goto (tgt := 1197) hx hb dL_law_891 (by decide) ?_
      refine W.widen (k := 20 + 4 * (n + 1)) (n := 1000 + 54 * (n + 1)) (by omega) (by omega) ?_
      exact kk _ _ _ _ _ _ _ I2 hA.2.2 hS (lv_sub hl [2, 3, 4, 5, 6] rfl)
set_option maxHeartbeats 4000000 in
set_option maxRecDepth 100000 in
theorem lc_sweep {p : Program} {l : Launch} {e : Env} {s : State} {m : MethodId} {args : Array Value} {below : List Frame} {meth : Method} {c : Code} {Q : State → Prop} {D : va_G} {cI cL cQ : ClassId} {sa : Nat → Nat} {b L : Nat} {xs : Nat → Int32} (K0 : LC p l s m args c D cI cL cQ sa b L xs) {x ah ak b0 b1 b2 b3 b4 m0 a0 a1 a2 a3 a4 a5 o : Nat} {n : Nat} (hlt : 6 * n + 6 ≤ L) {cs : CS} {v : MS} {F : Nat → Prop} {fo : Nat → Int64} {H : Heap} {locs : List Loc} {ls : Array Slot} (I : LI D cI cL cQ s.heap.size x ah ak b0 b1 b2 b3 b4 m0 a0 a1 a2 a3 a4 a5 o F cs v fo H) (R : Rel cs v) (hS : va_S (fun q => s.heap.size ≤ q) s.heap H locs) (hl : lv_has ls 8 [(4, .int (nI (6 * n))), (3, .ref o), (2, .ref m0), (1, .ref x), (0, .ref b)])
    (kk : ∀ (F1 : Nat → Prop) (cs1 : CS) (v1 : MS) (fo1 : Nat → Int64) (H1 : Heap) (locs1 : List Loc) (ls1 : Array Slot), LI D cI cL cQ s.heap.size x ah ak b0 b1 b2 b3 b4 m0 a0 a1 a2 a3 a4 a5 o F1 cs1 v1 fo1 H1 → Rel cs1 v1 → va_S (fun q => s.heap.size ≤ q) s.heap H1 locs1 → lv_has ls1 8 [(4, .int (nI (6 * n))), (3, .ref o), (2, .ref m0), (1, .ref x), (0, .ref b)] → W p l e room_1 s m args below meth c H1 locs1 (20 + 4 * (n + 1)) (1000 + 54 * (n + 1)) Q (F0 m 1197 ls1 [])) : W p l e room_1 s m args below meth c H locs (20 + 4 * n) (1000 + 54 * n) Q (F0 m 894 ls []) := by
  obtain ⟨hx, hb, hml, hown, hts, hC, hl0, hX, hbl, hL⟩ := K0
  have hK := hC.K
  have hbA : ¬ s.heap.size ≤ b := Nat.not_le_of_lt hbl
  have hN : ∀ q : Nat, s.heap.size ≤ q → s.heap.size ≤ q := fun _ z => z
  obtain ⟨hk, re, kn, sh, k⟩ := cs
  obtain ⟨on, kd, sz, fr, li, st, mi⟩ := v
  refine lv_aload_n hx hb dL_law_894 rfl (lv_at hl 3 rfl) ?_
  have hS0 := hS.1
  have hP8 := I.1.P8
  refine vx_calli (vx_runV (As := []) (rest := []) ⟨hx, hb, hml, hown, hts⟩ (c_X2_sweep l hl0 I.1 (I.NF hS.1)) (cwV 0 hts gL_law_X2_sweep rfl rfl rfl (by decide +kernel) ⟨Nat.le_of_ble_eq_true rfl, Nat.le_of_ble_eq_true rfl⟩) (Pq.V hC hS hN (va_recv hK hP8 (ci := 2) (q0 := 0) rfl rfl)) rfl rfl hl.1 rfl (lv_room (Nat.le_of_ble_eq_true rfl)) dL_law_895 ⟨fit_c (by omega), fit_s (by omega)⟩) hS (fun q _ z => I.NF hS.1 q z) (I.NF hS.1) (fun q _ z => I.NF hS.1 q z) (fun E ce q9 u t H1 locs ht hvm hp9 hB hz9 hk9 hS hcell hv9 hcl => hB.1.elim) (fun rr u t H1 locs ht hvm hw hB hz1 hk1 hS => ?_)
  rw [ht] at hB
  obtain ⟨hw, hu⟩ := hw
  subst hu
  have I1 : LI D cI cL cQ s.heap.size x ah ak b0 b1 b2 b3 b4 m0 a0 a1 a2 a3 a4 a5 o (fun q => F q ∨ H.size ≤ q) (hk, re, kn, sh, 0) (on, kd, sz, fr, li, st, mi) fo H1 := I.clsv hS0 hk1 hB
  refine lv_aload_n hx hb dL_law_898 rfl (lv_at hl 2 rfl) ?_
  have hMP : va_P D vwCl [(m0, .inr (3, [.ref a0, .ref a1, .ref a2, .ref a3, .ref a4, .ref a5, .int (mi 0), .int (mi 1), .int (mi 2), .int (mi 3), .int (mi 4), .int (mi 5), .int (mi 6), .int (mi 7), .int (mi 8)])), (a0, .inl (cI, 6, .inl on)), (a1, .inl (cI, 7, .inl kd)), (a2, .inl (cI, 7, .inl sz)), (a3, .inl (cL, 280, .inr (.inl fr))), (a4, .inl (cL, 40, .inr (.inl li))), (a5, .inl (cI, 120, .inl st))] H1 := I1.2.1
  have hMD : va_D nT [(m0, .inr (3, [.ref a0, .ref a1, .ref a2, .ref a3, .ref a4, .ref a5, .int (mi 0), .int (mi 1), .int (mi 2), .int (mi 3), .int (mi 4), .int (mi 5), .int (mi 6), .int (mi 7), .int (mi 8)])), (a0, .inl (cI, 6, .inl on)), (a1, .inl (cI, 7, .inl kd)), (a2, .inl (cI, 7, .inl sz)), (a3, .inl (cL, 280, .inr (.inl fr))), (a4, .inl (cL, 40, .inr (.inl li))), (a5, .inl (cI, 120, .inl st))] := I1.2.2.1
  have hMA : ∀ q, va_A [(m0, .inr (3, [.ref a0, .ref a1, .ref a2, .ref a3, .ref a4, .ref a5, .int (mi 0), .int (mi 1), .int (mi 2), .int (mi 3), .int (mi 4), .int (mi 5), .int (mi 6), .int (mi 7), .int (mi 8)])), (a0, .inl (cI, 6, .inl on)), (a1, .inl (cI, 7, .inl kd)), (a2, .inl (cI, 7, .inl sz)), (a3, .inl (cL, 280, .inr (.inl fr))), (a4, .inl (cL, 40, .inr (.inl li))), (a5, .inl (cI, 120, .inl st))] H1.size q → s.heap.size ≤ q := I1.A hS.1
  refine va_calli (va_runV (As := []) (rest := [.int rr]) ⟨hx, hb, hml, hown, hts⟩ (c_X3_sweep l hMP hMD hMA) (cwV 0 hts gL_law_X3_sweep rfl rfl rfl (by decide +kernel) ⟨Nat.le_of_ble_eq_true rfl, Nat.le_of_ble_eq_true rfl⟩) (Pq.V hC hS hN (va_recv hK hMP (ci := 3) (q0 := 0) rfl rfl)) rfl rfl hl.1 rfl (lv_room (Nat.le_of_ble_eq_true rfl)) dL_law_899 ⟨fit_c (by omega), fit_s (by omega)⟩) hS (fun q _ z => hMA q z) hMA (fun bb v2 t2 H2 locs ht2 hvm2 hw2 hB2 hz2 hk2 hS => ?_)
  rw [ht2] at hB2
  have I2 : LI D cI cL cQ s.heap.size x ah ak b0 b1 b2 b3 b4 m0 a0 a1 a2 a3 a4 a5 o (fun q => F q ∨ H.size ≤ q) (hk, re, kn, sh, 0) v2 fo H2 := I1.mod hk2 hB2.1 hB2.2
  have hA := r_sweep R
  have hv2 := hw2.2
  subst hv2
  refine lv_icmp_eq (tgt := 1197) hx hb dL_law_902 (by decide) (fun _ => ?_) (fun c9 => absurd (hw.trans (hA.2.symm.trans hw2.1.symm)) c9)
  refine W.widen (k := 20 + 4 * (n + 1)) (n := 1000 + 54 * (n + 1)) (by omega) (by omega) ?_
  exact kk _ _ _ _ _ _ _ I2 hA.1 hS (lv_sub hl [0, 1, 2, 3, 4] rfl)
set_option maxHeartbeats 4000000 in
set_option maxRecDepth 100000 in
theorem lc_grind {p : Program} {l : Launch} {e : Env} {s : State} {m : MethodId} {args : Array Value} {below : List Frame} {meth : Method} {c : Code} {Q : State → Prop} {D : va_G} {cI cL cQ : ClassId} {sa : Nat → Nat} {b L : Nat} {xs : Nat → Int32} (K0 : LC p l s m args c D cI cL cQ sa b L xs) {x ah ak b0 b1 b2 b3 b4 m0 a0 a1 a2 a3 a4 a5 o : Nat} {n : Nat} (hlt : 6 * n + 6 ≤ L) {cs : CS} {v : MS} {F : Nat → Prop} {fo : Nat → Int64} {H : Heap} {locs : List Loc} {ls : Array Slot} (I : LI D cI cL cQ s.heap.size x ah ak b0 b1 b2 b3 b4 m0 a0 a1 a2 a3 a4 a5 o F cs v fo H) (R : Rel cs v) (hS : va_S (fun q => s.heap.size ≤ q) s.heap H locs) (hl : lv_has ls 8 [(4, .int (nI (6 * n))), (3, .ref o), (2, .ref m0), (1, .ref x), (0, .ref b)])
    (kk : ∀ (F1 : Nat → Prop) (cs1 : CS) (v1 : MS) (fo1 : Nat → Int64) (H1 : Heap) (locs1 : List Loc) (ls1 : Array Slot), LI D cI cL cQ s.heap.size x ah ak b0 b1 b2 b3 b4 m0 a0 a1 a2 a3 a4 a5 o F1 cs1 v1 fo1 H1 → Rel cs1 v1 → va_S (fun q => s.heap.size ≤ q) s.heap H1 locs1 → lv_has ls1 8 [(4, .int (nI (6 * n))), (3, .ref o), (2, .ref m0), (1, .ref x), (0, .ref b)] → W p l e room_1 s m args below meth c H1 locs1 (20 + 4 * (n + 1)) (1000 + 54 * (n + 1)) Q (F0 m 1197 ls1 [])) : W p l e room_1 s m args below meth c H locs (20 + 4 * n) (1000 + 54 * n) Q (F0 m 907 ls []) := by
  obtain ⟨hx, hb, hml, hown, hts, hC, hl0, hX, hbl, hL⟩ := K0
  have hK := hC.K
  have hbA : ¬ s.heap.size ≤ b := Nat.not_le_of_lt hbl
  have hN : ∀ q : Nat, s.heap.size ≤ q → s.heap.size ≤ q := fun _ z => z
  obtain ⟨hk, re, kn, sh, k⟩ := cs
  obtain ⟨on, kd, sz, fr, li, st, mi⟩ := v
  refine lv_aload_n hx hb dL_law_907 rfl (lv_at hl 3 rfl) ?_
  refine lv_aload_n hx hb dL_law_908 rfl (lv_at hl 1 rfl) ?_
  have hS0 := hS.1
  refine va_calli (vx_runSW (As := [.ref x, .ref o]) (rest := []) ⟨hx, hb, hml, hown, hts⟩ (c_L_grind l hl0 I.1 (I.NF hS.1) I.2.2.2.1 I.2.2.2.2.2.2.1 I.2.2.2.2.2.2.2) (vx_cwSW 2 hts gL_law_L_grind rfl rfl rfl (by decide +kernel) ⟨Nat.le_of_ble_eq_true rfl, Nat.le_of_ble_eq_true rfl⟩) (Pq.S hC hS hN) rfl rfl hl.1 rfl (lv_room (Nat.le_of_ble_eq_true rfl)) dL_law_909 ⟨fit_c (by omega), fit_s (by omega)⟩) hS (fun q _ z => I.NO hS.1 q z) (I.NO hS.1) (fun r u t H1 locs ht hvm hw hB hz1 hk1 hS => ?_)
  rw [ht] at hB
  have I1 : LI D cI cL cQ s.heap.size x ah ak b0 b1 b2 b3 b4 m0 a0 a1 a2 a3 a4 a5 o (fun q => F q ∨ H.size ≤ q) u.1 (on, kd, sz, fr, li, st, mi) u.2 H1 := I.cls hS0 hk1 hB.1 hB.2
  refine lv_istore (lv' := [(5, .int r), (4, .int (nI (6 * n))), (3, .ref o), (2, .ref m0), (1, .ref x), (0, .ref b)]) hx hb dL_law_912 hl (by decide) rfl (fun ls hl => ?_)
  refine lv_aload_n hx hb dL_law_914 rfl (lv_at hl 3 rfl) ?_
  have hMP : va_P D vwCl [(m0, .inr (3, [.ref a0, .ref a1, .ref a2, .ref a3, .ref a4, .ref a5, .int (mi 0), .int (mi 1), .int (mi 2), .int (mi 3), .int (mi 4), .int (mi 5), .int (mi 6), .int (mi 7), .int (mi 8)])), (a0, .inl (cI, 6, .inl on)), (a1, .inl (cI, 7, .inl kd)), (a2, .inl (cI, 7, .inl sz)), (a3, .inl (cL, 280, .inr (.inl fr))), (a4, .inl (cL, 40, .inr (.inl li))), (a5, .inl (cI, 120, .inl st))] H1 := I1.2.1
  have hMD : va_D nT [(m0, .inr (3, [.ref a0, .ref a1, .ref a2, .ref a3, .ref a4, .ref a5, .int (mi 0), .int (mi 1), .int (mi 2), .int (mi 3), .int (mi 4), .int (mi 5), .int (mi 6), .int (mi 7), .int (mi 8)])), (a0, .inl (cI, 6, .inl on)), (a1, .inl (cI, 7, .inl kd)), (a2, .inl (cI, 7, .inl sz)), (a3, .inl (cL, 280, .inr (.inl fr))), (a4, .inl (cL, 40, .inr (.inl li))), (a5, .inl (cI, 120, .inl st))] := I1.2.2.1
  have hMA : ∀ q, va_A [(m0, .inr (3, [.ref a0, .ref a1, .ref a2, .ref a3, .ref a4, .ref a5, .int (mi 0), .int (mi 1), .int (mi 2), .int (mi 3), .int (mi 4), .int (mi 5), .int (mi 6), .int (mi 7), .int (mi 8)])), (a0, .inl (cI, 6, .inl on)), (a1, .inl (cI, 7, .inl kd)), (a2, .inl (cI, 7, .inl sz)), (a3, .inl (cL, 280, .inr (.inl fr))), (a4, .inl (cL, 40, .inr (.inl li))), (a5, .inl (cI, 120, .inl st))] H1.size q → s.heap.size ≤ q := I1.A hS.1
  refine va_calli (va_runV (As := []) (rest := []) ⟨hx, hb, hml, hown, hts⟩ (c_X3_grind l hMP hMD hMA) (cwV 0 hts gL_law_X3_grind rfl rfl rfl (by decide +kernel) ⟨Nat.le_of_ble_eq_true rfl, Nat.le_of_ble_eq_true rfl⟩) (Pq.V hC hS hN (va_recv hK hMP (ci := 3) (q0 := 0) rfl rfl)) rfl rfl hl.1 rfl (lv_room (Nat.le_of_ble_eq_true rfl)) dL_law_915 ⟨fit_c (by omega), fit_s (by omega)⟩) hS (fun q _ z => hMA q z) hMA (fun bb v2 t2 H2 locs ht2 hvm2 hw2 hB2 hz2 hk2 hS => ?_)
  rw [ht2] at hB2
  have I2 : LI D cI cL cQ s.heap.size x ah ak b0 b1 b2 b3 b4 m0 a0 a1 a2 a3 a4 a5 o (fun q => F q ∨ H.size ≤ q) u.1 v2 u.2 H2 := I1.mod hk2 hB2.1 hB2.2
  have hA := r_grind R hw hw2
  refine lv_istore (lv' := [(6, .int bb), (5, .int r), (4, .int (nI (6 * n))), (3, .ref o), (2, .ref m0), (1, .ref x), (0, .ref b)]) hx hb dL_law_918 hl (by decide) rfl (fun ls hl => ?_)
  refine lv_aload_n hx hb dL_law_920 rfl (lv_at hl 4 rfl) ?_
  refine ro_i (va_runV (As := []) (rest := []) ⟨hx, hb, hml, hown, hts⟩ (c_X3_thrown l I2.2.1) (cwV 0 hts gL_law_X3_thrown rfl rfl rfl (by decide +kernel) ⟨Nat.le_of_ble_eq_true rfl, Nat.le_of_ble_eq_true rfl⟩) (Pq.V hC hS hN (va_recv hK I2.2.1 (ci := 3) (q0 := 0) rfl rfl)) rfl rfl hl.1 rfl (lv_room (Nat.le_of_ble_eq_true rfl)) dL_law_921 ⟨fit_c (by omega), fit_s (by omega)⟩) hS (fun r2 locs hw3 hS => ?_)
  have hw3 : r2 = r := hw3.trans hA.1
  refine lv_iload hx hb dL_law_924 (lv_at hl 1 rfl) ?_
  refine lv_icmp_eq (tgt := 931) hx hb dL_law_926 (by decide) (fun _ => ?_) (fun c9 => absurd (hw3) c9)
  refine lv_iload hx hb dL_law_931 (lv_at hl 1 rfl) ?_
  refine lv_if_ne (tgt := 948) hx hb dL_law_933 (by decide) (fun c_933 => ?_) (fun c_933 => ?_)
  · refine lv_goto (tgt := 1197) hx hb dL_law_948 (by decide) ?_
    refine W.widen (k := 20 + 4 * (n + 1)) (n := 1000 + 54 * (n + 1)) (by omega) (by omega) ?_
    exact kk _ _ _ _ _ _ _ I2 hA.2.2 hS (lv_sub hl [2, 3, 4, 5, 6] rfl)
  · refine lv_aload_n hx hb dL_law_936 rfl (lv_at hl 3 rfl) ?_
    refine lv_iconst (v := 0) hx hb dL_law_937 (by decide) ?_
    refine va_lald (D := D) hx hb hK I2.2.2.2.1 0 1 rfl rfl in01 dL_law_938 ?_
    refine lv_iload hx hb dL_law_939 (lv_at hl 0 rfl) ?_
    refine lv_i2l hx hb dL_law_941 rfl ?_
    refine W.lcmp hx hb dL_law_942 ?_
    refine lv_if_eq (tgt := 948) hx hb dL_law_943 (by decide) (fun _ => ?_) (fun c9 => absurd ((lg_cmp_eq (u.2 (0 : Int32).toNatClampNeg) bb.toInt64).mpr (by rw [sb_cl0]; exact hA.2.1 c_933)) c9)
    refine lv_goto (tgt := 1197) hx hb dL_law_948 (by decide) ?_
    refine W.widen (k := 20 + 4 * (n + 1)) (n := 1000 + 54 * (n + 1)) (by omega) (by omega) ?_
    exact kk _ _ _ _ _ _ _ I2 hA.2.2 hS (lv_sub hl [2, 3, 4, 5, 6] rfl)
set_option maxHeartbeats 4000000 in
set_option maxRecDepth 100000 in
theorem lc_frame {p : Program} {l : Launch} {e : Env} {s : State} {m : MethodId} {args : Array Value} {below : List Frame} {meth : Method} {c : Code} {Q : State → Prop} {D : va_G} {cI cL cQ : ClassId} {sa : Nat → Nat} {b L : Nat} {xs : Nat → Int32} (K0 : LC p l s m args c D cI cL cQ sa b L xs) {x ah ak b0 b1 b2 b3 b4 m0 a0 a1 a2 a3 a4 a5 o : Nat} {n : Nat} (hlt : 6 * n + 6 ≤ L) {cs : CS} {v : MS} {F : Nat → Prop} {fo : Nat → Int64} {H : Heap} {locs : List Loc} {ls : Array Slot} (I : LI D cI cL cQ s.heap.size x ah ak b0 b1 b2 b3 b4 m0 a0 a1 a2 a3 a4 a5 o F cs v fo H) (R : Rel cs v) (hS : va_S (fun q => s.heap.size ≤ q) s.heap H locs) (hl : lv_has ls 8 [(4, .int (nI (6 * n))), (3, .ref o), (2, .ref m0), (1, .ref x), (0, .ref b)])
    (kk : ∀ (F1 : Nat → Prop) (cs1 : CS) (v1 : MS) (fo1 : Nat → Int64) (H1 : Heap) (locs1 : List Loc) (ls1 : Array Slot), LI D cI cL cQ s.heap.size x ah ak b0 b1 b2 b3 b4 m0 a0 a1 a2 a3 a4 a5 o F1 cs1 v1 fo1 H1 → Rel cs1 v1 → va_S (fun q => s.heap.size ≤ q) s.heap H1 locs1 → lv_has ls1 8 [(4, .int (nI (6 * n))), (3, .ref o), (2, .ref m0), (1, .ref x), (0, .ref b)] → W p l e room_1 s m args below meth c H1 locs1 (20 + 4 * (n + 1)) (1000 + 54 * (n + 1)) Q (F0 m 1197 ls1 [])) : W p l e room_1 s m args below meth c H locs (20 + 4 * n) (1000 + 54 * n) Q (F0 m 951 ls []) := by
  obtain ⟨hx, hb, hml, hown, hts, hC, hl0, hX, hbl, hL⟩ := K0
  have hK := hC.K
  have hbA : ¬ s.heap.size ≤ b := Nat.not_le_of_lt hbl
  have hN : ∀ q : Nat, s.heap.size ≤ q → s.heap.size ≤ q := fun _ z => z
  obtain ⟨hk, re, kn, sh, k⟩ := cs
  obtain ⟨on, kd, sz, fr, li, st, mi⟩ := v
  obtain ⟨g1, hg1⟩ : ∃ g : Int32, g = xs (nI (6 * n) + 1).toNatClampNeg := ⟨_, rfl⟩
  obtain ⟨g2, hg2⟩ : ∃ g : Int32, g = xs (nI (6 * n) + 2).toNatClampNeg := ⟨_, rfl⟩
  refine lv_aload_n hx hb dL_law_951 rfl (lv_at hl 3 rfl) ?_
  refine lv_aload_n hx hb dL_law_952 rfl (lv_at hl 4 rfl) ?_
  refine lv_iload hx hb dL_law_953 (lv_at hl 0 rfl) ?_
  refine lv_iconst (v := 1) hx hb dL_law_955 (by decide) ?_
  refine lv_iadd hx hb dL_law_956 ?_
  refine ld_g hx hb hX hbl hbA hS hg1 (vin (k := 1) (by decide) hlt hL) dL_law_957 ?_
  refine lv_aload_n hx hb dL_law_958 rfl (lv_at hl 4 rfl) ?_
  refine lv_iload hx hb dL_law_959 (lv_at hl 0 rfl) ?_
  refine lv_iconst (v := 2) hx hb dL_law_961 (by decide) ?_
  refine lv_iadd hx hb dL_law_962 ?_
  refine ld_g hx hb hX hbl hbA hS hg2 (vin (k := 2) (by decide) hlt hL) dL_law_963 ?_
  refine lv_aload_n hx hb dL_law_964 rfl (lv_at hl 1 rfl) ?_
  have hS0 := hS.1
  refine va_calli (vx_runSW (As := [.ref x, .int g1, .int g2, .ref o]) (rest := []) ⟨hx, hb, hml, hown, hts⟩ (c_L_frame l hl0 I.1 (I.NF hS.1) I.2.2.2.1 I.2.2.2.2.2.2.1 I.2.2.2.2.2.2.2) (vx_cwSW 4 hts gL_law_L_frame rfl rfl rfl (by decide +kernel) ⟨Nat.le_of_ble_eq_true rfl, Nat.le_of_ble_eq_true rfl⟩) (Pq.S hC hS hN) rfl rfl hl.1 rfl (lv_room (Nat.le_of_ble_eq_true rfl)) dL_law_965 ⟨fit_c (by omega), fit_s (by omega)⟩) hS (fun q _ z => I.NO hS.1 q z) (I.NO hS.1) (fun r u t H1 locs ht hvm hw hB hz1 hk1 hS => ?_)
  rw [ht] at hB
  have I1 : LI D cI cL cQ s.heap.size x ah ak b0 b1 b2 b3 b4 m0 a0 a1 a2 a3 a4 a5 o (fun q => F q ∨ H.size ≤ q) u.1 (on, kd, sz, fr, li, st, mi) u.2 H1 := I.cls hS0 hk1 hB.1 hB.2
  refine lv_istore (lv' := [(5, .int r), (4, .int (nI (6 * n))), (3, .ref o), (2, .ref m0), (1, .ref x), (0, .ref b)]) hx hb dL_law_968 hl (by decide) rfl (fun ls hl => ?_)
  refine lv_aload_n hx hb dL_law_970 rfl (lv_at hl 3 rfl) ?_
  refine lv_aload_n hx hb dL_law_971 rfl (lv_at hl 5 rfl) ?_
  refine lv_iload hx hb dL_law_972 (lv_at hl 1 rfl) ?_
  refine lv_iconst (v := 1) hx hb dL_law_974 (by decide) ?_
  refine lv_iadd hx hb dL_law_975 ?_
  refine ld_g hx hb hX hbl hbA hS hg1 (vin (k := 1) (by decide) hlt hL) dL_law_976 ?_
  refine lv_aload_n hx hb dL_law_977 rfl (lv_at hl 5 rfl) ?_
  refine lv_iload hx hb dL_law_978 (lv_at hl 1 rfl) ?_
  refine lv_iconst (v := 2) hx hb dL_law_980 (by decide) ?_
  refine lv_iadd hx hb dL_law_981 ?_
  refine ld_g hx hb hX hbl hbA hS hg2 (vin (k := 2) (by decide) hlt hL) dL_law_982 ?_
  have hMP : va_P D vwCl [(m0, .inr (3, [.ref a0, .ref a1, .ref a2, .ref a3, .ref a4, .ref a5, .int (mi 0), .int (mi 1), .int (mi 2), .int (mi 3), .int (mi 4), .int (mi 5), .int (mi 6), .int (mi 7), .int (mi 8)])), (a0, .inl (cI, 6, .inl on)), (a1, .inl (cI, 7, .inl kd)), (a2, .inl (cI, 7, .inl sz)), (a3, .inl (cL, 280, .inr (.inl fr))), (a4, .inl (cL, 40, .inr (.inl li))), (a5, .inl (cI, 120, .inl st))] H1 := I1.2.1
  have hMD : va_D nT [(m0, .inr (3, [.ref a0, .ref a1, .ref a2, .ref a3, .ref a4, .ref a5, .int (mi 0), .int (mi 1), .int (mi 2), .int (mi 3), .int (mi 4), .int (mi 5), .int (mi 6), .int (mi 7), .int (mi 8)])), (a0, .inl (cI, 6, .inl on)), (a1, .inl (cI, 7, .inl kd)), (a2, .inl (cI, 7, .inl sz)), (a3, .inl (cL, 280, .inr (.inl fr))), (a4, .inl (cL, 40, .inr (.inl li))), (a5, .inl (cI, 120, .inl st))] := I1.2.2.1
  have hMA : ∀ q, va_A [(m0, .inr (3, [.ref a0, .ref a1, .ref a2, .ref a3, .ref a4, .ref a5, .int (mi 0), .int (mi 1), .int (mi 2), .int (mi 3), .int (mi 4), .int (mi 5), .int (mi 6), .int (mi 7), .int (mi 8)])), (a0, .inl (cI, 6, .inl on)), (a1, .inl (cI, 7, .inl kd)), (a2, .inl (cI, 7, .inl sz)), (a3, .inl (cL, 280, .inr (.inl fr))), (a4, .inl (cL, 40, .inr (.inl li))), (a5, .inl (cI, 120, .inl st))] H1.size q → s.heap.size ≤ q := I1.A hS.1
  refine va_calll (va_runV (As := [.int g1, .int g2]) (rest := []) ⟨hx, hb, hml, hown, hts⟩ (c_X3_frame l hMP hMD hMA (R.1.okOn) (R.1.2.2.2)) (cwV 2 hts gL_law_X3_frame rfl rfl rfl (by decide +kernel) ⟨Nat.le_of_ble_eq_true rfl, Nat.le_of_ble_eq_true rfl⟩) (Pq.V hC hS hN (va_recv hK hMP (ci := 3) (q0 := 0) rfl rfl)) rfl rfl hl.1 rfl (lv_room (Nat.le_of_ble_eq_true rfl)) dL_law_983 ⟨fit_c (by omega), fit_s (by omega)⟩) hS (fun q _ z => hMA q z) hMA (fun bb v2 t2 H2 locs ht2 hvm2 hw2 hB2 hz2 hk2 hS => ?_)
  rw [ht2] at hB2
  have I2 : LI D cI cL cQ s.heap.size x ah ak b0 b1 b2 b3 b4 m0 a0 a1 a2 a3 a4 a5 o (fun q => F q ∨ H.size ≤ q) u.1 v2 u.2 H2 := I1.mod hk2 hB2.1 hB2.2
  have hA := r_frame R hw hw2
  refine lv_lstore (lv' := [(6, .long bb), (5, .int r), (4, .int (nI (6 * n))), (3, .ref o), (2, .ref m0), (1, .ref x), (0, .ref b)]) hx hb dL_law_986 hl (by decide) rfl (fun ls hl => ?_)
  refine lv_aload_n hx hb dL_law_988 rfl (lv_at hl 4 rfl) ?_
  refine ro_i (va_runV (As := []) (rest := []) ⟨hx, hb, hml, hown, hts⟩ (c_X3_thrown l I2.2.1) (cwV 0 hts gL_law_X3_thrown rfl rfl rfl (by decide +kernel) ⟨Nat.le_of_ble_eq_true rfl, Nat.le_of_ble_eq_true rfl⟩) (Pq.V hC hS hN (va_recv hK I2.2.1 (ci := 3) (q0 := 0) rfl rfl)) rfl rfl hl.1 rfl (lv_room (Nat.le_of_ble_eq_true rfl)) dL_law_989 ⟨fit_c (by omega), fit_s (by omega)⟩) hS (fun r2 locs hw3 hS => ?_)
  have hw3 : r2 = r := hw3.trans hA.1
  refine lv_iload hx hb dL_law_992 (lv_at hl 1 rfl) ?_
  refine lv_icmp_eq (tgt := 999) hx hb dL_law_994 (by decide) (fun _ => ?_) (fun c9 => absurd (hw3) c9)
  refine lv_iload hx hb dL_law_999 (lv_at hl 1 rfl) ?_
  refine lv_if_ne (tgt := 1015) hx hb dL_law_1001 (by decide) (fun c_1001 => ?_) (fun c_1001 => ?_)
  · refine lv_goto (tgt := 1197) hx hb dL_law_1015 (by decide) ?_
    refine W.widen (k := 20 + 4 * (n + 1)) (n := 1000 + 54 * (n + 1)) (by omega) (by omega) ?_
    exact kk _ _ _ _ _ _ _ I2 hA.2.2 hS (lv_sub hl [2, 3, 4, 5, 6] rfl)
  · refine lv_aload_n hx hb dL_law_1004 rfl (lv_at hl 3 rfl) ?_
    refine lv_iconst (v := 0) hx hb dL_law_1005 (by decide) ?_
    refine va_lald (D := D) hx hb hK I2.2.2.2.1 0 1 rfl rfl in01 dL_law_1006 ?_
    refine lv_lload hx hb dL_law_1007 (lv_at hl 0 rfl) ?_
    refine W.lcmp hx hb dL_law_1009 ?_
    refine lv_if_eq (tgt := 1015) hx hb dL_law_1010 (by decide) (fun _ => ?_) (fun c9 => absurd ((lg_cmp_eq (u.2 (0 : Int32).toNatClampNeg) bb).mpr (by rw [sb_cl0]; exact hA.2.1 c_1001)) c9)
    refine lv_goto (tgt := 1197) hx hb dL_law_1015 (by decide) ?_
    refine W.widen (k := 20 + 4 * (n + 1)) (n := 1000 + 54 * (n + 1)) (by omega) (by omega) ?_
    exact kk _ _ _ _ _ _ _ I2 hA.2.2 hS (lv_sub hl [2, 3, 4, 5, 6] rfl)
set_option maxHeartbeats 4000000 in
set_option maxRecDepth 100000 in
theorem lc_look {p : Program} {l : Launch} {e : Env} {s : State} {m : MethodId} {args : Array Value} {below : List Frame} {meth : Method} {c : Code} {Q : State → Prop} {D : va_G} {cI cL cQ : ClassId} {sa : Nat → Nat} {b L : Nat} {xs : Nat → Int32} (K0 : LC p l s m args c D cI cL cQ sa b L xs) {x ah ak b0 b1 b2 b3 b4 m0 a0 a1 a2 a3 a4 a5 o : Nat} {n : Nat} (hlt : 6 * n + 6 ≤ L) {cs : CS} {v : MS} {F : Nat → Prop} {fo : Nat → Int64} {H : Heap} {locs : List Loc} {ls : Array Slot} (I : LI D cI cL cQ s.heap.size x ah ak b0 b1 b2 b3 b4 m0 a0 a1 a2 a3 a4 a5 o F cs v fo H) (R : Rel cs v) (hS : va_S (fun q => s.heap.size ≤ q) s.heap H locs) (hl : lv_has ls 8 [(4, .int (nI (6 * n))), (3, .ref o), (2, .ref m0), (1, .ref x), (0, .ref b)])
    (kk : ∀ (F1 : Nat → Prop) (cs1 : CS) (v1 : MS) (fo1 : Nat → Int64) (H1 : Heap) (locs1 : List Loc) (ls1 : Array Slot), LI D cI cL cQ s.heap.size x ah ak b0 b1 b2 b3 b4 m0 a0 a1 a2 a3 a4 a5 o F1 cs1 v1 fo1 H1 → Rel cs1 v1 → va_S (fun q => s.heap.size ≤ q) s.heap H1 locs1 → lv_has ls1 8 [(4, .int (nI (6 * n))), (3, .ref o), (2, .ref m0), (1, .ref x), (0, .ref b)] → W p l e room_1 s m args below meth c H1 locs1 (20 + 4 * (n + 1)) (1000 + 54 * (n + 1)) Q (F0 m 1197 ls1 [])) : W p l e room_1 s m args below meth c H locs (20 + 4 * n) (1000 + 54 * n) Q (F0 m 1018 ls []) := by
  obtain ⟨hx, hb, hml, hown, hts, hC, hl0, hX, hbl, hL⟩ := K0
  have hK := hC.K
  have hbA : ¬ s.heap.size ≤ b := Nat.not_le_of_lt hbl
  have hN : ∀ q : Nat, s.heap.size ≤ q → s.heap.size ≤ q := fun _ z => z
  obtain ⟨hk, re, kn, sh, k⟩ := cs
  obtain ⟨on, kd, sz, fr, li, st, mi⟩ := v
  obtain ⟨g1, hg1⟩ : ∃ g : Int32, g = xs (nI (6 * n) + 1).toNatClampNeg := ⟨_, rfl⟩
  obtain ⟨g2, hg2⟩ : ∃ g : Int32, g = xs (nI (6 * n) + 2).toNatClampNeg := ⟨_, rfl⟩
  refine lv_aload_n hx hb dL_law_1018 rfl (lv_at hl 3 rfl) ?_
  refine lv_aload_n hx hb dL_law_1019 rfl (lv_at hl 4 rfl) ?_
  refine lv_iload hx hb dL_law_1020 (lv_at hl 0 rfl) ?_
  refine lv_iconst (v := 1) hx hb dL_law_1022 (by decide) ?_
  refine lv_iadd hx hb dL_law_1023 ?_
  refine ld_g hx hb hX hbl hbA hS hg1 (vin (k := 1) (by decide) hlt hL) dL_law_1024 ?_
  refine lv_aload_n hx hb dL_law_1025 rfl (lv_at hl 4 rfl) ?_
  refine lv_iload hx hb dL_law_1026 (lv_at hl 0 rfl) ?_
  refine lv_iconst (v := 2) hx hb dL_law_1028 (by decide) ?_
  refine lv_iadd hx hb dL_law_1029 ?_
  refine ld_g hx hb hX hbl hbA hS hg2 (vin (k := 2) (by decide) hlt hL) dL_law_1030 ?_
  refine lv_aload_n hx hb dL_law_1031 rfl (lv_at hl 1 rfl) ?_
  have hS0 := hS.1
  refine va_calli (vx_runSW (As := [.ref x, .int g1, .int g2, .ref o]) (rest := []) ⟨hx, hb, hml, hown, hts⟩ (c_L_look l hl0 I.1 (I.NF hS.1) I.2.2.2.1 I.2.2.2.2.2.2.1 I.2.2.2.2.2.2.2) (vx_cwSW 4 hts gL_law_L_look rfl rfl rfl (by decide +kernel) ⟨Nat.le_of_ble_eq_true rfl, Nat.le_of_ble_eq_true rfl⟩) (Pq.S hC hS hN) rfl rfl hl.1 rfl (lv_room (Nat.le_of_ble_eq_true rfl)) dL_law_1032 ⟨fit_c (by omega), fit_s (by omega)⟩) hS (fun q _ z => I.NO hS.1 q z) (I.NO hS.1) (fun r u t H1 locs ht hvm hw hB hz1 hk1 hS => ?_)
  rw [ht] at hB
  have I1 : LI D cI cL cQ s.heap.size x ah ak b0 b1 b2 b3 b4 m0 a0 a1 a2 a3 a4 a5 o (fun q => F q ∨ H.size ≤ q) u.1 (on, kd, sz, fr, li, st, mi) u.2 H1 := I.cls hS0 hk1 hB.1 hB.2
  refine lv_istore (lv' := [(5, .int r), (4, .int (nI (6 * n))), (3, .ref o), (2, .ref m0), (1, .ref x), (0, .ref b)]) hx hb dL_law_1035 hl (by decide) rfl (fun ls hl => ?_)
  refine lv_aload_n hx hb dL_law_1037 rfl (lv_at hl 3 rfl) ?_
  refine lv_aload_n hx hb dL_law_1038 rfl (lv_at hl 5 rfl) ?_
  refine lv_iload hx hb dL_law_1039 (lv_at hl 1 rfl) ?_
  refine lv_iconst (v := 1) hx hb dL_law_1041 (by decide) ?_
  refine lv_iadd hx hb dL_law_1042 ?_
  refine ld_g hx hb hX hbl hbA hS hg1 (vin (k := 1) (by decide) hlt hL) dL_law_1043 ?_
  refine lv_aload_n hx hb dL_law_1044 rfl (lv_at hl 5 rfl) ?_
  refine lv_iload hx hb dL_law_1045 (lv_at hl 1 rfl) ?_
  refine lv_iconst (v := 2) hx hb dL_law_1047 (by decide) ?_
  refine lv_iadd hx hb dL_law_1048 ?_
  refine ld_g hx hb hX hbl hbA hS hg2 (vin (k := 2) (by decide) hlt hL) dL_law_1049 ?_
  have hMP : va_P D vwCl [(m0, .inr (3, [.ref a0, .ref a1, .ref a2, .ref a3, .ref a4, .ref a5, .int (mi 0), .int (mi 1), .int (mi 2), .int (mi 3), .int (mi 4), .int (mi 5), .int (mi 6), .int (mi 7), .int (mi 8)])), (a0, .inl (cI, 6, .inl on)), (a1, .inl (cI, 7, .inl kd)), (a2, .inl (cI, 7, .inl sz)), (a3, .inl (cL, 280, .inr (.inl fr))), (a4, .inl (cL, 40, .inr (.inl li))), (a5, .inl (cI, 120, .inl st))] H1 := I1.2.1
  have hMD : va_D nT [(m0, .inr (3, [.ref a0, .ref a1, .ref a2, .ref a3, .ref a4, .ref a5, .int (mi 0), .int (mi 1), .int (mi 2), .int (mi 3), .int (mi 4), .int (mi 5), .int (mi 6), .int (mi 7), .int (mi 8)])), (a0, .inl (cI, 6, .inl on)), (a1, .inl (cI, 7, .inl kd)), (a2, .inl (cI, 7, .inl sz)), (a3, .inl (cL, 280, .inr (.inl fr))), (a4, .inl (cL, 40, .inr (.inl li))), (a5, .inl (cI, 120, .inl st))] := I1.2.2.1
  have hMA : ∀ q, va_A [(m0, .inr (3, [.ref a0, .ref a1, .ref a2, .ref a3, .ref a4, .ref a5, .int (mi 0), .int (mi 1), .int (mi 2), .int (mi 3), .int (mi 4), .int (mi 5), .int (mi 6), .int (mi 7), .int (mi 8)])), (a0, .inl (cI, 6, .inl on)), (a1, .inl (cI, 7, .inl kd)), (a2, .inl (cI, 7, .inl sz)), (a3, .inl (cL, 280, .inr (.inl fr))), (a4, .inl (cL, 40, .inr (.inl li))), (a5, .inl (cI, 120, .inl st))] H1.size q → s.heap.size ≤ q := I1.A hS.1
  refine va_calli (va_runV (As := [.int g1, .int g2]) (rest := []) ⟨hx, hb, hml, hown, hts⟩ (c_X3_look l hMP hMD hMA (R.1.okOn) (R.1.2.2.2)) (cwV 2 hts gL_law_X3_look rfl rfl rfl (by decide +kernel) ⟨Nat.le_of_ble_eq_true rfl, Nat.le_of_ble_eq_true rfl⟩) (Pq.V hC hS hN (va_recv hK hMP (ci := 3) (q0 := 0) rfl rfl)) rfl rfl hl.1 rfl (lv_room (Nat.le_of_ble_eq_true rfl)) dL_law_1050 ⟨fit_c (by omega), fit_s (by omega)⟩) hS (fun q _ z => hMA q z) hMA (fun bb v2 t2 H2 locs ht2 hvm2 hw2 hB2 hz2 hk2 hS => ?_)
  rw [ht2] at hB2
  have I2 : LI D cI cL cQ s.heap.size x ah ak b0 b1 b2 b3 b4 m0 a0 a1 a2 a3 a4 a5 o (fun q => F q ∨ H.size ≤ q) u.1 v2 u.2 H2 := I1.mod hk2 hB2.1 hB2.2
  have hA := r_look R hw hw2
  refine lv_istore (lv' := [(6, .int bb), (5, .int r), (4, .int (nI (6 * n))), (3, .ref o), (2, .ref m0), (1, .ref x), (0, .ref b)]) hx hb dL_law_1053 hl (by decide) rfl (fun ls hl => ?_)
  refine lv_aload_n hx hb dL_law_1055 rfl (lv_at hl 4 rfl) ?_
  refine ro_i (va_runV (As := []) (rest := []) ⟨hx, hb, hml, hown, hts⟩ (c_X3_thrown l I2.2.1) (cwV 0 hts gL_law_X3_thrown rfl rfl rfl (by decide +kernel) ⟨Nat.le_of_ble_eq_true rfl, Nat.le_of_ble_eq_true rfl⟩) (Pq.V hC hS hN (va_recv hK I2.2.1 (ci := 3) (q0 := 0) rfl rfl)) rfl rfl hl.1 rfl (lv_room (Nat.le_of_ble_eq_true rfl)) dL_law_1056 ⟨fit_c (by omega), fit_s (by omega)⟩) hS (fun r2 locs hw3 hS => ?_)
  have hw3 : r2 = r := hw3.trans hA.1
  refine lv_iload hx hb dL_law_1059 (lv_at hl 1 rfl) ?_
  refine lv_icmp_eq (tgt := 1066) hx hb dL_law_1061 (by decide) (fun _ => ?_) (fun c9 => absurd (hw3) c9)
  refine lv_iload hx hb dL_law_1066 (lv_at hl 1 rfl) ?_
  refine lv_if_ne (tgt := 1083) hx hb dL_law_1068 (by decide) (fun c_1068 => ?_) (fun c_1068 => ?_)
  · refine lv_goto (tgt := 1197) hx hb dL_law_1083 (by decide) ?_
    refine W.widen (k := 20 + 4 * (n + 1)) (n := 1000 + 54 * (n + 1)) (by omega) (by omega) ?_
    exact kk _ _ _ _ _ _ _ I2 hA.2.2 hS (lv_sub hl [2, 3, 4, 5, 6] rfl)
  · refine lv_aload_n hx hb dL_law_1071 rfl (lv_at hl 3 rfl) ?_
    refine lv_iconst (v := 0) hx hb dL_law_1072 (by decide) ?_
    refine va_lald (D := D) hx hb hK I2.2.2.2.1 0 1 rfl rfl in01 dL_law_1073 ?_
    refine lv_iload hx hb dL_law_1074 (lv_at hl 0 rfl) ?_
    refine lv_i2l hx hb dL_law_1076 rfl ?_
    refine W.lcmp hx hb dL_law_1077 ?_
    refine lv_if_eq (tgt := 1083) hx hb dL_law_1078 (by decide) (fun _ => ?_) (fun c9 => absurd ((lg_cmp_eq (u.2 (0 : Int32).toNatClampNeg) bb.toInt64).mpr (by rw [sb_cl0]; exact hA.2.1 c_1068)) c9)
    refine lv_goto (tgt := 1197) hx hb dL_law_1083 (by decide) ?_
    refine W.widen (k := 20 + 4 * (n + 1)) (n := 1000 + 54 * (n + 1)) (by omega) (by omega) ?_
    exact kk _ _ _ _ _ _ _ I2 hA.2.2 hS (lv_sub hl [2, 3, 4, 5, 6] rfl)
set_option maxHeartbeats 4000000 in
set_option maxRecDepth 100000 in
theorem lc_sum {p : Program} {l : Launch} {e : Env} {s : State} {m : MethodId} {args : Array Value} {below : List Frame} {meth : Method} {c : Code} {Q : State → Prop} {D : va_G} {cI cL cQ : ClassId} {sa : Nat → Nat} {b L : Nat} {xs : Nat → Int32} (K0 : LC p l s m args c D cI cL cQ sa b L xs) {x ah ak b0 b1 b2 b3 b4 m0 a0 a1 a2 a3 a4 a5 o : Nat} {n : Nat} (hlt : 6 * n + 6 ≤ L) {cs : CS} {v : MS} {F : Nat → Prop} {fo : Nat → Int64} {H : Heap} {locs : List Loc} {ls : Array Slot} (I : LI D cI cL cQ s.heap.size x ah ak b0 b1 b2 b3 b4 m0 a0 a1 a2 a3 a4 a5 o F cs v fo H) (R : Rel cs v) (hS : va_S (fun q => s.heap.size ≤ q) s.heap H locs) (hl : lv_has ls 8 [(4, .int (nI (6 * n))), (3, .ref o), (2, .ref m0), (1, .ref x), (0, .ref b)])
    (kk : ∀ (F1 : Nat → Prop) (cs1 : CS) (v1 : MS) (fo1 : Nat → Int64) (H1 : Heap) (locs1 : List Loc) (ls1 : Array Slot), LI D cI cL cQ s.heap.size x ah ak b0 b1 b2 b3 b4 m0 a0 a1 a2 a3 a4 a5 o F1 cs1 v1 fo1 H1 → Rel cs1 v1 → va_S (fun q => s.heap.size ≤ q) s.heap H1 locs1 → lv_has ls1 8 [(4, .int (nI (6 * n))), (3, .ref o), (2, .ref m0), (1, .ref x), (0, .ref b)] → W p l e room_1 s m args below meth c H1 locs1 (20 + 4 * (n + 1)) (1000 + 54 * (n + 1)) Q (F0 m 1197 ls1 [])) : W p l e room_1 s m args below meth c H locs (20 + 4 * n) (1000 + 54 * n) Q (F0 m 1086 ls []) := by
  obtain ⟨hx, hb, hml, hown, hts, hC, hl0, hX, hbl, hL⟩ := K0
  have hK := hC.K
  have hbA : ¬ s.heap.size ≤ b := Nat.not_le_of_lt hbl
  have hN : ∀ q : Nat, s.heap.size ≤ q → s.heap.size ≤ q := fun _ z => z
  obtain ⟨hk, re, kn, sh, k⟩ := cs
  obtain ⟨on, kd, sz, fr, li, st, mi⟩ := v
  obtain ⟨g1, hg1⟩ : ∃ g : Int32, g = xs (nI (6 * n) + 1).toNatClampNeg := ⟨_, rfl⟩
  refine lv_aload_n hx hb dL_law_1086 rfl (lv_at hl 3 rfl) ?_
  refine lv_aload_n hx hb dL_law_1087 rfl (lv_at hl 4 rfl) ?_
  refine lv_iload hx hb dL_law_1088 (lv_at hl 0 rfl) ?_
  refine lv_iconst (v := 1) hx hb dL_law_1090 (by decide) ?_
  refine lv_iadd hx hb dL_law_1091 ?_
  refine ld_g hx hb hX hbl hbA hS hg1 (vin (k := 1) (by decide) hlt hL) dL_law_1092 ?_
  refine lv_aload_n hx hb dL_law_1093 rfl (lv_at hl 1 rfl) ?_
  have hS0 := hS.1
  refine va_calli (vx_runSW (As := [.ref x, .int g1, .ref o]) (rest := []) ⟨hx, hb, hml, hown, hts⟩ (c_L_sum l hl0 I.1 (I.NF hS.1) I.2.2.2.1 I.2.2.2.2.2.2.1 I.2.2.2.2.2.2.2) (vx_cwSW 3 hts gL_law_L_sum rfl rfl rfl (by decide +kernel) ⟨Nat.le_of_ble_eq_true rfl, Nat.le_of_ble_eq_true rfl⟩) (Pq.S hC hS hN) rfl rfl hl.1 rfl (lv_room (Nat.le_of_ble_eq_true rfl)) dL_law_1094 ⟨fit_c (by omega), fit_s (by omega)⟩) hS (fun q _ z => I.NO hS.1 q z) (I.NO hS.1) (fun r u t H1 locs ht hvm hw hB hz1 hk1 hS => ?_)
  rw [ht] at hB
  have I1 : LI D cI cL cQ s.heap.size x ah ak b0 b1 b2 b3 b4 m0 a0 a1 a2 a3 a4 a5 o (fun q => F q ∨ H.size ≤ q) u.1 (on, kd, sz, fr, li, st, mi) u.2 H1 := I.cls hS0 hk1 hB.1 hB.2
  refine lv_istore (lv' := [(5, .int r), (4, .int (nI (6 * n))), (3, .ref o), (2, .ref m0), (1, .ref x), (0, .ref b)]) hx hb dL_law_1097 hl (by decide) rfl (fun ls hl => ?_)
  refine lv_aload_n hx hb dL_law_1099 rfl (lv_at hl 3 rfl) ?_
  refine lv_aload_n hx hb dL_law_1100 rfl (lv_at hl 5 rfl) ?_
  refine lv_iload hx hb dL_law_1101 (lv_at hl 1 rfl) ?_
  refine lv_iconst (v := 1) hx hb dL_law_1103 (by decide) ?_
  refine lv_iadd hx hb dL_law_1104 ?_
  refine ld_g hx hb hX hbl hbA hS hg1 (vin (k := 1) (by decide) hlt hL) dL_law_1105 ?_
  have hMP : va_P D vwCl [(m0, .inr (3, [.ref a0, .ref a1, .ref a2, .ref a3, .ref a4, .ref a5, .int (mi 0), .int (mi 1), .int (mi 2), .int (mi 3), .int (mi 4), .int (mi 5), .int (mi 6), .int (mi 7), .int (mi 8)])), (a0, .inl (cI, 6, .inl on)), (a1, .inl (cI, 7, .inl kd)), (a2, .inl (cI, 7, .inl sz)), (a3, .inl (cL, 280, .inr (.inl fr))), (a4, .inl (cL, 40, .inr (.inl li))), (a5, .inl (cI, 120, .inl st))] H1 := I1.2.1
  have hMD : va_D nT [(m0, .inr (3, [.ref a0, .ref a1, .ref a2, .ref a3, .ref a4, .ref a5, .int (mi 0), .int (mi 1), .int (mi 2), .int (mi 3), .int (mi 4), .int (mi 5), .int (mi 6), .int (mi 7), .int (mi 8)])), (a0, .inl (cI, 6, .inl on)), (a1, .inl (cI, 7, .inl kd)), (a2, .inl (cI, 7, .inl sz)), (a3, .inl (cL, 280, .inr (.inl fr))), (a4, .inl (cL, 40, .inr (.inl li))), (a5, .inl (cI, 120, .inl st))] := I1.2.2.1
  have hMA : ∀ q, va_A [(m0, .inr (3, [.ref a0, .ref a1, .ref a2, .ref a3, .ref a4, .ref a5, .int (mi 0), .int (mi 1), .int (mi 2), .int (mi 3), .int (mi 4), .int (mi 5), .int (mi 6), .int (mi 7), .int (mi 8)])), (a0, .inl (cI, 6, .inl on)), (a1, .inl (cI, 7, .inl kd)), (a2, .inl (cI, 7, .inl sz)), (a3, .inl (cL, 280, .inr (.inl fr))), (a4, .inl (cL, 40, .inr (.inl li))), (a5, .inl (cI, 120, .inl st))] H1.size q → s.heap.size ≤ q := I1.A hS.1
  refine va_calll (va_runV (As := [.int g1]) (rest := []) ⟨hx, hb, hml, hown, hts⟩ (c_X3_sum l hMP hMD hMA (R.1.okOn) (R.1.2.2.2)) (cwV 1 hts gL_law_X3_sum rfl rfl rfl (by decide +kernel) ⟨Nat.le_of_ble_eq_true rfl, Nat.le_of_ble_eq_true rfl⟩) (Pq.V hC hS hN (va_recv hK hMP (ci := 3) (q0 := 0) rfl rfl)) rfl rfl hl.1 rfl (lv_room (Nat.le_of_ble_eq_true rfl)) dL_law_1106 ⟨fit_c (by omega), fit_s (by omega)⟩) hS (fun q _ z => hMA q z) hMA (fun bb v2 t2 H2 locs ht2 hvm2 hw2 hB2 hz2 hk2 hS => ?_)
  rw [ht2] at hB2
  have I2 : LI D cI cL cQ s.heap.size x ah ak b0 b1 b2 b3 b4 m0 a0 a1 a2 a3 a4 a5 o (fun q => F q ∨ H.size ≤ q) u.1 v2 u.2 H2 := I1.mod hk2 hB2.1 hB2.2
  have hA := r_sum R hw hw2
  refine lv_lstore (lv' := [(6, .long bb), (5, .int r), (4, .int (nI (6 * n))), (3, .ref o), (2, .ref m0), (1, .ref x), (0, .ref b)]) hx hb dL_law_1109 hl (by decide) rfl (fun ls hl => ?_)
  refine lv_aload_n hx hb dL_law_1111 rfl (lv_at hl 4 rfl) ?_
  refine ro_i (va_runV (As := []) (rest := []) ⟨hx, hb, hml, hown, hts⟩ (c_X3_thrown l I2.2.1) (cwV 0 hts gL_law_X3_thrown rfl rfl rfl (by decide +kernel) ⟨Nat.le_of_ble_eq_true rfl, Nat.le_of_ble_eq_true rfl⟩) (Pq.V hC hS hN (va_recv hK I2.2.1 (ci := 3) (q0 := 0) rfl rfl)) rfl rfl hl.1 rfl (lv_room (Nat.le_of_ble_eq_true rfl)) dL_law_1112 ⟨fit_c (by omega), fit_s (by omega)⟩) hS (fun r2 locs hw3 hS => ?_)
  have hw3 : r2 = r := hw3.trans hA.1
  refine lv_iload hx hb dL_law_1115 (lv_at hl 1 rfl) ?_
  refine lv_icmp_eq (tgt := 1122) hx hb dL_law_1117 (by decide) (fun _ => ?_) (fun c9 => absurd (hw3) c9)
  refine lv_iload hx hb dL_law_1122 (lv_at hl 1 rfl) ?_
  refine lv_if_ne (tgt := 1138) hx hb dL_law_1124 (by decide) (fun c_1124 => ?_) (fun c_1124 => ?_)
  · refine lv_goto (tgt := 1197) hx hb dL_law_1138 (by decide) ?_
    refine W.widen (k := 20 + 4 * (n + 1)) (n := 1000 + 54 * (n + 1)) (by omega) (by omega) ?_
    exact kk _ _ _ _ _ _ _ I2 hA.2.2 hS (lv_sub hl [2, 3, 4, 5, 6] rfl)
  · refine lv_aload_n hx hb dL_law_1127 rfl (lv_at hl 3 rfl) ?_
    refine lv_iconst (v := 0) hx hb dL_law_1128 (by decide) ?_
    refine va_lald (D := D) hx hb hK I2.2.2.2.1 0 1 rfl rfl in01 dL_law_1129 ?_
    refine lv_lload hx hb dL_law_1130 (lv_at hl 0 rfl) ?_
    refine W.lcmp hx hb dL_law_1132 ?_
    refine lv_if_eq (tgt := 1138) hx hb dL_law_1133 (by decide) (fun _ => ?_) (fun c9 => absurd ((lg_cmp_eq (u.2 (0 : Int32).toNatClampNeg) bb).mpr (by rw [sb_cl0]; exact hA.2.1 c_1124)) c9)
    refine lv_goto (tgt := 1197) hx hb dL_law_1138 (by decide) ?_
    refine W.widen (k := 20 + 4 * (n + 1)) (n := 1000 + 54 * (n + 1)) (by omega) (by omega) ?_
    exact kk _ _ _ _ _ _ _ I2 hA.2.2 hS (lv_sub hl [2, 3, 4, 5, 6] rfl)
set_option maxHeartbeats 4000000 in
set_option maxRecDepth 100000 in
theorem lc_count {p : Program} {l : Launch} {e : Env} {s : State} {m : MethodId} {args : Array Value} {below : List Frame} {meth : Method} {c : Code} {Q : State → Prop} {D : va_G} {cI cL cQ : ClassId} {sa : Nat → Nat} {b L : Nat} {xs : Nat → Int32} (K0 : LC p l s m args c D cI cL cQ sa b L xs) {x ah ak b0 b1 b2 b3 b4 m0 a0 a1 a2 a3 a4 a5 o : Nat} {n : Nat} (hlt : 6 * n + 6 ≤ L) {cs : CS} {v : MS} {F : Nat → Prop} {fo : Nat → Int64} {H : Heap} {locs : List Loc} {ls : Array Slot} (I : LI D cI cL cQ s.heap.size x ah ak b0 b1 b2 b3 b4 m0 a0 a1 a2 a3 a4 a5 o F cs v fo H) (R : Rel cs v) (hS : va_S (fun q => s.heap.size ≤ q) s.heap H locs) (hl : lv_has ls 8 [(4, .int (nI (6 * n))), (3, .ref o), (2, .ref m0), (1, .ref x), (0, .ref b)])
    (kk : ∀ (F1 : Nat → Prop) (cs1 : CS) (v1 : MS) (fo1 : Nat → Int64) (H1 : Heap) (locs1 : List Loc) (ls1 : Array Slot), LI D cI cL cQ s.heap.size x ah ak b0 b1 b2 b3 b4 m0 a0 a1 a2 a3 a4 a5 o F1 cs1 v1 fo1 H1 → Rel cs1 v1 → va_S (fun q => s.heap.size ≤ q) s.heap H1 locs1 → lv_has ls1 8 [(4, .int (nI (6 * n))), (3, .ref o), (2, .ref m0), (1, .ref x), (0, .ref b)] → W p l e room_1 s m args below meth c H1 locs1 (20 + 4 * (n + 1)) (1000 + 54 * (n + 1)) Q (F0 m 1197 ls1 [])) : W p l e room_1 s m args below meth c H locs (20 + 4 * n) (1000 + 54 * n) Q (F0 m 1141 ls []) := by
  obtain ⟨hx, hb, hml, hown, hts, hC, hl0, hX, hbl, hL⟩ := K0
  have hK := hC.K
  have hbA : ¬ s.heap.size ≤ b := Nat.not_le_of_lt hbl
  have hN : ∀ q : Nat, s.heap.size ≤ q → s.heap.size ≤ q := fun _ z => z
  obtain ⟨hk, re, kn, sh, k⟩ := cs
  obtain ⟨on, kd, sz, fr, li, st, mi⟩ := v
  obtain ⟨g1, hg1⟩ : ∃ g : Int32, g = xs (nI (6 * n) + 1).toNatClampNeg := ⟨_, rfl⟩
  refine lv_aload_n hx hb dL_law_1141 rfl (lv_at hl 3 rfl) ?_
  refine lv_aload_n hx hb dL_law_1142 rfl (lv_at hl 4 rfl) ?_
  refine lv_iload hx hb dL_law_1143 (lv_at hl 0 rfl) ?_
  refine lv_iconst (v := 1) hx hb dL_law_1145 (by decide) ?_
  refine lv_iadd hx hb dL_law_1146 ?_
  refine ld_g hx hb hX hbl hbA hS hg1 (vin (k := 1) (by decide) hlt hL) dL_law_1147 ?_
  refine lv_aload_n hx hb dL_law_1148 rfl (lv_at hl 1 rfl) ?_
  have hS0 := hS.1
  refine va_calli (vx_runSW (As := [.ref x, .int g1, .ref o]) (rest := []) ⟨hx, hb, hml, hown, hts⟩ (c_L_count l hl0 I.1 (I.NF hS.1) I.2.2.2.1 I.2.2.2.2.2.2.1 I.2.2.2.2.2.2.2) (vx_cwSW 3 hts gL_law_L_count rfl rfl rfl (by decide +kernel) ⟨Nat.le_of_ble_eq_true rfl, Nat.le_of_ble_eq_true rfl⟩) (Pq.S hC hS hN) rfl rfl hl.1 rfl (lv_room (Nat.le_of_ble_eq_true rfl)) dL_law_1149 ⟨fit_c (by omega), fit_s (by omega)⟩) hS (fun q _ z => I.NO hS.1 q z) (I.NO hS.1) (fun r u t H1 locs ht hvm hw hB hz1 hk1 hS => ?_)
  rw [ht] at hB
  have I1 : LI D cI cL cQ s.heap.size x ah ak b0 b1 b2 b3 b4 m0 a0 a1 a2 a3 a4 a5 o (fun q => F q ∨ H.size ≤ q) u.1 (on, kd, sz, fr, li, st, mi) u.2 H1 := I.cls hS0 hk1 hB.1 hB.2
  refine lv_istore (lv' := [(5, .int r), (4, .int (nI (6 * n))), (3, .ref o), (2, .ref m0), (1, .ref x), (0, .ref b)]) hx hb dL_law_1152 hl (by decide) rfl (fun ls hl => ?_)
  refine lv_aload_n hx hb dL_law_1154 rfl (lv_at hl 3 rfl) ?_
  refine lv_aload_n hx hb dL_law_1155 rfl (lv_at hl 5 rfl) ?_
  refine lv_iload hx hb dL_law_1156 (lv_at hl 1 rfl) ?_
  refine lv_iconst (v := 1) hx hb dL_law_1158 (by decide) ?_
  refine lv_iadd hx hb dL_law_1159 ?_
  refine ld_g hx hb hX hbl hbA hS hg1 (vin (k := 1) (by decide) hlt hL) dL_law_1160 ?_
  have hMP : va_P D vwCl [(m0, .inr (3, [.ref a0, .ref a1, .ref a2, .ref a3, .ref a4, .ref a5, .int (mi 0), .int (mi 1), .int (mi 2), .int (mi 3), .int (mi 4), .int (mi 5), .int (mi 6), .int (mi 7), .int (mi 8)])), (a0, .inl (cI, 6, .inl on)), (a1, .inl (cI, 7, .inl kd)), (a2, .inl (cI, 7, .inl sz)), (a3, .inl (cL, 280, .inr (.inl fr))), (a4, .inl (cL, 40, .inr (.inl li))), (a5, .inl (cI, 120, .inl st))] H1 := I1.2.1
  have hMD : va_D nT [(m0, .inr (3, [.ref a0, .ref a1, .ref a2, .ref a3, .ref a4, .ref a5, .int (mi 0), .int (mi 1), .int (mi 2), .int (mi 3), .int (mi 4), .int (mi 5), .int (mi 6), .int (mi 7), .int (mi 8)])), (a0, .inl (cI, 6, .inl on)), (a1, .inl (cI, 7, .inl kd)), (a2, .inl (cI, 7, .inl sz)), (a3, .inl (cL, 280, .inr (.inl fr))), (a4, .inl (cL, 40, .inr (.inl li))), (a5, .inl (cI, 120, .inl st))] := I1.2.2.1
  have hMA : ∀ q, va_A [(m0, .inr (3, [.ref a0, .ref a1, .ref a2, .ref a3, .ref a4, .ref a5, .int (mi 0), .int (mi 1), .int (mi 2), .int (mi 3), .int (mi 4), .int (mi 5), .int (mi 6), .int (mi 7), .int (mi 8)])), (a0, .inl (cI, 6, .inl on)), (a1, .inl (cI, 7, .inl kd)), (a2, .inl (cI, 7, .inl sz)), (a3, .inl (cL, 280, .inr (.inl fr))), (a4, .inl (cL, 40, .inr (.inl li))), (a5, .inl (cI, 120, .inl st))] H1.size q → s.heap.size ≤ q := I1.A hS.1
  refine va_calli (va_runV (As := [.int g1]) (rest := []) ⟨hx, hb, hml, hown, hts⟩ (c_X3_count l hMP hMD hMA) (cwV 1 hts gL_law_X3_count rfl rfl rfl (by decide +kernel) ⟨Nat.le_of_ble_eq_true rfl, Nat.le_of_ble_eq_true rfl⟩) (Pq.V hC hS hN (va_recv hK hMP (ci := 3) (q0 := 0) rfl rfl)) rfl rfl hl.1 rfl (lv_room (Nat.le_of_ble_eq_true rfl)) dL_law_1161 ⟨fit_c (by omega), fit_s (by omega)⟩) hS (fun q _ z => hMA q z) hMA (fun bb v2 t2 H2 locs ht2 hvm2 hw2 hB2 hz2 hk2 hS => ?_)
  rw [ht2] at hB2
  have I2 : LI D cI cL cQ s.heap.size x ah ak b0 b1 b2 b3 b4 m0 a0 a1 a2 a3 a4 a5 o (fun q => F q ∨ H.size ≤ q) u.1 v2 u.2 H2 := I1.mod hk2 hB2.1 hB2.2
  have hA := r_count R hw hw2
  refine lv_istore (lv' := [(6, .int bb), (5, .int r), (4, .int (nI (6 * n))), (3, .ref o), (2, .ref m0), (1, .ref x), (0, .ref b)]) hx hb dL_law_1164 hl (by decide) rfl (fun ls hl => ?_)
  refine lv_aload_n hx hb dL_law_1166 rfl (lv_at hl 4 rfl) ?_
  refine ro_i (va_runV (As := []) (rest := []) ⟨hx, hb, hml, hown, hts⟩ (c_X3_thrown l I2.2.1) (cwV 0 hts gL_law_X3_thrown rfl rfl rfl (by decide +kernel) ⟨Nat.le_of_ble_eq_true rfl, Nat.le_of_ble_eq_true rfl⟩) (Pq.V hC hS hN (va_recv hK I2.2.1 (ci := 3) (q0 := 0) rfl rfl)) rfl rfl hl.1 rfl (lv_room (Nat.le_of_ble_eq_true rfl)) dL_law_1167 ⟨fit_c (by omega), fit_s (by omega)⟩) hS (fun r2 locs hw3 hS => ?_)
  have hw3 : r2 = r := hw3.trans hA.1
  refine lv_iload hx hb dL_law_1170 (lv_at hl 1 rfl) ?_
  refine lv_icmp_eq (tgt := 1177) hx hb dL_law_1172 (by decide) (fun _ => ?_) (fun c9 => absurd (hw3) c9)
  refine lv_iload hx hb dL_law_1177 (lv_at hl 1 rfl) ?_
  refine lv_if_ne (tgt := 1194) hx hb dL_law_1179 (by decide) (fun c_1179 => ?_) (fun c_1179 => ?_)
  · refine lv_goto (tgt := 1197) hx hb dL_law_1194 (by decide) ?_
    refine W.widen (k := 20 + 4 * (n + 1)) (n := 1000 + 54 * (n + 1)) (by omega) (by omega) ?_
    exact kk _ _ _ _ _ _ _ I2 hA.2.2 hS (lv_sub hl [2, 3, 4, 5, 6] rfl)
  · refine lv_aload_n hx hb dL_law_1182 rfl (lv_at hl 3 rfl) ?_
    refine lv_iconst (v := 0) hx hb dL_law_1183 (by decide) ?_
    refine va_lald (D := D) hx hb hK I2.2.2.2.1 0 1 rfl rfl in01 dL_law_1184 ?_
    refine lv_iload hx hb dL_law_1185 (lv_at hl 0 rfl) ?_
    refine lv_i2l hx hb dL_law_1187 rfl ?_
    refine W.lcmp hx hb dL_law_1188 ?_
    refine lv_if_eq (tgt := 1194) hx hb dL_law_1189 (by decide) (fun _ => ?_) (fun c9 => absurd ((lg_cmp_eq (u.2 (0 : Int32).toNatClampNeg) bb.toInt64).mpr (by rw [sb_cl0]; exact hA.2.1 c_1179)) c9)
    refine lv_goto (tgt := 1197) hx hb dL_law_1194 (by decide) ?_
    refine W.widen (k := 20 + 4 * (n + 1)) (n := 1000 + 54 * (n + 1)) (by omega) (by omega) ?_
    exact kk _ _ _ _ _ _ _ I2 hA.2.2 hS (lv_sub hl [2, 3, 4, 5, 6] rfl)
end CLaw2
