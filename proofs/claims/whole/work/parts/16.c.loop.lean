section CLoop
set_option maxHeartbeats 4000000 in
set_option maxRecDepth 100000 in
theorem law_loop {p : Program} {l : Launch} {e : Env} {s : State} {m : MethodId} {args : Array Value} {below : List Frame} {meth : Method} {c : Code} {Q : State → Prop} {D : va_G} {cI cL cQ : ClassId} {sa : Nat → Nat} {b L : Nat} {xs : Nat → Int32} (K0 : LC p l s m args c D cI cL cQ sa b L xs)  {x ah ak b0 b1 b2 b3 b4 m0 a0 a1 a2 a3 a4 a5 o : Nat} (kend : ∀ (n : Nat) (H : Heap) (locs : List Loc) (ls : Array Slot), 6 * n ≤ L → va_S (fun q => s.heap.size ≤ q) s.heap H locs → W p l e room_1 s m args below meth c H locs (20 + 4 * n) (1000 + 54 * n) Q (F0 m 1203 ls [])) : ∀ (d n : Nat), L ≤ 6 * n + d → 6 * n ≤ L → ∀ (cs : CS) (v : MS) (F : Nat → Prop) (fo : Nat → Int64) (H : Heap) (locs : List Loc) (ls : Array Slot), LI D cI cL cQ s.heap.size x ah ak b0 b1 b2 b3 b4 m0 a0 a1 a2 a3 a4 a5 o F cs v fo H → Rel cs v → va_S (fun q => s.heap.size ≤ q) s.heap H locs → lv_has ls 8 [(4, .int (nI (6 * n))), (3, .ref o), (2, .ref m0), (1, .ref x), (0, .ref b)] → W p l e room_1 s m args below meth c H locs (20 + 4 * n) (1000 + 54 * n) Q (F0 m 23 ls []) := by
  intro d
  induction d with
  | zero =>
    intro n hd hn cs v F fo H locs ls I R hS hl
    obtain ⟨hx, hb, hml, hown, hts, hC, hl0, hX, hbl, hL⟩ := id K0
    have hbA : ¬ s.heap.size ≤ b := Nat.not_le_of_lt hbl
    refine lv_iload hx hb dL_law_23 (lv_at hl 0 rfl) ?_
    refine lv_aload_n hx hb dL_law_25 rfl (lv_at hl 4 rfl) ?_
    refine va_slen hx hb hX hbl hbA hS dL_law_26 ?_
    refine lv_bipush (v := 6) hx hb dL_law_27 (by decide) ?_
    refine lv_isub hx hb dL_law_29 ?_
    refine lv_icmp_gt (tgt := 1203) hx hb dL_law_30 (by decide) (fun _ => kend n H locs ls hn hS) (fun c_30 => ?_)
    have hlt := cmp6 hn hL c_30
    exact absurd hlt (by omega)
  | succ d ih =>
    intro n hd hn cs v F fo H locs ls I R hS hl
    obtain ⟨hx, hb, hml, hown, hts, hC, hl0, hX, hbl, hL⟩ := id K0
    have hbA : ¬ s.heap.size ≤ b := Nat.not_le_of_lt hbl
    refine lv_iload hx hb dL_law_23 (lv_at hl 0 rfl) ?_
    refine lv_aload_n hx hb dL_law_25 rfl (lv_at hl 4 rfl) ?_
    refine va_slen hx hb hX hbl hbA hS dL_law_26 ?_
    refine lv_bipush (v := 6) hx hb dL_law_27 (by decide) ?_
    refine lv_isub hx hb dL_law_29 ?_
    refine lv_icmp_gt (tgt := 1203) hx hb dL_law_30 (by decide) (fun _ => kend n H locs ls hn hS) (fun c_30 => ?_)
    have hlt := cmp6 hn hL c_30
    have kk : ∀ (F1 : Nat → Prop) (cs1 : CS) (v1 : MS) (fo1 : Nat → Int64) (H1 : Heap) (locs1 : List Loc) (ls1 : Array Slot), LI D cI cL cQ s.heap.size x ah ak b0 b1 b2 b3 b4 m0 a0 a1 a2 a3 a4 a5 o F1 cs1 v1 fo1 H1 → Rel cs1 v1 → va_S (fun q => s.heap.size ≤ q) s.heap H1 locs1 → lv_has ls1 8 [(4, .int (nI (6 * n))), (3, .ref o), (2, .ref m0), (1, .ref x), (0, .ref b)] → W p l e room_1 s m args below meth c H1 locs1 (20 + 4 * (n + 1)) (1000 + 54 * (n + 1)) Q (F0 m 1197 ls1 []) := by
      intro F1 cs1 v1 fo1 H1 locs1 ls1 I1 R1 hS1 hl1
      refine lv_iinc (v := nI (6 * (n + 1))) (lv' := [(4, .int (nI (6 * (n + 1)))), (3, .ref o), (2, .ref m0), (1, .ref x), (0, .ref b)]) hx hb dL_law_1197 hl1 (k := 0) rfl ((nI_add (6 * n) 6).trans (by rw [show 6 * n + 6 = 6 * (n + 1) by omega])) (by decide) rfl (fun ls2 hl2 => ?_)
      refine lv_goto (tgt := 23) hx hb dL_law_1200 (by decide) ?_
      exact ih (n + 1) (by omega) (by omega) cs1 v1 F1 fo1 H1 locs1 ls2 I1 R1 hS1 hl2
    refine lv_aload_n hx hb dL_law_33 rfl (lv_at hl 4 rfl) ?_
    refine lv_iload hx hb dL_law_34 (lv_at hl 0 rfl) ?_
    refine ld_g hx hb hX hbl hbA hS rfl (vin0 hlt hL) dL_law_36 ?_
    refine lv_bipush (v := 15) hx hb dL_law_37 (by decide) ?_
    refine lv_iand hx hb dL_law_39 ?_
    refine lv_topi (fun w9 e9 => ?_)
    clear e9
    by_cases h0 : w9 = 0
    · subst h0
      refine lv_tableIn (x := 0) (off := 76) (tgt := 116) hx hb dL_law_40 (by decide) (by decide) (by decide) (by decide) ?_
      exact lc_wind K0 hlt I R hS hl kk
    by_cases h1 : w9 = 1
    · subst h1
      refine lv_tableIn (x := 1) (off := 156) (tgt := 196) hx hb dL_law_40 (by decide) (by decide) (by decide) (by decide) ?_
      exact lc_hang K0 hlt I R hS hl kk
    by_cases h2 : w9 = 2
    · subst h2
      refine lv_tableIn (x := 2) (off := 224) (tgt := 264) hx hb dL_law_40 (by decide) (by decide) (by decide) (by decide) ?_
      exact lc_twin K0 hlt I R hS hl kk
    by_cases h3 : w9 = 3
    · subst h3
      refine lv_tableIn (x := 3) (off := 292) (tgt := 332) hx hb dL_law_40 (by decide) (by decide) (by decide) (by decide) ?_
      exact lc_mark K0 hlt I R hS hl kk
    by_cases h4 : w9 = 4
    · subst h4
      refine lv_tableIn (x := 4) (off := 384) (tgt := 424) hx hb dL_law_40 (by decide) (by decide) (by decide) (by decide) ?_
      exact lc_paste K0 hlt I R hS hl kk
    by_cases h5 : w9 = 5
    · subst h5
      refine lv_tableIn (x := 5) (off := 499) (tgt := 539) hx hb dL_law_40 (by decide) (by decide) (by decide) (by decide) ?_
      exact lc_pull K0 hlt I R hS hl kk
    by_cases h6 : w9 = 6
    · subst h6
      refine lv_tableIn (x := 6) (off := 574) (tgt := 614) hx hb dL_law_40 (by decide) (by decide) (by decide) (by decide) ?_
      exact lc_splice K0 hlt I R hS hl kk
    by_cases h7 : w9 = 7
    · subst h7
      refine lv_tableIn (x := 7) (off := 678) (tgt := 718) hx hb dL_law_40 (by decide) (by decide) (by decide) (by decide) ?_
      exact lc_step K0 hlt I R hS hl kk
    by_cases h8 : w9 = 8
    · subst h8
      refine lv_tableIn (x := 8) (off := 782) (tgt := 822) hx hb dL_law_40 (by decide) (by decide) (by decide) (by decide) ?_
      exact lc_play K0 hlt I R hS hl kk
    by_cases h9 : w9 = 9
    · subst h9
      refine lv_tableIn (x := 9) (off := 854) (tgt := 894) hx hb dL_law_40 (by decide) (by decide) (by decide) (by decide) ?_
      exact lc_sweep K0 hlt I R hS hl kk
    by_cases h10 : w9 = 10
    · subst h10
      refine lv_tableIn (x := 10) (off := 867) (tgt := 907) hx hb dL_law_40 (by decide) (by decide) (by decide) (by decide) ?_
      exact lc_grind K0 hlt I R hS hl kk
    by_cases h11 : w9 = 11
    · subst h11
      refine lv_tableIn (x := 11) (off := 911) (tgt := 951) hx hb dL_law_40 (by decide) (by decide) (by decide) (by decide) ?_
      exact lc_frame K0 hlt I R hS hl kk
    by_cases h12 : w9 = 12
    · subst h12
      refine lv_tableIn (x := 12) (off := 978) (tgt := 1018) hx hb dL_law_40 (by decide) (by decide) (by decide) (by decide) ?_
      exact lc_look K0 hlt I R hS hl kk
    by_cases h13 : w9 = 13
    · subst h13
      refine lv_tableIn (x := 13) (off := 1046) (tgt := 1086) hx hb dL_law_40 (by decide) (by decide) (by decide) (by decide) ?_
      exact lc_sum K0 hlt I R hS hl kk
    by_cases h14 : w9 = 14
    · subst h14
      refine lv_tableIn (x := 14) (off := 1101) (tgt := 1141) hx hb dL_law_40 (by decide) (by decide) (by decide) (by decide) ?_
      exact lc_count K0 hlt I R hS hl kk
    refine lv_tableOut (tgt := 1197) hx hb dL_law_40 (by have := lv_neT h0 (a := 0) (by decide) ; have := lv_neT h1 (a := 1) (by decide) ; have := lv_neT h2 (a := 2) (by decide) ; have := lv_neT h3 (a := 3) (by decide) ; have := lv_neT h4 (a := 4) (by decide) ; have := lv_neT h5 (a := 5) (by decide) ; have := lv_neT h6 (a := 6) (by decide) ; have := lv_neT h7 (a := 7) (by decide) ; have := lv_neT h8 (a := 8) (by decide) ; have := lv_neT h9 (a := 9) (by decide) ; have := lv_neT h10 (a := 10) (by decide) ; have := lv_neT h11 (a := 11) (by decide) ; have := lv_neT h12 (a := 12) (by decide) ; have := lv_neT h13 (a := 13) (by decide) ; have := lv_neT h14 (a := 14) (by decide); omega) (by decide) ?_
    refine W.widen (k := 20 + 4 * (n + 1)) (n := 1000 + 54 * (n + 1)) (by omega) (by omega) ?_
    exact kk F cs v fo H locs ls I R hS hl
end CLoop
