section CB
/-- the string constants of the class, by their entries -/
def cSL : List (Nat × String) := [(48, "no such kind"), (56, "no such number of frames"), (67, "no row to make a twin of"), (84, "neither marks nor hours"), (90, "no such number"), (95, "neither cards nor seals"), (110, "the sheet is full"), (121, "the knife isn't blunt"), (129, "nothing, or a core"), (138, "no such what"), (162, "no such hook"), (166, "no such frame"), (169, "the knife is blunt")]
/-- the fields that a nest mate reads -/
def cNF : List Cond := [.fieldLinkNest RX2 126 "SpliceRoom$Knife" "grindings" "I" "SpliceRoom", .fieldLinkNest RX2 144 "SpliceRoom$Knife" "wentWell" "I" "SpliceRoom", .fieldLinkNest RX2 147 "SpliceRoom$Knife" "laid" "I" "SpliceRoom", .fieldLinkNest RX2 150 "SpliceRoom$Knife" "jams" "I" "SpliceRoom", .fieldLinkNest RX2 153 "SpliceRoom$Knife" "jamsInRow" "I" "SpliceRoom", .fieldLinkNest RX2 156 "SpliceRoom$Knife" "far" "I" "SpliceRoom", .fieldLinkNest RX2 159 "SpliceRoom$Knife" "told" "I" "SpliceRoom", .fieldLinkNest RX2 62 "SpliceRoom$Reel" "kind" "I" "SpliceRoom", .fieldLinkNest RX2 70 "SpliceRoom$Reel" "row" "[J" "SpliceRoom", .fieldLinkNest RX0 47 "SpliceRoom$Reel" "row" "[J" "SpliceRoom"]
abbrev eA : String := "java/lang/IllegalArgumentException"
abbrev eS : String := "java/lang/IllegalStateException"
abbrev eI : String := "java/lang/IndexOutOfBoundsException"
/-- the pairs of exceptions that are no such -/
def cNC : List (String × String) := [(eA, eS), (eA, eI), (eS, eA), (eS, eI), (eI, eA), (eI, eS)]
/-- what a throw asks of the exceptions' classes -/
abbrev iSt (c : String) : MethodName := ⟨c, "<init>", "(Ljava/lang/String;)V"⟩
def cNW : List Cond := [.castable eA eA, .castable eS eS, .castable eI eI, .declares (iSt "java/lang/RuntimeException"), .declares (iSt "java/lang/Exception"), .declares (iSt "java/lang/Throwable")]
theorem cast_moved {a b : String} {u U : State} (hvm : u.vm.Alike U.vm) (h : va_Nw (.castable a b) u) : va_Nw (.castable a b) U := by
  obtain ⟨c3, c4, h1, h2, h3⟩ := Cond.castable_spec h
  simp [va_Nw, Cond.before, Cond.holds, Cond.value, hvm.findClass, h1, h2, hvm.assignable, h3]
theorem decl_moved {x : MethodName} {u U : State} (hvm : u.vm.Alike U.vm) (h : va_Nw (.declares x) u) : va_Nw (.declares x) U := by
  have h1 : (Cond.declares x).before #[] (u.setVm U.vm) = true := by
    rw [Cond.declares_setVm hvm]
    exact h
  have e := Cond.onTables_vm (A := #[]) (A' := #[]) (U := u) (U' := U) U.vm (Cond.declares x) rfl
  have hU : U.setVm U.vm = U := rfl
  rw [hU] at e
  unfold va_Nw
  rw [← e]
  exact h1
theorem cNW_moved {u U : State} (hvm : u.vm.Alike U.vm) (h : ∀ w ∈ cNW, va_Nw w u) : ∀ w ∈ cNW, va_Nw w U := by
  intro w hw
  have h0 := h w hw
  simp only [cNW, List.mem_cons, List.not_mem_nil, or_false] at hw
  rcases hw with rfl | rfl | rfl | rfl | rfl | rfl
  · exact cast_moved hvm h0
  · exact cast_moved hvm h0
  · exact cast_moved hvm h0
  · exact decl_moved hvm h0
  · exact decl_moved hvm h0
  · exact decl_moved hvm h0
theorem cNF_form : ∀ w ∈ cNF, ∃ (a : String) (i : Nat) (b n d h : String), w = .fieldLinkNest a i b n d h := by
  intro w hw
  simp only [cNF, List.mem_cons, List.not_mem_nil, or_false] at hw
  rcases hw with rfl | rfl | rfl | rfl | rfl | rfl | rfl | rfl | rfl | rfl <;> exact ⟨_, _, _, _, _, _, rfl⟩
/-- what every method takes as given of the machine: classes, arrays, links of nest mates, texts, Throwable's two statics; below N0 nothing is ever written -/
def CX (D : va_G) (cI cL cQ : ClassId) (N0 : Nat) (sa : Nat → Nat) (U : State) : Prop :=
  va_K D vwCl [(cI, .int), (cL, .long), (cQ, .object RX1)] U ∧ va_AO RX1 U ∧ (∀ w ∈ cNF, va_Nw w U) ∧ va_Nw (.methodLinkNest RX2 17 yX0_init "SpliceRoom") U ∧ (∀ q ∈ cSL, vk_R RX2 q.1 q.2 (sa q.1) U) ∧ (∀ q ∈ cNC, va_Nc q.1 q.2 U) ∧ (∀ w ∈ cNW, va_Nw w U) ∧
  vx_Zq Bundle.tN "UNASSIGNED_STACK" Bundle.steD (fun q => N0 ≤ q) U U.heap ∧ vx_Zq Bundle.tN "SUPPRESSED_SENTINEL" Bundle.listD (fun q => N0 ≤ q) U U.heap ∧ N0 ≤ U.heap.size
theorem CX.to {D : va_G} {cI cL cQ : ClassId} {N0 : Nat} {sa : Nat → Nat} {s U : State} (h : CX D cI cL cQ N0 sa s) (hW : s.WarmedH U.vm) (hH : ∀ q : Nat, q < N0 → U.heap[q]? = s.heap[q]?) (hz : N0 ≤ U.heap.size) : CX D cI cL cQ N0 sa U := by
  obtain ⟨h1, h2, h3, h4, h5, h6, h10, h7, h8, h9⟩ := h
  have keep : ∀ {n d : String}, vx_Zq Bundle.tN n d (fun q => N0 ≤ q) s s.heap → vx_Zq Bundle.tN n d (fun q => N0 ≤ q) U U.heap := fun h => vx_Zq.kept (vx_Zq.moved hW.alike h) (fun a _ hn => hH a (Nat.lt_of_not_le hn))
  refine ⟨va_K.moved hW.alike h1, va_AO.moved hW.alike h2, ?_, va_Nw.warmM hW h4, fun q hq => vk_R.warm hW (h5 q hq), fun q hq => va_Nc.moved hW.alike (h6 q hq), cNW_moved hW.alike h10, keep h7, keep h8, hz⟩
  intro w hw
  obtain ⟨a, i, b, n, d, h, rfl⟩ := cNF_form w hw
  exact va_Nw.warmF hW (h3 _ hw)
theorem CX.K {D : va_G} {cI cL cQ : ClassId} {N0 : Nat} {sa : Nat → Nat} {s : State} (h : CX D cI cL cQ N0 sa s) : va_K D vwCl [(cI, .int), (cL, .long), (cQ, .object RX1)] s := h.1
theorem CX.nest {D : va_G} {cI cL cQ : ClassId} {N0 : Nat} {sa : Nat → Nat} {s : State} {args : Array Value} (h : CX D cI cL cQ N0 sa s) {a : String} {i : Nat} {b n d hh : String} (hw : Cond.fieldLinkNest a i b n d hh ∈ cNF) : (Cond.fieldLinkNest a i b n d hh).before args s = true := va_Nw.use rfl (h.2.2.1 _ hw)
theorem CX.word {D : va_G} {cI cL cQ : ClassId} {N0 : Nat} {sa : Nat → Nat} {s : State} {args : Array Value} (h : CX D cI cL cQ N0 sa s) {w : Cond} (hw : w ∈ cNW) (ht : w.onTables = true) : w.before args s = true := va_Nw.use ht (h.2.2.2.2.2.2.1 _ hw)
theorem CX.text {D : va_G} {cI cL cQ : ClassId} {N0 : Nat} {sa : Nat → Nat} {s : State} (h : CX D cI cL cQ N0 sa s) {i : Nat} {t : String} (hw : (i, t) ∈ cSL) : vk_R RX2 i t (sa i) s := h.2.2.2.2.1 (i, t) hw
theorem CX.ncast {D : va_G} {cI cL cQ : ClassId} {N0 : Nat} {sa : Nat → Nat} {s : State} (h : CX D cI cL cQ N0 sa s) {a b : String} (hw : (a, b) ∈ cNC) : va_Nc a b s := h.2.2.2.2.2.1 (a, b) hw
theorem CX.ust {D : va_G} {cI cL cQ : ClassId} {N0 : Nat} {sa : Nat → Nat} {s : State} {A : Nat → Prop} (h : CX D cI cL cQ N0 sa s) (hN : ∀ q, A q → N0 ≤ q) : vx_Zq Bundle.tN "UNASSIGNED_STACK" Bundle.steD A s s.heap := vx_Zq.narrow h.2.2.2.2.2.2.2.1 hN
theorem CX.sup {D : va_G} {cI cL cQ : ClassId} {N0 : Nat} {sa : Nat → Nat} {s : State} {A : Nat → Prop} (h : CX D cI cL cQ N0 sa s) (hN : ∀ q, A q → N0 ≤ q) : vx_Zq Bundle.tN "SUPPRESSED_SENTINEL" Bundle.listD A s s.heap := vx_Zq.narrow h.2.2.2.2.2.2.2.2.1 hN
theorem CX.call {D : va_G} {cI cL cQ : ClassId} {N0 : Nat} {sa : Nat → Nat} {U : State} (h : CX D cI cL cQ N0 sa U) (g : JFrame) (mk : MethodId) (a : Array Value) : CX D cI cL cQ N0 sa (U.calling g mk a) :=
  CX.to h (State.WarmedH.refl U) (fun _ _ => rfl) h.2.2.2.2.2.2.2.2.2
/-- where a callee is called: the heap is Hc, the rest as ever -/
def Pq (D : va_G) (cI cL cQ : ClassId) (N0 : Nat) (sa : Nat → Nat) (av : List Value) (Hc : Heap) : Array Value → State → Prop := va_Pc av (fun U => U.heap = Hc ∧ CX D cI cL cQ N0 sa U)
theorem Pq.blind {D : va_G} {cI cL cQ : ClassId} {N0 : Nat} {sa : Nat → Nat} {av : List Value} {Hc : Heap} : FrameBlind (Pq D cI cL cQ N0 sa av Hc) := fun a U g mk q => ⟨q.1, q.2.1, CX.call q.2.2 g mk a⟩
theorem CX.at {D : va_G} {cI cL cQ : ClassId} {N0 : Nat} {sa : Nat → Nat} {s : State} {A : Nat → Prop} {H : Heap} {locs : List Loc} (hC : CX D cI cL cQ N0 sa s) (hS : va_S A s.heap H locs) (hN : ∀ q, A q → N0 ≤ q) {U : State} (hU : U.heap = H) (hW : s.WarmedH U.vm) : CX D cI cL cQ N0 sa U :=
  CX.to hC hW (fun q hq => by rw [hU]; exact hS.2.1 q (Nat.lt_of_lt_of_le hq hC.2.2.2.2.2.2.2.2.2) (fun h => Nat.not_le_of_lt hq (hN q h))) (by rw [hU]; exact Nat.le_trans hC.2.2.2.2.2.2.2.2.2 hS.1)
theorem Pq.S {D : va_G} {cI cL cQ : ClassId} {N0 : Nat} {sa : Nat → Nat} {s : State} {A : Nat → Prop} {H : Heap} {locs : List Loc} (hC : CX D cI cL cQ N0 sa s) (hS : va_S A s.heap H locs) (hN : ∀ q, A q → N0 ≤ q) {As : List Value} : PreS s H (Pq D cI cL cQ N0 sa As H) As :=
  ⟨Pq.blind, fun _ hU hW => ⟨rfl, hU, CX.at hC hS hN hU hW⟩⟩
theorem Pq.V {D : va_G} {cI cL cQ : ClassId} {N0 : Nat} {sa : Nat → Nat} {s : State} {A : Nat → Prop} {H : Heap} {locs : List Loc} {C : String} {b : Nat} (hC : CX D cI cL cQ N0 sa s) (hS : va_S A s.heap H locs) (hN : ∀ q, A q → N0 ≤ q) {As : List Value} (hr : ∃ cellB : Cell, H[b]? = some cellB ∧ cellB.vm.isStatics = false ∧ s.vm.findClass C = some cellB.cls) : PreV s H C b (Pq D cI cL cQ N0 sa (.ref b :: As) H) As :=
  ⟨Pq.blind, hr, fun _ hU hW => ⟨rfl, hU, CX.at hC hS hN hU hW⟩⟩
def nA : Nat → Prop := fun _ => False
theorem nA_N {N0 : Nat} : ∀ q, nA q → N0 ≤ q := fun _ h => h.elim
/-- truth as the machine has it -/
def tB (c : Prop) [Decidable c] : Int32 := if c then 1 else 0
theorem tB_t {c : Prop} [Decidable c] (h : c) : tB c = 1 := if_pos h
theorem tB_f {c : Prop} [Decidable c] (h : ¬ c) : tB c = 0 := if_neg h
theorem tB_0 {c : Prop} [Decidable c] : tB c = 0 ↔ ¬ c := by
  by_cases h : c
  · rw [tB_t h]; exact ⟨fun q => absurd q (by decide), fun q => absurd h q⟩
  · rw [tB_f h]; exact ⟨fun _ => h, fun _ => rfl⟩
theorem tB_n {c : Prop} [Decidable c] : ¬ tB c = 0 ↔ c := by rw [tB_0]; exact Decidable.not_not
theorem tB_nar (c : Prop) [Decidable c] : narrow .boolean (.int (tB c)) = .int (tB c) := by
  by_cases h : c
  · rw [tB_t h]; rfl
  · rw [tB_f h]; rfl
/-- the words of 'throw new E(text)' out of a method's own and the machine's -/
abbrev exN : List String := ["java/lang/RuntimeException", "java/lang/Exception"]
theorem exN_fit : ∀ n ∈ exN, Bundle.fit n = true := by decide +kernel
theorem exA_ng : ∀ w ∈ (vx_atS RX2 50 eA exN).filter (fun w => !goodWord w), w ∈ cNW := by decide +kernel
theorem exS_ng : ∀ w ∈ (vx_atS RX2 69 eS exN).filter (fun w => !goodWord w), w ∈ cNW := by decide +kernel
theorem exI_ng : ∀ w ∈ (vx_atS RX2 168 eI exN).filter (fun w => !goodWord w), w ∈ cNW := by decide +kernel
theorem exA_ot : ∀ w ∈ vx_atS RX2 50 eA exN, vx_ot w = true := by decide +kernel
theorem exS_ot : ∀ w ∈ vx_atS RX2 69 eS exN, vx_ot w = true := by decide +kernel
theorem exI_ot : ∀ w ∈ vx_atS RX2 168 eI exN, vx_ot w = true := by decide +kernel
theorem cNW_ot : ∀ w ∈ cNW, w.onTables = true := by decide +kernel
theorem CX.all {D : va_G} {cI cL cQ : ClassId} {N0 : Nat} {sa : Nat → Nat} {s : State} {args : Array Value} (h : CX D cI cL cQ N0 sa s) : ∀ w ∈ cNW, w.before args s = true := fun w hw => h.word hw (cNW_ot w hw)
theorem good2 {own cls : String} {ik : Nat} {L : List Cond} (h : ∀ w ∈ L, vx_ot w = true) : ∀ w ∈ Cond.classLink own ik cls :: Cond.initialized cls :: L, vx_ot w = true := fun w hw => by
  rcases List.mem_cons.mp hw with rfl | hw
  · rfl
  · rcases List.mem_cons.mp hw with rfl | hw
    · rfl
    · exact h w hw
section RO
variable {p : Program} {l : Launch} {e : Env} {R : Room} {s : State} {m : MethodId} {args : Array Value} {below : List Frame} {meth : Method} {c : Code} {H : Heap} {locs : List Loc} {cells slots : Nat} {Q : State → Prop}
variable {mc ms : Nat} {A0 : Nat → Prop} {H0 : Heap} {a : Array Value} {pc : Nat} {ls : Array Slot} {st0 rest : List Value}
/-- a callee that writes nothing -/
theorem ro_i {post : Int32 → Unit → Prop} (hr : va_Run p l e R s m args below meth c H locs cells slots mc ms (F0 m pc ls st0) rest (va_Qi post (fun _ t => t.heap = H) nA a) nA) (hS : va_S A0 H0 H locs)
    (kk : ∀ (r : Int32) (locs1 : List Loc), post r () → va_S A0 H0 H locs1 → W p l e R s m args below meth c H locs1 (cells + mc) (slots + ms) Q (F0 m (pc + 3) ls (.int r :: rest))) : W p l e R s m args below meth c H locs cells slots Q (F0 m pc ls st0) := by
  refine va_calli hr hS (fun q _ h => h.elim) (fun q h => h.elim) (fun r u t H1 locs1 ht hvm hw hB hz1 hk1 hS1 => ?_)
  have e1 : H1 = H := ht.symm.trans hB
  subst e1
  exact kk r locs1 hw hS1
theorem ro_l {post : Int64 → Unit → Prop} (hr : va_Run p l e R s m args below meth c H locs cells slots mc ms (F0 m pc ls st0) rest (va_Ql post (fun _ t => t.heap = H) nA a) nA) (hS : va_S A0 H0 H locs)
    (kk : ∀ (r : Int64) (locs1 : List Loc), post r () → va_S A0 H0 H locs1 → W p l e R s m args below meth c H locs1 (cells + mc) (slots + ms) Q (F0 m (pc + 3) ls (.long r :: rest))) : W p l e R s m args below meth c H locs cells slots Q (F0 m pc ls st0) := by
  refine va_calll hr hS (fun q _ h => h.elim) (fun q h => h.elim) (fun r u t H1 locs1 ht hvm hw hB hz1 hk1 hS1 => ?_)
  have e1 : H1 = H := ht.symm.trans hB
  subst e1
  exact kk r locs1 hw hS1
theorem ro_v {post : Unit → Prop} (hr : va_Run p l e R s m args below meth c H locs cells slots mc ms (F0 m pc ls st0) rest (va_Qv post (fun _ t => t.heap = H) nA a) nA) (hS : va_S A0 H0 H locs)
    (kk : ∀ (locs1 : List Loc), post () → va_S A0 H0 H locs1 → W p l e R s m args below meth c H locs1 (cells + mc) (slots + ms) Q (F0 m (pc + 3) ls rest)) : W p l e R s m args below meth c H locs cells slots Q (F0 m pc ls st0) := by
  refine va_callv hr hS (fun q _ h => h.elim) (fun q h => h.elim) (fun u t H1 locs1 ht hvm hw hB hz1 hk1 hS1 => ?_)
  have e1 : H1 = H := ht.symm.trans hB
  subst e1
  exact kk locs1 hw hS1
end RO
end CB
