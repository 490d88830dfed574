section
-- ===== PART A: goes FIRST, ahead of the names: the tables' words, and 'selects' of the private methods out of them =====
/-- a private method of a class that the tables say can be made, by its rows of tables_1 -/
def lw_okq (q : MethodName × Nat) : Prop := (q.1.cls ≠ "java/lang/invoke/MethodHandle" ∧ q.1.cls ≠ "java/lang/invoke/VarHandle") ∧ Cond.instantiable q.1.cls q.2 ∈ tables_1 ∧ Cond.privateMethod q.1 ∈ tables_1 ∧ Cond.instanceMethod q.1 ∈ tables_1
theorem lw_p0 : lw_okq (⟨"java/lang/Throwable", "fillInStackTrace", "(I)Ljava/lang/Throwable;"⟩, 6) := ⟨⟨by decide +kernel, by decide +kernel⟩, List.mem_of_getElem? (i := 137) (by decide +kernel), List.mem_of_getElem? (i := 135) (by decide +kernel), List.mem_of_getElem? (i := 136) (by decide +kernel)⟩
theorem lw_p1 : lw_okq (⟨"SpliceRoom", "kindOn", "(I)I"⟩, 8) := ⟨⟨by decide +kernel, by decide +kernel⟩, List.mem_of_getElem? (i := 13) (by decide +kernel), List.mem_of_getElem? (i := 193) (by decide +kernel), List.mem_of_getElem? (i := 194) (by decide +kernel)⟩
theorem lw_p2 : lw_okq (⟨"SpliceRoom", "requireSharpKnife", "()V"⟩, 8) := ⟨⟨by decide +kernel, by decide +kernel⟩, List.mem_of_getElem? (i := 13) (by decide +kernel), List.mem_of_getElem? (i := 289) (by decide +kernel), List.mem_of_getElem? (i := 290) (by decide +kernel)⟩
theorem lw_p3 : lw_okq (⟨"SpliceRoom$Knife", "lay", "(LSpliceRoom$Reel;ILSpliceRoom$Reel;II)I"⟩, 7) := ⟨⟨by decide +kernel, by decide +kernel⟩, List.mem_of_getElem? (i := 23) (by decide +kernel), List.mem_of_getElem? (i := 302) (by decide +kernel), List.mem_of_getElem? (i := 303) (by decide +kernel)⟩
theorem lw_p4 : lw_okq (⟨"SpliceRoom", "cutTurned", "(I)I"⟩, 8) := ⟨⟨by decide +kernel, by decide +kernel⟩, List.mem_of_getElem? (i := 13) (by decide +kernel), List.mem_of_getElem? (i := 333) (by decide +kernel), List.mem_of_getElem? (i := 334) (by decide +kernel)⟩
theorem lw_p5 : lw_okq (⟨"SpliceRoom", "cutAsWritten", "(I)I"⟩, 8) := ⟨⟨by decide +kernel, by decide +kernel⟩, List.mem_of_getElem? (i := 13) (by decide +kernel), List.mem_of_getElem? (i := 337) (by decide +kernel), List.mem_of_getElem? (i := 338) (by decide +kernel)⟩
theorem lw_p6 : lw_okq (⟨"SpliceRoom", "framesOn", "(I)I"⟩, 8) := ⟨⟨by decide +kernel, by decide +kernel⟩, List.mem_of_getElem? (i := 13) (by decide +kernel), List.mem_of_getElem? (i := 368) (by decide +kernel), List.mem_of_getElem? (i := 369) (by decide +kernel)⟩
theorem lw_p7 : lw_okq (⟨"SpliceRoom", "holdersOf", "(LSpliceRoom$Reel;)I"⟩, 8) := ⟨⟨by decide +kernel, by decide +kernel⟩, List.mem_of_getElem? (i := 13) (by decide +kernel), List.mem_of_getElem? (i := 372) (by decide +kernel), List.mem_of_getElem? (i := 373) (by decide +kernel)⟩
theorem lw_p8 : lw_okq (⟨"SpliceRoomModel", "free", "()I"⟩, 15) := ⟨⟨by decide +kernel, by decide +kernel⟩, List.mem_of_getElem? (i := 393) (by decide +kernel), List.mem_of_getElem? (i := 459) (by decide +kernel), List.mem_of_getElem? (i := 460) (by decide +kernel)⟩
theorem lw_p9 : lw_okq (⟨"SpliceRoomModel", "kindAt", "(I)I"⟩, 15) := ⟨⟨by decide +kernel, by decide +kernel⟩, List.mem_of_getElem? (i := 393) (by decide +kernel), List.mem_of_getElem? (i := 468) (by decide +kernel), List.mem_of_getElem? (i := 469) (by decide +kernel)⟩
theorem lw_p10 : lw_okq (⟨"SpliceRoomModel", "hasRow", "(I)Z"⟩, 15) := ⟨⟨by decide +kernel, by decide +kernel⟩, List.mem_of_getElem? (i := 393) (by decide +kernel), List.mem_of_getElem? (i := 476) (by decide +kernel), List.mem_of_getElem? (i := 477) (by decide +kernel)⟩
theorem lw_p11 : lw_okq (⟨"SpliceRoomModel", "sizeAt", "(I)I"⟩, 15) := ⟨⟨by decide +kernel, by decide +kernel⟩, List.mem_of_getElem? (i := 393) (by decide +kernel), List.mem_of_getElem? (i := 484) (by decide +kernel), List.mem_of_getElem? (i := 485) (by decide +kernel)⟩
theorem lw_p12 : lw_okq (⟨"SpliceRoomModel", "cardCode", "(II)I"⟩, 15) := ⟨⟨by decide +kernel, by decide +kernel⟩, List.mem_of_getElem? (i := 393) (by decide +kernel), List.mem_of_getElem? (i := 492) (by decide +kernel), List.mem_of_getElem? (i := 493) (by decide +kernel)⟩
theorem lw_p13 : lw_okq (⟨"SpliceRoomModel", "hasCards", "(I)Z"⟩, 15) := ⟨⟨by decide +kernel, by decide +kernel⟩, List.mem_of_getElem? (i := 393) (by decide +kernel), List.mem_of_getElem? (i := 496) (by decide +kernel), List.mem_of_getElem? (i := 497) (by decide +kernel)⟩
theorem lw_p14 : lw_okq (⟨"SpliceRoomModel", "isBlunt", "()Z"⟩, 15) := ⟨⟨by decide +kernel, by decide +kernel⟩, List.mem_of_getElem? (i := 393) (by decide +kernel), List.mem_of_getElem? (i := 513) (by decide +kernel), List.mem_of_getElem? (i := 514) (by decide +kernel)⟩
theorem lw_p15 : lw_okq (⟨"SpliceRoomModel", "cut", "(IIIII)I"⟩, 15) := ⟨⟨by decide +kernel, by decide +kernel⟩, List.mem_of_getElem? (i := 393) (by decide +kernel), List.mem_of_getElem? (i := 517) (by decide +kernel), List.mem_of_getElem? (i := 518) (by decide +kernel)⟩
def lw_privs_1 : List (MethodName × Nat) := [(⟨"java/lang/Throwable", "fillInStackTrace", "(I)Ljava/lang/Throwable;"⟩, 6), (⟨"SpliceRoom", "kindOn", "(I)I"⟩, 8), (⟨"SpliceRoom", "requireSharpKnife", "()V"⟩, 8), (⟨"SpliceRoom$Knife", "lay", "(LSpliceRoom$Reel;ILSpliceRoom$Reel;II)I"⟩, 7), (⟨"SpliceRoom", "cutTurned", "(I)I"⟩, 8), (⟨"SpliceRoom", "cutAsWritten", "(I)I"⟩, 8), (⟨"SpliceRoom", "framesOn", "(I)I"⟩, 8), (⟨"SpliceRoom", "holdersOf", "(LSpliceRoom$Reel;)I"⟩, 8), (⟨"SpliceRoomModel", "free", "()I"⟩, 15), (⟨"SpliceRoomModel", "kindAt", "(I)I"⟩, 15), (⟨"SpliceRoomModel", "hasRow", "(I)Z"⟩, 15), (⟨"SpliceRoomModel", "sizeAt", "(I)I"⟩, 15), (⟨"SpliceRoomModel", "cardCode", "(II)I"⟩, 15), (⟨"SpliceRoomModel", "hasCards", "(I)Z"⟩, 15), (⟨"SpliceRoomModel", "isBlunt", "()Z"⟩, 15), (⟨"SpliceRoomModel", "cut", "(IIIII)I"⟩, 15)]
theorem lw_r1 : ∀ q ∈ lw_privs_1, lw_okq q := List.forall_mem_cons.mpr ⟨lw_p0, List.forall_mem_cons.mpr ⟨lw_p1, List.forall_mem_cons.mpr ⟨lw_p2, List.forall_mem_cons.mpr ⟨lw_p3, List.forall_mem_cons.mpr ⟨lw_p4, List.forall_mem_cons.mpr ⟨lw_p5, List.forall_mem_cons.mpr ⟨lw_p6, List.forall_mem_cons.mpr ⟨lw_p7, List.forall_mem_cons.mpr ⟨lw_p8, List.forall_mem_cons.mpr ⟨lw_p9, List.forall_mem_cons.mpr ⟨lw_p10, List.forall_mem_cons.mpr ⟨lw_p11, List.forall_mem_cons.mpr ⟨lw_p12, List.forall_mem_cons.mpr ⟨lw_p13, List.forall_mem_cons.mpr ⟨lw_p14, List.forall_mem_cons.mpr ⟨lw_p15, fun _ h => absurd h List.not_mem_nil⟩⟩⟩⟩⟩⟩⟩⟩⟩⟩⟩⟩⟩⟩⟩⟩
theorem lw_p16 : lw_okq (⟨"SpliceRoomModel", "against", "(IIIII)I"⟩, 15) := ⟨⟨by decide +kernel, by decide +kernel⟩, List.mem_of_getElem? (i := 393) (by decide +kernel), List.mem_of_getElem? (i := 521) (by decide +kernel), List.mem_of_getElem? (i := 522) (by decide +kernel)⟩
def lw_privs_2 : List (MethodName × Nat) := [(⟨"SpliceRoomModel", "against", "(IIIII)I"⟩, 15)]
theorem lw_r2 : ∀ q ∈ lw_privs_2, lw_okq q := List.forall_mem_cons.mpr ⟨lw_p16, fun _ h => absurd h List.not_mem_nil⟩
def lw_privs : List (MethodName × Nat) := lw_privs_1 ++ (lw_privs_2)
def lw_tbl : List Cond := k2_sels lw_privs ++ tables_1
theorem lw_privs_ok : ∀ q ∈ lw_privs, lw_okq q := by
  show ∀ q ∈ lw_privs_1 ++ (lw_privs_2), lw_okq q
  exact List.forall_mem_append.mpr ⟨lw_r1, lw_r2⟩
section VY
/-- one row of a table at a thrown object: its class takes the object, or the search goes on; the link is noted -/
theorem vy_row {e : Env} {f : JFrame} {a : Addr} {Q : Handler → Pre} {E : CtlPost} {d : Bool} {acts : List Action} {s : State} {x : ExceptionTableEntry} {t : List ExceptionTableEntry} {c : ClassId} {cell : Cell} (hx : covers x f.pc = true) (h0 : x.catchType ≠ 0)
    (hl : s.vm.ClassLinks e.platform f.method.cls x.catchType c) (hcell : s.heap[a]? = some cell) (hobj : ∀ k, cell.vm ≠ .statics k)
    (hk : ∃ k, s.vm.classes[cell.cls]? = some k) (hc : ∃ k, s.vm.classes[c]? = some k) {b : Bool} (hfit : s.vm.assignable cell.cls c = b) :
    wp (findHandler.go f a (x :: t)) Q E e d acts s ↔ (if b = true then Q (.found x.handlerPc) d acts (s.setVm (s.vm.noted f.method.cls x.catchType (.cls c))) else wp (findHandler.go f a t) Q E e d acts (s.setVm (s.vm.noted f.method.cls x.catchType (.cls c)))) := by
  have hcov := hx
  simp only [covers] at hcov
  obtain ⟨ha, ht⟩ := (resolveClass_links e.toSetting hl).op (op := VmOp.resolveClass f.method.cls x.catchType) rfl
  have hal : s.vm.Alike (s.vm.noted f.method.cls x.catchType (.cls c)) := (Vm.Alike.refl s.vm).noted _ _ _
  obtain ⟨k1, hk1⟩ := hk
  obtain ⟨k2, hk2⟩ := hc
  obtain ⟨k3, hk3, -⟩ := hal.2.2 _ _ hk1
  obtain ⟨k4, hk4, -⟩ := hal.2.2 _ _ hk2
  have hf2 : (s.vm.noted f.method.cls x.catchType (.cls c)).assignable cell.cls c = b := by rw [hal.assignable]; exact hfit
  cases b <;> simp [findHandler.go, hcov, h0, ha, ht, hcell, hobj, hk3, hk4, hf2, VmOp.dirties, VmOp.acts]
/-- the rows ahead are passed, the row x takes the object -/
theorem vy_rows {e : Env} {s₀ : State} {f : JFrame} {a : Addr} {cell : Cell} (hobj : ∀ k, cell.vm ≠ .statics k) (hk0 : ∃ k, s₀.vm.classes[cell.cls]? = some k)
    (x : ExceptionTableEntry) (suf : List ExceptionTableEntry) (hx : covers x f.pc = true) (h0 : x.catchType ≠ 0) {cx : ClassId} (hlx : s₀.vm.ClassLinks e.platform f.method.cls x.catchType cx) (hfx : s₀.vm.assignable cell.cls cx = true) :
    ∀ (pre : List ExceptionTableEntry) (S : State), s₀.WarmedH S.vm → S.heap[a]? = some cell →
      (∀ y ∈ pre, covers y f.pc = false ∨ (y.catchType ≠ 0 ∧ ∃ c, s₀.vm.ClassLinks e.platform f.method.cls y.catchType c ∧ s₀.vm.assignable cell.cls c = false)) →
      ∃ vm', s₀.WarmedH vm' ∧ ∀ (Q : Handler → Pre) (E : CtlPost) (d : Bool) (acts : List Action), wp (findHandler.go f a (pre ++ x :: suf)) Q E e d acts S ↔ Q (.found x.handlerPc) d acts (S.setVm vm') := by
  obtain ⟨k0, hk0⟩ := hk0
  have known : ∀ (S : State), s₀.WarmedH S.vm → ∀ {cT : ClassId} {j : Nat}, s₀.vm.ClassLinks e.platform f.method.cls j cT → (∃ k, S.vm.classes[cell.cls]? = some k) ∧ (∃ k, S.vm.classes[cT]? = some k) ∧ s₀.WarmedH (S.vm.noted f.method.cls j (.cls cT)) := by
    intro S hW cT j hl
    obtain ⟨k5, hk5, -⟩ := hW.alike.2.2 _ _ hk0
    obtain ⟨dk, _, _, kt, hd, _, _, _, _, hkt, _, hopen⟩ := hl.here
    obtain ⟨k6, hk6, -⟩ := hW.alike.2.2 _ _ hkt
    exact ⟨⟨k5, hk5⟩, ⟨k6, hk6⟩, hW.noted hd hopen (State.rightAt_cls hl)⟩
  intro pre
  induction pre with
  | nil =>
    intro S hW hcell _
    obtain ⟨h5, h6, h7⟩ := known S hW hlx
    exact ⟨_, h7, fun Q E d acts => by
      rw [List.nil_append, vy_row hx h0 (hW.classLinks hlx) hcell hobj h5 h6 (b := true) (by rw [hW.alike.assignable]; exact hfx), if_pos rfl]⟩
  | cons y ys ih =>
    intro S hW hcell hpass
    have hrest := fun z hz => hpass z (List.mem_cons_of_mem _ hz)
    cases hcov : covers y f.pc with
    | false =>
      obtain ⟨vm', hW', hq⟩ := ih S hW hcell hrest
      exact ⟨vm', hW', fun Q E d acts => by rw [List.cons_append, W.findHandler_go_skip hcov]; exact hq Q E d acts⟩
    | true =>
      rcases hpass y List.mem_cons_self with h | ⟨hy0, cy, hly, hny⟩
      · rw [h] at hcov; cases hcov
      · obtain ⟨h5, h6, h7⟩ := known S hW hly
        obtain ⟨vm', hW', hq⟩ := ih (S.setVm (S.vm.noted f.method.cls y.catchType (.cls cy))) h7 hcell hrest
        exact ⟨vm', hW', fun Q E d acts => by
          rw [List.cons_append, vy_row hcov hy0 (hW.classLinks hly) hcell hobj h5 h6 (b := false) (by rw [hW.alike.assignable]; exact hny), if_neg (by decide)]
          exact hq Q E d acts⟩
/-- a throw of a callee's comes to the handler of the row x -/
theorem vy_caught {p : Program} {l : Launch} {e : Env} {R : Room} {s : State} {m₀ : MethodId} {args : Array Value} {below : List Frame} {meth : Method} {c : Code} {T : State} {locs : List Loc} {cells slots : Nat}
    (X : Stand p l e R s m₀ args below meth c T locs cells slots) (a : Addr) {g : JFrame} (hg : g.method = m₀) {s₁ : State} (hcome : Steps p.tables e below s₁ ((T.setTop g).pushFrame (.throwing a)))
    {cell : Cell} (hcell : T.heap[a]? = some cell) (hobj : cell.vm.isStatics = false) (hk0 : ∃ k, s.vm.classes[cell.cls]? = some k)
    (pre : List ExceptionTableEntry) (x : ExceptionTableEntry) (suf : List ExceptionTableEntry) (hsplit : c.exceptionTable.toList = pre ++ x :: suf)
    (hpass : ∀ y ∈ pre, covers y g.pc = false ∨ (y.catchType ≠ 0 ∧ ∃ c, s.vm.ClassLinks e.platform m₀.cls y.catchType c ∧ s.vm.assignable cell.cls c = false)) (hx : covers x g.pc = true)
    (h0 : x.catchType ≠ 0) {cx : ClassId} (hlx : s.vm.ClassLinks e.platform m₀.cls x.catchType cx) (hfx : s.vm.assignable cell.cls cx = true) :
    ∃ vm', Stand p l e R s m₀ args below meth c (T.setVm vm') locs cells slots ∧ Steps p.tables e below s₁ ((T.setVm vm').setTop { g with pc := x.handlerPc, stack := [.ref a] }) := by
  subst hg
  have hns : ∀ k, cell.vm ≠ .statics k := fun k h => by rw [h] at hobj; cases hobj
  obtain ⟨vm', hW', hq⟩ := vy_rows (e := e) (f := g) (a := a) hns hk0 x suf hx h0 hlx hfx pre ((T.setTop g).pushFrame (.throwing a)) X.warmed hcell hpass
  refine ⟨vm', X.noted hW', hcome.trans ?_⟩
  have hgo : ∀ (Q : Handler → Pre) (E : CtlPost) (d : Bool) (acts : List Action), wp (findHandler g a) Q E e d acts ((T.setTop g).pushFrame (.throwing a)) ↔ Q (.found x.handlerPc) d acts (((T.setTop g).pushFrame (.throwing a)).setVm vm') := fun Q E d acts => by
    rw [W.findHandler_eq (s := (T.setTop g).pushFrame (.throwing a)) (meth := meth) (code := c) X.method' X.code, hsplit]; exact hq Q E d acts
  obtain ⟨h1, hw⟩ := X.here.throwing (g := g) a
  refine Steps.head h1 hw ?_
  have hst : ∀ (r : List Frame), (stepThrowing e ((T.setTop g).pushFrame (.throwing a)) a (.java g :: r)).Is ((((T.setTop g).pushFrame (.throwing a)).setVm vm').setFrames (.java { g with pc := x.handlerPc, stack := [.ref a] } :: r)) [] := by
    intro r
    simp only [stepThrowing, searchFrame, vmDo]
    generalize hr : Sem.go _ e false [] ((T.setTop g).pushFrame (.throwing a)) = res
    obtain ⟨as, rfl, ha⟩ := Sem.eq_ok_of hr (a := Handler.found x.handlerPc) (s' := ((T.setTop g).pushFrame (.throwing a)).setVm vm') (acts' := []) (by simp [hgo _ _ _ _])
    exact ⟨rfl, ha⟩
  rw [stepThread_throwing (frames_entered X.here.top _), (hst _).1]
  obtain ⟨g₀, hg0⟩ := Option.isSome_iff_exists.mp X.here.top
  obtain ⟨r, hr⟩ := State.topJava?_eq_some.mp hg0
  have hr' : (T.setVm vm').frames = .java g₀ :: r := hr
  have hsw : ∀ (u : State) (F G : List Frame), ((u.setFrames F).setVm vm').setFrames G = (u.setVm vm').setFrames G := fun u F G => by
    rw [show (u.setFrames F).setVm vm' = (u.setVm vm').setFrames F from rfl, State.setFrames_setFrames]
  rw [State.setTop_of_frames _ hr', hr, List.tail_cons, State.pushFrame, hsw, State.setTop_of_frames _ hr, hsw]
  exact Steps.refl _
end VY
/-! ===== BEGIN words of one list among another's, by their places ===== -/
theorem goodIn_r {big : List Cond} (ws : List Cond) (ps : List Nat) (hp : ws = ps.filterMap (fun i => big[i]?)) (h : ws.all goodWord = true) : GoodIn big ws := by
  intro w hw
  have h1 := List.all_eq_true.mp h w hw
  rw [hp] at hw
  obtain ⟨i, -, hi⟩ := List.mem_filterMap.mp hw
  have hm : w ∈ big := by first | exact List.mem_of_getElem? hi | exact List.getElem?_mem hi
  exact ⟨hm, good_of_word h1⟩
theorem goodIn_app {big a b : List Cond} (ha : GoodIn big a) (hb : GoodIn big b) : GoodIn big (a ++ b) := fun w h => (List.mem_append.mp h).elim (ha w) (hb w)
theorem goodIn_ca {big a b : List Cond} {c : Cond} (ha : GoodIn big (c :: a)) (hb : GoodIn big b) : GoodIn big (c :: (a ++ b)) := fun w h => (List.mem_cons.mp h).elim (fun e => ha w (List.mem_cons.mpr (Or.inl e))) (fun h => (List.mem_append.mp h).elim (fun h => ha w (List.mem_cons.mpr (Or.inr h))) (hb w))
theorem goodIn_sub {big ws : List Cond} (hm : ∀ w ∈ ws, w ∈ big) (h : ws.all goodWord = true) : GoodIn big ws := fun w hw => ⟨hm w hw, good_of_word (List.all_eq_true.mp h w hw)⟩
/-! ===== END ===== -/

/-! ===== BEGIN exceptions that leave a method, and their catching by the caller (launches without stack traces) ===== -/
section VXA
/-! The laws vx_back, vx_callV, vx_callS, vx_callSW, vx_throw0, vx_throwS follow proofs of the library, with one case more: JvmDerived/Free/Laws.lean (Back.of_free), Shelf42/LK1.lean (callV, callS), Shelf/KitTraced.lean (throwNew0V, throwNewS). -/
/-- where a method has thrown q: the class by its name, the cell, what was written, the world -/
def vx_T (XC : String → State → State → Prop) (st : State) (q : Addr) (t : State) (mc ms : Nat) (free : Addr → Prop) : Prop :=
  ∃ (E : String) (ce : Cell) (L : List Loc), XC E st t ∧ t.heap[q]? = some ce ∧ ce.vm = .none ∧ st.vm.findClass E = some ce.cls ∧ st.WarmedH t.vm ∧ st.sameButNew ({ t with vm := st.vm } : State) L mc ms ∧ ∀ z ∈ L, free z.base
def vx_Q (Qc : Array Value → State → Outcome → State → Prop) (XC : String → State → State → Prop) (mc ms : Nat) (free : Addr → Prop) : Array Value → State → Outcome → State → Prop := fun a st o t =>
  (Qc a st o t ∧ ∃ L, FrameEnd st o t L mc ms ∧ ∀ q ∈ L, free q.base) ∨ ∃ q, o = .threw q ∧ vx_T XC st q t mc ms free
/-- a callee that returns or throws -/
def vx_Met (l : Launch) (y : MethodName) (ws : List Cond) (rm : Room) (Pc : Array Value → State → Prop) (Qc : Array Value → State → Outcome → State → Prop) (XC : String → State → State → Prop) (mc ms : Nat) (free : Addr → Prop) : Prop :=
  MetFree l y (headSpec ws rm) Pc (fun _ _ _ _ _ => True) (vx_Q Qc XC mc ms free)
def vx_Post (XC : String → State → State → Prop) (mc ms : Nat) (free : Addr → Prop) : Pt → Array Value → Addr → Pt → Prop := fun A a q B =>
  ∃ (g : JFrame) (mk : MethodId) (t : State) (L : List Loc) (E : String) (ce : Cell), B.U.heap = t.heap ∧ B.U.vm = t.vm ∧ XC E (A.U.calling g mk a) t ∧ t.heap[q]? = some ce ∧ ce.vm = .none ∧ A.U.vm.findClass E = some ce.cls ∧ B.locs = A.locs ++ L ∧ (∀ z ∈ L, free z.base) ∧ B.cells = A.cells + mc ∧ B.slots = A.slots + ms
def vx_Back (l : Launch) (R : Room) (p : Program) (e : Env) (below : List Frame) (s : State) (sargs : Array Value) (y : MethodName) (len W9 : Nat)
    (Pre : Pt → Array Value → Prop) (Post : Pt → Array Value → Option Value → Pt → Prop) (PostX : Pt → Array Value → Addr → Pt → Prop) : Prop :=
  ∀ (m : MethodId) (meth : Method) (c : Code) (A : Pt) (g : JFrame) (ig : Instr) (mk : MethodId) (a : Array Value),
    Stand p l e R s m sargs below meth c A.U A.locs A.cells A.slots → g.method = m → g.locals.size = c.maxLocals → decode c.code g.pc = .ok (ig, len) →
    2 * g.monitorRoom + (g.stack.map fun v => v.category).sum ≤ W9 → A.U.methodNamed? y = some mk → Pre A a →
    (∃ (v : Option Value) (B : Pt), Stand p l e R s m sargs below meth c B.U B.locs B.cells B.slots ∧ Post A a v B ∧
      Steps p.tables e below (doInvoke e (A.U.setTop g) [] mk a).1 (B.U.setTop { g with pc := g.pc + len, stack := v.toList ++ g.stack })) ∨
    (∃ (q : Addr) (B : Pt), Stand p l e R s m sargs below meth c B.U B.locs B.cells B.slots ∧ PostX A a q B ∧
      Steps p.tables e below (doInvoke e (A.U.setTop g) [] mk a).1 ((B.U.setTop g).pushFrame (.throwing q)))
section Payer
variable {l : Launch} {R : Room} {p : Program} {e : Env} {below : List Frame} {s : State} {sargs : Array Value} {y : MethodName} {len W9 : Nat}
theorem vx_back {ws : List Cond} {rm : Room} {Pc : Array Value → State → Prop} {Qc : Array Value → State → Outcome → State → Prop} {XC : String → State → State → Prop} {mc ms : Nat} {free : Addr → Prop} {bytes : ByteArray} {maxL : Nat} {ret : Option FieldType}
    (hM : vx_Met l y ws rm Pc Qc XC mc ms free) (hblind : FrameBlind Pc) (hrc : rm.cells = mc) (hrs : rm.slots = ms)
    (hframes : rm.frames + 1 ≤ R.frames) (hlocals : W9 + (maxL + 11) + rm.locals ≤ R.locals)
    (hws : ∀ w ∈ ws, ∀ a' U, s.WarmedH U.vm → w.before a' U = true) (hcode : Cond.code y bytes maxL ret ∈ ws) (hinit : ∀ a' U, s.WarmedH U.vm → (Cond.initialized y.cls).before a' U = true) :
    vx_Back l R p e below s sargs y len W9 (PreOf R mc ms Pc) (PostOf Qc mc ms free) (vx_Post XC mc ms free) := by
  intro m meth c A g ig mk a X hg hsize hdg hW hn hp
  have h1 : (headSpec ws rm).pre.before a A.U = true := atoms_intro fun w hw => hws w hw _ _ X.warmed
  have h2 : (Cond.code y bytes maxL ret).before a A.U = true := hws _ hcode _ _ X.warmed
  have h3 : (Cond.initialized y.cls).before a A.U = true := hinit _ _ X.warmed
  have h4 : A.cells + (headSpec ws rm).room.cells ≤ R.cells := by rw [show (headSpec ws rm).room.cells = mc from hrc]; exact hp.1
  have h5 : A.slots + (headSpec ws rm).room.slots ≤ R.slots := by rw [show (headSpec ws rm).room.slots = ms from hrs]; exact hp.2.1
  have hPc : Pc a (A.U.calling g mk a) := hblind _ _ _ _ hp.2.2
  obtain ⟨U, Ls, c0, s0⟩ := A
  dsimp only [Pt.U, Pt.locs, Pt.cells, Pt.slots] at h1 h2 h3 h4 h5 X hn hPc ⊢
  obtain ⟨methY, cY, hmY, hcY, -, hlY, -, -, -, -⟩ := Cond.code_spec hn h2
  obtain ⟨kY, hkY, -⟩ := className_of_methodNamed hn
  have hinitY : kY.init = .initialized := Cond.initialized_spec (findClass_of_methodNamed hn) hkY h3
  have h : At U g.method c below := by rw [hg]; exact X.here
  have hlocals9 : W9 + (maxL + 11) + (headSpec ws rm).room.locals ≤ R.locals := hlocals
  have happ : (headSpec ws rm).appliesLoose y e.platform (U.calling g mk a) = true :=
    Spec.appliesLoose_calling (g := g) h hdg hn hkY hinitY
      (X.room_calling (g := g) (R' := (headSpec ws rm).room) hsize hmY hcY hframes (by rw [hlY]; omega) h4 h5) h1
  obtain ⟨mid, hmid⟩ := h.above
  have hfr : (U.setTop g).frames = (.java g :: mid) ++ below := by rw [State.frames_setTop' g h.top, hmid]; rfl
  obtain ⟨o, s₂, hsteps, -, hend, hq⟩ := Steps.callFree hM p X.admits X.cas X.clock (acts := []) hfr happ hPc trivial
  have hq' : vx_Q Qc XC mc ms free a (U.calling g mk a) o s₂ := hq
  rw [State.frames_setTop' g h.top] at hend
  obtain ⟨g₀, hg0⟩ := Option.isSome_iff_exists.mp h.top
  obtain ⟨r, hr⟩ := State.topJava?_eq_some.mp hg0
  have hr' : (({ U with heap := s₂.heap, slotsUsed := s₂.slotsUsed } : State).setVm s₂.vm).frames = .java g₀ :: r := hr
  rcases hq' with ⟨hqc, L, hfe, hL⟩ | ⟨q, rfl, E, ce, L, hx, hce, hcv, hcl, hW₂, hsm, hL⟩
  · obtain ⟨⟨v, rfl⟩, hW₂, e2, q2, q3, q4, q5, q6⟩ := id hfe
    have e3 : s₂ = ({ (U.calling g mk a).setFrames s₂.frames with heap := s₂.heap, slotsUsed := s₂.slotsUsed } : State).setVm s₂.vm := by
      have : s₂ = ({ s₂ with vm := (U.calling g mk a).vm } : State).setVm s₂.vm := rfl
      rw [e2] at this
      exact this
    obtain ⟨c₂, i₂, len₂, hc₂, hd₂, hf₂⟩ := hend
    have hW' : U.WarmedH s₂.vm := hW₂
    have hcc : c₂ = c := by
      have h1 : s₂.code? g.method = U.code? g.method := by
        rw [State.code?_eq, State.code?_eq, hW'.alike.method?]
      exact Option.some.inj (hc₂.symm.trans (h1.trans h.code))
    subst hcc
    have hlen : len₂ = len := by rw [hdg] at hd₂; cases hd₂; rfl
    subst hlen
    have hs₂ : s₂ = (({ U with heap := s₂.heap, slotsUsed := s₂.slotsUsed } : State).setVm s₂.vm).setTop { g with pc := g.pc + len₂, stack := v.toList ++ g.stack } := by
      refine e3.trans ?_
      rw [hf₂, State.calling_eq h.top, State.setFrames_setFrames, State.setTop_of_frames _ hr', hr]
      rfl
    have hsame : U.sameButNew ({ U with heap := s₂.heap, slotsUsed := s₂.slotsUsed } : State) L mc ms := by
      refine ⟨?_, q2, q3, q4, q5, q6⟩
      obtain ⟨t, ht, -⟩ := State.frames_cons hr
      show ({ U with heap := s₂.heap, slotsUsed := s₂.slotsUsed } : State) = { U.setFrames U.frames with heap := s₂.heap, slotsUsed := s₂.slotsUsed }
      rw [State.setFrames_self ht]
    subst hg
    refine Or.inl ⟨v, ⟨(({ U with heap := s₂.heap, slotsUsed := s₂.slotsUsed } : State).setVm s₂.vm), Ls ++ L, c0 + mc, s0 + ms⟩,
      ⟨X.admits, X.cas, X.clock, X.frames, X.room, X.hears, X.method, X.code, (X.here.setHeapUsed s₂.heap s₂.slotsUsed).setVm hW'.alike, X.tail, State.WarmedH.trans X.warmed hW', X.limits, X.bytes, X.same.trans (hsame.setVm s.vm)⟩,
      ⟨g, mk, s₂, L, rfl, rfl, hqc, rfl, hL, rfl, rfl⟩, ?_⟩
    show Steps p.tables e below _ ((({ U with heap := s₂.heap, slotsUsed := s₂.slotsUsed } : State).setVm s₂.vm).setTop { g with pc := g.pc + len₂, stack := v.toList ++ g.stack })
    rw [← hs₂]
    exact hsteps
  · obtain ⟨e2, q2, q3, q4, q5, q6⟩ := id hsm
    have e3 : s₂ = ({ (U.calling g mk a).setFrames s₂.frames with heap := s₂.heap, slotsUsed := s₂.slotsUsed } : State).setVm s₂.vm := by
      have : s₂ = ({ s₂ with vm := (U.calling g mk a).vm } : State).setVm s₂.vm := rfl
      rw [e2] at this
      exact this
    have hf₂ : s₂.frames = .throwing q :: .java g :: U.frames.tail := hend
    have hW' : U.WarmedH s₂.vm := hW₂
    have hs₂ : s₂ = ((({ U with heap := s₂.heap, slotsUsed := s₂.slotsUsed } : State).setVm s₂.vm).setTop g).pushFrame (.throwing q) := by
      refine e3.trans ?_
      rw [hf₂, State.calling_eq h.top, State.setFrames_setFrames, State.pushFrame, State.frames_setTop _ hr', State.setTop_of_frames _ hr', State.setFrames_setFrames, hr]
      rfl
    have hsame : U.sameButNew ({ U with heap := s₂.heap, slotsUsed := s₂.slotsUsed } : State) L mc ms := by
      refine ⟨?_, q2, q3, q4, q5, q6⟩
      obtain ⟨t, ht, -⟩ := State.frames_cons hr
      show ({ U with heap := s₂.heap, slotsUsed := s₂.slotsUsed } : State) = { U.setFrames U.frames with heap := s₂.heap, slotsUsed := s₂.slotsUsed }
      rw [State.setFrames_self ht]
    subst hg
    refine Or.inr ⟨q, ⟨(({ U with heap := s₂.heap, slotsUsed := s₂.slotsUsed } : State).setVm s₂.vm), Ls ++ L, c0 + mc, s0 + ms⟩,
      ⟨X.admits, X.cas, X.clock, X.frames, X.room, X.hears, X.method, X.code, (X.here.setHeapUsed s₂.heap s₂.slotsUsed).setVm hW'.alike, X.tail, State.WarmedH.trans X.warmed hW', X.limits, X.bytes, X.same.trans (hsame.setVm s.vm)⟩,
      ⟨g, mk, s₂, L, E, ce, rfl, rfl, hx, hce, hcv, hcl, rfl, hL, rfl, rfl⟩, ?_⟩
    show Steps p.tables e below _ (((({ U with heap := s₂.heap, slotsUsed := s₂.slotsUsed } : State).setVm s₂.vm).setTop g).pushFrame (.throwing q))
    rw [← hs₂]
    exact hsteps
end Payer
section Calls
variable {p : Program} {l : Launch} {e : Env} {R : Room} {s : State} {m : MethodId} {args : Array Value} {below : List Frame} {meth : Method} {c : Code} {T : State} {locs : List Loc} {cells slots : Nat}
theorem vx_callV (X : Stand p l e R s m args below meth c T locs cells slots) (hexec : p.tables.exec = Jvm.exec) {own C : String} {index : Nat} {y : MethodName} {bytes : ByteArray} {maxL : Nat} {ret : Option FieldType}
    (hown : s.vm.findClass own = some m.cls) (hlink : (Cond.methodLink own index y).before args s = true) (hinst : (Cond.instanceMethod y).before args s = true) (hsel : (Cond.selects C y y).before args s = true)
    (hcode : (Cond.code y bytes maxL ret).before args s = true) (hy : y.cls ≠ "java/lang/invoke/MethodHandle" ∧ y.cls ≠ "java/lang/invoke/VarHandle")
    {W9 : Nat} {Pre : Pt → Array Value → Prop} {Post : Pt → Array Value → Option Value → Pt → Prop} {PostX : Pt → Array Value → Addr → Pt → Prop} (hK : vx_Back l R p e below s args y 3 W9 Pre Post PostX)
    {b : Addr} {cellB : Cell} (hcell : T.heap[b]? = some cellB) (hobj : cellB.vm.isStatics = false) (hcls : s.vm.findClass C = some cellB.cls)
    {g : JFrame} (hg : g.method = m) (hsize : g.locals.size = c.maxLocals) {argsL rest : List Value} (hlen : ∀ sig, parseMethodDescriptor y.desc = some sig → argsL.length = sig.parameters.length)
    (hstack : g.stack = argsL.reverse ++ .ref b :: rest) (hW : 2 * g.monitorRoom + (rest.map fun v => v.category).sum ≤ W9) (hdg : decode c.code g.pc = .ok (.invokevirtual index, 3))
    (hpre : ∀ vm₁, s.WarmedH vm₁ → Pre ⟨T.setVm vm₁, locs, cells, slots⟩ (Value.ref b :: argsL).toArray) :
    (∃ (v : Option Value) (vm₁ : Vm) (B : Pt), s.WarmedH vm₁ ∧ Stand p l e R s m args below meth c B.U B.locs B.cells B.slots ∧ Post ⟨T.setVm vm₁, locs, cells, slots⟩ (Value.ref b :: argsL).toArray v B ∧
      ∀ target, Steps p.tables e below (B.U.setTop { g with pc := g.pc + 3, stack := v.toList ++ rest }) target → Steps p.tables e below (T.setTop g) target) ∨
    (∃ (q : Addr) (vm₁ : Vm) (B : Pt), s.WarmedH vm₁ ∧ Stand p l e R s m args below meth c B.U B.locs B.cells B.slots ∧ PostX ⟨T.setVm vm₁, locs, cells, slots⟩ (Value.ref b :: argsL).toArray q B ∧
      Steps p.tables e below (T.setTop g) ((B.U.setTop { g with stack := rest }).pushFrame (.throwing q))) := by
  obtain ⟨mk, methM, hnamed, hmethM, hstM, habM⟩ := Cond.instanceMethod_spec hinst
  obtain ⟨methM', cM, hmethM', -, -, -, -, -, -, hsigM⟩ := Cond.code_spec hnamed hcode
  cases hmethM.symm.trans hmethM'
  obtain ⟨c2, r2, m2, q1, q2, q3, q4, kP, hkP, hkPi⟩ := Cond.selects_spec hsel
  cases hcls.symm.trans q1
  cases (State.methodFound?_of_named hnamed hy).symm.trans q2
  cases hnamed.symm.trans q3
  have hselP : selectMethod e.platform s.vm cellB.cls mk = .method mk := by rw [Launch.admits_selectMethod X.admits]; exact q4
  obtain ⟨vm₁, X₁, hstep₁⟩ := X.invokevirtual hexec hown hlink hnamed hmethM hstM hkP hkPi hy (a := b) (cell := cellB) hcell
    (fun z h => by rw [h] at hobj; cases hobj) hselP hmethM habM hkP hkPi (g := g) hg (argsL := argsL) (rest := rest) (hlen _ hsigM) hstack hdg
  rcases hK m meth c ⟨T.setVm vm₁, locs, cells, slots⟩ { g with stack := rest } (.invokevirtual index) mk (Value.ref b :: argsL).toArray X₁ hg hsize hdg hW (X₁.named hnamed) (hpre vm₁ X₁.warmed) with ⟨v, B, X', hpost, hsteps⟩ | ⟨q, B, X', hpost, hsteps⟩
  · exact Or.inl ⟨v, vm₁, B, X₁.warmed, X', hpost, fun target h => hstep₁ _ fun acts => by rw [doInvoke_state]; exact hsteps.trans h⟩
  · exact Or.inr ⟨q, vm₁, B, X₁.warmed, X', hpost, hstep₁ _ fun acts => by rw [doInvoke_state]; exact hsteps⟩
theorem vx_callS (X : Stand p l e R s m args below meth c T locs cells slots) (hexec : p.tables.exec = Jvm.exec) {own : String} {index : Nat} {y : MethodName} {bytes : ByteArray} {maxL : Nat} {ret : Option FieldType}
    (hown : s.vm.findClass own = some m.cls) (hlink : (Cond.methodLink own index y).before args s = true) (hstat : (Cond.static y).before args s = true) (hinit : (Cond.initialized y.cls).before args s = true)
    (hcode : (Cond.code y bytes maxL ret).before args s = true) (hy : y.cls ≠ "java/lang/invoke/MethodHandle" ∧ y.cls ≠ "java/lang/invoke/VarHandle")
    {W9 : Nat} {Pre : Pt → Array Value → Prop} {Post : Pt → Array Value → Option Value → Pt → Prop} {PostX : Pt → Array Value → Addr → Pt → Prop} (hK : vx_Back l R p e below s args y 3 W9 Pre Post PostX)
    {g : JFrame} (hg : g.method = m) (hsize : g.locals.size = c.maxLocals) {argsL rest : List Value} (hlen : ∀ sig, parseMethodDescriptor y.desc = some sig → argsL.length = sig.parameters.length)
    (hstack : g.stack = argsL.reverse ++ rest) (hW : 2 * g.monitorRoom + (rest.map fun v => v.category).sum ≤ W9) (hdg : decode c.code g.pc = .ok (.invokestatic index, 3))
    (hpre : ∀ vm₁, s.WarmedH vm₁ → Pre ⟨T.setVm vm₁, locs, cells, slots⟩ argsL.toArray) :
    (∃ (v : Option Value) (vm₁ : Vm) (B : Pt), s.WarmedH vm₁ ∧ Stand p l e R s m args below meth c B.U B.locs B.cells B.slots ∧ Post ⟨T.setVm vm₁, locs, cells, slots⟩ argsL.toArray v B ∧
      ∀ target, Steps p.tables e below (B.U.setTop { g with pc := g.pc + 3, stack := v.toList ++ rest }) target → Steps p.tables e below (T.setTop g) target) ∨
    (∃ (q : Addr) (vm₁ : Vm) (B : Pt), s.WarmedH vm₁ ∧ Stand p l e R s m args below meth c B.U B.locs B.cells B.slots ∧ PostX ⟨T.setVm vm₁, locs, cells, slots⟩ argsL.toArray q B ∧
      Steps p.tables e below (T.setTop g) ((B.U.setTop { g with stack := rest }).pushFrame (.throwing q))) := by
  obtain ⟨mk, hnamed⟩ := Cond.code_named hcode
  obtain ⟨methM, cM, hmethM, -, -, -, -, -, -, hsigM⟩ := Cond.code_spec hnamed hcode
  have hstatic : methM.isStatic = true := Cond.static_spec hnamed hmethM hstat
  obtain ⟨kP, hkP, -⟩ := className_of_methodNamed hnamed
  have hinitP : kP.init = .initialized := Cond.initialized_spec (findClass_of_methodNamed hnamed) hkP hinit
  obtain ⟨vm₁, X₁, hstep₁⟩ := X.invokestatic hexec hown hlink hnamed hmethM hstatic hkP hinitP hy (g := g) hg (argsL := argsL) (rest := rest) (hlen _ hsigM) hstack hdg
  rcases hK m meth c ⟨T.setVm vm₁, locs, cells, slots⟩ { g with stack := rest } (.invokestatic index) mk argsL.toArray X₁ hg hsize hdg hW (X₁.named hnamed) (hpre vm₁ X₁.warmed) with ⟨v, B, X', hpost, hsteps⟩ | ⟨q, B, X', hpost, hsteps⟩
  · exact Or.inl ⟨v, vm₁, B, X₁.warmed, X', hpost, fun target h => hstep₁ _ fun acts => by rw [doInvoke_state]; exact hsteps.trans h⟩
  · exact Or.inr ⟨q, vm₁, B, X₁.warmed, X', hpost, hstep₁ _ fun acts => by rw [doInvoke_state]; exact hsteps⟩
end Calls
theorem vx_cls {s : State} {T : State} {vm₁ : Vm} {E : String} {k : ClassId} (hW : s.WarmedH vm₁) (h : (T.setVm vm₁).vm.findClass E = some k) : s.vm.findClass E = some k := by
  have h1 : vm₁.findClass E = some k := h
  rw [hW.alike.findClass] at h1
  exact h1
/-- the method's frame g, with q thrown over it -/
def vx_W (p : Program) (l : Launch) (e : Env) (R : Room) (s : State) (m : MethodId) (args : Array Value) (below : List Frame) (meth : Method) (c : Code) (H : Heap) (locs : List Loc) (cells slots : Nat) (Q : State → Prop) (g : JFrame) (q : Addr) : Prop :=
  ∀ T : State, T.heap = H → Stand p l e R s m args below meth c T locs cells slots → ∃ t, Steps p.tables e below ((T.setTop g).pushFrame (.throwing q)) t ∧ Q t
def vx_Run (p : Program) (l : Launch) (e : Env) (R : Room) (s : State) (m : MethodId) (args : Array Value) (below : List Frame) (meth : Method) (c : Code) (H : Heap) (locs : List Loc) (cells slots mc ms : Nat) (g : JFrame) (rest : List Value) (Qa : State → Outcome → State → Prop) (XC : String → State → State → Prop) (free : Addr → Prop) : Prop :=
  ∀ T : State, T.heap = H → Stand p l e R s m args below meth c T locs cells slots →
    (∃ (v : Option Value) (st₀ t T' : State) (L : List Loc), st₀.heap = H ∧ Stand p l e R s m args below meth c T' (locs ++ L) (cells + mc) (slots + ms) ∧ (∀ q ∈ L, free q.base) ∧ T'.heap = t.heap ∧ T'.vm = t.vm ∧ Qa st₀ (.returned v) t ∧
      Goes p e below T g T' { g with pc := g.pc + 3, stack := v.toList ++ rest }) ∨
    (∃ (q : Addr) (st₀ t T' : State) (L : List Loc) (E : String) (ce : Cell), st₀.heap = H ∧ Stand p l e R s m args below meth c T' (locs ++ L) (cells + mc) (slots + ms) ∧ (∀ z ∈ L, free z.base) ∧ T'.heap = t.heap ∧ T'.vm = t.vm ∧ XC E st₀ t ∧ t.heap[q]? = some ce ∧ ce.vm = .none ∧ s.vm.findClass E = some ce.cls ∧
      Steps p.tables e below (T.setTop g) ((T'.setTop { g with stack := rest }).pushFrame (.throwing q)))
def vx_X {S : Type} (px : S → Prop) (B : String → S → State → Prop) (A : Nat → Prop) : String → State → State → Prop := fun E st t => ∃ u : S, px u ∧ B E u t ∧ va_F A st t
section Runs
variable {p : Program} {l : Launch} {e : Env} {R : Room} {s : State} {m : MethodId} {args : Array Value} {below : List Frame} {meth : Method} {c : Code} {H : Heap} {locs : List Loc} {cells slots : Nat}
variable {y : MethodName} {bytes cc : ByteArray} {maxL nL mc ms n index : Nat} {ret : Option FieldType} {ws : List Cond} {rm : Room} {Pc : Array Value → State → Prop} {Qc : Array Value → State → Outcome → State → Prop} {XC : String → State → State → Prop} {free : Addr → Prop} {Ts : List Cond} {own C : String} {b : Addr} {As rest : List Value} {g : JFrame}
theorem vx_callBack (cb : CallB R s args own index y bytes maxL ret ws rm mc ms n) (hM : vx_Met l y ws rm Pc Qc XC mc ms free) (hbl : FrameBlind Pc) : vx_Back l R p e below s args y 3 8 (PreOf R mc ms Pc) (PostOf Qc mc ms free) (vx_Post XC mc ms free) := by
  obtain ⟨hrc, hrs, hfr, hlo, hws, hcw, -, hini, -⟩ := cb
  exact vx_back (bytes := bytes) (maxL := maxL) (ret := ret) hM hbl hrc hrs hfr hlo hws hcw (fun a' U hW => word_at hW (Or.inl (by first | rfl | simp [Cond.onTables, Cond.keeps, Cond.steady])) hini)
theorem vx_runV (S : CallFix p m c cc nL s args Ts own) (hM : vx_Met l y ws rm Pc Qc XC mc ms free) (cw : CallW R s args own C index y bytes maxL ret ws rm mc ms n) (hp : PreV s H C b Pc As)
    (hg : g.method = m) (hn : As.length = n) (hsize : g.locals.size = nL) (hstack : g.stack = As.reverse ++ .ref b :: rest) (hW : 2 * g.monitorRoom + (rest.map fun v => v.category).sum ≤ 8) (hdg : decode cc g.pc = .ok (.invokevirtual index, 3)) (hf : cells + mc ≤ R.cells ∧ slots + ms ≤ R.slots) :
    vx_Run p l e R s m args below meth c H locs cells slots mc ms g rest (Qc (Value.ref b :: As).toArray) XC free := by
  have hK : vx_Back l R p e below s args y 3 8 (PreOf R mc ms Pc) (PostOf Qc mc ms free) (vx_Post XC mc ms free) := vx_callBack cw.1 hM hp.1
  obtain ⟨⟨-, -, -, -, -, -, hcode, -, hy, hlen, hl⟩, hin, hse⟩ := cw
  obtain ⟨hx, hb, hml, ho, -⟩ := S
  obtain ⟨-, ⟨cellB, hcB, hoB, hclB⟩, hPc⟩ := hp
  intro T hT X
  rcases vx_callV X hx (C := C) (bytes := bytes) (maxL := maxL) (ret := ret) ho hl hin hse hcode hy hK (by rw [hT]; exact hcB) hoB hclB hg (hsize.trans hml.symm) (argsL := As) (rest := rest) (fun sig h => hn.trans (hlen sig h)) hstack hW (by rw [hb]; exact hdg)
    (fun vm₁ hW₁ => ⟨hf.1, hf.2, hPc (T.setVm vm₁) hT hW₁⟩) with ⟨v, vm₁, ⟨U', l2, c2, s2⟩, hW₁, X', ⟨g', mk, t, L, e1, e2, hq, h1, hL, h2, h3⟩, st⟩ | ⟨q, vm₁, ⟨U', l2, c2, s2⟩, hW₁, X', ⟨g', mk, t, L, E, ce, e1, e2, hq, hce, hcv, hcl, h1, hL, h2, h3⟩, st⟩
  · dsimp only [Pt.U, Pt.locs, Pt.cells, Pt.slots] at X' e1 e2 h1 h2 h3 st
    subst h1; subst h2; subst h3
    exact Or.inl ⟨v, (T.setVm vm₁).calling g' mk (Value.ref b :: As).toArray, t, U', L, hT, X', hL, e1, e2, hq, st⟩
  · dsimp only [Pt.U, Pt.locs, Pt.cells, Pt.slots] at X' e1 e2 h1 h2 h3 st hcl
    subst h1; subst h2; subst h3
    exact Or.inr ⟨q, (T.setVm vm₁).calling g' mk (Value.ref b :: As).toArray, t, U', L, E, ce, hT, X', hL, e1, e2, hq, hce, hcv, vx_cls hW₁ hcl, st⟩
theorem vx_runS (S : CallFix p m c cc nL s args Ts own) (hM : vx_Met l y ws rm Pc Qc XC mc ms free) (cw : CallB R s args own index y bytes maxL ret ws rm mc ms n ∧ (Cond.static y).before args s = true) (hp : PreS s H Pc As)
    (hg : g.method = m) (hn : As.length = n) (hsize : g.locals.size = nL) (hstack : g.stack = As.reverse ++ rest) (hW : 2 * g.monitorRoom + (rest.map fun v => v.category).sum ≤ 8) (hdg : decode cc g.pc = .ok (.invokestatic index, 3)) (hf : cells + mc ≤ R.cells ∧ slots + ms ≤ R.slots) :
    vx_Run p l e R s m args below meth c H locs cells slots mc ms g rest (Qc As.toArray) XC free := by
  have hK : vx_Back l R p e below s args y 3 8 (PreOf R mc ms Pc) (PostOf Qc mc ms free) (vx_Post XC mc ms free) := vx_callBack cw.1 hM hp.1
  obtain ⟨⟨-, -, -, -, -, -, hcode, hini, hy, hlen, hl⟩, hstt⟩ := cw
  obtain ⟨hx, hb, hml, ho, -⟩ := S
  intro T hT X
  rcases vx_callS X hx (bytes := bytes) (maxL := maxL) (ret := ret) ho hl hstt hini hcode hy hK hg (hsize.trans hml.symm) (argsL := As) (rest := rest) (fun sig h => hn.trans (hlen sig h)) hstack hW (by rw [hb]; exact hdg)
    (fun vm₁ hW₁ => ⟨hf.1, hf.2, hp.2 (T.setVm vm₁) hT hW₁⟩) with ⟨v, vm₁, ⟨U', l2, c2, s2⟩, hW₁, X', ⟨g', mk, t, L, e1, e2, hq, h1, hL, h2, h3⟩, st⟩ | ⟨q, vm₁, ⟨U', l2, c2, s2⟩, hW₁, X', ⟨g', mk, t, L, E, ce, e1, e2, hq, hce, hcv, hcl, h1, hL, h2, h3⟩, st⟩
  · dsimp only [Pt.U, Pt.locs, Pt.cells, Pt.slots] at X' e1 e2 h1 h2 h3 st
    subst h1; subst h2; subst h3
    exact Or.inl ⟨v, (T.setVm vm₁).calling g' mk As.toArray, t, U', L, hT, X', hL, e1, e2, hq, st⟩
  · dsimp only [Pt.U, Pt.locs, Pt.cells, Pt.slots] at X' e1 e2 h1 h2 h3 st hcl
    subst h1; subst h2; subst h3
    exact Or.inr ⟨q, (T.setVm vm₁).calling g' mk As.toArray, t, U', L, E, ce, hT, X', hL, e1, e2, hq, hce, hcv, vx_cls hW₁ hcl, st⟩
end Runs
section Rows
variable {p : Program} {l : Launch} {e : Env} {R : Room} {s : State} {m : MethodId} {args : Array Value} {below : List Frame} {meth : Method} {c : Code} {H : Heap} {locs : List Loc} {cells slots : Nat} {Q : State → Prop}
variable {mc ms : Nat} {free : Addr → Prop} {A0 A1 : Nat → Prop} {H0 : Heap} {a : Array Value} {pc : Nat} {ls : Array Slot} {st0 rest : List Value}
theorem vx_keep {st₀ t T' : State} {L : List Loc} (h0 : st₀.heap = H) (e1 : T'.heap = t.heap) (hS : va_S A0 H0 H locs) (hA : ∀ q, q < H.size → A1 q → A0 q) (hf : ∀ q, free q → A0 q) (hL : ∀ q ∈ L, free q.base) (hF : va_F A1 st₀ t) :
    H.size ≤ T'.heap.size ∧ (∀ q : Nat, q < H.size → ¬ A1 q → T'.heap[q]? = H[q]?) ∧ va_S A0 H0 T'.heap (locs ++ L) := by
  obtain ⟨hz, hk⟩ := hF
  rw [h0] at hz hk
  exact ⟨by rw [e1]; exact hz, fun q h1 h2 => by rw [e1]; exact hk q h1 h2,
    ⟨Nat.le_trans hS.1 (by rw [e1]; exact hz), fun q h1 h2 => by rw [e1, hk q (Nat.lt_of_lt_of_le h1 hS.1) (fun z => h2 (hA q (Nat.lt_of_lt_of_le h1 hS.1) z))]; exact hS.2.1 q h1 h2, fun q hq => by
      rcases List.mem_append.mp hq with h | h
      · exact hS.2.2 q h
      · exact hf _ (hL q h)⟩⟩
theorem vx_calli {S SX : Type} {post : Int32 → S → Prop} {px : SX → Prop} {B : S → State → Prop} {BX : String → SX → State → Prop} {AX : Nat → Prop} (hr : vx_Run p l e R s m args below meth c H locs cells slots mc ms (F0 m pc ls st0) rest (va_Qi post B A1 a) (vx_X px BX AX) free) (hS : va_S A0 H0 H locs) (hA : ∀ q, q < H.size → A1 q → A0 q) (hf : ∀ q, free q → A0 q) (hAX : ∀ q, q < H.size → AX q → A0 q)
    (kx : ∀ (E : String) (ce : Cell) (q9 : Addr) (u : SX) (t : State) (H1 : Heap) (locs1 : List Loc), t.heap = H1 → s.vm.Alike t.vm → px u → BX E u t → H.size ≤ H1.size → (∀ q : Nat, q < H.size → ¬ AX q → H1[q]? = H[q]?) → va_S A0 H0 H1 locs1 → H1[q9]? = some ce → ce.vm = .none → s.vm.findClass E = some ce.cls → vx_W p l e R s m args below meth c H1 locs1 (cells + mc) (slots + ms) Q (F0 m pc ls rest) q9)
    (kk : ∀ (r : Int32) (u : S) (t : State) (H1 : Heap) (locs1 : List Loc), t.heap = H1 → s.vm.Alike t.vm → post r u → B u t → H.size ≤ H1.size → (∀ q : Nat, q < H.size → ¬ A1 q → H1[q]? = H[q]?) → va_S A0 H0 H1 locs1 → W p l e R s m args below meth c H1 locs1 (cells + mc) (slots + ms) Q (F0 m (pc + 3) ls (.int r :: rest))) : W p l e R s m args below meth c H locs cells slots Q (F0 m pc ls st0) := by
  intro T hT X
  rcases hr T hT X with ⟨v, st₀, t, T', L, h0, X', hL, e1, e2, ⟨⟨r, u, hv, hp, hb⟩, hF⟩, st⟩ | ⟨q, st₀, t, T', L, E, ce, h0, X', hL, e1, e2, ⟨u, hp, hb, hF⟩, hce, hcv, hcl, st⟩
  · cases hv
    obtain ⟨k1, k2, k3⟩ := vx_keep h0 e1 hS hA hf hL hF
    obtain ⟨t2, a1, b1⟩ := kk r u t T'.heap (locs ++ L) e1.symm (by rw [← e2]; exact X'.warmed.alike) hp hb k1 k2 k3 T' rfl X'
    exact ⟨t2, st t2 a1, b1⟩
  · obtain ⟨k1, k2, k3⟩ := vx_keep h0 e1 hS hAX hf hL hF
    obtain ⟨t2, a1, b1⟩ := kx E ce q u t T'.heap (locs ++ L) e1.symm (by rw [← e2]; exact X'.warmed.alike) hp hb k1 k2 k3 (by rw [e1]; exact hce) hcv hcl T' rfl X'
    exact ⟨t2, st.trans a1, b1⟩
theorem vx_calll {S SX : Type} {post : Int64 → S → Prop} {px : SX → Prop} {B : S → State → Prop} {BX : String → SX → State → Prop} {AX : Nat → Prop} (hr : vx_Run p l e R s m args below meth c H locs cells slots mc ms (F0 m pc ls st0) rest (va_Ql post B A1 a) (vx_X px BX AX) free) (hS : va_S A0 H0 H locs) (hA : ∀ q, q < H.size → A1 q → A0 q) (hf : ∀ q, free q → A0 q) (hAX : ∀ q, q < H.size → AX q → A0 q)
    (kx : ∀ (E : String) (ce : Cell) (q9 : Addr) (u : SX) (t : State) (H1 : Heap) (locs1 : List Loc), t.heap = H1 → s.vm.Alike t.vm → px u → BX E u t → H.size ≤ H1.size → (∀ q : Nat, q < H.size → ¬ AX q → H1[q]? = H[q]?) → va_S A0 H0 H1 locs1 → H1[q9]? = some ce → ce.vm = .none → s.vm.findClass E = some ce.cls → vx_W p l e R s m args below meth c H1 locs1 (cells + mc) (slots + ms) Q (F0 m pc ls rest) q9)
    (kk : ∀ (r : Int64) (u : S) (t : State) (H1 : Heap) (locs1 : List Loc), t.heap = H1 → s.vm.Alike t.vm → post r u → B u t → H.size ≤ H1.size → (∀ q : Nat, q < H.size → ¬ A1 q → H1[q]? = H[q]?) → va_S A0 H0 H1 locs1 → W p l e R s m args below meth c H1 locs1 (cells + mc) (slots + ms) Q (F0 m (pc + 3) ls (.long r :: rest))) : W p l e R s m args below meth c H locs cells slots Q (F0 m pc ls st0) := by
  intro T hT X
  rcases hr T hT X with ⟨v, st₀, t, T', L, h0, X', hL, e1, e2, ⟨⟨r, u, hv, hp, hb⟩, hF⟩, st⟩ | ⟨q, st₀, t, T', L, E, ce, h0, X', hL, e1, e2, ⟨u, hp, hb, hF⟩, hce, hcv, hcl, st⟩
  · cases hv
    obtain ⟨k1, k2, k3⟩ := vx_keep h0 e1 hS hA hf hL hF
    obtain ⟨t2, a1, b1⟩ := kk r u t T'.heap (locs ++ L) e1.symm (by rw [← e2]; exact X'.warmed.alike) hp hb k1 k2 k3 T' rfl X'
    exact ⟨t2, st t2 a1, b1⟩
  · obtain ⟨k1, k2, k3⟩ := vx_keep h0 e1 hS hAX hf hL hF
    obtain ⟨t2, a1, b1⟩ := kx E ce q u t T'.heap (locs ++ L) e1.symm (by rw [← e2]; exact X'.warmed.alike) hp hb k1 k2 k3 (by rw [e1]; exact hce) hcv hcl T' rfl X'
    exact ⟨t2, st.trans a1, b1⟩
theorem vx_callf {S SX : Type} {post : UInt32 → S → Prop} {px : SX → Prop} {B : S → State → Prop} {BX : String → SX → State → Prop} {AX : Nat → Prop} (hr : vx_Run p l e R s m args below meth c H locs cells slots mc ms (F0 m pc ls st0) rest (va_Qf post B A1 a) (vx_X px BX AX) free) (hS : va_S A0 H0 H locs) (hA : ∀ q, q < H.size → A1 q → A0 q) (hf : ∀ q, free q → A0 q) (hAX : ∀ q, q < H.size → AX q → A0 q)
    (kx : ∀ (E : String) (ce : Cell) (q9 : Addr) (u : SX) (t : State) (H1 : Heap) (locs1 : List Loc), t.heap = H1 → s.vm.Alike t.vm → px u → BX E u t → H.size ≤ H1.size → (∀ q : Nat, q < H.size → ¬ AX q → H1[q]? = H[q]?) → va_S A0 H0 H1 locs1 → H1[q9]? = some ce → ce.vm = .none → s.vm.findClass E = some ce.cls → vx_W p l e R s m args below meth c H1 locs1 (cells + mc) (slots + ms) Q (F0 m pc ls rest) q9)
    (kk : ∀ (r : UInt32) (u : S) (t : State) (H1 : Heap) (locs1 : List Loc), t.heap = H1 → s.vm.Alike t.vm → post r u → B u t → H.size ≤ H1.size → (∀ q : Nat, q < H.size → ¬ A1 q → H1[q]? = H[q]?) → va_S A0 H0 H1 locs1 → W p l e R s m args below meth c H1 locs1 (cells + mc) (slots + ms) Q (F0 m (pc + 3) ls (.float r :: rest))) : W p l e R s m args below meth c H locs cells slots Q (F0 m pc ls st0) := by
  intro T hT X
  rcases hr T hT X with ⟨v, st₀, t, T', L, h0, X', hL, e1, e2, ⟨⟨r, u, hv, hp, hb⟩, hF⟩, st⟩ | ⟨q, st₀, t, T', L, E, ce, h0, X', hL, e1, e2, ⟨u, hp, hb, hF⟩, hce, hcv, hcl, st⟩
  · cases hv
    obtain ⟨k1, k2, k3⟩ := vx_keep h0 e1 hS hA hf hL hF
    obtain ⟨t2, a1, b1⟩ := kk r u t T'.heap (locs ++ L) e1.symm (by rw [← e2]; exact X'.warmed.alike) hp hb k1 k2 k3 T' rfl X'
    exact ⟨t2, st t2 a1, b1⟩
  · obtain ⟨k1, k2, k3⟩ := vx_keep h0 e1 hS hAX hf hL hF
    obtain ⟨t2, a1, b1⟩ := kx E ce q u t T'.heap (locs ++ L) e1.symm (by rw [← e2]; exact X'.warmed.alike) hp hb k1 k2 k3 (by rw [e1]; exact hce) hcv hcl T' rfl X'
    exact ⟨t2, st.trans a1, b1⟩
theorem vx_calld {S SX : Type} {post : UInt64 → S → Prop} {px : SX → Prop} {B : S → State → Prop} {BX : String → SX → State → Prop} {AX : Nat → Prop} (hr : vx_Run p l e R s m args below meth c H locs cells slots mc ms (F0 m pc ls st0) rest (va_Qd post B A1 a) (vx_X px BX AX) free) (hS : va_S A0 H0 H locs) (hA : ∀ q, q < H.size → A1 q → A0 q) (hf : ∀ q, free q → A0 q) (hAX : ∀ q, q < H.size → AX q → A0 q)
    (kx : ∀ (E : String) (ce : Cell) (q9 : Addr) (u : SX) (t : State) (H1 : Heap) (locs1 : List Loc), t.heap = H1 → s.vm.Alike t.vm → px u → BX E u t → H.size ≤ H1.size → (∀ q : Nat, q < H.size → ¬ AX q → H1[q]? = H[q]?) → va_S A0 H0 H1 locs1 → H1[q9]? = some ce → ce.vm = .none → s.vm.findClass E = some ce.cls → vx_W p l e R s m args below meth c H1 locs1 (cells + mc) (slots + ms) Q (F0 m pc ls rest) q9)
    (kk : ∀ (r : UInt64) (u : S) (t : State) (H1 : Heap) (locs1 : List Loc), t.heap = H1 → s.vm.Alike t.vm → post r u → B u t → H.size ≤ H1.size → (∀ q : Nat, q < H.size → ¬ A1 q → H1[q]? = H[q]?) → va_S A0 H0 H1 locs1 → W p l e R s m args below meth c H1 locs1 (cells + mc) (slots + ms) Q (F0 m (pc + 3) ls (.double r :: rest))) : W p l e R s m args below meth c H locs cells slots Q (F0 m pc ls st0) := by
  intro T hT X
  rcases hr T hT X with ⟨v, st₀, t, T', L, h0, X', hL, e1, e2, ⟨⟨r, u, hv, hp, hb⟩, hF⟩, st⟩ | ⟨q, st₀, t, T', L, E, ce, h0, X', hL, e1, e2, ⟨u, hp, hb, hF⟩, hce, hcv, hcl, st⟩
  · cases hv
    obtain ⟨k1, k2, k3⟩ := vx_keep h0 e1 hS hA hf hL hF
    obtain ⟨t2, a1, b1⟩ := kk r u t T'.heap (locs ++ L) e1.symm (by rw [← e2]; exact X'.warmed.alike) hp hb k1 k2 k3 T' rfl X'
    exact ⟨t2, st t2 a1, b1⟩
  · obtain ⟨k1, k2, k3⟩ := vx_keep h0 e1 hS hAX hf hL hF
    obtain ⟨t2, a1, b1⟩ := kx E ce q u t T'.heap (locs ++ L) e1.symm (by rw [← e2]; exact X'.warmed.alike) hp hb k1 k2 k3 (by rw [e1]; exact hce) hcv hcl T' rfl X'
    exact ⟨t2, st.trans a1, b1⟩
theorem vx_callv {S SX : Type} {post : S → Prop} {px : SX → Prop} {B : S → State → Prop} {BX : String → SX → State → Prop} {AX : Nat → Prop} (hr : vx_Run p l e R s m args below meth c H locs cells slots mc ms (F0 m pc ls st0) rest (va_Qv post B A1 a) (vx_X px BX AX) free) (hS : va_S A0 H0 H locs) (hA : ∀ q, q < H.size → A1 q → A0 q) (hf : ∀ q, free q → A0 q) (hAX : ∀ q, q < H.size → AX q → A0 q)
    (kx : ∀ (E : String) (ce : Cell) (q9 : Addr) (u : SX) (t : State) (H1 : Heap) (locs1 : List Loc), t.heap = H1 → s.vm.Alike t.vm → px u → BX E u t → H.size ≤ H1.size → (∀ q : Nat, q < H.size → ¬ AX q → H1[q]? = H[q]?) → va_S A0 H0 H1 locs1 → H1[q9]? = some ce → ce.vm = .none → s.vm.findClass E = some ce.cls → vx_W p l e R s m args below meth c H1 locs1 (cells + mc) (slots + ms) Q (F0 m pc ls rest) q9)
    (kk : ∀ (u : S) (t : State) (H1 : Heap) (locs1 : List Loc), t.heap = H1 → s.vm.Alike t.vm → post u → B u t → H.size ≤ H1.size → (∀ q : Nat, q < H.size → ¬ A1 q → H1[q]? = H[q]?) → va_S A0 H0 H1 locs1 → W p l e R s m args below meth c H1 locs1 (cells + mc) (slots + ms) Q (F0 m (pc + 3) ls (rest))) : W p l e R s m args below meth c H locs cells slots Q (F0 m pc ls st0) := by
  intro T hT X
  rcases hr T hT X with ⟨v, st₀, t, T', L, h0, X', hL, e1, e2, ⟨⟨u, hv, hp, hb⟩, hF⟩, st⟩ | ⟨q, st₀, t, T', L, E, ce, h0, X', hL, e1, e2, ⟨u, hp, hb, hF⟩, hce, hcv, hcl, st⟩
  · cases hv
    obtain ⟨k1, k2, k3⟩ := vx_keep h0 e1 hS hA hf hL hF
    obtain ⟨t2, a1, b1⟩ := kk u t T'.heap (locs ++ L) e1.symm (by rw [← e2]; exact X'.warmed.alike) hp hb k1 k2 k3 T' rfl X'
    exact ⟨t2, st t2 a1, b1⟩
  · obtain ⟨k1, k2, k3⟩ := vx_keep h0 e1 hS hAX hf hL hF
    obtain ⟨t2, a1, b1⟩ := kx E ce q u t T'.heap (locs ++ L) e1.symm (by rw [← e2]; exact X'.warmed.alike) hp hb k1 k2 k3 (by rw [e1]; exact hce) hcv hcl T' rfl X'
    exact ⟨t2, st.trans a1, b1⟩
/-- caught by the row x of this method's table; the rows ahead don't take it -/
theorem vx_catch {own name : String} {E : String} {ce : Cell} {q : Addr} (hown : s.vm.findClass own = some m.cls) (pre : List ExceptionTableEntry) (x : ExceptionTableEntry) (suf : List ExceptionTableEntry) (hsplit : c.exceptionTable.toList = pre ++ x :: suf)
    (hpass : ∀ z ∈ pre, covers z pc = false ∨ (z.catchType ≠ 0 ∧ ∃ nm : String, (Cond.classLink own z.catchType nm).before args s = true ∧ va_Nc E nm s)) (hx : covers x pc = true) (h0 : x.catchType ≠ 0)
    (hlink : (Cond.classLink own x.catchType name).before args s = true) (hcast : (Cond.castable E name).before args s = true) (hcell : H[q]? = some ce) (hv : ce.vm = .none) (hcl : s.vm.findClass E = some ce.cls)
    (kk : W p l e R s m args below meth c H locs cells slots Q (F0 m x.handlerPc ls [.ref q])) : vx_W p l e R s m args below meth c H locs cells slots Q (F0 m pc ls rest) q := by
  intro T hT X
  have hpl : e.platform.magicAccessors = ({} : Platform).magicAccessors := by rw [X.admits.platform]
  obtain ⟨c3, c4, hc3, hc4, hasg⟩ := Cond.castable_spec hcast
  cases Option.some.inj (hc3.symm.trans hcl)
  obtain ⟨c5, hc5, hcl5⟩ := Cond.classLink_spec hown hlink e.platform hpl
  cases Option.some.inj (hc4.symm.trans hc5)
  obtain ⟨vm', X', st⟩ := vy_caught X q (g := F0 m pc ls rest) rfl (Steps.refl _) (by rw [hT]; exact hcell) (by rw [hv]; rfl) (by obtain ⟨k9, h9, -⟩ := Vm.findClass_spec hcl; exact ⟨k9, h9⟩) pre x suf hsplit
    (fun z hz => by
      rcases hpass z hz with h | ⟨hz0, nm, hl1, hn1⟩
      · exact Or.inl h
      · obtain ⟨c6, hc6, hcl6⟩ := Cond.classLink_spec hown hl1 e.platform hpl
        obtain ⟨a8, b8, h1, h2, h3⟩ := hn1
        cases Option.some.inj (h1.symm.trans hcl)
        cases Option.some.inj (h2.symm.trans hc6)
        exact Or.inr ⟨hz0, _, hcl6, h3⟩) hx h0 hcl5 hasg
  obtain ⟨t, a1, b1⟩ := kk (T.setVm vm') hT X'
  exact ⟨t, st.trans a1, b1⟩
end Rows
section Ends
variable {p : Program} {l : Launch} {e : Env} {R : Room} {s : State} {m : MethodId} {args : Array Value} {below : List Frame} {meth : Method} {c : Code} {H : Heap} {locs : List Loc} {cells slots : Nat} {Q : State → Prop}
variable {mc ms : Nat} {free : Addr → Prop} {A0 A1 : Nat → Prop} {H0 : Heap} {a : Array Value} {ls : Array Slot} {st0 rest : List Value}
variable {Qc : Array Value → State → Outcome → State → Prop} {XC : String → State → State → Prop}
/-- what a body that may throw owes at its end -/
def vx_MQ (below : List Frame) (Qc : Array Value → State → Outcome → State → Prop) (XC : String → State → State → Prop) (a : Array Value) (s : State) (mc ms : Nat) (free : Addr → Prop) : State → Prop := fun t =>
  ∃ o, t.status = .running ∧ Ended t below o ∧ vx_Q Qc XC mc ms free a s o t
theorem vx_ret {g : JFrame} {mc ms : Nat} (k : W p l e R s m args below meth c H locs cells slots (MQ below Qc args s mc ms free) g) : W p l e R s m args below meth c H locs cells slots (vx_MQ below Qc XC args s mc ms free) g := by
  intro T hT X
  obtain ⟨t, a1, o, b1, b2, b3, b4⟩ := k T hT X
  exact ⟨t, a1, o, b1, b2, Or.inl ⟨b3, b4⟩⟩
/-- not caught here: it goes on to the caller -/
theorem vx_widen {g : JFrame} {q : Addr} {k n : Nat} (h1 : cells ≤ k) (h2 : slots ≤ n) (kk : vx_W p l e R s m args below meth c H locs k n Q g q) : vx_W p l e R s m args below meth c H locs cells slots Q g q := fun T hT X => kk T hT (stand_widen X h1 h2)
theorem vx_out {pc : Nat} {E : String} {ce : Cell} {q : Addr} {mc ms : Nat} (hout : ∀ x ∈ c.exceptionTable.toList, covers x pc = false) (hlocks : meth.locks = false) (hcell : H[q]? = some ce) (hv : ce.vm = .none) (hcl : s.vm.findClass E = some ce.cls)
    (hx : ∀ t : State, t.heap = H → s.vm.Alike t.vm → XC E s t) (hf : ∀ z ∈ locs, free z.base) (hc : cells ≤ mc) (hs : slots ≤ ms) :
    vx_W p l e R s m args below meth c H locs cells slots (vx_MQ below Qc XC args s mc ms free) (F0 m pc ls rest) q := by
  intro T hT X
  obtain ⟨st1, hrun, hend, hW, hsm⟩ := X.leaveThrown q (g := F0 m pc ls rest) rfl rfl rfl hout hlocks
  have hcell9 : (T.setFrames (.throwing q :: below)).heap[q]? = some ce := by
    show T.heap[q]? = some ce
    rw [hT]; exact hcell
  exact ⟨_, st1, .threw q, hrun, hend, Or.inr ⟨q, rfl, E, ce, locs, hx _ hT hW.alike, hcell9, hv, hcl, hW, hsm.mono hc hs, hf⟩⟩
theorem vx_frame {U : State} {k n : Nat} (h : s.sameButNew ({ U with vm := s.vm } : State) locs k n) : s.heap.size ≤ U.heap.size ∧ ∀ q : Nat, q < s.heap.size → (∀ z ∈ locs, z.base ≠ q) → U.heap[q]? = s.heap[q]? := by
  obtain ⟨-, h2, -, -, -, h6⟩ := h
  refine ⟨h2, fun q hq hz => ?_⟩
  obtain ⟨c9, e1, e2, e3, e4⟩ := h6 q _ (Array.getElem?_eq_getElem hq)
  have hs : c9.slots = (s.heap[q]).slots := Array.ext_getElem? fun i => e4 i fun hm => hz _ hm rfl
  have h9 : c9 = s.heap[q] := by
    rw [hs] at e2
    exact e2
  have e5 : U.heap[q]? = some c9 := e1
  rw [e5, h9, Array.getElem?_eq_getElem hq]
/-- the words of a throw but the four that speak of the heap -/
def vx_no (w : Cond) : Bool := decide (w ≠ .isRef (.static Bundle.tN "UNASSIGNED_STACK" Bundle.steD)) && decide (w ≠ .isRef (.static Bundle.tN "SUPPRESSED_SENTINEL" Bundle.listD)) && decide (w ≠ .laysStatic Bundle.tN "UNASSIGNED_STACK" Bundle.steD) && decide (w ≠ .laysStatic Bundle.tN "SUPPRESSED_SENTINEL" Bundle.listD)
def vx_at0 (own : String) (ic : Nat) (X : String) (names : List String) : List Cond := (Bundle.ownAtoms0 own ic X names).filter vx_no
def vx_atS (own : String) (ic : Nat) (X : String) (names : List String) : List Cond := (Bundle.ownAtoms own ic X names).filter vx_no
/-- a word that the tables alone decide, or a good one -/
def vx_ot (w : Cond) : Bool := w.onTables || goodWord w
theorem vx_ot_at {args a' : Array Value} {s U : State} {w : Cond} (hW : s.WarmedH U.vm) (hvm : s.vm = U.vm) (hg : vx_ot w = true) (h : w.before args s = true) : w.before a' U = true := by
  simp only [vx_ot, Bool.or_eq_true] at hg
  rcases hg with hg | hg
  · exact va_tabs hg hvm h
  · exact word_at hW (good_of_word hg) h
/-- a list's words: the good ones out of the method's own list, the others by premises of their own -/
theorem vx_hat {args : Array Value} {s : State} {L B : List Cond} (h1 : ∀ w ∈ L.filter goodWord, w.before args s = true) (h2 : ∀ w ∈ L.filter (fun w => !goodWord w), w ∈ B) (h3 : ∀ w ∈ B, w.before args s = true) : ∀ w ∈ L, w.before args s = true := by
  intro w hw
  by_cases g : goodWord w = true
  · exact h1 w (List.mem_filter.mpr ⟨hw, g⟩)
  · refine h3 w (h2 w (List.mem_filter.mpr ⟨hw, ?_⟩))
    show (!goodWord w) = true
    cases hgw : goodWord w
    · rfl
    · exact absurd hgw g
theorem vx_c {args : Array Value} {s : State} {w : Cond} {B : List Cond} (h : w.before args s = true) (t : ∀ w ∈ B, w.before args s = true) : ∀ w' ∈ w :: B, w'.before args s = true := fun w' h' => (List.mem_cons.mp h').elim (fun e => by rw [e]; exact h) (t w')
theorem vx_n {args : Array Value} {s : State} : ∀ w ∈ ([] : List Cond), w.before args s = true := fun _ h => nomatch h
theorem vx_own {args : Array Value} {s : State} {L : List Cond} (h1 : ∀ w ∈ L.filter vx_no, w.before args s = true)
    (hU : (Cond.isRef (.static Bundle.tN "UNASSIGNED_STACK" Bundle.steD)).before args s = true) (hN : (Cond.isRef (.static Bundle.tN "SUPPRESSED_SENTINEL" Bundle.listD)).before args s = true)
    (lU : (Cond.laysStatic Bundle.tN "UNASSIGNED_STACK" Bundle.steD).before args s = true) (lN : (Cond.laysStatic Bundle.tN "SUPPRESSED_SENTINEL" Bundle.listD).before args s = true) : ∀ w ∈ L, w.before args s = true := by
  intro w hw
  by_cases e1 : w = .isRef (.static Bundle.tN "UNASSIGNED_STACK" Bundle.steD)
  · rw [e1]; exact hU
  · by_cases e2 : w = .isRef (.static Bundle.tN "SUPPRESSED_SENTINEL" Bundle.listD)
    · rw [e2]; exact hN
    · by_cases e3 : w = .laysStatic Bundle.tN "UNASSIGNED_STACK" Bundle.steD
      · rw [e3]; exact lU
      · by_cases e4 : w = .laysStatic Bundle.tN "SUPPRESSED_SENTINEL" Bundle.listD
        · rw [e4]; exact lN
        · exact h1 w (List.mem_filter.mpr ⟨hw, by unfold vx_no; rw [decide_eq_true e1, decide_eq_true e2, decide_eq_true e3, decide_eq_true e4]; rfl⟩)
/-- where a static field lies, its class's statics cell in H -/
def vx_L (C n d : String) (A : Nat → Prop) (U : State) (H : Heap) : Prop := ∃ (c : ClassId) (k : Class) (i : Nat) (f : Field) (a : Nat) (cell : Cell), U.vm.findClass C = some c ∧ U.fieldFound? C n d = some (c, k, i, f) ∧ f.isStatic = true ∧ k.statics = some a ∧ H[a]? = some cell ∧ cell.vm.isStatics = true ∧ cell.cls = c ∧ f.slot < cell.slots.size ∧ k.staticTypes[f.slot]? = some f.type ∧ ¬ A a
theorem vx_L.moved {C n d : String} {A : Nat → Prop} {u U : State} {H : Heap} (hvm : u.vm.Alike U.vm) (h : vx_L C n d A u H) : vx_L C n d A U H := by
  obtain ⟨c, k, i, f, a, cell, h1, h2, h3, h4, h5, h6, h7, h8, h9, h10⟩ := h
  obtain ⟨k', hi', he⟩ := State.fieldFound?_setVm hvm h2
  exact ⟨c, k', i, f, a, cell, by rw [hvm.findClass]; exact h1, hi', h3, by rw [he]; exact h4, h5, h6, h7, h8, by rw [he]; exact h9, h10⟩
theorem vx_L.kept {C n d : String} {A : Nat → Prop} {U : State} {H H1 : Heap} (h : vx_L C n d A U H) (hq : ∀ a : Nat, a < H.size → ¬ A a → H1[a]? = H[a]?) : vx_L C n d A U H1 := by
  obtain ⟨c, k, i, f, a, cell, h1, h2, h3, h4, h5, h6, h7, h8, h9, h10⟩ := h
  exact ⟨c, k, i, f, a, cell, h1, h2, h3, h4, by rw [hq a (Array.getElem?_eq_some_iff.mp h5).1 h10]; exact h5, h6, h7, h8, h9, h10⟩
theorem vx_L.narrow {C n d : String} {A B : Nat → Prop} {U : State} {H : Heap} (h : vx_L C n d A U H) (hAB : ∀ q, B q → A q) : vx_L C n d B U H := by
  obtain ⟨c, k, i, f, a, cell, h1, h2, h3, h4, h5, h6, h7, h8, h9, h10⟩ := h
  exact ⟨c, k, i, f, a, cell, h1, h2, h3, h4, h5, h6, h7, h8, h9, fun z => h10 (hAB _ z)⟩
theorem vx_L.word {C n d : String} {A : Nat → Prop} {s : State} {args : Array Value} (h : vx_L C n d A s s.heap) : (Cond.laysStatic C n d).before args s = true := by
  obtain ⟨c, k, i, f, a, cell, h1, h2, h3, h4, h5, h6, h7, h8, h9, -⟩ := h
  show (Cond.laysStatic C n d).holds args s none s [] = true
  exact Cond.laysStatic_of h1 h2 h3 h4 h5 h6 h7 h8 h9
/-- .. and what it holds: null or some reference -/
def vx_Zq (C n d : String) (A : Nat → Prop) (U : State) (H : Heap) : Prop := va_Zq C n d A U H ∧ vx_L C n d A U H
theorem vx_Zq.moved {C n d : String} {A : Nat → Prop} {u U : State} {H : Heap} (hvm : u.vm.Alike U.vm) (h : vx_Zq C n d A u H) : vx_Zq C n d A U H := ⟨va_Zq.moved hvm h.1, vx_L.moved hvm h.2⟩
theorem vx_Zq.kept {C n d : String} {A : Nat → Prop} {U : State} {H H1 : Heap} (h : vx_Zq C n d A U H) (hq : ∀ a : Nat, a < H.size → ¬ A a → H1[a]? = H[a]?) : vx_Zq C n d A U H1 := ⟨va_Zq.kept h.1 hq, vx_L.kept h.2 hq⟩
theorem vx_Zq.narrow {C n d : String} {A B : Nat → Prop} {U : State} {H : Heap} (h : vx_Zq C n d A U H) (hAB : ∀ q, B q → A q) : vx_Zq C n d B U H := ⟨va_Zq.narrow h.1 hAB, vx_L.narrow h.2 hAB⟩
theorem vx_Zqof {args : Array Value} {s : State} {C n d : String} {A : Nat → Prop} (hl : (Cond.laysStatic C n d).before args s = true) (hini : (Cond.initialized C).before args s = true) (h : (Cond.isRef (.static C n d)).before args s = true) (hA : ∀ a : Nat, a < s.heap.size → ¬ A a) : vx_Zq C n d A s s.heap := by
  refine ⟨va_Zqof hl hini h hA, ?_⟩
  obtain ⟨c, k, i, f, a, cell, h1, h2, h3, h4, h5, h6, h7, h8, h9⟩ := Cond.laysStatic_spec hl
  exact ⟨c, k, i, f, a, cell, h1, h2, h3, h4, h5, h6, h7, h8, h9, hA a (Array.getElem?_eq_some_iff.mp h5).1⟩
theorem vx_isRef {C n d : String} {v : Value} {A : Nat → Prop} {s : State} {args : Array Value} (h : va_Z C n d v A s s.heap) (hv : v.isRef = true) : (Cond.isRef (.static C n d)).before args s = true := by
  obtain ⟨cf, kf, fi, f, a, cell, h1, h2, h3, h4, h5, h6, h7, -⟩ := h
  have he : (Term.static C n d).eval args s none [] s = some v := by
    simp [Term.eval, State.fieldNamed?, h1, h2, h4, h5, h6, h7]
  simp only [Cond.before, Cond.holds, Cond.value, he]
  cases v <;> simp_all [Value.isRef]
theorem vx_isRefq {C n d : String} {A : Nat → Prop} {s : State} {args : Array Value} (h : va_Zq C n d A s s.heap) : (Cond.isRef (.static C n d)).before args s = true := by
  rcases h with h | ⟨t, h⟩
  · exact vx_isRef h rfl
  · exact vx_isRef h rfl
/-- the same frame, seen from here: as if the method were called anew in this heap -/
theorem vx_rebase {T : State} (X : Stand p l e R s m args below meth c T locs cells slots) {R' : Room} (hf : R'.frames ≤ R.frames) (hl : R'.locals ≤ R.locals) (hc : cells + R'.cells ≤ R.cells) (hs : slots + R'.slots ≤ R.slots) :
    Stand p l e R' ((T.setVm s.vm).setFrames (.invoking m args :: below)) m args below meth c T [] 0 0 := by
  have htop : (T.setVm s.vm).topJava?.isSome := X.here.top
  have hF : ((T.setVm s.vm).setFrames (.invoking m args :: below)).frames = .invoking m args :: below := State.frames_setFrames _ (State.cur_lt_of_top htop)
  obtain ⟨g₀, hg0⟩ := Option.isSome_iff_exists.mp htop
  obtain ⟨r, hr⟩ := State.topJava?_eq_some.mp hg0
  have hl9 : e.platform.stackLimits (T.setVm s.vm).me = e.platform.stackLimits s.me := X.limits
  have hb9 : (T.setVm s.vm).me.stackBytes = s.me.stackBytes := X.bytes
  refine ⟨X.admits, X.cas, X.clock, hF, ?_, X.hears, X.method, X.code, X.here, X.tail, X.warmed, ?_, ?_, ?_⟩
  · have h := X.room
    have hU : ((T.setVm s.vm).setFrames (.invoking m args :: below)).localsInUse = s.localsInUse := by
      rw [State.localsInUse_invoking hF (meth := meth) (c := c) X.method X.code, State.localsInUse_invoking X.frames X.method X.code]
    simp only [State.hasRoom, Bool.and_eq_true, decide_eq_true_eq] at h ⊢
    obtain ⟨⟨⟨⟨h1, h2, h3, h4, h5, h6⟩, h7⟩, h8⟩, h9⟩ := h
    rw [X.frames, List.length_cons] at h2 h3
    have q1 := X.heapSize
    have q2 := X.used
    simp only [hF, hU, List.length_cons, State.stackLimits_setFrames, State.stackBytes_setFrames, hl9, hb9]
    refine ⟨⟨⟨⟨by omega, by omega, by omega, by omega, by omega, h6⟩, ?_⟩, ?_⟩, X.book⟩
    · show T.heap.size + R'.cells ≤ e.platform.maxCells
      omega
    · show T.slotsUsed + R'.slots ≤ e.platform.maxSlots
      omega
  · rw [State.stackLimits_setFrames]; rfl
  · rw [State.stackBytes_setFrames]; rfl
  · refine ⟨?_, Nat.le_refl _, Nat.le_refl _, ?_, ?_, fun a c9 h9 => ⟨c9, h9, rfl, rfl, fun _ _ => rfl⟩⟩
    · obtain ⟨t, ht, -⟩ := State.frames_cons hr
      show T.setVm s.vm = { ((T.setVm s.vm).setFrames (.invoking m args :: below)).setFrames (T.setVm s.vm).frames with heap := T.heap, slotsUsed := T.slotsUsed }
      rw [State.setFrames_setFrames, State.setFrames_self ht]
      rfl
    · show T.slotsUsed = T.slotsUsed + ((T.heap.toList.drop T.heap.size).map (·.slots.size)).sum
      rw [List.drop_eq_nil_of_le (Nat.le_of_eq Array.length_toList)]
      rfl
    · show ((T.heap.toList.drop T.heap.size).map (·.slots.size)).sum ≤ 0
      rw [List.drop_eq_nil_of_le (Nat.le_of_eq Array.length_toList)]
      exact Nat.le_refl _
/-- 'throw new E()': new; dup; invokespecial; athrow -/
theorem vx_throw0 {cc : ByteArray} {pc : Nat} (hexec : p.tables.exec = Jvm.exec) (hb : c.code = cc) (hl : l.stackTraces = false) {own cls : String} {names : List String} {ik ic mc ms : Nat} {A : Nat → Prop}
    (hown : s.vm.findClass own = some m.cls) (hcls : Bundle.fit cls = true) (hnames : ∀ n ∈ names, Bundle.fit n = true)
    (hk : (Cond.classLink own ik cls).before args s = true) (hini : (Cond.initialized cls).before args s = true) (hat : ∀ w ∈ vx_at0 own ic cls names, w.before args s = true)
    (hgood : ∀ w ∈ Cond.classLink own ik cls :: Cond.initialized cls :: vx_at0 own ic cls names, vx_ot w = true)
    (hU : vx_Zq Bundle.tN "UNASSIGNED_STACK" Bundle.steD A s s.heap) (hN : vx_Zq Bundle.tN "SUPPRESSED_SENTINEL" Bundle.listD A s s.heap) (hS : va_S A s.heap H locs) (hsize : ls.size = c.maxLocals)
    (d0 : decode cc pc = .ok (.new ik, 3)) (d3 : decode cc (pc + 3) = .ok (.dup, 1)) (d4 : decode cc (pc + 4) = .ok (.invokespecial ic, 3)) (d7 : decode cc (pc + 7) = .ok (.athrow, 1))
    (hout : ∀ x ∈ c.exceptionTable.toList, covers x (pc + 7) = false)
    (hRframes : names.length + 3 < R.frames) (hRlocals : (rest.map fun v => v.category).sum + (13 * (names.length + 1) + 42) ≤ R.locals) (hRcells : cells + 1 ≤ R.cells) (hRslots : slots + 6 ≤ R.slots) (hlocks : meth.locks = false)
    (hx : ∀ t : State, s.vm.Alike t.vm → H.size ≤ t.heap.size → (∀ q : Nat, q < H.size → t.heap[q]? = H[q]?) → XC cls s t)
    (hf : ∀ z ∈ locs, free z.base) (hc : cells + 1 ≤ mc) (hs : slots + 6 ≤ ms) :
    W p l e R s m args below meth c H locs cells slots (vx_MQ below Qc XC args s mc ms free) (F0 m pc ls rest) := by
  intro T hT X
  have htr : e.platform.stackTraces = false := (show e.platform.stackTraces = l.stackTraces by rw [X.admits.platform]).trans hl
  have Y := vx_rebase X (R' := { frames := R.frames, locals := R.locals, cells := 1, slots := 6 }) (Nat.le_refl _) (Nat.le_refl _) hRcells hRslots
  obtain ⟨s', hA⟩ : ∃ z, z = (T.setVm s.vm).setFrames (.invoking m args :: below) := ⟨_, rfl⟩
  rw [← hA] at Y
  have hvm : s'.vm = s.vm := by rw [hA]; rfl
  have hhp : s'.heap = H := by rw [hA]; exact hT
  have hW0 : s.WarmedH s'.vm := by rw [hvm]; exact State.WarmedH.refl s
  have hat' : ∀ w ∈ vx_at0 own ic cls names, w.before args s' = true := fun w hw => vx_ot_at hW0 hvm.symm (hgood w (List.mem_cons_of_mem _ (List.mem_cons_of_mem _ hw))) (hat w hw)
  have hk' : (Cond.classLink own ik cls).before args s' = true := vx_ot_at hW0 hvm.symm (hgood _ List.mem_cons_self) hk
  have hini' : (Cond.initialized cls).before args s' = true := vx_ot_at hW0 hvm.symm (hgood _ (List.mem_cons_of_mem _ List.mem_cons_self)) hini
  have hU' : vx_Zq Bundle.tN "UNASSIGNED_STACK" Bundle.steD A s' s'.heap := by rw [hhp]; exact vx_Zq.moved hW0.alike (hU.kept hS.2.1)
  have hN' : vx_Zq Bundle.tN "SUPPRESSED_SENTINEL" Bundle.listD A s' s'.heap := by rw [hhp]; exact vx_Zq.moved hW0.alike (hN.kept hS.2.1)
  have h : ∀ w ∈ Bundle.ownAtoms0 own ic cls names, w.before args s' = true := vx_own hat' (vx_isRefq hU'.1) (vx_isRefq hN'.1) hU'.2.word hN'.2.word
  have hown' : s'.vm.findClass own = some m.cls := by rw [hvm]; exact hown
  have hins : (Cond.instantiable cls 6).before args s' = true := h _ (by simp [Bundle.ownAtoms0])
  obtain ⟨vm₁, cX, kX, hfX, hkX, -, -, X₁, st1⟩ := Y.newCold hexec (own := own) (C := cls) (index := ik) (n := 6) hown' hk' hins hini'
    (g := F0 m pc ls rest) rfl (by rw [hb]; exact d0) (Nat.le_refl _) (Nat.le_refl _)
  generalize hT1 : (T.setVm vm₁).pushCell { cls := cX, slots := kX.instanceTypes.map defaultValue, vm := .none } = T1 at X₁ st1
  have hcat : (Value.ref T.heap.size).category = 1 := rfl
  have hcellA : T1.heap[T.heap.size]? = some (freshCell cX kX) := by rw [← hT1]; exact State.heap_pushCell_size _ _
  have d3' : decode c.code (pc + 3) = .ok (.dup, 1) := by rw [hb]; exact d3
  obtain ⟨U, hsteps, hrun, hend, hW, hsame, ce, hce, hO⟩ := X₁.ctorThrow0 hexec htr (own := own) (cls := cls) (names := names) (ic := ic) hown' hcls hnames h (fun x hx => nomatch hx) hfX hkX hcellA (by rw [hhp, hT]; exact Nat.le_refl _)
    (g := { method := m, pc := pc + 4, locals := ls, stack := .ref T.heap.size :: .ref T.heap.size :: rest, locked := none }) rfl hsize rfl rfl (rest := rest) rfl
    (by rw [hb]; exact d4) (by rw [hb]; exact d7) hout hRframes (by simp only [List.map_cons, List.sum_cons, hcat]; omega) hlocks
  obtain ⟨f1, f2⟩ := vx_frame hsame
  rw [hhp] at f1 f2
  have hWs : s.WarmedH U.vm := State.WarmedH.trans hW0 hW
  have hcl : s.vm.findClass cls = some ce.cls := by
    have h9 := hO.cls
    rw [hvm] at h9
    exact h9
  have hall : s.sameButNew ({ U with vm := s.vm } : State) locs mc ms := by
    subst hA
    obtain ⟨e1, e2⟩ := hsame
    rw [State.setFrames_setFrames] at e1
    have h2 : (T.setVm s.vm).sameButNew ({ U with vm := s.vm } : State) [] (0 + 1) (0 + 6) := ⟨e1, e2⟩
    have h3 := X.same.trans h2
    rw [List.append_nil] at h3
    exact h3.mono hc hs
  refine ⟨U, ?_, .threw T.heap.size, hrun, hend, Or.inr ⟨T.heap.size, rfl, cls, ce, locs, hx U hWs.alike f1 (fun q hq => f2 q hq (fun z hz => nomatch hz)), hce, hO.vm, hcl, hWs, hall, hf⟩⟩
  refine st1 _ ?_
  show Steps p.tables e below (T1.setTop { method := m, pc := pc + 3, locals := ls, stack := .ref T.heap.size :: rest, locked := none }) _
  jvm_step X₁.here [X₁.here.top, hexec, d3', Value.category]
  exact hsteps
/-- 'throw new E("text")': new; dup; ldc; invokespecial; athrow -/
theorem vx_throwS {cc : ByteArray} {pc : Nat} (hexec : p.tables.exec = Jvm.exec) (hb : c.code = cc) (hl : l.stackTraces = false) {own cls text : String} {names : List String} {ik is ic mc ms sa : Nat} {A : Nat → Prop}
    (hown : s.vm.findClass own = some m.cls) (hcls : Bundle.fit cls = true) (hnames : ∀ n ∈ names, Bundle.fit n = true)
    (hk : (Cond.classLink own ik cls).before args s = true) (hini : (Cond.initialized cls).before args s = true) (hstr : vk_R own is text sa s) (hat : ∀ w ∈ vx_atS own ic cls names, w.before args s = true)
    (hgood : ∀ w ∈ Cond.classLink own ik cls :: Cond.initialized cls :: vx_atS own ic cls names, vx_ot w = true)
    (hU : vx_Zq Bundle.tN "UNASSIGNED_STACK" Bundle.steD A s s.heap) (hN : vx_Zq Bundle.tN "SUPPRESSED_SENTINEL" Bundle.listD A s s.heap) (hS : va_S A s.heap H locs) (hsize : ls.size = c.maxLocals)
    (d0 : decode cc pc = .ok (.new ik, 3)) (d3 : decode cc (pc + 3) = .ok (.dup, 1)) (d4 : decode cc (pc + 4) = .ok (.ldc is, 2)) (d6 : decode cc (pc + 6) = .ok (.invokespecial ic, 3)) (d9 : decode cc (pc + 9) = .ok (.athrow, 1))
    (hout : ∀ x ∈ c.exceptionTable.toList, covers x (pc + 9) = false)
    (hRframes : names.length + 3 < R.frames) (hRlocals : (rest.map fun v => v.category).sum + (13 * (names.length + 1) + 43) ≤ R.locals) (hRcells : cells + 1 ≤ R.cells) (hRslots : slots + 6 ≤ R.slots) (hlocks : meth.locks = false)
    (hx : ∀ t : State, s.vm.Alike t.vm → H.size ≤ t.heap.size → (∀ q : Nat, q < H.size → t.heap[q]? = H[q]?) → XC cls s t)
    (hf : ∀ z ∈ locs, free z.base) (hc : cells + 1 ≤ mc) (hs : slots + 6 ≤ ms) :
    W p l e R s m args below meth c H locs cells slots (vx_MQ below Qc XC args s mc ms free) (F0 m pc ls rest) := by
  intro T hT X
  have htr : e.platform.stackTraces = false := (show e.platform.stackTraces = l.stackTraces by rw [X.admits.platform]).trans hl
  have Y := vx_rebase X (R' := { frames := R.frames, locals := R.locals, cells := 1, slots := 6 }) (Nat.le_refl _) (Nat.le_refl _) hRcells hRslots
  obtain ⟨s', hA⟩ : ∃ z, z = (T.setVm s.vm).setFrames (.invoking m args :: below) := ⟨_, rfl⟩
  rw [← hA] at Y
  have hvm : s'.vm = s.vm := by rw [hA]; rfl
  have hhp : s'.heap = H := by rw [hA]; exact hT
  have hW0 : s.WarmedH s'.vm := by rw [hvm]; exact State.WarmedH.refl s
  have hat' : ∀ w ∈ vx_atS own ic cls names, w.before args s' = true := fun w hw => vx_ot_at hW0 hvm.symm (hgood w (List.mem_cons_of_mem _ (List.mem_cons_of_mem _ hw))) (hat w hw)
  have hk' : (Cond.classLink own ik cls).before args s' = true := vx_ot_at hW0 hvm.symm (hgood _ List.mem_cons_self) hk
  have hini' : (Cond.initialized cls).before args s' = true := vx_ot_at hW0 hvm.symm (hgood _ (List.mem_cons_of_mem _ List.mem_cons_self)) hini
  have hU' : vx_Zq Bundle.tN "UNASSIGNED_STACK" Bundle.steD A s' s'.heap := by rw [hhp]; exact vx_Zq.moved hW0.alike (hU.kept hS.2.1)
  have hN' : vx_Zq Bundle.tN "SUPPRESSED_SENTINEL" Bundle.listD A s' s'.heap := by rw [hhp]; exact vx_Zq.moved hW0.alike (hN.kept hS.2.1)
  have h : ∀ w ∈ Bundle.ownAtoms own ic cls names, w.before args s' = true := vx_own hat' (vx_isRefq hU'.1) (vx_isRefq hN'.1) hU'.2.word hN'.2.word
  have hown' : s'.vm.findClass own = some m.cls := by rw [hvm]; exact hown
  have hins : (Cond.instantiable cls 6).before args s' = true := h _ (by simp [Bundle.ownAtoms])
  obtain ⟨vm₁, cX, kX, hfX, hkX, -, -, X₁, st1⟩ := Y.newCold hexec (own := own) (C := cls) (index := ik) (n := 6) hown' hk' hins hini'
    (g := F0 m pc ls rest) rfl (by rw [hb]; exact d0) (Nat.le_refl _) (Nat.le_refl _)
  generalize hT1 : (T.setVm vm₁).pushCell { cls := cX, slots := kX.instanceTypes.map defaultValue, vm := .none } = T1 at X₁ st1
  have hcat : (Value.ref T.heap.size).category = 1 := rfl
  have hcellA : T1.heap[T.heap.size]? = some (freshCell cX kX) := by rw [← hT1]; exact State.heap_pushCell_size _ _
  have d3' : decode c.code (pc + 3) = .ok (.dup, 1) := by rw [hb]; exact d3
  have d4' : decode c.code (pc + 4) = .ok (.ldc is, 2) := by rw [hb]; exact d4
  have hstr' : vk_R own is text sa s' := vk_R.warm hW0 hstr
  obtain ⟨U, hsteps, hrun, hend, hW, hsame, ce, hce, hO⟩ := X₁.ctorThrowS hexec htr (own := own) (cls := cls) (names := names) (ic := ic) hown' hcls hnames h (fun x hx => nomatch hx) hfX hkX hcellA (by rw [hhp, hT]; exact Nat.le_refl _) (msg := .ref sa) rfl
    (g := { method := m, pc := pc + 6, locals := ls, stack := .ref sa :: .ref T.heap.size :: .ref T.heap.size :: rest, locked := none }) rfl hsize rfl rfl (rest := rest) rfl
    (by rw [hb]; exact d6) (by rw [hb]; exact d9) hout hRframes (by simp only [List.map_cons, List.sum_cons, hcat]; omega) hlocks
  obtain ⟨f1, f2⟩ := vx_frame hsame
  rw [hhp] at f1 f2
  have hWs : s.WarmedH U.vm := State.WarmedH.trans hW0 hW
  have hcl : s.vm.findClass cls = some ce.cls := by
    have h9 := hO.cls
    rw [hvm] at h9
    exact h9
  have hall : s.sameButNew ({ U with vm := s.vm } : State) locs mc ms := by
    subst hA
    obtain ⟨e1, e2⟩ := hsame
    rw [State.setFrames_setFrames] at e1
    have h2 : (T.setVm s.vm).sameButNew ({ U with vm := s.vm } : State) [] (0 + 1) (0 + 6) := ⟨e1, e2⟩
    have h3 := X.same.trans h2
    rw [List.append_nil] at h3
    exact h3.mono hc hs
  refine ⟨U, ?_, .threw T.heap.size, hrun, hend, Or.inr ⟨T.heap.size, rfl, cls, ce, locs, hx U hWs.alike f1 (fun q hq => f2 q hq (fun z hz => nomatch hz)), hce, hO.vm, hcl, hWs, hall, hf⟩⟩
  refine st1 _ ?_
  show Steps p.tables e below (T1.setTop { method := m, pc := pc + 3, locals := ls, stack := .ref T.heap.size :: rest, locked := none }) _
  jvm_step X₁.here [X₁.here.top, hexec, d3', Value.category]
  exact X₁.ldcString hexec (own := own) (text := text) (index := is) (a := sa) hown' hstr'.1 hstr'.2
    (g := { method := m, pc := pc + 4, locals := ls, stack := .ref T.heap.size :: .ref T.heap.size :: rest, locked := none }) rfl d4' _ hsteps
/-- 'throw new E("text")', the text by a wide index -/
theorem vx_throwSW {cc : ByteArray} {pc : Nat} (hexec : p.tables.exec = Jvm.exec) (hb : c.code = cc) (hl : l.stackTraces = false) {own cls text : String} {names : List String} {ik is ic mc ms sa : Nat} {A : Nat → Prop}
    (hown : s.vm.findClass own = some m.cls) (hcls : Bundle.fit cls = true) (hnames : ∀ n ∈ names, Bundle.fit n = true)
    (hk : (Cond.classLink own ik cls).before args s = true) (hini : (Cond.initialized cls).before args s = true) (hstr : vk_R own is text sa s) (hat : ∀ w ∈ vx_atS own ic cls names, w.before args s = true)
    (hgood : ∀ w ∈ Cond.classLink own ik cls :: Cond.initialized cls :: vx_atS own ic cls names, vx_ot w = true)
    (hU : vx_Zq Bundle.tN "UNASSIGNED_STACK" Bundle.steD A s s.heap) (hN : vx_Zq Bundle.tN "SUPPRESSED_SENTINEL" Bundle.listD A s s.heap) (hS : va_S A s.heap H locs) (hsize : ls.size = c.maxLocals)
    (d0 : decode cc pc = .ok (.new ik, 3)) (d3 : decode cc (pc + 3) = .ok (.dup, 1)) (d4 : decode cc (pc + 4) = .ok (.ldc_w is, 3)) (d7 : decode cc (pc + 7) = .ok (.invokespecial ic, 3)) (d10 : decode cc (pc + 10) = .ok (.athrow, 1))
    (hout : ∀ x ∈ c.exceptionTable.toList, covers x (pc + 10) = false)
    (hRframes : names.length + 3 < R.frames) (hRlocals : (rest.map fun v => v.category).sum + (13 * (names.length + 1) + 43) ≤ R.locals) (hRcells : cells + 1 ≤ R.cells) (hRslots : slots + 6 ≤ R.slots) (hlocks : meth.locks = false)
    (hx : ∀ t : State, s.vm.Alike t.vm → H.size ≤ t.heap.size → (∀ q : Nat, q < H.size → t.heap[q]? = H[q]?) → XC cls s t)
    (hf : ∀ z ∈ locs, free z.base) (hc : cells + 1 ≤ mc) (hs : slots + 6 ≤ ms) :
    W p l e R s m args below meth c H locs cells slots (vx_MQ below Qc XC args s mc ms free) (F0 m pc ls rest) := by
  intro T hT X
  have htr : e.platform.stackTraces = false := (show e.platform.stackTraces = l.stackTraces by rw [X.admits.platform]).trans hl
  have Y := vx_rebase X (R' := { frames := R.frames, locals := R.locals, cells := 1, slots := 6 }) (Nat.le_refl _) (Nat.le_refl _) hRcells hRslots
  obtain ⟨s', hA⟩ : ∃ z, z = (T.setVm s.vm).setFrames (.invoking m args :: below) := ⟨_, rfl⟩
  rw [← hA] at Y
  have hvm : s'.vm = s.vm := by rw [hA]; rfl
  have hhp : s'.heap = H := by rw [hA]; exact hT
  have hW0 : s.WarmedH s'.vm := by rw [hvm]; exact State.WarmedH.refl s
  have hat' : ∀ w ∈ vx_atS own ic cls names, w.before args s' = true := fun w hw => vx_ot_at hW0 hvm.symm (hgood w (List.mem_cons_of_mem _ (List.mem_cons_of_mem _ hw))) (hat w hw)
  have hk' : (Cond.classLink own ik cls).before args s' = true := vx_ot_at hW0 hvm.symm (hgood _ List.mem_cons_self) hk
  have hini' : (Cond.initialized cls).before args s' = true := vx_ot_at hW0 hvm.symm (hgood _ (List.mem_cons_of_mem _ List.mem_cons_self)) hini
  have hU' : vx_Zq Bundle.tN "UNASSIGNED_STACK" Bundle.steD A s' s'.heap := by rw [hhp]; exact vx_Zq.moved hW0.alike (hU.kept hS.2.1)
  have hN' : vx_Zq Bundle.tN "SUPPRESSED_SENTINEL" Bundle.listD A s' s'.heap := by rw [hhp]; exact vx_Zq.moved hW0.alike (hN.kept hS.2.1)
  have h : ∀ w ∈ Bundle.ownAtoms own ic cls names, w.before args s' = true := vx_own hat' (vx_isRefq hU'.1) (vx_isRefq hN'.1) hU'.2.word hN'.2.word
  have hown' : s'.vm.findClass own = some m.cls := by rw [hvm]; exact hown
  have hins : (Cond.instantiable cls 6).before args s' = true := h _ (by simp [Bundle.ownAtoms])
  obtain ⟨vm₁, cX, kX, hfX, hkX, -, -, X₁, st1⟩ := Y.newCold hexec (own := own) (C := cls) (index := ik) (n := 6) hown' hk' hins hini'
    (g := F0 m pc ls rest) rfl (by rw [hb]; exact d0) (Nat.le_refl _) (Nat.le_refl _)
  generalize hT1 : (T.setVm vm₁).pushCell { cls := cX, slots := kX.instanceTypes.map defaultValue, vm := .none } = T1 at X₁ st1
  have hcat : (Value.ref T.heap.size).category = 1 := rfl
  have hcellA : T1.heap[T.heap.size]? = some (freshCell cX kX) := by rw [← hT1]; exact State.heap_pushCell_size _ _
  have d3' : decode c.code (pc + 3) = .ok (.dup, 1) := by rw [hb]; exact d3
  have d4' : decode c.code (pc + 4) = .ok (.ldc_w is, 3) := by rw [hb]; exact d4
  have hstr' : vk_R own is text sa s' := vk_R.warm hW0 hstr
  obtain ⟨U, hsteps, hrun, hend, hW, hsame, ce, hce, hO⟩ := X₁.ctorThrowS hexec htr (own := own) (cls := cls) (names := names) (ic := ic) hown' hcls hnames h (fun x hx => nomatch hx) hfX hkX hcellA (by rw [hhp, hT]; exact Nat.le_refl _) (msg := .ref sa) rfl
    (g := { method := m, pc := pc + 7, locals := ls, stack := .ref sa :: .ref T.heap.size :: .ref T.heap.size :: rest, locked := none }) rfl hsize rfl rfl (rest := rest) rfl
    (by rw [hb]; exact d7) (by rw [hb]; exact d10) hout hRframes (by simp only [List.map_cons, List.sum_cons, hcat]; omega) hlocks
  obtain ⟨f1, f2⟩ := vx_frame hsame
  rw [hhp] at f1 f2
  have hWs : s.WarmedH U.vm := State.WarmedH.trans hW0 hW
  have hcl : s.vm.findClass cls = some ce.cls := by
    have h9 := hO.cls
    rw [hvm] at h9
    exact h9
  have hall : s.sameButNew ({ U with vm := s.vm } : State) locs mc ms := by
    subst hA
    obtain ⟨e1, e2⟩ := hsame
    rw [State.setFrames_setFrames] at e1
    have h2 : (T.setVm s.vm).sameButNew ({ U with vm := s.vm } : State) [] (0 + 1) (0 + 6) := ⟨e1, e2⟩
    have h3 := X.same.trans h2
    rw [List.append_nil] at h3
    exact h3.mono hc hs
  refine ⟨U, ?_, .threw T.heap.size, hrun, hend, Or.inr ⟨T.heap.size, rfl, cls, ce, locs, hx U hWs.alike f1 (fun q hq => f2 q hq (fun z hz => nomatch hz)), hce, hO.vm, hcl, hWs, hall, hf⟩⟩
  refine st1 _ ?_
  show Steps p.tables e below (T1.setTop { method := m, pc := pc + 3, locals := ls, stack := .ref T.heap.size :: rest, locked := none }) _
  jvm_step X₁.here [X₁.here.top, hexec, d3', Value.category]
  exact X₁.ldcStringW hexec (own := own) (text := text) (index := is) (a := sa) hown' hstr'.1 hstr'.2
    (g := { method := m, pc := pc + 4, locals := ls, stack := .ref T.heap.size :: .ref T.heap.size :: rest, locked := none }) rfl d4' _ hsteps
end Ends
section Bodies
variable {l : Launch}
theorem vx_ofW {y : MethodName} {ws ws' : List Cond} {rm : Room} {Pc : Array Value → State → Prop} {Qc : Array Value → State → Outcome → State → Prop} {XC : String → State → State → Prop} {mc ms : Nat} {free : Addr → Prop} {cc : ByteArray} {maxL : Nat} {ret : Option FieldType}
    (hy : plainName y.cls = true) (hw : ws = Cond.code y cc maxL ret :: ws')
    (body : ∀ p e s m args below meth c s₁, BodyLoose p l y (headSpec ws rm) cc maxL ret e s m args below meth c s₁ → c.maxLocals = maxL → (∀ x ∈ c.exceptionTable.toList, False) → Pc args s →
      W p l e (headSpec ws rm).room s m args below meth c s.heap [] 0 0 (vx_MQ below Qc XC args s mc ms free) (entryFrame m args maxL)) : vx_Met l y ws rm Pc Qc XC mc ms free := by
  refine MetFree.of_bodyS (code := cc) (maxLocals := maxL) (ret := ret) hy ?_ ?_
  · intro args s m h hn
    obtain ⟨meth, c, h1, h2, h3, h4, h5, h6, -, -⟩ := Cond.code_spec hn (atoms_spec (ws := ws) h _ (by rw [hw]; exact List.mem_cons_self))
    exact ⟨meth, c, h1, h2, h3, h4, h5, h6⟩
  · intro p e s m args below meth c s₁ B hml hP _
    have hh0 : s₁.heap = s.heap := by rw [B.state]; rfl
    have ht : ∀ x ∈ c.exceptionTable.toList, False := by
      obtain ⟨meth9, c9, h1, h2, -, -, -, -, h7, -⟩ := Cond.code_spec B.named (atoms_spec (ws := ws) B.pre _ (by rw [hw]; exact List.mem_cons_self))
      cases Option.some.inj (h1.symm.trans B.method)
      cases Option.some.inj (h2.symm.trans (Stand.of_body B).code)
      intro x hx
      rw [Array.isEmpty_iff.mp h7] at hx
      cases hx
    obtain ⟨t, a1, o, b1, b2, b3⟩ := body p e s m args below meth c s₁ B hml ht hP s₁ hh0 (Stand.of_body B)
    exact ⟨t, o, a1, b1, b2, b3⟩
/-- the table of a body with handlers -/
theorem vx_table {p : Program} {x y : MethodName} {S : Spec} {cc bytes : ByteArray} {maxL maxL' : Nat} {ret ret' : Option FieldType} {e : Env} {s s₁ : State} {m : MethodId} {args : Array Value} {below : List Frame} {meth : Method} {c : Code} {hh : List (Nat × Nat × Nat × Nat)}
    (B : BodyLoose p l y S cc maxL ret e s m args below meth c s₁) (h : (Cond.codeWith y bytes maxL' ret' hh).before args s = true) : c.exceptionTable.toList = tableOf hh := by
  obtain ⟨m9, meth9, c9, hn9, h1, h2, -, -, h6, -⟩ := Cond.codeWith_spec h
  cases Option.some.inj (hn9.symm.trans B.named)
  cases Option.some.inj (h1.symm.trans B.method)
  cases Option.some.inj (h2.symm.trans (Stand.of_body B).code)
  rw [← h6, table_eq]
end Bodies
end VXA
/-! ===== END ===== -/
/-! ===== BEGIN a static call of a method with an exception table ===== -/
section VXS
variable {p : Program} {l : Launch} {e : Env} {R : Room} {s : State} {m : MethodId} {args : Array Value} {below : List Frame} {meth : Method} {c : Code} {T : State} {H : Heap} {locs : List Loc} {cells slots : Nat}
abbrev vx_CSW (R : Room) (s : State) (args : Array Value) (own : String) (index : Nat) (y : MethodName) (bytes : ByteArray) (maxL : Nat) (ret : Option FieldType) (hh : List (Nat × Nat × Nat × Nat)) (ws : List Cond) (rm : Room) (mc ms n : Nat) : Prop :=
  (rm.cells = mc ∧ rm.slots = ms ∧ rm.frames + 1 ≤ R.frames ∧ 8 + (maxL + 11) + rm.locals ≤ R.locals ∧ (∀ w ∈ ws, ∀ (a' : Array Value) (U : State), s.WarmedH U.vm → w.before a' U = true) ∧ Cond.codeWith y bytes maxL ret hh ∈ ws) ∧
  (Cond.codeWith y bytes maxL ret hh).before args s = true ∧ (Cond.initialized y.cls).before args s = true ∧ (y.cls ≠ "java/lang/invoke/MethodHandle" ∧ y.cls ≠ "java/lang/invoke/VarHandle") ∧
  (∀ sig, parseMethodDescriptor y.desc = some sig → n = sig.parameters.length) ∧ (Cond.methodLink own index y).before args s = true ∧ (Cond.static y).before args s = true
theorem vx_cwSW {own : String} {index maxL mc ms : Nat} {y : MethodName} {bytes : ByteArray} {ret : Option FieldType} {hh : List (Nat × Nat × Nat × Nat)} {Ts ws ws' : List Cond} {rm : Room} (n : Nat) (ht : ∀ w ∈ Ts, w.before args s = true) (hT : GoodIn Ts (va_wsS own index y ws)) (hw : ws = Cond.codeWith y bytes maxL ret hh :: ws') (hrc : rm.cells = mc) (hrs : rm.slots = ms)
    (hd : y.cls ≠ "java/lang/invoke/MethodHandle" ∧ y.cls ≠ "java/lang/invoke/VarHandle" ∧ (parseMethodDescriptor y.desc).map (fun d => d.parameters.length) = some n) (hR : rm.frames + 1 ≤ R.frames ∧ 8 + (maxL + 11) + rm.locals ≤ R.locals) :
    vx_CSW R s args own index y bytes maxL ret hh ws rm mc ms n := by
  have ok : ∀ w ∈ va_wsS own index y ws, w.before args s = true := fun w h => ht w (hT w h).1
  have hG : GoodIn Ts ws := fun w h => hT w (by unfold va_wsS; exact List.mem_append_right _ h)
  have hc : Cond.codeWith y bytes maxL ret hh ∈ ws := by rw [hw]; exact List.mem_cons_self
  refine ⟨⟨hrc, hrs, hR.1, hR.2, pay_in ht hG, hc⟩, ht _ (hG _ hc).1, ok _ (by simp [va_wsS]), ⟨hd.1, hd.2.1⟩, fun sig h => ?_, ok _ (by simp [va_wsS]), ok _ (by simp [va_wsS])⟩
  have h2 := hd.2.2
  rw [h] at h2
  exact (Option.some.inj h2).symm
theorem vx_callSW (X : Stand p l e R s m args below meth c T locs cells slots) (hexec : p.tables.exec = Jvm.exec) {own : String} {index : Nat} {y : MethodName} {bytes : ByteArray} {maxL : Nat} {ret : Option FieldType} {hh : List (Nat × Nat × Nat × Nat)}
    (hown : s.vm.findClass own = some m.cls) (hlink : (Cond.methodLink own index y).before args s = true) (hstat : (Cond.static y).before args s = true) (hinit : (Cond.initialized y.cls).before args s = true)
    (hcode : (Cond.codeWith y bytes maxL ret hh).before args s = true) (hy : y.cls ≠ "java/lang/invoke/MethodHandle" ∧ y.cls ≠ "java/lang/invoke/VarHandle")
    {W9 : Nat} {Pre : Pt → Array Value → Prop} {Post : Pt → Array Value → Option Value → Pt → Prop} (hK : Back l R p e below s args y 3 W9 Pre Post)
    {g : JFrame} (hg : g.method = m) (hsize : g.locals.size = c.maxLocals) {argsL rest : List Value} (hlen : ∀ sig, parseMethodDescriptor y.desc = some sig → argsL.length = sig.parameters.length)
    (hstack : g.stack = argsL.reverse ++ rest) (hW : 2 * g.monitorRoom + (rest.map fun v => v.category).sum ≤ W9) (hdg : decode c.code g.pc = .ok (.invokestatic index, 3))
    (hpre : ∀ vm₁, s.WarmedH vm₁ → Pre ⟨T.setVm vm₁, locs, cells, slots⟩ argsL.toArray) :
    ∃ (v : Option Value) (vm₁ : Vm) (B : Pt), s.WarmedH vm₁ ∧ Stand p l e R s m args below meth c B.U B.locs B.cells B.slots ∧ Post ⟨T.setVm vm₁, locs, cells, slots⟩ argsL.toArray v B ∧
      ∀ target, Steps p.tables e below (B.U.setTop { g with pc := g.pc + 3, stack := v.toList ++ rest }) target → Steps p.tables e below (T.setTop g) target := by
  obtain ⟨mk, methM, cM, hnamed, hmethM, -, -, -, -, -, -, hsigM⟩ := Cond.codeWith_spec hcode
  have hstatic : methM.isStatic = true := Cond.static_spec hnamed hmethM hstat
  obtain ⟨kP, hkP, -⟩ := className_of_methodNamed hnamed
  have hinitP : kP.init = .initialized := Cond.initialized_spec (findClass_of_methodNamed hnamed) hkP hinit
  obtain ⟨vm₁, X₁, hstep₁⟩ := X.invokestatic hexec hown hlink hnamed hmethM hstatic hkP hinitP hy (g := g) hg (argsL := argsL) (rest := rest) (hlen _ hsigM) hstack hdg
  obtain ⟨v, B, X', hpost, hsteps⟩ := hK m meth c ⟨T.setVm vm₁, locs, cells, slots⟩ { g with stack := rest } (.invokestatic index) mk argsL.toArray X₁ hg hsize hdg hW (X₁.named hnamed) (hpre vm₁ X₁.warmed)
  exact ⟨v, vm₁, B, X₁.warmed, X', hpost, fun target h => hstep₁ _ fun acts => by rw [doInvoke_state]; exact hsteps.trans h⟩
theorem vx_runSW {y : MethodName} {bytes cc : ByteArray} {maxL nL mc ms n index : Nat} {ret : Option FieldType} {hh : List (Nat × Nat × Nat × Nat)} {ws : List Cond} {rm : Room} {Pc : Array Value → State → Prop} {Qc : Array Value → State → Outcome → State → Prop} {free : Addr → Prop} {Ts : List Cond} {own : String} {As rest : List Value} {g : JFrame}
    (S : CallFix p m c cc nL s args Ts own) (hM : Met l y ws rm Pc Qc mc ms free) (cw : vx_CSW R s args own index y bytes maxL ret hh ws rm mc ms n) (hp : PreS s H Pc As)
    (hg : g.method = m) (hn : As.length = n) (hsize : g.locals.size = nL) (hstack : g.stack = As.reverse ++ rest) (hW : 2 * g.monitorRoom + (rest.map fun v => v.category).sum ≤ 8) (hdg : decode cc g.pc = .ok (.invokestatic index, 3)) (hf : cells + mc ≤ R.cells ∧ slots + ms ≤ R.slots) :
    va_Run p l e R s m args below meth c H locs cells slots mc ms g rest (Qc As.toArray) (free) := by
  obtain ⟨⟨hrc, hrs, hfr, hlo, hws, hcw⟩, hcode, hini, hy, hlen, hl, hstt⟩ := cw
  have hK : Back l R p e below s args y 3 8 (PreOf R mc ms Pc) (PostOf Qc mc ms free) := va_backW (hh := hh) (bytes := bytes) (maxL := maxL) (ret := ret) hM hp.1 hrc hrs hfr hlo hws hcw (fun a' U hW => word_at hW (Or.inl (by first | rfl | simp [Cond.onTables, Cond.keeps, Cond.steady])) hini)
  obtain ⟨hx, hb, hml, ho, -⟩ := S
  intro T hT X
  obtain ⟨v, vm₁, ⟨U', l2, c2, s2⟩, hW₁, X', ⟨g', mk, t, L, e1, e2, hq, h1, hL, h2, h3⟩, st⟩ := vx_callSW X hx (hh := hh) (bytes := bytes) (maxL := maxL) (ret := ret) ho hl hstt hini hcode hy hK hg (hsize.trans hml.symm) (argsL := As) (rest := rest) (fun sig h => hn.trans (hlen sig h)) hstack hW (by rw [hb]; exact hdg)
    (fun vm₁ hW₁ => ⟨hf.1, hf.2, hp.2 (T.setVm vm₁) hT hW₁⟩)
  dsimp only [Pt.U, Pt.locs, Pt.cells, Pt.slots] at X' e1 e2 h1 h2 h3 st
  subst h1; subst h2; subst h3
  exact ⟨v, (T.setVm vm₁).calling g' mk As.toArray, t, U', L, hT, X', hL, e1, e2, hq, st⟩
/-- a thing of a world lies in the heap -/
theorem vx_lt {D : va_G} {cl : List vw_C} {ws : va_W} {H1 : Heap} (h : va_P D cl ws H1) {k : Nat} {q : Nat × va_E} (hk : ws[k]? = some q) : q.1 < H1.size := (h k q hk).lt
end VXS
/-! ===== END ===== -/
/-! ===== BEGIN methods with a table of their own: called by a name, returning or throwing ===== -/
section VXH
/-! vx_backW, vx_callVX, vx_callSX, vx_callVW, vx_runVW, vx_runVX, vx_runSX, vx_ofWH follow the same proofs as their sisters above (Free/Laws.lean, Shelf42/LK1.lean); vx_outP calls Shelf42/NT130.lean (outThrough). -/
section
variable {l : Launch} {R : Room} {p : Program} {e : Env} {below : List Frame} {s : State} {sargs : Array Value} {y : MethodName} {len W9 : Nat}
theorem vx_backW {ws : List Cond} {rm : Room} {Pc : Array Value → State → Prop} {Qc : Array Value → State → Outcome → State → Prop} {XC : String → State → State → Prop} {mc ms : Nat} {free : Addr → Prop} {bytes : ByteArray} {maxL : Nat} {ret : Option FieldType} {hh : List (Nat × Nat × Nat × Nat)}
    (hM : vx_Met l y ws rm Pc Qc XC mc ms free) (hblind : FrameBlind Pc) (hrc : rm.cells = mc) (hrs : rm.slots = ms)
    (hframes : rm.frames + 1 ≤ R.frames) (hlocals : W9 + (maxL + 11) + rm.locals ≤ R.locals)
    (hws : ∀ w ∈ ws, ∀ a' U, s.WarmedH U.vm → w.before a' U = true) (hcode : Cond.codeWith y bytes maxL ret hh ∈ ws) (hinit : ∀ a' U, s.WarmedH U.vm → (Cond.initialized y.cls).before a' U = true) :
    vx_Back l R p e below s sargs y len W9 (PreOf R mc ms Pc) (PostOf Qc mc ms free) (vx_Post XC mc ms free) := by
  intro m meth c A g ig mk a X hg hsize hdg hW hn hp
  have h1 : (headSpec ws rm).pre.before a A.U = true := atoms_intro fun w hw => hws w hw _ _ X.warmed
  have h2 : (Cond.codeWith y bytes maxL ret hh).before a A.U = true := hws _ hcode _ _ X.warmed
  have h3 : (Cond.initialized y.cls).before a A.U = true := hinit _ _ X.warmed
  have h4 : A.cells + (headSpec ws rm).room.cells ≤ R.cells := by rw [show (headSpec ws rm).room.cells = mc from hrc]; exact hp.1
  have h5 : A.slots + (headSpec ws rm).room.slots ≤ R.slots := by rw [show (headSpec ws rm).room.slots = ms from hrs]; exact hp.2.1
  have hPc : Pc a (A.U.calling g mk a) := hblind _ _ _ _ hp.2.2
  obtain ⟨U, Ls, c0, s0⟩ := A
  dsimp only [Pt.U, Pt.locs, Pt.cells, Pt.slots] at h1 h2 h3 h4 h5 X hn hPc ⊢
  obtain ⟨m9, methY, cY, hn9, hmY, hcY, -, hlY, -⟩ := Cond.codeWith_spec h2
  cases Option.some.inj (hn9.symm.trans hn)
  obtain ⟨kY, hkY, -⟩ := className_of_methodNamed hn
  have hinitY : kY.init = .initialized := Cond.initialized_spec (findClass_of_methodNamed hn) hkY h3
  have h : At U g.method c below := by rw [hg]; exact X.here
  have hlocals9 : W9 + (maxL + 11) + (headSpec ws rm).room.locals ≤ R.locals := hlocals
  have happ : (headSpec ws rm).appliesLoose y e.platform (U.calling g mk a) = true :=
    Spec.appliesLoose_calling (g := g) h hdg hn hkY hinitY
      (X.room_calling (g := g) (R' := (headSpec ws rm).room) hsize hmY hcY hframes (by rw [hlY]; omega) h4 h5) h1
  obtain ⟨mid, hmid⟩ := h.above
  have hfr : (U.setTop g).frames = (.java g :: mid) ++ below := by rw [State.frames_setTop' g h.top, hmid]; rfl
  obtain ⟨o, s₂, hsteps, -, hend, hq⟩ := Steps.callFree hM p X.admits X.cas X.clock (acts := []) hfr happ hPc trivial
  have hq' : vx_Q Qc XC mc ms free a (U.calling g mk a) o s₂ := hq
  rw [State.frames_setTop' g h.top] at hend
  obtain ⟨g₀, hg0⟩ := Option.isSome_iff_exists.mp h.top
  obtain ⟨r, hr⟩ := State.topJava?_eq_some.mp hg0
  have hr' : (({ U with heap := s₂.heap, slotsUsed := s₂.slotsUsed } : State).setVm s₂.vm).frames = .java g₀ :: r := hr
  rcases hq' with ⟨hqc, L, hfe, hL⟩ | ⟨q, rfl, E, ce, L, hx, hce, hcv, hcl, hW₂, hsm, hL⟩
  · obtain ⟨⟨v, rfl⟩, hW₂, e2, q2, q3, q4, q5, q6⟩ := id hfe
    have e3 : s₂ = ({ (U.calling g mk a).setFrames s₂.frames with heap := s₂.heap, slotsUsed := s₂.slotsUsed } : State).setVm s₂.vm := by
      have : s₂ = ({ s₂ with vm := (U.calling g mk a).vm } : State).setVm s₂.vm := rfl
      rw [e2] at this
      exact this
    obtain ⟨c₂, i₂, len₂, hc₂, hd₂, hf₂⟩ := hend
    have hW' : U.WarmedH s₂.vm := hW₂
    have hcc : c₂ = c := by
      have h1 : s₂.code? g.method = U.code? g.method := by
        rw [State.code?_eq, State.code?_eq, hW'.alike.method?]
      exact Option.some.inj (hc₂.symm.trans (h1.trans h.code))
    subst hcc
    have hlen : len₂ = len := by rw [hdg] at hd₂; cases hd₂; rfl
    subst hlen
    have hs₂ : s₂ = (({ U with heap := s₂.heap, slotsUsed := s₂.slotsUsed } : State).setVm s₂.vm).setTop { g with pc := g.pc + len₂, stack := v.toList ++ g.stack } := by
      refine e3.trans ?_
      rw [hf₂, State.calling_eq h.top, State.setFrames_setFrames, State.setTop_of_frames _ hr', hr]
      rfl
    have hsame : U.sameButNew ({ U with heap := s₂.heap, slotsUsed := s₂.slotsUsed } : State) L mc ms := by
      refine ⟨?_, q2, q3, q4, q5, q6⟩
      obtain ⟨t, ht, -⟩ := State.frames_cons hr
      show ({ U with heap := s₂.heap, slotsUsed := s₂.slotsUsed } : State) = { U.setFrames U.frames with heap := s₂.heap, slotsUsed := s₂.slotsUsed }
      rw [State.setFrames_self ht]
    subst hg
    refine Or.inl ⟨v, ⟨(({ U with heap := s₂.heap, slotsUsed := s₂.slotsUsed } : State).setVm s₂.vm), Ls ++ L, c0 + mc, s0 + ms⟩,
      ⟨X.admits, X.cas, X.clock, X.frames, X.room, X.hears, X.method, X.code, (X.here.setHeapUsed s₂.heap s₂.slotsUsed).setVm hW'.alike, X.tail, State.WarmedH.trans X.warmed hW', X.limits, X.bytes, X.same.trans (hsame.setVm s.vm)⟩,
      ⟨g, mk, s₂, L, rfl, rfl, hqc, rfl, hL, rfl, rfl⟩, ?_⟩
    show Steps p.tables e below _ ((({ U with heap := s₂.heap, slotsUsed := s₂.slotsUsed } : State).setVm s₂.vm).setTop { g with pc := g.pc + len₂, stack := v.toList ++ g.stack })
    rw [← hs₂]
    exact hsteps
  · obtain ⟨e2, q2, q3, q4, q5, q6⟩ := id hsm
    have e3 : s₂ = ({ (U.calling g mk a).setFrames s₂.frames with heap := s₂.heap, slotsUsed := s₂.slotsUsed } : State).setVm s₂.vm := by
      have : s₂ = ({ s₂ with vm := (U.calling g mk a).vm } : State).setVm s₂.vm := rfl
      rw [e2] at this
      exact this
    have hf₂ : s₂.frames = .throwing q :: .java g :: U.frames.tail := hend
    have hW' : U.WarmedH s₂.vm := hW₂
    have hs₂ : s₂ = ((({ U with heap := s₂.heap, slotsUsed := s₂.slotsUsed } : State).setVm s₂.vm).setTop g).pushFrame (.throwing q) := by
      refine e3.trans ?_
      rw [hf₂, State.calling_eq h.top, State.setFrames_setFrames, State.pushFrame, State.frames_setTop _ hr', State.setTop_of_frames _ hr', State.setFrames_setFrames, hr]
      rfl
    have hsame : U.sameButNew ({ U with heap := s₂.heap, slotsUsed := s₂.slotsUsed } : State) L mc ms := by
      refine ⟨?_, q2, q3, q4, q5, q6⟩
      obtain ⟨t, ht, -⟩ := State.frames_cons hr
      show ({ U with heap := s₂.heap, slotsUsed := s₂.slotsUsed } : State) = { U.setFrames U.frames with heap := s₂.heap, slotsUsed := s₂.slotsUsed }
      rw [State.setFrames_self ht]
    subst hg
    refine Or.inr ⟨q, ⟨(({ U with heap := s₂.heap, slotsUsed := s₂.slotsUsed } : State).setVm s₂.vm), Ls ++ L, c0 + mc, s0 + ms⟩,
      ⟨X.admits, X.cas, X.clock, X.frames, X.room, X.hears, X.method, X.code, (X.here.setHeapUsed s₂.heap s₂.slotsUsed).setVm hW'.alike, X.tail, State.WarmedH.trans X.warmed hW', X.limits, X.bytes, X.same.trans (hsame.setVm s.vm)⟩,
      ⟨g, mk, s₂, L, E, ce, rfl, rfl, hx, hce, hcv, hcl, rfl, hL, rfl, rfl⟩, ?_⟩
    show Steps p.tables e below _ (((({ U with heap := s₂.heap, slotsUsed := s₂.slotsUsed } : State).setVm s₂.vm).setTop g).pushFrame (.throwing q))
    rw [← hs₂]
    exact hsteps
end
variable {p : Program} {l : Launch} {e : Env} {R : Room} {s : State} {m : MethodId} {args : Array Value} {below : List Frame} {meth : Method} {c : Code} {T : State} {H : Heap} {locs : List Loc} {cells slots : Nat}
theorem vx_callVX (X : Stand p l e R s m args below meth c T locs cells slots) (hexec : p.tables.exec = Jvm.exec) {own C : String} {index : Nat} {y : MethodName} {bytes : ByteArray} {maxL : Nat} {ret : Option FieldType} {hh : List (Nat × Nat × Nat × Nat)}
    (hown : s.vm.findClass own = some m.cls) (hlink : (Cond.methodLink own index y).before args s = true) (hinst : (Cond.instanceMethod y).before args s = true) (hsel : (Cond.selects C y y).before args s = true)
    (hcode : (Cond.codeWith y bytes maxL ret hh).before args s = true) (hy : y.cls ≠ "java/lang/invoke/MethodHandle" ∧ y.cls ≠ "java/lang/invoke/VarHandle")
    {W9 : Nat} {Pre : Pt → Array Value → Prop} {Post : Pt → Array Value → Option Value → Pt → Prop} {PostX : Pt → Array Value → Addr → Pt → Prop} (hK : vx_Back l R p e below s args y 3 W9 Pre Post PostX)
    {b : Addr} {cellB : Cell} (hcell : T.heap[b]? = some cellB) (hobj : cellB.vm.isStatics = false) (hcls : s.vm.findClass C = some cellB.cls)
    {g : JFrame} (hg : g.method = m) (hsize : g.locals.size = c.maxLocals) {argsL rest : List Value} (hlen : ∀ sig, parseMethodDescriptor y.desc = some sig → argsL.length = sig.parameters.length)
    (hstack : g.stack = argsL.reverse ++ .ref b :: rest) (hW : 2 * g.monitorRoom + (rest.map fun v => v.category).sum ≤ W9) (hdg : decode c.code g.pc = .ok (.invokevirtual index, 3))
    (hpre : ∀ vm₁, s.WarmedH vm₁ → Pre ⟨T.setVm vm₁, locs, cells, slots⟩ (Value.ref b :: argsL).toArray) :
    (∃ (v : Option Value) (vm₁ : Vm) (B : Pt), s.WarmedH vm₁ ∧ Stand p l e R s m args below meth c B.U B.locs B.cells B.slots ∧ Post ⟨T.setVm vm₁, locs, cells, slots⟩ (Value.ref b :: argsL).toArray v B ∧
      ∀ target, Steps p.tables e below (B.U.setTop { g with pc := g.pc + 3, stack := v.toList ++ rest }) target → Steps p.tables e below (T.setTop g) target) ∨
    (∃ (q : Addr) (vm₁ : Vm) (B : Pt), s.WarmedH vm₁ ∧ Stand p l e R s m args below meth c B.U B.locs B.cells B.slots ∧ PostX ⟨T.setVm vm₁, locs, cells, slots⟩ (Value.ref b :: argsL).toArray q B ∧
      Steps p.tables e below (T.setTop g) ((B.U.setTop { g with stack := rest }).pushFrame (.throwing q))) := by
  obtain ⟨mk, methM, hnamed, hmethM, hstM, habM⟩ := Cond.instanceMethod_spec hinst
  obtain ⟨m8, methM', cM, hn8, hmethM', -, -, -, -, -, -, hsigM⟩ := Cond.codeWith_spec hcode
  cases Option.some.inj (hn8.symm.trans hnamed)
  cases hmethM.symm.trans hmethM'
  obtain ⟨c2, r2, m2, q1, q2, q3, q4, kP, hkP, hkPi⟩ := Cond.selects_spec hsel
  cases hcls.symm.trans q1
  cases (State.methodFound?_of_named hnamed hy).symm.trans q2
  cases hnamed.symm.trans q3
  have hselP : selectMethod e.platform s.vm cellB.cls mk = .method mk := by rw [Launch.admits_selectMethod X.admits]; exact q4
  obtain ⟨vm₁, X₁, hstep₁⟩ := X.invokevirtual hexec hown hlink hnamed hmethM hstM hkP hkPi hy (a := b) (cell := cellB) hcell
    (fun z h => by rw [h] at hobj; cases hobj) hselP hmethM habM hkP hkPi (g := g) hg (argsL := argsL) (rest := rest) (hlen _ hsigM) hstack hdg
  rcases hK m meth c ⟨T.setVm vm₁, locs, cells, slots⟩ { g with stack := rest } (.invokevirtual index) mk (Value.ref b :: argsL).toArray X₁ hg hsize hdg hW (X₁.named hnamed) (hpre vm₁ X₁.warmed) with ⟨v, B, X', hpost, hsteps⟩ | ⟨q, B, X', hpost, hsteps⟩
  · exact Or.inl ⟨v, vm₁, B, X₁.warmed, X', hpost, fun target h => hstep₁ _ fun acts => by rw [doInvoke_state]; exact hsteps.trans h⟩
  · exact Or.inr ⟨q, vm₁, B, X₁.warmed, X', hpost, hstep₁ _ fun acts => by rw [doInvoke_state]; exact hsteps⟩
theorem vx_callSX (X : Stand p l e R s m args below meth c T locs cells slots) (hexec : p.tables.exec = Jvm.exec) {own : String} {index : Nat} {y : MethodName} {bytes : ByteArray} {maxL : Nat} {ret : Option FieldType} {hh : List (Nat × Nat × Nat × Nat)}
    (hown : s.vm.findClass own = some m.cls) (hlink : (Cond.methodLink own index y).before args s = true) (hstat : (Cond.static y).before args s = true) (hinit : (Cond.initialized y.cls).before args s = true)
    (hcode : (Cond.codeWith y bytes maxL ret hh).before args s = true) (hy : y.cls ≠ "java/lang/invoke/MethodHandle" ∧ y.cls ≠ "java/lang/invoke/VarHandle")
    {W9 : Nat} {Pre : Pt → Array Value → Prop} {Post : Pt → Array Value → Option Value → Pt → Prop} {PostX : Pt → Array Value → Addr → Pt → Prop} (hK : vx_Back l R p e below s args y 3 W9 Pre Post PostX)
    {g : JFrame} (hg : g.method = m) (hsize : g.locals.size = c.maxLocals) {argsL rest : List Value} (hlen : ∀ sig, parseMethodDescriptor y.desc = some sig → argsL.length = sig.parameters.length)
    (hstack : g.stack = argsL.reverse ++ rest) (hW : 2 * g.monitorRoom + (rest.map fun v => v.category).sum ≤ W9) (hdg : decode c.code g.pc = .ok (.invokestatic index, 3))
    (hpre : ∀ vm₁, s.WarmedH vm₁ → Pre ⟨T.setVm vm₁, locs, cells, slots⟩ argsL.toArray) :
    (∃ (v : Option Value) (vm₁ : Vm) (B : Pt), s.WarmedH vm₁ ∧ Stand p l e R s m args below meth c B.U B.locs B.cells B.slots ∧ Post ⟨T.setVm vm₁, locs, cells, slots⟩ argsL.toArray v B ∧
      ∀ target, Steps p.tables e below (B.U.setTop { g with pc := g.pc + 3, stack := v.toList ++ rest }) target → Steps p.tables e below (T.setTop g) target) ∨
    (∃ (q : Addr) (vm₁ : Vm) (B : Pt), s.WarmedH vm₁ ∧ Stand p l e R s m args below meth c B.U B.locs B.cells B.slots ∧ PostX ⟨T.setVm vm₁, locs, cells, slots⟩ argsL.toArray q B ∧
      Steps p.tables e below (T.setTop g) ((B.U.setTop { g with stack := rest }).pushFrame (.throwing q))) := by
  obtain ⟨mk, methM, cM, hnamed, hmethM, -, -, -, -, -, -, hsigM⟩ := Cond.codeWith_spec hcode
  have hstatic : methM.isStatic = true := Cond.static_spec hnamed hmethM hstat
  obtain ⟨kP, hkP, -⟩ := className_of_methodNamed hnamed
  have hinitP : kP.init = .initialized := Cond.initialized_spec (findClass_of_methodNamed hnamed) hkP hinit
  obtain ⟨vm₁, X₁, hstep₁⟩ := X.invokestatic hexec hown hlink hnamed hmethM hstatic hkP hinitP hy (g := g) hg (argsL := argsL) (rest := rest) (hlen _ hsigM) hstack hdg
  rcases hK m meth c ⟨T.setVm vm₁, locs, cells, slots⟩ { g with stack := rest } (.invokestatic index) mk argsL.toArray X₁ hg hsize hdg hW (X₁.named hnamed) (hpre vm₁ X₁.warmed) with ⟨v, B, X', hpost, hsteps⟩ | ⟨q, B, X', hpost, hsteps⟩
  · exact Or.inl ⟨v, vm₁, B, X₁.warmed, X', hpost, fun target h => hstep₁ _ fun acts => by rw [doInvoke_state]; exact hsteps.trans h⟩
  · exact Or.inr ⟨q, vm₁, B, X₁.warmed, X', hpost, hstep₁ _ fun acts => by rw [doInvoke_state]; exact hsteps⟩
theorem vx_callVW (X : Stand p l e R s m args below meth c T locs cells slots) (hexec : p.tables.exec = Jvm.exec) {own C : String} {index : Nat} {y : MethodName} {bytes : ByteArray} {maxL : Nat} {ret : Option FieldType} {hh : List (Nat × Nat × Nat × Nat)}
    (hown : s.vm.findClass own = some m.cls) (hlink : (Cond.methodLink own index y).before args s = true) (hinst : (Cond.instanceMethod y).before args s = true) (hsel : (Cond.selects C y y).before args s = true)
    (hcode : (Cond.codeWith y bytes maxL ret hh).before args s = true) (hy : y.cls ≠ "java/lang/invoke/MethodHandle" ∧ y.cls ≠ "java/lang/invoke/VarHandle")
    {W9 : Nat} {Pre : Pt → Array Value → Prop} {Post : Pt → Array Value → Option Value → Pt → Prop} (hK : Back l R p e below s args y 3 W9 Pre Post)
    {b : Addr} {cellB : Cell} (hcell : T.heap[b]? = some cellB) (hobj : cellB.vm.isStatics = false) (hcls : s.vm.findClass C = some cellB.cls)
    {g : JFrame} (hg : g.method = m) (hsize : g.locals.size = c.maxLocals) {argsL rest : List Value} (hlen : ∀ sig, parseMethodDescriptor y.desc = some sig → argsL.length = sig.parameters.length)
    (hstack : g.stack = argsL.reverse ++ .ref b :: rest) (hW : 2 * g.monitorRoom + (rest.map fun v => v.category).sum ≤ W9) (hdg : decode c.code g.pc = .ok (.invokevirtual index, 3))
    (hpre : ∀ vm₁, s.WarmedH vm₁ → Pre ⟨T.setVm vm₁, locs, cells, slots⟩ (Value.ref b :: argsL).toArray) :
    ∃ (v : Option Value) (vm₁ : Vm) (B : Pt), s.WarmedH vm₁ ∧ Stand p l e R s m args below meth c B.U B.locs B.cells B.slots ∧ Post ⟨T.setVm vm₁, locs, cells, slots⟩ (Value.ref b :: argsL).toArray v B ∧
      ∀ target, Steps p.tables e below (B.U.setTop { g with pc := g.pc + 3, stack := v.toList ++ rest }) target → Steps p.tables e below (T.setTop g) target := by
  obtain ⟨mk, methM, hnamed, hmethM, hstM, habM⟩ := Cond.instanceMethod_spec hinst
  obtain ⟨m8, methM', cM, hn8, hmethM', -, -, -, -, -, -, hsigM⟩ := Cond.codeWith_spec hcode
  cases Option.some.inj (hn8.symm.trans hnamed)
  cases hmethM.symm.trans hmethM'
  obtain ⟨c2, r2, m2, q1, q2, q3, q4, kP, hkP, hkPi⟩ := Cond.selects_spec hsel
  cases hcls.symm.trans q1
  cases (State.methodFound?_of_named hnamed hy).symm.trans q2
  cases hnamed.symm.trans q3
  have hselP : selectMethod e.platform s.vm cellB.cls mk = .method mk := by rw [Launch.admits_selectMethod X.admits]; exact q4
  obtain ⟨vm₁, X₁, hstep₁⟩ := X.invokevirtual hexec hown hlink hnamed hmethM hstM hkP hkPi hy (a := b) (cell := cellB) hcell
    (fun z h => by rw [h] at hobj; cases hobj) hselP hmethM habM hkP hkPi (g := g) hg (argsL := argsL) (rest := rest) (hlen _ hsigM) hstack hdg
  obtain ⟨v, B, X', hpost, hsteps⟩ := hK m meth c ⟨T.setVm vm₁, locs, cells, slots⟩ { g with stack := rest } (.invokevirtual index) mk (Value.ref b :: argsL).toArray X₁ hg hsize hdg hW (X₁.named hnamed) (hpre vm₁ X₁.warmed)
  exact ⟨v, vm₁, B, X₁.warmed, X', hpost, fun target h => hstep₁ _ fun acts => by rw [doInvoke_state]; exact hsteps.trans h⟩
abbrev vx_CVW (R : Room) (s : State) (args : Array Value) (own C : String) (index : Nat) (y : MethodName) (bytes : ByteArray) (maxL : Nat) (ret : Option FieldType) (hh : List (Nat × Nat × Nat × Nat)) (ws : List Cond) (rm : Room) (mc ms n : Nat) : Prop :=
  (rm.cells = mc ∧ rm.slots = ms ∧ rm.frames + 1 ≤ R.frames ∧ 8 + (maxL + 11) + rm.locals ≤ R.locals ∧ (∀ w ∈ ws, ∀ (a' : Array Value) (U : State), s.WarmedH U.vm → w.before a' U = true) ∧ Cond.codeWith y bytes maxL ret hh ∈ ws) ∧
  (Cond.codeWith y bytes maxL ret hh).before args s = true ∧ (Cond.initialized y.cls).before args s = true ∧ (y.cls ≠ "java/lang/invoke/MethodHandle" ∧ y.cls ≠ "java/lang/invoke/VarHandle") ∧
  (∀ sig, parseMethodDescriptor y.desc = some sig → n = sig.parameters.length) ∧ (Cond.methodLink own index y).before args s = true ∧ (Cond.instanceMethod y).before args s = true ∧ (Cond.selects C y y).before args s = true
theorem vx_cwVW {own C : String} {index maxL mc ms : Nat} {y : MethodName} {bytes : ByteArray} {ret : Option FieldType} {hh : List (Nat × Nat × Nat × Nat)} {Ts ws ws' : List Cond} {rm : Room} (n : Nat) (ht : ∀ w ∈ Ts, w.before args s = true) (hT : GoodIn Ts (wsV own index C y ws)) (hw : ws = Cond.codeWith y bytes maxL ret hh :: ws') (hrc : rm.cells = mc) (hrs : rm.slots = ms)
    (hd : y.cls = C ∧ y.cls ≠ "java/lang/invoke/MethodHandle" ∧ y.cls ≠ "java/lang/invoke/VarHandle" ∧ (parseMethodDescriptor y.desc).map (fun d => d.parameters.length) = some n) (hR : rm.frames + 1 ≤ R.frames ∧ 8 + (maxL + 11) + rm.locals ≤ R.locals) :
    vx_CVW R s args own C index y bytes maxL ret hh ws rm mc ms n := by
  obtain ⟨hC, hd⟩ := hd
  subst hC
  have ok : ∀ w ∈ wsV own index y.cls y ws, w.before args s = true := fun w h => ht w (hT w h).1
  have hG : GoodIn Ts ws := fun w h => hT w (by unfold wsV; exact List.mem_append_right _ h)
  have hc : Cond.codeWith y bytes maxL ret hh ∈ ws := by rw [hw]; exact List.mem_cons_self
  refine ⟨⟨hrc, hrs, hR.1, hR.2, pay_in ht hG, hc⟩, ht _ (hG _ hc).1, ok _ (by simp [wsV]), ⟨hd.1, hd.2.1⟩, fun sig h => ?_, ok _ (by simp [wsV]), ok _ (by simp [wsV]), ok _ (by simp [wsV])⟩
  have h2 := hd.2.2
  rw [h] at h2
  exact (Option.some.inj h2).symm
theorem vx_runVW {y : MethodName} {bytes cc : ByteArray} {maxL nL mc ms n index : Nat} {ret : Option FieldType} {hh : List (Nat × Nat × Nat × Nat)} {ws : List Cond} {rm : Room} {Pc : Array Value → State → Prop} {Qc : Array Value → State → Outcome → State → Prop} {free : Addr → Prop} {Ts : List Cond} {own C : String} {b : Addr} {As rest : List Value} {g : JFrame}
    (S : CallFix p m c cc nL s args Ts own) (hM : Met l y ws rm Pc Qc mc ms free) (cw : vx_CVW R s args own C index y bytes maxL ret hh ws rm mc ms n) (hp : PreV s H C b Pc As)
    (hg : g.method = m) (hn : As.length = n) (hsize : g.locals.size = nL) (hstack : g.stack = As.reverse ++ .ref b :: rest) (hW : 2 * g.monitorRoom + (rest.map fun v => v.category).sum ≤ 8) (hdg : decode cc g.pc = .ok (.invokevirtual index, 3)) (hf : cells + mc ≤ R.cells ∧ slots + ms ≤ R.slots) :
    va_Run p l e R s m args below meth c H locs cells slots mc ms g rest (Qc (Value.ref b :: As).toArray) free := by
  obtain ⟨⟨hrc, hrs, hfr, hlo, hws, hcw⟩, hcode, hini, hy, hlen, hl, hin, hse⟩ := cw
  have hK : Back l R p e below s args y 3 8 (PreOf R mc ms Pc) (PostOf Qc mc ms free) := va_backW (hh := hh) (bytes := bytes) (maxL := maxL) (ret := ret) hM hp.1 hrc hrs hfr hlo hws hcw (fun a' U hW => word_at hW (Or.inl (by first | rfl | simp [Cond.onTables, Cond.keeps, Cond.steady])) hini)
  obtain ⟨hx, hb, hml, ho, -⟩ := S
  obtain ⟨-, ⟨cellB, hcB, hoB, hclB⟩, hPc⟩ := hp
  intro T hT X
  obtain ⟨v, vm₁, ⟨U', l2, c2, s2⟩, hW₁, X', ⟨g', mk, t, L, e1, e2, hq, h1, hL, h2, h3⟩, st⟩ := vx_callVW X hx (C := C) (hh := hh) (bytes := bytes) (maxL := maxL) (ret := ret) ho hl hin hse hcode hy hK (by rw [hT]; exact hcB) hoB hclB hg (hsize.trans hml.symm) (argsL := As) (rest := rest) (fun sig h => hn.trans (hlen sig h)) hstack hW (by rw [hb]; exact hdg)
    (fun vm₁ hW₁ => ⟨hf.1, hf.2, hPc (T.setVm vm₁) hT hW₁⟩)
  dsimp only [Pt.U, Pt.locs, Pt.cells, Pt.slots] at X' e1 e2 h1 h2 h3 st
  subst h1; subst h2; subst h3
  exact ⟨v, (T.setVm vm₁).calling g' mk (Value.ref b :: As).toArray, t, U', L, hT, X', hL, e1, e2, hq, st⟩
section
variable {y : MethodName} {bytes cc : ByteArray} {maxL nL mc ms n index : Nat} {ret : Option FieldType} {ws : List Cond} {rm : Room} {Pc : Array Value → State → Prop} {Qc : Array Value → State → Outcome → State → Prop} {XC : String → State → State → Prop} {free : Addr → Prop} {Ts : List Cond} {own C : String} {b : Addr} {As rest : List Value} {g : JFrame}
theorem vx_runVX {hh : List (Nat × Nat × Nat × Nat)} (S : CallFix p m c cc nL s args Ts own) (hM : vx_Met l y ws rm Pc Qc XC mc ms free) (cw : vx_CVW R s args own C index y bytes maxL ret hh ws rm mc ms n) (hp : PreV s H C b Pc As)
    (hg : g.method = m) (hn : As.length = n) (hsize : g.locals.size = nL) (hstack : g.stack = As.reverse ++ .ref b :: rest) (hW : 2 * g.monitorRoom + (rest.map fun v => v.category).sum ≤ 8) (hdg : decode cc g.pc = .ok (.invokevirtual index, 3)) (hf : cells + mc ≤ R.cells ∧ slots + ms ≤ R.slots) :
    vx_Run p l e R s m args below meth c H locs cells slots mc ms g rest (Qc (Value.ref b :: As).toArray) XC free := by
  obtain ⟨⟨hrc, hrs, hfr, hlo, hws, hcw⟩, hcode, hini, hy, hlen, hl, hin, hse⟩ := cw
  have hK : vx_Back l R p e below s args y 3 8 (PreOf R mc ms Pc) (PostOf Qc mc ms free) (vx_Post XC mc ms free) := vx_backW (hh := hh) (bytes := bytes) (maxL := maxL) (ret := ret) hM hp.1 hrc hrs hfr hlo hws hcw (fun a' U hW => word_at hW (Or.inl (by first | rfl | simp [Cond.onTables, Cond.keeps, Cond.steady])) hini)
  obtain ⟨hx, hb, hml, ho, -⟩ := S
  obtain ⟨-, ⟨cellB, hcB, hoB, hclB⟩, hPc⟩ := hp
  intro T hT X
  rcases vx_callVX X hx (C := C) (hh := hh) (bytes := bytes) (maxL := maxL) (ret := ret) ho hl hin hse hcode hy hK (by rw [hT]; exact hcB) hoB hclB hg (hsize.trans hml.symm) (argsL := As) (rest := rest) (fun sig h => hn.trans (hlen sig h)) hstack hW (by rw [hb]; exact hdg)
    (fun vm₁ hW₁ => ⟨hf.1, hf.2, hPc (T.setVm vm₁) hT hW₁⟩) with ⟨v, vm₁, ⟨U', l2, c2, s2⟩, hW₁, X', ⟨g', mk, t, L, e1, e2, hq, h1, hL, h2, h3⟩, st⟩ | ⟨q, vm₁, ⟨U', l2, c2, s2⟩, hW₁, X', ⟨g', mk, t, L, E, ce, e1, e2, hq, hce, hcv, hcl, h1, hL, h2, h3⟩, st⟩
  · dsimp only [Pt.U, Pt.locs, Pt.cells, Pt.slots] at X' e1 e2 h1 h2 h3 st
    subst h1; subst h2; subst h3
    exact Or.inl ⟨v, (T.setVm vm₁).calling g' mk (Value.ref b :: As).toArray, t, U', L, hT, X', hL, e1, e2, hq, st⟩
  · dsimp only [Pt.U, Pt.locs, Pt.cells, Pt.slots] at X' e1 e2 h1 h2 h3 st hcl
    subst h1; subst h2; subst h3
    exact Or.inr ⟨q, (T.setVm vm₁).calling g' mk (Value.ref b :: As).toArray, t, U', L, E, ce, hT, X', hL, e1, e2, hq, hce, hcv, vx_cls hW₁ hcl, st⟩
theorem vx_runSX {hh : List (Nat × Nat × Nat × Nat)} (S : CallFix p m c cc nL s args Ts own) (hM : vx_Met l y ws rm Pc Qc XC mc ms free) (cw : vx_CSW R s args own index y bytes maxL ret hh ws rm mc ms n) (hp : PreS s H Pc As)
    (hg : g.method = m) (hn : As.length = n) (hsize : g.locals.size = nL) (hstack : g.stack = As.reverse ++ rest) (hW : 2 * g.monitorRoom + (rest.map fun v => v.category).sum ≤ 8) (hdg : decode cc g.pc = .ok (.invokestatic index, 3)) (hf : cells + mc ≤ R.cells ∧ slots + ms ≤ R.slots) :
    vx_Run p l e R s m args below meth c H locs cells slots mc ms g rest (Qc As.toArray) XC free := by
  obtain ⟨⟨hrc, hrs, hfr, hlo, hws, hcw⟩, hcode, hini, hy, hlen, hl, hstt⟩ := cw
  have hK : vx_Back l R p e below s args y 3 8 (PreOf R mc ms Pc) (PostOf Qc mc ms free) (vx_Post XC mc ms free) := vx_backW (hh := hh) (bytes := bytes) (maxL := maxL) (ret := ret) hM hp.1 hrc hrs hfr hlo hws hcw (fun a' U hW => word_at hW (Or.inl (by first | rfl | simp [Cond.onTables, Cond.keeps, Cond.steady])) hini)
  obtain ⟨hx, hb, hml, ho, -⟩ := S
  intro T hT X
  rcases vx_callSX X hx (hh := hh) (bytes := bytes) (maxL := maxL) (ret := ret) ho hl hstt hini hcode hy hK hg (hsize.trans hml.symm) (argsL := As) (rest := rest) (fun sig h => hn.trans (hlen sig h)) hstack hW (by rw [hb]; exact hdg)
    (fun vm₁ hW₁ => ⟨hf.1, hf.2, hp.2 (T.setVm vm₁) hT hW₁⟩) with ⟨v, vm₁, ⟨U', l2, c2, s2⟩, hW₁, X', ⟨g', mk, t, L, e1, e2, hq, h1, hL, h2, h3⟩, st⟩ | ⟨q, vm₁, ⟨U', l2, c2, s2⟩, hW₁, X', ⟨g', mk, t, L, E, ce, e1, e2, hq, hce, hcv, hcl, h1, hL, h2, h3⟩, st⟩
  · dsimp only [Pt.U, Pt.locs, Pt.cells, Pt.slots] at X' e1 e2 h1 h2 h3 st
    subst h1; subst h2; subst h3
    exact Or.inl ⟨v, (T.setVm vm₁).calling g' mk As.toArray, t, U', L, hT, X', hL, e1, e2, hq, st⟩
  · dsimp only [Pt.U, Pt.locs, Pt.cells, Pt.slots] at X' e1 e2 h1 h2 h3 st hcl
    subst h1; subst h2; subst h3
    exact Or.inr ⟨q, (T.setVm vm₁).calling g' mk As.toArray, t, U', L, E, ce, hT, X', hL, e1, e2, hq, hce, hcv, vx_cls hW₁ hcl, st⟩
end
end VXH
theorem vx_ofWH {l : Launch} {y : MethodName} {ws ws' : List Cond} {rm : Room} {Pc : Array Value → State → Prop} {Qc : Array Value → State → Outcome → State → Prop} {XC : String → State → State → Prop} {mc ms : Nat} {free : Addr → Prop} {cc : ByteArray} {maxL : Nat} {ret : Option FieldType} {hh : List (Nat × Nat × Nat × Nat)}
    (hy : plainName y.cls = true) (hw : ws = Cond.codeWith y cc maxL ret hh :: ws')
    (body : ∀ p e s m args below meth c s₁, BodyLoose p l y (headSpec ws rm) cc maxL ret e s m args below meth c s₁ → c.maxLocals = maxL → Pc args s →
      W p l e (headSpec ws rm).room s m args below meth c s.heap [] 0 0 (vx_MQ below Qc XC args s mc ms free) (entryFrame m args maxL)) : vx_Met l y ws rm Pc Qc XC mc ms free := by
  refine MetFree.of_bodyS (code := cc) (maxLocals := maxL) (ret := ret) hy ?_ ?_
  · intro args s m h hn
    obtain ⟨m9, meth, c, hn9, h1, h2, h3, h4, -, h5, h6, -⟩ := Cond.codeWith_spec (atoms_spec (ws := ws) h _ (by rw [hw]; exact List.mem_cons_self))
    cases hn.symm.trans hn9
    exact ⟨meth, c, h1, h2, h3, h4, h5, h6⟩
  · intro p e s m args below meth c s₁ B hml hP _
    have hh0 : s₁.heap = s.heap := by rw [B.state]; rfl
    obtain ⟨t, a1, o, b1, b2, b3⟩ := body p e s m args below meth c s₁ B hml hP s₁ hh0 (Stand.of_body B)
    exact ⟨t, o, a1, b1, b2, b3⟩
/-! ===== END ===== -/
end
section
/-! ===== BEGIN printed: names, fields, word lists, decode rows ===== -/
def RX0 : String := "SpliceRoom$Knife"
def TX0 : u_T := fun k => match k with
  | 0 => ("SpliceRoom$Knife", "wentWell", "I", false)
  | 1 => ("SpliceRoom$Knife", "laid", "I", false)
  | 2 => ("SpliceRoom$Knife", "jams", "I", false)
  | 3 => ("SpliceRoom$Knife", "jamsInRow", "I", false)
  | 4 => ("SpliceRoom$Knife", "far", "I", false)
  | 5 => ("SpliceRoom$Knife", "told", "I", false)
  | _ => ("SpliceRoom$Knife", "grindings", "I", false)
def tyX0 : Nat → FieldType := fun k => match k with
  | 0 => .int
  | 1 => .int
  | 2 => .int
  | 3 => .int
  | 4 => .int
  | 5 => .int
  | _ => .int
abbrev wsX00 : List Cond := u_ws RX0 TX0 7
theorem nmX0 : ∀ a, a < 7 → ∀ b, b < 7 → a ≠ b → (TX0 a).2.1 ≠ (TX0 b).2.1 := by decide +kernel
theorem tyX0_ok : ∀ k, k < 7 → parseFieldDescriptor (TX0 k).2.2.1 = some (tyX0 k) := by decide +kernel
abbrev cX0_init : ByteArray := prog_2_method_1_code
def yX0_init : MethodName := ⟨RX0, "<init>", "()V"⟩
abbrev cX0_isBlunt : ByteArray := prog_2_method_2_code
def yX0_isBlunt : MethodName := ⟨RX0, "isBlunt", "()Z"⟩
abbrev cX0_sharpen : ByteArray := prog_2_method_3_code
def yX0_sharpen : MethodName := ⟨RX0, "sharpen", "()V"⟩
abbrev cX0_cut : ByteArray := prog_2_method_4_code
def yX0_cut : MethodName := ⟨RX0, "cut", "(LSpliceRoom$Reel;ILSpliceRoom$Reel;II)I"⟩
abbrev cX0_lay : ByteArray := prog_2_method_5_code
def yX0_lay : MethodName := ⟨RX0, "lay", "(LSpliceRoom$Reel;ILSpliceRoom$Reel;II)I"⟩
def RX1 : String := "SpliceRoom$Reel"
def TX1 : u_T := fun k => match k with
  | 0 => ("SpliceRoom$Reel", "kind", "I", true)
  | _ => ("SpliceRoom$Reel", "row", "[J", true)
def tyX1 : Nat → FieldType := fun k => match k with
  | 0 => .int
  | _ => .array .long
abbrev wsX10 : List Cond := u_ws RX1 TX1 2
theorem nmX1 : ∀ a, a < 2 → ∀ b, b < 2 → a ≠ b → (TX1 a).2.1 ≠ (TX1 b).2.1 := by decide +kernel
theorem tyX1_ok : ∀ k, k < 2 → parseFieldDescriptor (TX1 k).2.2.1 = some (tyX1 k) := by decide +kernel
abbrev cX1_init : ByteArray := prog_3_method_1_code
def yX1_init : MethodName := ⟨RX1, "<init>", "(II)V"⟩
abbrev cX1_holdsNumbers : ByteArray := prog_3_method_2_code
def yX1_holdsNumbers : MethodName := ⟨RX1, "holdsNumbers", "()Z"⟩
abbrev cX1_holdsCards : ByteArray := prog_3_method_3_code
def yX1_holdsCards : MethodName := ⟨RX1, "holdsCards", "()Z"⟩
abbrev cX1_isLike : ByteArray := prog_3_method_4_code
def yX1_isLike : MethodName := ⟨RX1, "isLike", "(LSpliceRoom$Reel;)Z"⟩
abbrev cX1_hasFrames : ByteArray := prog_3_method_5_code
def yX1_hasFrames : MethodName := ⟨RX1, "hasFrames", "(II)Z"⟩
abbrev cX1_takes : ByteArray := prog_3_method_6_code
def yX1_takes : MethodName := ⟨RX1, "takes", "(J)Z"⟩
def RX2 : String := "SpliceRoom"
def TX2 : u_T := fun k => match k with
  | 0 => ("SpliceRoom", "hooks", "[LSpliceRoom$Reel;", true)
  | 1 => ("SpliceRoom", "knife", "LSpliceRoom$Knife;", true)
  | 2 => ("SpliceRoom", "stepFrom", "[I", true)
  | 3 => ("SpliceRoom", "stepP", "[I", true)
  | 4 => ("SpliceRoom", "stepTo", "[I", true)
  | 5 => ("SpliceRoom", "stepQ", "[I", true)
  | 6 => ("SpliceRoom", "stepN", "[I", true)
  | _ => ("SpliceRoom", "steps", "I", false)
def tyX2 : Nat → FieldType := fun k => match k with
  | 0 => .array (.object "SpliceRoom$Reel")
  | 1 => .object "SpliceRoom$Knife"
  | 2 => .array .int
  | 3 => .array .int
  | 4 => .array .int
  | 5 => .array .int
  | 6 => .array .int
  | _ => .int
abbrev wsX20 : List Cond := u_ws RX2 TX2 8
theorem nmX2 : ∀ a, a < 8 → ∀ b, b < 8 → a ≠ b → (TX2 a).2.1 ≠ (TX2 b).2.1 := by decide +kernel
theorem tyX2_ok : ∀ k, k < 8 → parseFieldDescriptor (TX2 k).2.2.1 = some (tyX2 k) := by decide +kernel
abbrev cX2_init : ByteArray := prog_1_method_1_code
def yX2_init : MethodName := ⟨RX2, "<init>", "()V"⟩
abbrev cX2_wind : ByteArray := prog_1_method_2_code
def yX2_wind : MethodName := ⟨RX2, "wind", "(III)I"⟩
abbrev cX2_hang : ByteArray := prog_1_method_3_code
def yX2_hang : MethodName := ⟨RX2, "hang", "(II)I"⟩
abbrev cX2_twin : ByteArray := prog_1_method_4_code
def yX2_twin : MethodName := ⟨RX2, "twin", "(II)I"⟩
abbrev cX2_mark : ByteArray := prog_1_method_5_code
def yX2_mark : MethodName := ⟨RX2, "mark", "(IIJ)V"⟩
abbrev cX2_paste : ByteArray := prog_1_method_6_code
def yX2_paste : MethodName := ⟨RX2, "paste", "(IIIZ)Z"⟩
abbrev cX2_pull : ByteArray := prog_1_method_7_code
def yX2_pull : MethodName := ⟨RX2, "pull", "(II)Z"⟩
abbrev cX2_splice : ByteArray := prog_1_method_8_code
def yX2_splice : MethodName := ⟨RX2, "splice", "(IIIII)I"⟩
abbrev cX2_step : ByteArray := prog_1_method_9_code
def yX2_step : MethodName := ⟨RX2, "step", "(IIIII)I"⟩
abbrev cX2_play : ByteArray := prog_1_method_10_code
def yX2_play : MethodName := ⟨RX2, "play", "(Z)I"⟩
abbrev cX2_sweep : ByteArray := prog_1_method_11_code
def yX2_sweep : MethodName := ⟨RX2, "sweep", "()I"⟩
abbrev cX2_grind : ByteArray := prog_1_method_12_code
def yX2_grind : MethodName := ⟨RX2, "grind", "()I"⟩
abbrev cX2_frame : ByteArray := prog_1_method_13_code
def yX2_frame : MethodName := ⟨RX2, "frame", "(II)J"⟩
abbrev cX2_look : ByteArray := prog_1_method_14_code
def yX2_look : MethodName := ⟨RX2, "look", "(II)I"⟩
abbrev cX2_sum : ByteArray := prog_1_method_15_code
def yX2_sum : MethodName := ⟨RX2, "sum", "(I)J"⟩
abbrev cX2_count : ByteArray := prog_1_method_16_code
def yX2_count : MethodName := ⟨RX2, "count", "(I)I"⟩
abbrev cX2_requireHook : ByteArray := prog_1_method_17_code
def yX2_requireHook : MethodName := ⟨RX2, "requireHook", "(I)V"⟩
abbrev cX2_requireFrame : ByteArray := prog_1_method_18_code
def yX2_requireFrame : MethodName := ⟨RX2, "requireFrame", "(LSpliceRoom$Reel;I)V"⟩
abbrev cX2_requireSharpKnife : ByteArray := prog_1_method_19_code
def yX2_requireSharpKnife : MethodName := ⟨RX2, "requireSharpKnife", "()V"⟩
abbrev cX2_kindOn : ByteArray := prog_1_method_20_code
def yX2_kindOn : MethodName := ⟨RX2, "kindOn", "(I)I"⟩
abbrev cX2_framesOn : ByteArray := prog_1_method_21_code
def yX2_framesOn : MethodName := ⟨RX2, "framesOn", "(I)I"⟩
abbrev cX2_holdersOf : ByteArray := prog_1_method_22_code
def yX2_holdersOf : MethodName := ⟨RX2, "holdersOf", "(LSpliceRoom$Reel;)I"⟩
abbrev cX2_cutAsWritten : ByteArray := prog_1_method_23_code
def yX2_cutAsWritten : MethodName := ⟨RX2, "cutAsWritten", "(I)I"⟩
abbrev cX2_cutTurned : ByteArray := prog_1_method_24_code
def yX2_cutTurned : MethodName := ⟨RX2, "cutTurned", "(I)I"⟩
def RX3 : String := "SpliceRoomModel"
def TX3 : u_T := fun k => match k with
  | 0 => ("SpliceRoomModel", "on", "[I", true)
  | 1 => ("SpliceRoomModel", "kinds", "[I", true)
  | 2 => ("SpliceRoomModel", "sizes", "[I", true)
  | 3 => ("SpliceRoomModel", "frames", "[J", true)
  | 4 => ("SpliceRoomModel", "lifted", "[J", true)
  | 5 => ("SpliceRoomModel", "sheet", "[I", true)
  | 6 => ("SpliceRoomModel", "steps", "I", false)
  | 7 => ("SpliceRoomModel", "well", "I", false)
  | 8 => ("SpliceRoomModel", "laid", "I", false)
  | 9 => ("SpliceRoomModel", "jams", "I", false)
  | 10 => ("SpliceRoomModel", "inRow", "I", false)
  | 11 => ("SpliceRoomModel", "far", "I", false)
  | 12 => ("SpliceRoomModel", "told", "I", false)
  | 13 => ("SpliceRoomModel", "grindings", "I", false)
  | _ => ("SpliceRoomModel", "code", "I", false)
def tyX3 : Nat → FieldType := fun k => match k with
  | 0 => .array .int
  | 1 => .array .int
  | 2 => .array .int
  | 3 => .array .long
  | 4 => .array .long
  | 5 => .array .int
  | 6 => .int
  | 7 => .int
  | 8 => .int
  | 9 => .int
  | 10 => .int
  | 11 => .int
  | 12 => .int
  | 13 => .int
  | _ => .int
abbrev wsX30 : List Cond := u_ws RX3 TX3 15
theorem nmX3 : ∀ a, a < 15 → ∀ b, b < 15 → a ≠ b → (TX3 a).2.1 ≠ (TX3 b).2.1 := by decide +kernel
theorem tyX3_ok : ∀ k, k < 15 → parseFieldDescriptor (TX3 k).2.2.1 = some (tyX3 k) := by decide +kernel
abbrev cX3_init : ByteArray := prog_5_method_1_code
def yX3_init : MethodName := ⟨RX3, "<init>", "()V"⟩
abbrev cX3_thrown : ByteArray := prog_5_method_2_code
def yX3_thrown : MethodName := ⟨RX3, "thrown", "()I"⟩
abbrev cX3_in : ByteArray := prog_5_method_3_code
def yX3_in : MethodName := ⟨RX3, "in", "(III)Z"⟩
abbrev cX3_isHook : ByteArray := prog_5_method_4_code
def yX3_isHook : MethodName := ⟨RX3, "isHook", "(I)Z"⟩
abbrev cX3_kindAt : ByteArray := prog_5_method_5_code
def yX3_kindAt : MethodName := ⟨RX3, "kindAt", "(I)I"⟩
abbrev cX3_hasRow : ByteArray := prog_5_method_6_code
def yX3_hasRow : MethodName := ⟨RX3, "hasRow", "(I)Z"⟩
abbrev cX3_hasCards : ByteArray := prog_5_method_7_code
def yX3_hasCards : MethodName := ⟨RX3, "hasCards", "(I)Z"⟩
abbrev cX3_sizeAt : ByteArray := prog_5_method_8_code
def yX3_sizeAt : MethodName := ⟨RX3, "sizeAt", "(I)I"⟩
abbrev cX3_free : ByteArray := prog_5_method_9_code
def yX3_free : MethodName := ⟨RX3, "free", "()I"⟩
abbrev cX3_wind : ByteArray := prog_5_method_10_code
def yX3_wind : MethodName := ⟨RX3, "wind", "(III)I"⟩
abbrev cX3_hang : ByteArray := prog_5_method_11_code
def yX3_hang : MethodName := ⟨RX3, "hang", "(II)I"⟩
abbrev cX3_twin : ByteArray := prog_5_method_12_code
def yX3_twin : MethodName := ⟨RX3, "twin", "(II)I"⟩
abbrev cX3_mark : ByteArray := prog_5_method_13_code
def yX3_mark : MethodName := ⟨RX3, "mark", "(IIJ)V"⟩
abbrev cX3_cardCode : ByteArray := prog_5_method_14_code
def yX3_cardCode : MethodName := ⟨RX3, "cardCode", "(II)I"⟩
abbrev cX3_paste : ByteArray := prog_5_method_15_code
def yX3_paste : MethodName := ⟨RX3, "paste", "(IIIZ)Z"⟩
abbrev cX3_pull : ByteArray := prog_5_method_16_code
def yX3_pull : MethodName := ⟨RX3, "pull", "(II)Z"⟩
abbrev cX3_frame : ByteArray := prog_5_method_17_code
def yX3_frame : MethodName := ⟨RX3, "frame", "(II)J"⟩
abbrev cX3_against : ByteArray := prog_5_method_18_code
def yX3_against : MethodName := ⟨RX3, "against", "(IIIII)I"⟩
abbrev cX3_cut : ByteArray := prog_5_method_19_code
def yX3_cut : MethodName := ⟨RX3, "cut", "(IIIII)I"⟩
abbrev cX3_isBlunt : ByteArray := prog_5_method_20_code
def yX3_isBlunt : MethodName := ⟨RX3, "isBlunt", "()Z"⟩
abbrev cX3_splice : ByteArray := prog_5_method_21_code
def yX3_splice : MethodName := ⟨RX3, "splice", "(IIIII)I"⟩
abbrev cX3_step : ByteArray := prog_5_method_22_code
def yX3_step : MethodName := ⟨RX3, "step", "(IIIII)I"⟩
abbrev cX3_play : ByteArray := prog_5_method_23_code
def yX3_play : MethodName := ⟨RX3, "play", "(Z)I"⟩
abbrev cX3_sweep : ByteArray := prog_5_method_24_code
def yX3_sweep : MethodName := ⟨RX3, "sweep", "()I"⟩
abbrev cX3_grind : ByteArray := prog_5_method_25_code
def yX3_grind : MethodName := ⟨RX3, "grind", "()I"⟩
abbrev cX3_look : ByteArray := prog_5_method_26_code
def yX3_look : MethodName := ⟨RX3, "look", "(II)I"⟩
abbrev cX3_sum : ByteArray := prog_5_method_27_code
def yX3_sum : MethodName := ⟨RX3, "sum", "(I)J"⟩
abbrev cX3_count : ByteArray := prog_5_method_28_code
def yX3_count : MethodName := ⟨RX3, "count", "(I)I"⟩
def RJ0 : String := "java/lang/String"
def TJ0 : u_T := fun k => match k with
  | _ => ("", "", "", false)
def tyJ0 : Nat → FieldType := fun k => match k with
  | _ => .int
abbrev wsJ00 : List Cond := u_ws RJ0 TJ0 0
theorem nmJ0 : ∀ a, a < 0 → ∀ b, b < 0 → a ≠ b → (TJ0 a).2.1 ≠ (TJ0 b).2.1 := by decide +kernel
theorem tyJ0_ok : ∀ k, k < 0 → parseFieldDescriptor (TJ0 k).2.2.1 = some (tyJ0 k) := by decide +kernel
def RJ10 : String := "java/lang/System"
def TJ10 : u_T := fun k => match k with
  | _ => ("", "", "", false)
def tyJ10 : Nat → FieldType := fun k => match k with
  | _ => .int
abbrev wsJ100 : List Cond := u_ws RJ10 TJ10 0
theorem nmJ10 : ∀ a, a < 0 → ∀ b, b < 0 → a ≠ b → (TJ10 a).2.1 ≠ (TJ10 b).2.1 := by decide +kernel
theorem tyJ10_ok : ∀ k, k < 0 → parseFieldDescriptor (TJ10 k).2.2.1 = some (tyJ10 k) := by decide +kernel
def RL : String := "SpliceRoomLaw"
abbrev cL_wind : ByteArray := method_3_code
def yL_wind : MethodName := ⟨RL, "wind", "(LSpliceRoom;III[J)I"⟩
abbrev cL_hang : ByteArray := method_4_code
def yL_hang : MethodName := ⟨RL, "hang", "(LSpliceRoom;II[J)I"⟩
abbrev cL_twin : ByteArray := method_5_code
def yL_twin : MethodName := ⟨RL, "twin", "(LSpliceRoom;II[J)I"⟩
abbrev cL_mark : ByteArray := method_6_code
def yL_mark : MethodName := ⟨RL, "mark", "(LSpliceRoom;IIJ)I"⟩
abbrev cL_paste : ByteArray := method_7_code
def yL_paste : MethodName := ⟨RL, "paste", "(LSpliceRoom;IIIZ[J)I"⟩
abbrev cL_pull : ByteArray := method_8_code
def yL_pull : MethodName := ⟨RL, "pull", "(LSpliceRoom;II[J)I"⟩
abbrev cL_splice : ByteArray := method_9_code
def yL_splice : MethodName := ⟨RL, "splice", "(LSpliceRoom;IIIII[J)I"⟩
abbrev cL_step : ByteArray := method_10_code
def yL_step : MethodName := ⟨RL, "step", "(LSpliceRoom;IIIII[J)I"⟩
abbrev cL_play : ByteArray := method_11_code
def yL_play : MethodName := ⟨RL, "play", "(LSpliceRoom;Z[J)I"⟩
abbrev cL_grind : ByteArray := method_12_code
def yL_grind : MethodName := ⟨RL, "grind", "(LSpliceRoom;[J)I"⟩
abbrev cL_frame : ByteArray := method_13_code
def yL_frame : MethodName := ⟨RL, "frame", "(LSpliceRoom;II[J)I"⟩
abbrev cL_look : ByteArray := method_14_code
def yL_look : MethodName := ⟨RL, "look", "(LSpliceRoom;II[J)I"⟩
abbrev cL_sum : ByteArray := method_15_code
def yL_sum : MethodName := ⟨RL, "sum", "(LSpliceRoom;I[J)I"⟩
abbrev cL_count : ByteArray := method_16_code
def yL_count : MethodName := ⟨RL, "count", "(LSpliceRoom;I[J)I"⟩
abbrev cL_law : ByteArray := code
def yL_law : MethodName := ⟨RL, "law", "([I)Z"⟩
def wsX0_init : List Cond := .code yX0_init cX0_init 1 none :: ([.methodLink RX0 3 objectInit, .instanceMethod objectInit, .code objectInit ⟨#[0xb1]⟩ 1 none])
def wsX0_isBlunt : List Cond := .code yX0_isBlunt cX0_isBlunt 1 (some .boolean) :: ([.fieldLink RX0 9 "SpliceRoom$Knife" "jamsInRow" "I"] ++ wsX00)
def wsX0_sharpen : List Cond := .code yX0_sharpen cX0_sharpen 1 none :: ([.fieldLink RX0 9 "SpliceRoom$Knife" "jamsInRow" "I", .fieldLink RX0 15 "SpliceRoom$Knife" "grindings" "I"] ++ wsX00)
def wsX1_holdsCards : List Cond := .code yX1_holdsCards cX1_holdsCards 1 (some .boolean) :: ([.fieldLink RX1 9 "SpliceRoom$Reel" "kind" "I"] ++ wsX10)
def wsX1_holdsNumbers : List Cond := .code yX1_holdsNumbers cX1_holdsNumbers 1 (some .boolean) :: ([.fieldLink RX1 9 "SpliceRoom$Reel" "kind" "I"] ++ wsX10)
def wsX1_isLike : List Cond := .code yX1_isLike cX1_isLike 2 (some .boolean) :: ([.fieldLink RX1 9 "SpliceRoom$Reel" "kind" "I", .methodLink RX1 21 yX1_holdsCards, .instanceMethod yX1_holdsCards, .selects RX1 yX1_holdsCards yX1_holdsCards, .initialized RX1, .code yX1_holdsCards cX1_holdsCards 1 (some .boolean), .methodLink RX1 25 yX1_holdsNumbers, .instanceMethod yX1_holdsNumbers, .selects RX1 yX1_holdsNumbers yX1_holdsNumbers, .code yX1_holdsNumbers cX1_holdsNumbers 1 (some .boolean)] ++ wsX10)
def wsX1_hasFrames : List Cond := .code yX1_hasFrames cX1_hasFrames 3 (some .boolean) :: ([.fieldLink RX1 15 "SpliceRoom$Reel" "row" "[J"] ++ wsX10)
def wsX1_takes : List Cond := .code yX1_takes cX1_takes 3 (some .boolean) :: ([.fieldLink RX1 9 "SpliceRoom$Reel" "kind" "I", .constantLong RX1 19 (-1), .constantLong RX1 28 (1000)] ++ wsX10)
def wsX0_lay_r1 : List Cond := [Cond.fieldLink RX0 18 "SpliceRoom$Knife" "far" "I", Cond.methodLink RX0 55 arraycopyName, Cond.native arraycopyName, Cond.static arraycopyName, Cond.initialized "java/lang/System", Cond.methodLink RX0 37 yX1_isLike, Cond.instanceMethod yX1_isLike, Cond.selects RX1 yX1_isLike yX1_isLike, Cond.initialized RX1, Cond.code yX1_isLike cX1_isLike 2 (some .boolean), Cond.fieldLink RX1 9 "SpliceRoom$Reel" "kind" "I", Cond.methodLink RX1 21 yX1_holdsCards, Cond.instanceMethod yX1_holdsCards, Cond.selects RX1 yX1_holdsCards yX1_holdsCards, Cond.code yX1_holdsCards cX1_holdsCards 1 (some .boolean), Cond.methodLink RX1 25 yX1_holdsNumbers, Cond.instanceMethod yX1_holdsNumbers, Cond.selects RX1 yX1_holdsNumbers yX1_holdsNumbers, Cond.code yX1_holdsNumbers cX1_holdsNumbers 1 (some .boolean), Cond.methodLink RX0 43 yX1_hasFrames, Cond.instanceMethod yX1_hasFrames, Cond.selects RX1 yX1_hasFrames yX1_hasFrames, Cond.code yX1_hasFrames cX1_hasFrames 3 (some .boolean), Cond.fieldLink RX1 15 "SpliceRoom$Reel" "row" "[J"]
def wsX0_lay_r2 : List Cond := [Cond.methodLink RX0 51 yX1_takes, Cond.instanceMethod yX1_takes, Cond.selects RX1 yX1_takes yX1_takes, Cond.code yX1_takes cX1_takes 3 (some .boolean), Cond.constantLong RX1 19 (-1), Cond.constantLong RX1 28 (1000)]
def wsX0_lay : List Cond := .code yX0_lay cX0_lay 6 (some .int) :: ((wsX0_lay_r1 ++ wsX0_lay_r2) ++ wsX00 ++ wsX10)
def wsX0_cut_r1 : List Cond := [Cond.fieldLink RX0 18 "SpliceRoom$Knife" "far" "I", Cond.fieldLink RX0 25 "SpliceRoom$Knife" "told" "I", Cond.fieldLink RX0 28 "SpliceRoom$Knife" "laid" "I", Cond.fieldLink RX0 31 "SpliceRoom$Knife" "jams" "I", Cond.fieldLink RX0 9 "SpliceRoom$Knife" "jamsInRow" "I", Cond.fieldLink RX0 34 "SpliceRoom$Knife" "wentWell" "I", Cond.methodLink RX0 21 yX0_lay, Cond.instanceMethod yX0_lay, Cond.selects RX0 yX0_lay yX0_lay, Cond.initialized RX0, Cond.code yX0_lay cX0_lay 6 (some .int), Cond.methodLink RX0 55 arraycopyName, Cond.native arraycopyName, Cond.static arraycopyName, Cond.initialized "java/lang/System", Cond.methodLink RX0 37 yX1_isLike, Cond.instanceMethod yX1_isLike, Cond.selects RX1 yX1_isLike yX1_isLike, Cond.initialized RX1, Cond.code yX1_isLike cX1_isLike 2 (some .boolean), Cond.fieldLink RX1 9 "SpliceRoom$Reel" "kind" "I", Cond.methodLink RX1 21 yX1_holdsCards, Cond.instanceMethod yX1_holdsCards, Cond.selects RX1 yX1_holdsCards yX1_holdsCards]
def wsX0_cut_r2 : List Cond := [Cond.code yX1_holdsCards cX1_holdsCards 1 (some .boolean), Cond.methodLink RX1 25 yX1_holdsNumbers, Cond.instanceMethod yX1_holdsNumbers, Cond.selects RX1 yX1_holdsNumbers yX1_holdsNumbers, Cond.code yX1_holdsNumbers cX1_holdsNumbers 1 (some .boolean), Cond.methodLink RX0 43 yX1_hasFrames, Cond.instanceMethod yX1_hasFrames, Cond.selects RX1 yX1_hasFrames yX1_hasFrames, Cond.code yX1_hasFrames cX1_hasFrames 3 (some .boolean), Cond.fieldLink RX1 15 "SpliceRoom$Reel" "row" "[J", Cond.methodLink RX0 51 yX1_takes, Cond.instanceMethod yX1_takes, Cond.selects RX1 yX1_takes yX1_takes, Cond.code yX1_takes cX1_takes 3 (some .boolean), Cond.constantLong RX1 19 (-1), Cond.constantLong RX1 28 (1000)]
def wsX0_cut : List Cond := .code yX0_cut cX0_cut 6 (some .int) :: ((wsX0_cut_r1 ++ wsX0_cut_r2) ++ wsX00 ++ wsX10)
def wsX1_init : List Cond := .code yX1_init cX1_init 4 none :: ([.methodLink RX1 3 objectInit, .instanceMethod objectInit, .code objectInit ⟨#[0xb1]⟩ 1 none, .fieldLink RX1 9 "SpliceRoom$Reel" "kind" "I", .arrayClass .long, .fieldLink RX1 15 "SpliceRoom$Reel" "row" "[J", .constantLong RX1 19 (-1)] ++ wsX10)
def wsX2_init : List Cond := .code yX2_init cX2_init 1 none :: ([.methodLink RX2 1 objectInit, .instanceMethod objectInit, .code objectInit ⟨#[0xb1]⟩ 1 none, .classLink RX2 9 RX1, .fieldLink RX2 11 "SpliceRoom" "hooks" "[LSpliceRoom$Reel;", .classLink RX2 15 RX0, .instantiable RX0 7, .initialized RX0, .fieldLink RX2 18 "SpliceRoom" "knife" "LSpliceRoom$Knife;", .arrayClass .int, .fieldLink RX2 22 "SpliceRoom" "stepFrom" "[I", .fieldLink RX2 26 "SpliceRoom" "stepP" "[I", .fieldLink RX2 29 "SpliceRoom" "stepTo" "[I", .fieldLink RX2 32 "SpliceRoom" "stepQ" "[I", .fieldLink RX2 35 "SpliceRoom" "stepN" "[I", .fieldLink RX2 38 "SpliceRoom" "steps" "I", .instanceMethod yX0_init, .code yX0_init cX0_init 1 none, .methodLink RX0 3 objectInit] ++ wsX20 ++ wsX00)
def wsX2_requireHook : List Cond := .code yX2_requireHook cX2_requireHook 1 none :: ([.classLink RX2 46 "java/lang/IllegalArgumentException", .initialized "java/lang/IllegalArgumentException"] ++ (vx_atS RX2 50 "java/lang/IllegalArgumentException" ["java/lang/RuntimeException", "java/lang/Exception"]).filter goodWord)
def wsX2_wind : List Cond := .code yX2_wind cX2_wind 4 (some .int) :: ([.classLink RX2 46 "java/lang/IllegalArgumentException", .initialized "java/lang/IllegalArgumentException", .fieldLink RX2 11 "SpliceRoom" "hooks" "[LSpliceRoom$Reel;", .classLink RX2 9 RX1, .instantiable RX1 2, .initialized RX1, .methodLink RX2 42 yX2_requireHook, .static yX2_requireHook, .initialized RX2, .code yX2_requireHook cX2_requireHook 1 none, .methodLink RX2 53 yX1_init, .instanceMethod yX1_init, .code yX1_init cX1_init 4 none, .methodLink RX1 3 objectInit, .instanceMethod objectInit, .code objectInit ⟨#[0xb1]⟩ 1 none, .fieldLink RX1 9 "SpliceRoom$Reel" "kind" "I", .arrayClass .long, .fieldLink RX1 15 "SpliceRoom$Reel" "row" "[J", .constantLong RX1 19 (-1)] ++ wsX20 ++ wsX10 ++ (vx_atS RX2 50 "java/lang/IllegalArgumentException" ["java/lang/RuntimeException", "java/lang/Exception"]).filter goodWord)
def wsX2_kindOn : List Cond := .code yX2_kindOn cX2_kindOn 3 (some .int) :: ([.fieldLink RX2 11 "SpliceRoom" "hooks" "[LSpliceRoom$Reel;"] ++ wsX20 ++ wsX10)
def wsX2_hang : List Cond := .code yX2_hang cX2_hang 3 (some .int) :: ([.fieldLink RX2 11 "SpliceRoom" "hooks" "[LSpliceRoom$Reel;", .methodLink RX2 42 yX2_requireHook, .static yX2_requireHook, .initialized RX2, .code yX2_requireHook cX2_requireHook 1 none, .classLink RX2 46 "java/lang/IllegalArgumentException", .initialized "java/lang/IllegalArgumentException", .methodLink RX2 58 yX2_kindOn, .instanceMethod yX2_kindOn, .selects RX2 yX2_kindOn yX2_kindOn, .code yX2_kindOn cX2_kindOn 3 (some .int)] ++ wsX20 ++ wsX10 ++ (vx_atS RX2 50 "java/lang/IllegalArgumentException" ["java/lang/RuntimeException", "java/lang/Exception"]).filter goodWord)
def wsX2_twin_r1 : List Cond := [Cond.classLink RX2 65 "java/lang/IllegalStateException", Cond.initialized "java/lang/IllegalStateException", Cond.fieldLink RX2 11 "SpliceRoom" "hooks" "[LSpliceRoom$Reel;", Cond.classLink RX2 9 RX1, Cond.instantiable RX1 2, Cond.initialized RX1, Cond.methodLink RX2 74 arraycopyName, Cond.native arraycopyName, Cond.static arraycopyName, Cond.initialized "java/lang/System", Cond.methodLink RX2 42 yX2_requireHook, Cond.static yX2_requireHook, Cond.initialized RX2, Cond.code yX2_requireHook cX2_requireHook 1 none, Cond.classLink RX2 46 "java/lang/IllegalArgumentException", Cond.initialized "java/lang/IllegalArgumentException", Cond.methodLink RX2 53 yX1_init, Cond.instanceMethod yX1_init, Cond.code yX1_init cX1_init 4 none, Cond.methodLink RX1 3 objectInit, Cond.instanceMethod objectInit, Cond.code objectInit ⟨#[0xb1]⟩ 1 none, Cond.fieldLink RX1 9 "SpliceRoom$Reel" "kind" "I", Cond.arrayClass .long]
def wsX2_twin_r2 : List Cond := [Cond.fieldLink RX1 15 "SpliceRoom$Reel" "row" "[J", Cond.constantLong RX1 19 (-1)]
def wsX2_twin : List Cond := .code yX2_twin cX2_twin 5 (some .int) :: ((wsX2_twin_r1 ++ wsX2_twin_r2) ++ wsX20 ++ wsX10 ++ (vx_atS RX2 69 "java/lang/IllegalStateException" ["java/lang/RuntimeException", "java/lang/Exception"]).filter goodWord ++ (vx_atS RX2 50 "java/lang/IllegalArgumentException" ["java/lang/RuntimeException", "java/lang/Exception"]).filter goodWord)
def wsX2_requireFrame : List Cond := .code yX2_requireFrame cX2_requireFrame 2 none :: ([.classLink RX2 164 "java/lang/IndexOutOfBoundsException", .initialized "java/lang/IndexOutOfBoundsException"] ++ wsX10 ++ (vx_atS RX2 168 "java/lang/IndexOutOfBoundsException" ["java/lang/RuntimeException", "java/lang/Exception"]).filter goodWord)
def wsX2_mark : List Cond := .code yX2_mark cX2_mark 6 none :: ([.classLink RX2 65 "java/lang/IllegalStateException", .initialized "java/lang/IllegalStateException", .fieldLink RX2 11 "SpliceRoom" "hooks" "[LSpliceRoom$Reel;", .methodLink RX2 42 yX2_requireHook, .static yX2_requireHook, .initialized RX2, .code yX2_requireHook cX2_requireHook 1 none, .classLink RX2 46 "java/lang/IllegalArgumentException", .initialized "java/lang/IllegalArgumentException", .methodLink RX2 80 yX1_holdsNumbers, .instanceMethod yX1_holdsNumbers, .selects RX1 yX1_holdsNumbers yX1_holdsNumbers, .initialized RX1, .code yX1_holdsNumbers cX1_holdsNumbers 1 (some .boolean), .fieldLink RX1 9 "SpliceRoom$Reel" "kind" "I", .methodLink RX2 86 yX2_requireFrame, .static yX2_requireFrame, .code yX2_requireFrame cX2_requireFrame 2 none, .classLink RX2 164 "java/lang/IndexOutOfBoundsException", .initialized "java/lang/IndexOutOfBoundsException"] ++ wsX20 ++ wsX10 ++ (vx_atS RX2 69 "java/lang/IllegalStateException" ["java/lang/RuntimeException", "java/lang/Exception"]).filter goodWord ++ (vx_atS RX2 50 "java/lang/IllegalArgumentException" ["java/lang/RuntimeException", "java/lang/Exception"]).filter goodWord ++ (vx_atS RX2 168 "java/lang/IndexOutOfBoundsException" ["java/lang/RuntimeException", "java/lang/Exception"]).filter goodWord)
def wsX2_paste_r1 : List Cond := [Cond.classLink RX2 46 "java/lang/IllegalArgumentException", Cond.initialized "java/lang/IllegalArgumentException", Cond.classLink RX2 65 "java/lang/IllegalStateException", Cond.initialized "java/lang/IllegalStateException", Cond.fieldLink RX2 11 "SpliceRoom" "hooks" "[LSpliceRoom$Reel;", Cond.methodLink RX2 42 yX2_requireHook, Cond.static yX2_requireHook, Cond.initialized RX2, Cond.code yX2_requireHook cX2_requireHook 1 none, Cond.methodLink RX2 92 yX1_holdsCards, Cond.instanceMethod yX1_holdsCards, Cond.selects RX1 yX1_holdsCards yX1_holdsCards, Cond.initialized RX1, Cond.code yX1_holdsCards cX1_holdsCards 1 (some .boolean), Cond.fieldLink RX1 9 "SpliceRoom$Reel" "kind" "I", Cond.methodLink RX2 86 yX2_requireFrame, Cond.static yX2_requireFrame, Cond.code yX2_requireFrame cX2_requireFrame 2 none, Cond.classLink RX2 164 "java/lang/IndexOutOfBoundsException", Cond.initialized "java/lang/IndexOutOfBoundsException", Cond.methodLink RX2 97 yX1_takes, Cond.instanceMethod yX1_takes, Cond.selects RX1 yX1_takes yX1_takes, Cond.code yX1_takes cX1_takes 3 (some .boolean)]
def wsX2_paste_r2 : List Cond := [Cond.constantLong RX1 19 (-1), Cond.constantLong RX1 28 (1000)]
def wsX2_paste : List Cond := .code yX2_paste cX2_paste 8 (some .boolean) :: ((wsX2_paste_r1 ++ wsX2_paste_r2) ++ wsX20 ++ wsX10 ++ (vx_atS RX2 50 "java/lang/IllegalArgumentException" ["java/lang/RuntimeException", "java/lang/Exception"]).filter goodWord ++ (vx_atS RX2 69 "java/lang/IllegalStateException" ["java/lang/RuntimeException", "java/lang/Exception"]).filter goodWord ++ (vx_atS RX2 168 "java/lang/IndexOutOfBoundsException" ["java/lang/RuntimeException", "java/lang/Exception"]).filter goodWord)
def wsX2_pull : List Cond := .code yX2_pull cX2_pull 5 (some .boolean) :: ([.classLink RX2 65 "java/lang/IllegalStateException", .initialized "java/lang/IllegalStateException", .fieldLink RX2 11 "SpliceRoom" "hooks" "[LSpliceRoom$Reel;", .constantLong RX2 101 (-1), .methodLink RX2 42 yX2_requireHook, .static yX2_requireHook, .initialized RX2, .code yX2_requireHook cX2_requireHook 1 none, .classLink RX2 46 "java/lang/IllegalArgumentException", .initialized "java/lang/IllegalArgumentException", .methodLink RX2 92 yX1_holdsCards, .instanceMethod yX1_holdsCards, .selects RX1 yX1_holdsCards yX1_holdsCards, .initialized RX1, .code yX1_holdsCards cX1_holdsCards 1 (some .boolean), .fieldLink RX1 9 "SpliceRoom$Reel" "kind" "I", .methodLink RX2 86 yX2_requireFrame, .static yX2_requireFrame, .code yX2_requireFrame cX2_requireFrame 2 none, .classLink RX2 164 "java/lang/IndexOutOfBoundsException", .initialized "java/lang/IndexOutOfBoundsException"] ++ wsX20 ++ wsX10 ++ (vx_atS RX2 69 "java/lang/IllegalStateException" ["java/lang/RuntimeException", "java/lang/Exception"]).filter goodWord ++ (vx_atS RX2 50 "java/lang/IllegalArgumentException" ["java/lang/RuntimeException", "java/lang/Exception"]).filter goodWord ++ (vx_atS RX2 168 "java/lang/IndexOutOfBoundsException" ["java/lang/RuntimeException", "java/lang/Exception"]).filter goodWord)
def wsX2_requireSharpKnife : List Cond := .code yX2_requireSharpKnife cX2_requireSharpKnife 1 none :: ([.classLink RX2 65 "java/lang/IllegalStateException", .initialized "java/lang/IllegalStateException", .fieldLink RX2 18 "SpliceRoom" "knife" "LSpliceRoom$Knife;", .methodLink RX2 118 yX0_isBlunt, .instanceMethod yX0_isBlunt, .selects RX0 yX0_isBlunt yX0_isBlunt, .initialized RX0, .code yX0_isBlunt cX0_isBlunt 1 (some .boolean), .fieldLink RX0 9 "SpliceRoom$Knife" "jamsInRow" "I"] ++ wsX20 ++ wsX00 ++ (vx_atS RX2 69 "java/lang/IllegalStateException" ["java/lang/RuntimeException", "java/lang/Exception"]).filter goodWord)
def wsX2_splice_r1 : List Cond := [Cond.fieldLink RX2 18 "SpliceRoom" "knife" "LSpliceRoom$Knife;", Cond.fieldLink RX2 11 "SpliceRoom" "hooks" "[LSpliceRoom$Reel;", Cond.methodLink RX2 42 yX2_requireHook, Cond.static yX2_requireHook, Cond.initialized RX2, Cond.code yX2_requireHook cX2_requireHook 1 none, Cond.classLink RX2 46 "java/lang/IllegalArgumentException", Cond.initialized "java/lang/IllegalArgumentException", Cond.methodLink RX2 103 yX2_requireSharpKnife, Cond.instanceMethod yX2_requireSharpKnife, Cond.selects RX2 yX2_requireSharpKnife yX2_requireSharpKnife, Cond.code yX2_requireSharpKnife cX2_requireSharpKnife 1 none, Cond.classLink RX2 65 "java/lang/IllegalStateException", Cond.initialized "java/lang/IllegalStateException", Cond.methodLink RX2 118 yX0_isBlunt, Cond.instanceMethod yX0_isBlunt, Cond.selects RX0 yX0_isBlunt yX0_isBlunt, Cond.initialized RX0, Cond.code yX0_isBlunt cX0_isBlunt 1 (some .boolean), Cond.fieldLink RX0 9 "SpliceRoom$Knife" "jamsInRow" "I", Cond.methodLink RX2 106 yX0_cut, Cond.instanceMethod yX0_cut, Cond.selects RX0 yX0_cut yX0_cut, Cond.code yX0_cut cX0_cut 6 (some .int)]
def wsX2_splice_r2 : List Cond := [Cond.fieldLink RX0 18 "SpliceRoom$Knife" "far" "I", Cond.fieldLink RX0 25 "SpliceRoom$Knife" "told" "I", Cond.fieldLink RX0 28 "SpliceRoom$Knife" "laid" "I", Cond.fieldLink RX0 31 "SpliceRoom$Knife" "jams" "I", Cond.fieldLink RX0 34 "SpliceRoom$Knife" "wentWell" "I", Cond.methodLink RX0 21 yX0_lay, Cond.instanceMethod yX0_lay, Cond.selects RX0 yX0_lay yX0_lay, Cond.code yX0_lay cX0_lay 6 (some .int), Cond.methodLink RX0 55 arraycopyName, Cond.native arraycopyName, Cond.static arraycopyName, Cond.initialized "java/lang/System", Cond.methodLink RX0 37 yX1_isLike, Cond.instanceMethod yX1_isLike, Cond.selects RX1 yX1_isLike yX1_isLike, Cond.initialized RX1, Cond.code yX1_isLike cX1_isLike 2 (some .boolean), Cond.fieldLink RX1 9 "SpliceRoom$Reel" "kind" "I", Cond.methodLink RX1 21 yX1_holdsCards, Cond.instanceMethod yX1_holdsCards, Cond.selects RX1 yX1_holdsCards yX1_holdsCards, Cond.code yX1_holdsCards cX1_holdsCards 1 (some .boolean), Cond.methodLink RX1 25 yX1_holdsNumbers]
def wsX2_splice_r3 : List Cond := [Cond.instanceMethod yX1_holdsNumbers, Cond.selects RX1 yX1_holdsNumbers yX1_holdsNumbers, Cond.code yX1_holdsNumbers cX1_holdsNumbers 1 (some .boolean), Cond.methodLink RX0 43 yX1_hasFrames, Cond.instanceMethod yX1_hasFrames, Cond.selects RX1 yX1_hasFrames yX1_hasFrames, Cond.code yX1_hasFrames cX1_hasFrames 3 (some .boolean), Cond.fieldLink RX1 15 "SpliceRoom$Reel" "row" "[J", Cond.methodLink RX0 51 yX1_takes, Cond.instanceMethod yX1_takes, Cond.selects RX1 yX1_takes yX1_takes, Cond.code yX1_takes cX1_takes 3 (some .boolean), Cond.constantLong RX1 19 (-1), Cond.constantLong RX1 28 (1000)]
def wsX2_splice : List Cond := .code yX2_splice cX2_splice 6 (some .int) :: ((wsX2_splice_r1 ++ (wsX2_splice_r2 ++ wsX2_splice_r3)) ++ wsX20 ++ wsX00 ++ wsX10 ++ (vx_atS RX2 50 "java/lang/IllegalArgumentException" ["java/lang/RuntimeException", "java/lang/Exception"]).filter goodWord ++ (vx_atS RX2 69 "java/lang/IllegalStateException" ["java/lang/RuntimeException", "java/lang/Exception"]).filter goodWord)
def wsX2_step : List Cond := .code yX2_step cX2_step 6 (some .int) :: ([.classLink RX2 65 "java/lang/IllegalStateException", .initialized "java/lang/IllegalStateException", .fieldLink RX2 38 "SpliceRoom" "steps" "I", .fieldLink RX2 22 "SpliceRoom" "stepFrom" "[I", .fieldLink RX2 26 "SpliceRoom" "stepP" "[I", .fieldLink RX2 29 "SpliceRoom" "stepTo" "[I", .fieldLink RX2 32 "SpliceRoom" "stepQ" "[I", .fieldLink RX2 35 "SpliceRoom" "stepN" "[I", .methodLink RX2 42 yX2_requireHook, .static yX2_requireHook, .initialized RX2, .code yX2_requireHook cX2_requireHook 1 none, .classLink RX2 46 "java/lang/IllegalArgumentException", .initialized "java/lang/IllegalArgumentException"] ++ wsX20 ++ (vx_atS RX2 69 "java/lang/IllegalStateException" ["java/lang/RuntimeException", "java/lang/Exception"]).filter goodWord ++ (vx_atS RX2 50 "java/lang/IllegalArgumentException" ["java/lang/RuntimeException", "java/lang/Exception"]).filter goodWord)
def wsX2_cutTurned_r1 : List Cond := [Cond.fieldLink RX2 18 "SpliceRoom" "knife" "LSpliceRoom$Knife;", Cond.fieldLink RX2 11 "SpliceRoom" "hooks" "[LSpliceRoom$Reel;", Cond.fieldLink RX2 29 "SpliceRoom" "stepTo" "[I", Cond.fieldLink RX2 32 "SpliceRoom" "stepQ" "[I", Cond.fieldLink RX2 22 "SpliceRoom" "stepFrom" "[I", Cond.fieldLink RX2 26 "SpliceRoom" "stepP" "[I", Cond.fieldLink RX2 35 "SpliceRoom" "stepN" "[I", Cond.methodLink RX2 106 yX0_cut, Cond.instanceMethod yX0_cut, Cond.selects RX0 yX0_cut yX0_cut, Cond.initialized RX0, Cond.code yX0_cut cX0_cut 6 (some .int), Cond.fieldLink RX0 18 "SpliceRoom$Knife" "far" "I", Cond.fieldLink RX0 25 "SpliceRoom$Knife" "told" "I", Cond.fieldLink RX0 28 "SpliceRoom$Knife" "laid" "I", Cond.fieldLink RX0 31 "SpliceRoom$Knife" "jams" "I", Cond.fieldLink RX0 9 "SpliceRoom$Knife" "jamsInRow" "I", Cond.fieldLink RX0 34 "SpliceRoom$Knife" "wentWell" "I", Cond.methodLink RX0 21 yX0_lay, Cond.instanceMethod yX0_lay, Cond.selects RX0 yX0_lay yX0_lay, Cond.code yX0_lay cX0_lay 6 (some .int), Cond.methodLink RX0 55 arraycopyName, Cond.native arraycopyName]
def wsX2_cutTurned_r2 : List Cond := [Cond.static arraycopyName, Cond.initialized "java/lang/System", Cond.methodLink RX0 37 yX1_isLike, Cond.instanceMethod yX1_isLike, Cond.selects RX1 yX1_isLike yX1_isLike, Cond.initialized RX1, Cond.code yX1_isLike cX1_isLike 2 (some .boolean), Cond.fieldLink RX1 9 "SpliceRoom$Reel" "kind" "I", Cond.methodLink RX1 21 yX1_holdsCards, Cond.instanceMethod yX1_holdsCards, Cond.selects RX1 yX1_holdsCards yX1_holdsCards, Cond.code yX1_holdsCards cX1_holdsCards 1 (some .boolean), Cond.methodLink RX1 25 yX1_holdsNumbers, Cond.instanceMethod yX1_holdsNumbers, Cond.selects RX1 yX1_holdsNumbers yX1_holdsNumbers, Cond.code yX1_holdsNumbers cX1_holdsNumbers 1 (some .boolean), Cond.methodLink RX0 43 yX1_hasFrames, Cond.instanceMethod yX1_hasFrames, Cond.selects RX1 yX1_hasFrames yX1_hasFrames, Cond.code yX1_hasFrames cX1_hasFrames 3 (some .boolean), Cond.fieldLink RX1 15 "SpliceRoom$Reel" "row" "[J", Cond.methodLink RX0 51 yX1_takes, Cond.instanceMethod yX1_takes, Cond.selects RX1 yX1_takes yX1_takes]
def wsX2_cutTurned_r3 : List Cond := [Cond.code yX1_takes cX1_takes 3 (some .boolean), Cond.constantLong RX1 19 (-1), Cond.constantLong RX1 28 (1000)]
def wsX2_cutTurned : List Cond := .code yX2_cutTurned cX2_cutTurned 2 (some .int) :: ((wsX2_cutTurned_r1 ++ (wsX2_cutTurned_r2 ++ wsX2_cutTurned_r3)) ++ wsX20 ++ wsX00 ++ wsX10)
def wsX2_cutAsWritten_r1 : List Cond := [Cond.fieldLink RX2 18 "SpliceRoom" "knife" "LSpliceRoom$Knife;", Cond.fieldLink RX2 11 "SpliceRoom" "hooks" "[LSpliceRoom$Reel;", Cond.fieldLink RX2 22 "SpliceRoom" "stepFrom" "[I", Cond.fieldLink RX2 26 "SpliceRoom" "stepP" "[I", Cond.fieldLink RX2 29 "SpliceRoom" "stepTo" "[I", Cond.fieldLink RX2 32 "SpliceRoom" "stepQ" "[I", Cond.fieldLink RX2 35 "SpliceRoom" "stepN" "[I", Cond.methodLink RX2 106 yX0_cut, Cond.instanceMethod yX0_cut, Cond.selects RX0 yX0_cut yX0_cut, Cond.initialized RX0, Cond.code yX0_cut cX0_cut 6 (some .int), Cond.fieldLink RX0 18 "SpliceRoom$Knife" "far" "I", Cond.fieldLink RX0 25 "SpliceRoom$Knife" "told" "I", Cond.fieldLink RX0 28 "SpliceRoom$Knife" "laid" "I", Cond.fieldLink RX0 31 "SpliceRoom$Knife" "jams" "I", Cond.fieldLink RX0 9 "SpliceRoom$Knife" "jamsInRow" "I", Cond.fieldLink RX0 34 "SpliceRoom$Knife" "wentWell" "I", Cond.methodLink RX0 21 yX0_lay, Cond.instanceMethod yX0_lay, Cond.selects RX0 yX0_lay yX0_lay, Cond.code yX0_lay cX0_lay 6 (some .int), Cond.methodLink RX0 55 arraycopyName, Cond.native arraycopyName]
def wsX2_cutAsWritten_r2 : List Cond := [Cond.static arraycopyName, Cond.initialized "java/lang/System", Cond.methodLink RX0 37 yX1_isLike, Cond.instanceMethod yX1_isLike, Cond.selects RX1 yX1_isLike yX1_isLike, Cond.initialized RX1, Cond.code yX1_isLike cX1_isLike 2 (some .boolean), Cond.fieldLink RX1 9 "SpliceRoom$Reel" "kind" "I", Cond.methodLink RX1 21 yX1_holdsCards, Cond.instanceMethod yX1_holdsCards, Cond.selects RX1 yX1_holdsCards yX1_holdsCards, Cond.code yX1_holdsCards cX1_holdsCards 1 (some .boolean), Cond.methodLink RX1 25 yX1_holdsNumbers, Cond.instanceMethod yX1_holdsNumbers, Cond.selects RX1 yX1_holdsNumbers yX1_holdsNumbers, Cond.code yX1_holdsNumbers cX1_holdsNumbers 1 (some .boolean), Cond.methodLink RX0 43 yX1_hasFrames, Cond.instanceMethod yX1_hasFrames, Cond.selects RX1 yX1_hasFrames yX1_hasFrames, Cond.code yX1_hasFrames cX1_hasFrames 3 (some .boolean), Cond.fieldLink RX1 15 "SpliceRoom$Reel" "row" "[J", Cond.methodLink RX0 51 yX1_takes, Cond.instanceMethod yX1_takes, Cond.selects RX1 yX1_takes yX1_takes]
def wsX2_cutAsWritten_r3 : List Cond := [Cond.code yX1_takes cX1_takes 3 (some .boolean), Cond.constantLong RX1 19 (-1), Cond.constantLong RX1 28 (1000)]
def wsX2_cutAsWritten : List Cond := .code yX2_cutAsWritten cX2_cutAsWritten 2 (some .int) :: ((wsX2_cutAsWritten_r1 ++ (wsX2_cutAsWritten_r2 ++ wsX2_cutAsWritten_r3)) ++ wsX20 ++ wsX00 ++ wsX10)
def wsX2_play_r1 : List Cond := [Cond.fieldLink RX2 38 "SpliceRoom" "steps" "I", Cond.methodLink RX2 103 yX2_requireSharpKnife, Cond.instanceMethod yX2_requireSharpKnife, Cond.selects RX2 yX2_requireSharpKnife yX2_requireSharpKnife, Cond.initialized RX2, Cond.code yX2_requireSharpKnife cX2_requireSharpKnife 1 none, Cond.classLink RX2 65 "java/lang/IllegalStateException", Cond.initialized "java/lang/IllegalStateException", Cond.fieldLink RX2 18 "SpliceRoom" "knife" "LSpliceRoom$Knife;", Cond.methodLink RX2 118 yX0_isBlunt, Cond.instanceMethod yX0_isBlunt, Cond.selects RX0 yX0_isBlunt yX0_isBlunt, Cond.initialized RX0, Cond.code yX0_isBlunt cX0_isBlunt 1 (some .boolean), Cond.fieldLink RX0 9 "SpliceRoom$Knife" "jamsInRow" "I", Cond.methodLink RX2 112 yX2_cutTurned, Cond.instanceMethod yX2_cutTurned, Cond.selects RX2 yX2_cutTurned yX2_cutTurned, Cond.code yX2_cutTurned cX2_cutTurned 2 (some .int), Cond.fieldLink RX2 11 "SpliceRoom" "hooks" "[LSpliceRoom$Reel;", Cond.fieldLink RX2 29 "SpliceRoom" "stepTo" "[I", Cond.fieldLink RX2 32 "SpliceRoom" "stepQ" "[I", Cond.fieldLink RX2 22 "SpliceRoom" "stepFrom" "[I", Cond.fieldLink RX2 26 "SpliceRoom" "stepP" "[I"]
def wsX2_play_r2 : List Cond := [Cond.fieldLink RX2 35 "SpliceRoom" "stepN" "[I", Cond.methodLink RX2 106 yX0_cut, Cond.instanceMethod yX0_cut, Cond.selects RX0 yX0_cut yX0_cut, Cond.code yX0_cut cX0_cut 6 (some .int), Cond.fieldLink RX0 18 "SpliceRoom$Knife" "far" "I", Cond.fieldLink RX0 25 "SpliceRoom$Knife" "told" "I", Cond.fieldLink RX0 28 "SpliceRoom$Knife" "laid" "I", Cond.fieldLink RX0 31 "SpliceRoom$Knife" "jams" "I", Cond.fieldLink RX0 34 "SpliceRoom$Knife" "wentWell" "I", Cond.methodLink RX0 21 yX0_lay, Cond.instanceMethod yX0_lay, Cond.selects RX0 yX0_lay yX0_lay, Cond.code yX0_lay cX0_lay 6 (some .int), Cond.methodLink RX0 55 arraycopyName, Cond.native arraycopyName, Cond.static arraycopyName, Cond.initialized "java/lang/System", Cond.methodLink RX0 37 yX1_isLike, Cond.instanceMethod yX1_isLike, Cond.selects RX1 yX1_isLike yX1_isLike, Cond.initialized RX1, Cond.code yX1_isLike cX1_isLike 2 (some .boolean), Cond.fieldLink RX1 9 "SpliceRoom$Reel" "kind" "I"]
def wsX2_play_r3 : List Cond := [Cond.methodLink RX1 21 yX1_holdsCards, Cond.instanceMethod yX1_holdsCards, Cond.selects RX1 yX1_holdsCards yX1_holdsCards, Cond.code yX1_holdsCards cX1_holdsCards 1 (some .boolean), Cond.methodLink RX1 25 yX1_holdsNumbers, Cond.instanceMethod yX1_holdsNumbers, Cond.selects RX1 yX1_holdsNumbers yX1_holdsNumbers, Cond.code yX1_holdsNumbers cX1_holdsNumbers 1 (some .boolean), Cond.methodLink RX0 43 yX1_hasFrames, Cond.instanceMethod yX1_hasFrames, Cond.selects RX1 yX1_hasFrames yX1_hasFrames, Cond.code yX1_hasFrames cX1_hasFrames 3 (some .boolean), Cond.fieldLink RX1 15 "SpliceRoom$Reel" "row" "[J", Cond.methodLink RX0 51 yX1_takes, Cond.instanceMethod yX1_takes, Cond.selects RX1 yX1_takes yX1_takes, Cond.code yX1_takes cX1_takes 3 (some .boolean), Cond.constantLong RX1 19 (-1), Cond.constantLong RX1 28 (1000), Cond.methodLink RX2 115 yX2_cutAsWritten, Cond.instanceMethod yX2_cutAsWritten, Cond.selects RX2 yX2_cutAsWritten yX2_cutAsWritten, Cond.code yX2_cutAsWritten cX2_cutAsWritten 2 (some .int)]
def wsX2_play : List Cond := .code yX2_play cX2_play 4 (some .int) :: ((wsX2_play_r1 ++ (wsX2_play_r2 ++ wsX2_play_r3)) ++ wsX20 ++ wsX00 ++ wsX10 ++ (vx_atS RX2 69 "java/lang/IllegalStateException" ["java/lang/RuntimeException", "java/lang/Exception"]).filter goodWord)
def wsX2_sweep : List Cond := .code yX2_sweep cX2_sweep 2 (some .int) :: ([.fieldLink RX2 38 "SpliceRoom" "steps" "I"] ++ wsX20)
def wsX2_grind : List Cond := .code yX2_grind cX2_grind 1 (some .int) :: ([.classLink RX2 65 "java/lang/IllegalStateException", .initialized "java/lang/IllegalStateException", .fieldLink RX2 18 "SpliceRoom" "knife" "LSpliceRoom$Knife;", .methodLink RX2 118 yX0_isBlunt, .instanceMethod yX0_isBlunt, .selects RX0 yX0_isBlunt yX0_isBlunt, .initialized RX0, .code yX0_isBlunt cX0_isBlunt 1 (some .boolean), .fieldLink RX0 9 "SpliceRoom$Knife" "jamsInRow" "I", .methodLink RX2 123 yX0_sharpen, .instanceMethod yX0_sharpen, .selects RX0 yX0_sharpen yX0_sharpen, .code yX0_sharpen cX0_sharpen 1 none, .fieldLink RX0 15 "SpliceRoom$Knife" "grindings" "I"] ++ wsX20 ++ wsX00 ++ (vx_atS RX2 69 "java/lang/IllegalStateException" ["java/lang/RuntimeException", "java/lang/Exception"]).filter goodWord)
def wsX2_frame : List Cond := .code yX2_frame cX2_frame 4 (some .long) :: ([.classLink RX2 65 "java/lang/IllegalStateException", .initialized "java/lang/IllegalStateException", .fieldLink RX2 11 "SpliceRoom" "hooks" "[LSpliceRoom$Reel;", .methodLink RX2 42 yX2_requireHook, .static yX2_requireHook, .initialized RX2, .code yX2_requireHook cX2_requireHook 1 none, .classLink RX2 46 "java/lang/IllegalArgumentException", .initialized "java/lang/IllegalArgumentException", .methodLink RX2 86 yX2_requireFrame, .static yX2_requireFrame, .code yX2_requireFrame cX2_requireFrame 2 none, .classLink RX2 164 "java/lang/IndexOutOfBoundsException", .initialized "java/lang/IndexOutOfBoundsException"] ++ wsX20 ++ wsX10 ++ (vx_atS RX2 69 "java/lang/IllegalStateException" ["java/lang/RuntimeException", "java/lang/Exception"]).filter goodWord ++ (vx_atS RX2 50 "java/lang/IllegalArgumentException" ["java/lang/RuntimeException", "java/lang/Exception"]).filter goodWord ++ (vx_atS RX2 168 "java/lang/IndexOutOfBoundsException" ["java/lang/RuntimeException", "java/lang/Exception"]).filter goodWord)
def wsX2_framesOn : List Cond := .code yX2_framesOn cX2_framesOn 3 (some .int) :: ([.fieldLink RX2 11 "SpliceRoom" "hooks" "[LSpliceRoom$Reel;"] ++ wsX20 ++ wsX10)
def wsX2_holdersOf : List Cond := .code yX2_holdersOf cX2_holdersOf 4 (some .int) :: ([.fieldLink RX2 11 "SpliceRoom" "hooks" "[LSpliceRoom$Reel;"] ++ wsX20)
def wsX2_look : List Cond := .code yX2_look cX2_look 3 (some .int) :: ([.classLink RX2 46 "java/lang/IllegalArgumentException", .initialized "java/lang/IllegalArgumentException", .fieldLink RX2 11 "SpliceRoom" "hooks" "[LSpliceRoom$Reel;", .methodLink RX2 42 yX2_requireHook, .static yX2_requireHook, .initialized RX2, .code yX2_requireHook cX2_requireHook 1 none, .methodLink RX2 58 yX2_kindOn, .instanceMethod yX2_kindOn, .selects RX2 yX2_kindOn yX2_kindOn, .code yX2_kindOn cX2_kindOn 3 (some .int), .methodLink RX2 131 yX2_framesOn, .instanceMethod yX2_framesOn, .selects RX2 yX2_framesOn yX2_framesOn, .code yX2_framesOn cX2_framesOn 3 (some .int), .methodLink RX2 134 yX2_holdersOf, .instanceMethod yX2_holdersOf, .selects RX2 yX2_holdersOf yX2_holdersOf, .code yX2_holdersOf cX2_holdersOf 4 (some .int)] ++ wsX20 ++ wsX10 ++ (vx_atS RX2 50 "java/lang/IllegalArgumentException" ["java/lang/RuntimeException", "java/lang/Exception"]).filter goodWord)
def wsX2_sum : List Cond := .code yX2_sum cX2_sum 6 (some .long) :: ([.fieldLink RX2 11 "SpliceRoom" "hooks" "[LSpliceRoom$Reel;", .constantLong RX2 140 (7), .constantLong RX2 142 (31), .methodLink RX2 42 yX2_requireHook, .static yX2_requireHook, .initialized RX2, .code yX2_requireHook cX2_requireHook 1 none, .classLink RX2 46 "java/lang/IllegalArgumentException", .initialized "java/lang/IllegalArgumentException"] ++ wsX20 ++ wsX10 ++ (vx_atS RX2 50 "java/lang/IllegalArgumentException" ["java/lang/RuntimeException", "java/lang/Exception"]).filter goodWord)
def wsX2_count : List Cond := .code yX2_count cX2_count 2 (some .int) :: ([.classLink RX2 46 "java/lang/IllegalArgumentException", .initialized "java/lang/IllegalArgumentException", .fieldLink RX2 18 "SpliceRoom" "knife" "LSpliceRoom$Knife;", .fieldLink RX2 38 "SpliceRoom" "steps" "I"] ++ wsX20 ++ wsX00 ++ (vx_atS RX2 50 "java/lang/IllegalArgumentException" ["java/lang/RuntimeException", "java/lang/Exception"]).filter goodWord)
def wsX3_init : List Cond := .code yX3_init cX3_init 2 none :: ([.methodLink RX3 1 objectInit, .instanceMethod objectInit, .code objectInit ⟨#[0xb1]⟩ 1 none, .arrayClass .int, .fieldLink RX3 7 "SpliceRoomModel" "on" "[I", .fieldLink RX3 13 "SpliceRoomModel" "kinds" "[I", .fieldLink RX3 16 "SpliceRoomModel" "sizes" "[I", .arrayClass .long, .fieldLink RX3 19 "SpliceRoomModel" "frames" "[J", .fieldLink RX3 23 "SpliceRoomModel" "lifted" "[J", .fieldLink RX3 26 "SpliceRoomModel" "sheet" "[I"] ++ wsX30)
def wsX3_thrown : List Cond := .code yX3_thrown cX3_thrown 1 (some .int) :: ([.fieldLink RX3 29 "SpliceRoomModel" "code" "I"] ++ wsX30)
def wsX3_in : List Cond := .code yX3_in cX3_in 3 (some .boolean) :: ([])
def wsX3_isHook : List Cond := .code yX3_isHook cX3_isHook 1 (some .boolean) :: ([.methodLink RX3 33 yX3_in, .static yX3_in, .initialized RX3, .code yX3_in cX3_in 3 (some .boolean)])
def wsX3_kindAt : List Cond := .code yX3_kindAt cX3_kindAt 2 (some .int) :: ([.fieldLink RX3 7 "SpliceRoomModel" "on" "[I", .fieldLink RX3 13 "SpliceRoomModel" "kinds" "[I"] ++ wsX30)
def wsX3_hasRow : List Cond := .code yX3_hasRow cX3_hasRow 2 (some .boolean) :: ([.methodLink RX3 37 yX3_kindAt, .instanceMethod yX3_kindAt, .selects RX3 yX3_kindAt yX3_kindAt, .initialized RX3, .code yX3_kindAt cX3_kindAt 2 (some .int), .fieldLink RX3 7 "SpliceRoomModel" "on" "[I", .fieldLink RX3 13 "SpliceRoomModel" "kinds" "[I", .methodLink RX3 33 yX3_in, .static yX3_in, .code yX3_in cX3_in 3 (some .boolean)] ++ wsX30)
def wsX3_hasCards : List Cond := .code yX3_hasCards cX3_hasCards 2 (some .boolean) :: ([.methodLink RX3 37 yX3_kindAt, .instanceMethod yX3_kindAt, .selects RX3 yX3_kindAt yX3_kindAt, .initialized RX3, .code yX3_kindAt cX3_kindAt 2 (some .int), .fieldLink RX3 7 "SpliceRoomModel" "on" "[I", .fieldLink RX3 13 "SpliceRoomModel" "kinds" "[I", .methodLink RX3 33 yX3_in, .static yX3_in, .code yX3_in cX3_in 3 (some .boolean)] ++ wsX30)
def wsX3_sizeAt : List Cond := .code yX3_sizeAt cX3_sizeAt 2 (some .int) :: ([.fieldLink RX3 16 "SpliceRoomModel" "sizes" "[I", .fieldLink RX3 7 "SpliceRoomModel" "on" "[I"] ++ wsX30)
def wsX3_free : List Cond := .code yX3_free cX3_free 5 (some .int) :: ([.fieldLink RX3 7 "SpliceRoomModel" "on" "[I"] ++ wsX30)
def wsX3_wind : List Cond := .code yX3_wind cX3_wind 7 (some .int) :: ([.fieldLink RX3 29 "SpliceRoomModel" "code" "I", .fieldLink RX3 7 "SpliceRoomModel" "on" "[I", .fieldLink RX3 13 "SpliceRoomModel" "kinds" "[I", .fieldLink RX3 16 "SpliceRoomModel" "sizes" "[I", .fieldLink RX3 19 "SpliceRoomModel" "frames" "[J", .constantLong RX3 49 (-1), .methodLink RX3 33 yX3_in, .static yX3_in, .initialized RX3, .code yX3_in cX3_in 3 (some .boolean), .methodLink RX3 41 yX3_isHook, .static yX3_isHook, .code yX3_isHook cX3_isHook 1 (some .boolean), .methodLink RX3 45 yX3_free, .instanceMethod yX3_free, .selects RX3 yX3_free yX3_free, .code yX3_free cX3_free 5 (some .int)] ++ wsX30)
def wsX3_hang : List Cond := .code yX3_hang cX3_hang 3 (some .int) :: ([.fieldLink RX3 29 "SpliceRoomModel" "code" "I", .fieldLink RX3 7 "SpliceRoomModel" "on" "[I", .methodLink RX3 41 yX3_isHook, .static yX3_isHook, .initialized RX3, .code yX3_isHook cX3_isHook 1 (some .boolean), .methodLink RX3 33 yX3_in, .static yX3_in, .code yX3_in cX3_in 3 (some .boolean), .methodLink RX3 37 yX3_kindAt, .instanceMethod yX3_kindAt, .selects RX3 yX3_kindAt yX3_kindAt, .code yX3_kindAt cX3_kindAt 2 (some .int), .fieldLink RX3 13 "SpliceRoomModel" "kinds" "[I"] ++ wsX30)
def wsX3_twin : List Cond := .code yX3_twin cX3_twin 6 (some .int) :: ([.fieldLink RX3 29 "SpliceRoomModel" "code" "I", .fieldLink RX3 7 "SpliceRoomModel" "on" "[I", .fieldLink RX3 13 "SpliceRoomModel" "kinds" "[I", .fieldLink RX3 16 "SpliceRoomModel" "sizes" "[I", .fieldLink RX3 19 "SpliceRoomModel" "frames" "[J", .methodLink RX3 41 yX3_isHook, .static yX3_isHook, .initialized RX3, .code yX3_isHook cX3_isHook 1 (some .boolean), .methodLink RX3 33 yX3_in, .static yX3_in, .code yX3_in cX3_in 3 (some .boolean), .methodLink RX3 51 yX3_hasRow, .instanceMethod yX3_hasRow, .selects RX3 yX3_hasRow yX3_hasRow, .code yX3_hasRow cX3_hasRow 2 (some .boolean), .methodLink RX3 37 yX3_kindAt, .instanceMethod yX3_kindAt, .selects RX3 yX3_kindAt yX3_kindAt, .code yX3_kindAt cX3_kindAt 2 (some .int), .methodLink RX3 45 yX3_free, .instanceMethod yX3_free, .selects RX3 yX3_free yX3_free, .code yX3_free cX3_free 5 (some .int)] ++ wsX30)
def wsX3_mark : List Cond := .code yX3_mark cX3_mark 5 none :: ([.fieldLink RX3 29 "SpliceRoomModel" "code" "I", .fieldLink RX3 19 "SpliceRoomModel" "frames" "[J", .fieldLink RX3 7 "SpliceRoomModel" "on" "[I", .methodLink RX3 41 yX3_isHook, .static yX3_isHook, .initialized RX3, .code yX3_isHook cX3_isHook 1 (some .boolean), .methodLink RX3 33 yX3_in, .static yX3_in, .code yX3_in cX3_in 3 (some .boolean), .methodLink RX3 37 yX3_kindAt, .instanceMethod yX3_kindAt, .selects RX3 yX3_kindAt yX3_kindAt, .code yX3_kindAt cX3_kindAt 2 (some .int), .fieldLink RX3 13 "SpliceRoomModel" "kinds" "[I", .methodLink RX3 54 yX3_sizeAt, .instanceMethod yX3_sizeAt, .selects RX3 yX3_sizeAt yX3_sizeAt, .code yX3_sizeAt cX3_sizeAt 2 (some .int), .fieldLink RX3 16 "SpliceRoomModel" "sizes" "[I"] ++ wsX30)
def wsX3_cardCode : List Cond := .code yX3_cardCode cX3_cardCode 3 (some .int) :: ([.methodLink RX3 57 yX3_hasCards, .instanceMethod yX3_hasCards, .selects RX3 yX3_hasCards yX3_hasCards, .initialized RX3, .code yX3_hasCards cX3_hasCards 2 (some .boolean), .methodLink RX3 37 yX3_kindAt, .instanceMethod yX3_kindAt, .selects RX3 yX3_kindAt yX3_kindAt, .code yX3_kindAt cX3_kindAt 2 (some .int), .fieldLink RX3 7 "SpliceRoomModel" "on" "[I", .fieldLink RX3 13 "SpliceRoomModel" "kinds" "[I", .methodLink RX3 33 yX3_in, .static yX3_in, .code yX3_in cX3_in 3 (some .boolean), .methodLink RX3 54 yX3_sizeAt, .instanceMethod yX3_sizeAt, .selects RX3 yX3_sizeAt yX3_sizeAt, .code yX3_sizeAt cX3_sizeAt 2 (some .int), .fieldLink RX3 16 "SpliceRoomModel" "sizes" "[I"] ++ wsX30)
def wsX3_paste_r1 : List Cond := [Cond.fieldLink RX3 29 "SpliceRoomModel" "code" "I", Cond.fieldLink RX3 19 "SpliceRoomModel" "frames" "[J", Cond.fieldLink RX3 7 "SpliceRoomModel" "on" "[I", Cond.constantLong RX3 64 (1000), Cond.methodLink RX3 41 yX3_isHook, Cond.static yX3_isHook, Cond.initialized RX3, Cond.code yX3_isHook cX3_isHook 1 (some .boolean), Cond.methodLink RX3 33 yX3_in, Cond.static yX3_in, Cond.code yX3_in cX3_in 3 (some .boolean), Cond.methodLink RX3 60 yX3_cardCode, Cond.instanceMethod yX3_cardCode, Cond.selects RX3 yX3_cardCode yX3_cardCode, Cond.code yX3_cardCode cX3_cardCode 3 (some .int), Cond.methodLink RX3 57 yX3_hasCards, Cond.instanceMethod yX3_hasCards, Cond.selects RX3 yX3_hasCards yX3_hasCards, Cond.code yX3_hasCards cX3_hasCards 2 (some .boolean), Cond.methodLink RX3 37 yX3_kindAt, Cond.instanceMethod yX3_kindAt, Cond.selects RX3 yX3_kindAt yX3_kindAt, Cond.code yX3_kindAt cX3_kindAt 2 (some .int), Cond.fieldLink RX3 13 "SpliceRoomModel" "kinds" "[I"]
def wsX3_paste_r2 : List Cond := [Cond.methodLink RX3 54 yX3_sizeAt, Cond.instanceMethod yX3_sizeAt, Cond.selects RX3 yX3_sizeAt yX3_sizeAt, Cond.code yX3_sizeAt cX3_sizeAt 2 (some .int), Cond.fieldLink RX3 16 "SpliceRoomModel" "sizes" "[I"]
def wsX3_paste : List Cond := .code yX3_paste cX3_paste 5 (some .boolean) :: ((wsX3_paste_r1 ++ wsX3_paste_r2) ++ wsX30)
def wsX3_pull_r1 : List Cond := [Cond.fieldLink RX3 29 "SpliceRoomModel" "code" "I", Cond.fieldLink RX3 7 "SpliceRoomModel" "on" "[I", Cond.fieldLink RX3 19 "SpliceRoomModel" "frames" "[J", Cond.constantLong RX3 49 (-1), Cond.methodLink RX3 41 yX3_isHook, Cond.static yX3_isHook, Cond.initialized RX3, Cond.code yX3_isHook cX3_isHook 1 (some .boolean), Cond.methodLink RX3 33 yX3_in, Cond.static yX3_in, Cond.code yX3_in cX3_in 3 (some .boolean), Cond.methodLink RX3 60 yX3_cardCode, Cond.instanceMethod yX3_cardCode, Cond.selects RX3 yX3_cardCode yX3_cardCode, Cond.code yX3_cardCode cX3_cardCode 3 (some .int), Cond.methodLink RX3 57 yX3_hasCards, Cond.instanceMethod yX3_hasCards, Cond.selects RX3 yX3_hasCards yX3_hasCards, Cond.code yX3_hasCards cX3_hasCards 2 (some .boolean), Cond.methodLink RX3 37 yX3_kindAt, Cond.instanceMethod yX3_kindAt, Cond.selects RX3 yX3_kindAt yX3_kindAt, Cond.code yX3_kindAt cX3_kindAt 2 (some .int), Cond.fieldLink RX3 13 "SpliceRoomModel" "kinds" "[I"]
def wsX3_pull_r2 : List Cond := [Cond.methodLink RX3 54 yX3_sizeAt, Cond.instanceMethod yX3_sizeAt, Cond.selects RX3 yX3_sizeAt yX3_sizeAt, Cond.code yX3_sizeAt cX3_sizeAt 2 (some .int), Cond.fieldLink RX3 16 "SpliceRoomModel" "sizes" "[I"]
def wsX3_pull : List Cond := .code yX3_pull cX3_pull 5 (some .boolean) :: ((wsX3_pull_r1 ++ wsX3_pull_r2) ++ wsX30)
def wsX3_frame : List Cond := .code yX3_frame cX3_frame 3 (some .long) :: ([.fieldLink RX3 29 "SpliceRoomModel" "code" "I", .fieldLink RX3 19 "SpliceRoomModel" "frames" "[J", .fieldLink RX3 7 "SpliceRoomModel" "on" "[I", .methodLink RX3 41 yX3_isHook, .static yX3_isHook, .initialized RX3, .code yX3_isHook cX3_isHook 1 (some .boolean), .methodLink RX3 33 yX3_in, .static yX3_in, .code yX3_in cX3_in 3 (some .boolean), .methodLink RX3 51 yX3_hasRow, .instanceMethod yX3_hasRow, .selects RX3 yX3_hasRow yX3_hasRow, .code yX3_hasRow cX3_hasRow 2 (some .boolean), .methodLink RX3 37 yX3_kindAt, .instanceMethod yX3_kindAt, .selects RX3 yX3_kindAt yX3_kindAt, .code yX3_kindAt cX3_kindAt 2 (some .int), .fieldLink RX3 13 "SpliceRoomModel" "kinds" "[I", .methodLink RX3 54 yX3_sizeAt, .instanceMethod yX3_sizeAt, .selects RX3 yX3_sizeAt yX3_sizeAt, .code yX3_sizeAt cX3_sizeAt 2 (some .int), .fieldLink RX3 16 "SpliceRoomModel" "sizes" "[I"] ++ wsX30)
def wsX3_against : List Cond := .code yX3_against cX3_against 10 (some .int) :: ([.methodLink RX3 37 yX3_kindAt, .instanceMethod yX3_kindAt, .selects RX3 yX3_kindAt yX3_kindAt, .initialized RX3, .code yX3_kindAt cX3_kindAt 2 (some .int), .fieldLink RX3 7 "SpliceRoomModel" "on" "[I", .fieldLink RX3 13 "SpliceRoomModel" "kinds" "[I", .methodLink RX3 54 yX3_sizeAt, .instanceMethod yX3_sizeAt, .selects RX3 yX3_sizeAt yX3_sizeAt, .code yX3_sizeAt cX3_sizeAt 2 (some .int), .fieldLink RX3 16 "SpliceRoomModel" "sizes" "[I"] ++ wsX30)
def wsX3_cut_r1 : List Cond := [Cond.fieldLink RX3 70 "SpliceRoomModel" "far" "I", Cond.fieldLink RX3 23 "SpliceRoomModel" "lifted" "[J", Cond.fieldLink RX3 19 "SpliceRoomModel" "frames" "[J", Cond.fieldLink RX3 7 "SpliceRoomModel" "on" "[I", Cond.fieldLink RX3 73 "SpliceRoomModel" "laid" "I", Cond.fieldLink RX3 76 "SpliceRoomModel" "jams" "I", Cond.fieldLink RX3 79 "SpliceRoomModel" "inRow" "I", Cond.fieldLink RX3 82 "SpliceRoomModel" "well" "I", Cond.fieldLink RX3 85 "SpliceRoomModel" "told" "I", Cond.methodLink RX3 66 yX3_against, Cond.instanceMethod yX3_against, Cond.selects RX3 yX3_against yX3_against, Cond.initialized RX3, Cond.code yX3_against cX3_against 10 (some .int), Cond.methodLink RX3 37 yX3_kindAt, Cond.instanceMethod yX3_kindAt, Cond.selects RX3 yX3_kindAt yX3_kindAt, Cond.code yX3_kindAt cX3_kindAt 2 (some .int), Cond.fieldLink RX3 13 "SpliceRoomModel" "kinds" "[I", Cond.methodLink RX3 54 yX3_sizeAt, Cond.instanceMethod yX3_sizeAt, Cond.selects RX3 yX3_sizeAt yX3_sizeAt, Cond.code yX3_sizeAt cX3_sizeAt 2 (some .int), Cond.fieldLink RX3 16 "SpliceRoomModel" "sizes" "[I"]
def wsX3_cut_r2 : List Cond := [Cond.methodLink RX3 33 yX3_in, Cond.static yX3_in, Cond.code yX3_in cX3_in 3 (some .boolean)]
def wsX3_cut : List Cond := .code yX3_cut cX3_cut 8 (some .int) :: ((wsX3_cut_r1 ++ wsX3_cut_r2) ++ wsX30)
def wsX3_isBlunt : List Cond := .code yX3_isBlunt cX3_isBlunt 1 (some .boolean) :: ([.fieldLink RX3 79 "SpliceRoomModel" "inRow" "I"] ++ wsX30)
def wsX3_splice_r1 : List Cond := [Cond.fieldLink RX3 29 "SpliceRoomModel" "code" "I", Cond.methodLink RX3 41 yX3_isHook, Cond.static yX3_isHook, Cond.initialized RX3, Cond.code yX3_isHook cX3_isHook 1 (some .boolean), Cond.methodLink RX3 33 yX3_in, Cond.static yX3_in, Cond.code yX3_in cX3_in 3 (some .boolean), Cond.methodLink RX3 88 yX3_isBlunt, Cond.instanceMethod yX3_isBlunt, Cond.selects RX3 yX3_isBlunt yX3_isBlunt, Cond.code yX3_isBlunt cX3_isBlunt 1 (some .boolean), Cond.fieldLink RX3 79 "SpliceRoomModel" "inRow" "I", Cond.methodLink RX3 92 yX3_cut, Cond.instanceMethod yX3_cut, Cond.selects RX3 yX3_cut yX3_cut, Cond.code yX3_cut cX3_cut 8 (some .int), Cond.fieldLink RX3 70 "SpliceRoomModel" "far" "I", Cond.fieldLink RX3 23 "SpliceRoomModel" "lifted" "[J", Cond.fieldLink RX3 19 "SpliceRoomModel" "frames" "[J", Cond.fieldLink RX3 7 "SpliceRoomModel" "on" "[I", Cond.fieldLink RX3 73 "SpliceRoomModel" "laid" "I", Cond.fieldLink RX3 76 "SpliceRoomModel" "jams" "I", Cond.fieldLink RX3 82 "SpliceRoomModel" "well" "I"]
def wsX3_splice_r2 : List Cond := [Cond.fieldLink RX3 85 "SpliceRoomModel" "told" "I", Cond.methodLink RX3 66 yX3_against, Cond.instanceMethod yX3_against, Cond.selects RX3 yX3_against yX3_against, Cond.code yX3_against cX3_against 10 (some .int), Cond.methodLink RX3 37 yX3_kindAt, Cond.instanceMethod yX3_kindAt, Cond.selects RX3 yX3_kindAt yX3_kindAt, Cond.code yX3_kindAt cX3_kindAt 2 (some .int), Cond.fieldLink RX3 13 "SpliceRoomModel" "kinds" "[I", Cond.methodLink RX3 54 yX3_sizeAt, Cond.instanceMethod yX3_sizeAt, Cond.selects RX3 yX3_sizeAt yX3_sizeAt, Cond.code yX3_sizeAt cX3_sizeAt 2 (some .int), Cond.fieldLink RX3 16 "SpliceRoomModel" "sizes" "[I"]
def wsX3_splice : List Cond := .code yX3_splice cX3_splice 6 (some .int) :: ((wsX3_splice_r1 ++ wsX3_splice_r2) ++ wsX30)
def wsX3_step : List Cond := .code yX3_step cX3_step 7 (some .int) :: ([.fieldLink RX3 95 "SpliceRoomModel" "steps" "I", .fieldLink RX3 29 "SpliceRoomModel" "code" "I", .fieldLink RX3 26 "SpliceRoomModel" "sheet" "[I", .methodLink RX3 41 yX3_isHook, .static yX3_isHook, .initialized RX3, .code yX3_isHook cX3_isHook 1 (some .boolean), .methodLink RX3 33 yX3_in, .static yX3_in, .code yX3_in cX3_in 3 (some .boolean)] ++ wsX30)
def wsX3_play_r1 : List Cond := [Cond.fieldLink RX3 29 "SpliceRoomModel" "code" "I", Cond.fieldLink RX3 95 "SpliceRoomModel" "steps" "I", Cond.fieldLink RX3 26 "SpliceRoomModel" "sheet" "[I", Cond.methodLink RX3 88 yX3_isBlunt, Cond.instanceMethod yX3_isBlunt, Cond.selects RX3 yX3_isBlunt yX3_isBlunt, Cond.initialized RX3, Cond.code yX3_isBlunt cX3_isBlunt 1 (some .boolean), Cond.fieldLink RX3 79 "SpliceRoomModel" "inRow" "I", Cond.methodLink RX3 92 yX3_cut, Cond.instanceMethod yX3_cut, Cond.selects RX3 yX3_cut yX3_cut, Cond.code yX3_cut cX3_cut 8 (some .int), Cond.fieldLink RX3 70 "SpliceRoomModel" "far" "I", Cond.fieldLink RX3 23 "SpliceRoomModel" "lifted" "[J", Cond.fieldLink RX3 19 "SpliceRoomModel" "frames" "[J", Cond.fieldLink RX3 7 "SpliceRoomModel" "on" "[I", Cond.fieldLink RX3 73 "SpliceRoomModel" "laid" "I", Cond.fieldLink RX3 76 "SpliceRoomModel" "jams" "I", Cond.fieldLink RX3 82 "SpliceRoomModel" "well" "I", Cond.fieldLink RX3 85 "SpliceRoomModel" "told" "I", Cond.methodLink RX3 66 yX3_against, Cond.instanceMethod yX3_against, Cond.selects RX3 yX3_against yX3_against]
def wsX3_play_r2 : List Cond := [Cond.code yX3_against cX3_against 10 (some .int), Cond.methodLink RX3 37 yX3_kindAt, Cond.instanceMethod yX3_kindAt, Cond.selects RX3 yX3_kindAt yX3_kindAt, Cond.code yX3_kindAt cX3_kindAt 2 (some .int), Cond.fieldLink RX3 13 "SpliceRoomModel" "kinds" "[I", Cond.methodLink RX3 54 yX3_sizeAt, Cond.instanceMethod yX3_sizeAt, Cond.selects RX3 yX3_sizeAt yX3_sizeAt, Cond.code yX3_sizeAt cX3_sizeAt 2 (some .int), Cond.fieldLink RX3 16 "SpliceRoomModel" "sizes" "[I", Cond.methodLink RX3 33 yX3_in, Cond.static yX3_in, Cond.code yX3_in cX3_in 3 (some .boolean)]
def wsX3_play : List Cond := .code yX3_play cX3_play 7 (some .int) :: ((wsX3_play_r1 ++ wsX3_play_r2) ++ wsX30)
def wsX3_sweep : List Cond := .code yX3_sweep cX3_sweep 2 (some .int) :: ([.fieldLink RX3 29 "SpliceRoomModel" "code" "I", .fieldLink RX3 95 "SpliceRoomModel" "steps" "I"] ++ wsX30)
def wsX3_grind : List Cond := .code yX3_grind cX3_grind 1 (some .int) :: ([.fieldLink RX3 29 "SpliceRoomModel" "code" "I", .fieldLink RX3 79 "SpliceRoomModel" "inRow" "I", .fieldLink RX3 98 "SpliceRoomModel" "grindings" "I", .methodLink RX3 88 yX3_isBlunt, .instanceMethod yX3_isBlunt, .selects RX3 yX3_isBlunt yX3_isBlunt, .initialized RX3, .code yX3_isBlunt cX3_isBlunt 1 (some .boolean)] ++ wsX30)
def wsX3_look : List Cond := .code yX3_look cX3_look 5 (some .int) :: ([.fieldLink RX3 29 "SpliceRoomModel" "code" "I", .fieldLink RX3 7 "SpliceRoomModel" "on" "[I", .methodLink RX3 41 yX3_isHook, .static yX3_isHook, .initialized RX3, .code yX3_isHook cX3_isHook 1 (some .boolean), .methodLink RX3 33 yX3_in, .static yX3_in, .code yX3_in cX3_in 3 (some .boolean), .methodLink RX3 37 yX3_kindAt, .instanceMethod yX3_kindAt, .selects RX3 yX3_kindAt yX3_kindAt, .code yX3_kindAt cX3_kindAt 2 (some .int), .fieldLink RX3 13 "SpliceRoomModel" "kinds" "[I", .methodLink RX3 51 yX3_hasRow, .instanceMethod yX3_hasRow, .selects RX3 yX3_hasRow yX3_hasRow, .code yX3_hasRow cX3_hasRow 2 (some .boolean), .methodLink RX3 54 yX3_sizeAt, .instanceMethod yX3_sizeAt, .selects RX3 yX3_sizeAt yX3_sizeAt, .code yX3_sizeAt cX3_sizeAt 2 (some .int), .fieldLink RX3 16 "SpliceRoomModel" "sizes" "[I"] ++ wsX30)
def wsX3_sum_r1 : List Cond := [Cond.fieldLink RX3 29 "SpliceRoomModel" "code" "I", Cond.constantLong RX3 101 (7), Cond.constantLong RX3 103 (31), Cond.fieldLink RX3 19 "SpliceRoomModel" "frames" "[J", Cond.fieldLink RX3 7 "SpliceRoomModel" "on" "[I", Cond.methodLink RX3 41 yX3_isHook, Cond.static yX3_isHook, Cond.initialized RX3, Cond.code yX3_isHook cX3_isHook 1 (some .boolean), Cond.methodLink RX3 33 yX3_in, Cond.static yX3_in, Cond.code yX3_in cX3_in 3 (some .boolean), Cond.methodLink RX3 51 yX3_hasRow, Cond.instanceMethod yX3_hasRow, Cond.selects RX3 yX3_hasRow yX3_hasRow, Cond.code yX3_hasRow cX3_hasRow 2 (some .boolean), Cond.methodLink RX3 37 yX3_kindAt, Cond.instanceMethod yX3_kindAt, Cond.selects RX3 yX3_kindAt yX3_kindAt, Cond.code yX3_kindAt cX3_kindAt 2 (some .int), Cond.fieldLink RX3 13 "SpliceRoomModel" "kinds" "[I", Cond.methodLink RX3 54 yX3_sizeAt, Cond.instanceMethod yX3_sizeAt, Cond.selects RX3 yX3_sizeAt yX3_sizeAt]
def wsX3_sum_r2 : List Cond := [Cond.code yX3_sizeAt cX3_sizeAt 2 (some .int), Cond.fieldLink RX3 16 "SpliceRoomModel" "sizes" "[I"]
def wsX3_sum : List Cond := .code yX3_sum cX3_sum 5 (some .long) :: ((wsX3_sum_r1 ++ wsX3_sum_r2) ++ wsX30)
def wsX3_count : List Cond := .code yX3_count cX3_count 2 (some .int) :: ([.fieldLink RX3 29 "SpliceRoomModel" "code" "I", .fieldLink RX3 82 "SpliceRoomModel" "well" "I", .fieldLink RX3 73 "SpliceRoomModel" "laid" "I", .fieldLink RX3 76 "SpliceRoomModel" "jams" "I", .fieldLink RX3 79 "SpliceRoomModel" "inRow" "I", .fieldLink RX3 95 "SpliceRoomModel" "steps" "I", .fieldLink RX3 70 "SpliceRoomModel" "far" "I", .fieldLink RX3 85 "SpliceRoomModel" "told" "I", .fieldLink RX3 98 "SpliceRoomModel" "grindings" "I", .methodLink RX3 33 yX3_in, .static yX3_in, .initialized RX3, .code yX3_in cX3_in 3 (some .boolean)] ++ wsX30)
def wsL_wind_r1 : List Cond := [Cond.classLink RL 13 "java/lang/IllegalArgumentException", Cond.methodLink RL 7 yX2_wind, Cond.instanceMethod yX2_wind, Cond.selects RX2 yX2_wind yX2_wind, Cond.initialized RX2, Cond.code yX2_wind cX2_wind 4 (some .int), Cond.classLink RX2 46 "java/lang/IllegalArgumentException", Cond.initialized "java/lang/IllegalArgumentException", Cond.fieldLink RX2 11 "SpliceRoom" "hooks" "[LSpliceRoom$Reel;", Cond.classLink RX2 9 RX1, Cond.instantiable RX1 2, Cond.initialized RX1, Cond.methodLink RX2 42 yX2_requireHook, Cond.static yX2_requireHook, Cond.code yX2_requireHook cX2_requireHook 1 none, Cond.methodLink RX2 53 yX1_init, Cond.instanceMethod yX1_init, Cond.code yX1_init cX1_init 4 none, Cond.methodLink RX1 3 objectInit, Cond.instanceMethod objectInit, Cond.code objectInit ⟨#[0xb1]⟩ 1 none, Cond.fieldLink RX1 9 "SpliceRoom$Reel" "kind" "I", Cond.arrayClass .long, Cond.fieldLink RX1 15 "SpliceRoom$Reel" "row" "[J"]
def wsL_wind_r2 : List Cond := [Cond.constantLong RX1 19 (-1)]
def wsL_wind : List Cond := .codeWith yL_wind cL_wind 6 (some .int) [(0, 12, 15, 13)] :: ((wsL_wind_r1 ++ wsL_wind_r2) ++ wsX20 ++ wsX10 ++ (vx_atS RX2 50 "java/lang/IllegalArgumentException" ["java/lang/RuntimeException", "java/lang/Exception"]).filter goodWord)
def wsL_hang : List Cond := .codeWith yL_hang cL_hang 5 (some .int) [(0, 10, 13, 13)] :: ([.classLink RL 13 "java/lang/IllegalArgumentException", .methodLink RL 15 yX2_hang, .instanceMethod yX2_hang, .selects RX2 yX2_hang yX2_hang, .initialized RX2, .code yX2_hang cX2_hang 3 (some .int), .fieldLink RX2 11 "SpliceRoom" "hooks" "[LSpliceRoom$Reel;", .methodLink RX2 42 yX2_requireHook, .static yX2_requireHook, .code yX2_requireHook cX2_requireHook 1 none, .classLink RX2 46 "java/lang/IllegalArgumentException", .initialized "java/lang/IllegalArgumentException", .methodLink RX2 58 yX2_kindOn, .instanceMethod yX2_kindOn, .selects RX2 yX2_kindOn yX2_kindOn, .code yX2_kindOn cX2_kindOn 3 (some .int)] ++ wsX20 ++ wsX10 ++ (vx_atS RX2 50 "java/lang/IllegalArgumentException" ["java/lang/RuntimeException", "java/lang/Exception"]).filter goodWord)
def wsL_twin_r1 : List Cond := [Cond.classLink RL 13 "java/lang/IllegalArgumentException", Cond.classLink RL 22 "java/lang/IllegalStateException", Cond.methodLink RL 19 yX2_twin, Cond.instanceMethod yX2_twin, Cond.selects RX2 yX2_twin yX2_twin, Cond.initialized RX2, Cond.code yX2_twin cX2_twin 5 (some .int), Cond.classLink RX2 65 "java/lang/IllegalStateException", Cond.initialized "java/lang/IllegalStateException", Cond.fieldLink RX2 11 "SpliceRoom" "hooks" "[LSpliceRoom$Reel;", Cond.classLink RX2 9 RX1, Cond.instantiable RX1 2, Cond.initialized RX1, Cond.methodLink RX2 74 arraycopyName, Cond.native arraycopyName, Cond.static arraycopyName, Cond.initialized "java/lang/System", Cond.methodLink RX2 42 yX2_requireHook, Cond.static yX2_requireHook, Cond.code yX2_requireHook cX2_requireHook 1 none, Cond.classLink RX2 46 "java/lang/IllegalArgumentException", Cond.initialized "java/lang/IllegalArgumentException", Cond.methodLink RX2 53 yX1_init, Cond.instanceMethod yX1_init]
def wsL_twin_r2 : List Cond := [Cond.code yX1_init cX1_init 4 none, Cond.methodLink RX1 3 objectInit, Cond.instanceMethod objectInit, Cond.code objectInit ⟨#[0xb1]⟩ 1 none, Cond.fieldLink RX1 9 "SpliceRoom$Reel" "kind" "I", Cond.arrayClass .long, Cond.fieldLink RX1 15 "SpliceRoom$Reel" "row" "[J", Cond.constantLong RX1 19 (-1)]
def wsL_twin : List Cond := .codeWith yL_twin cL_twin 5 (some .int) [(0, 10, 13, 13), (0, 10, 17, 22)] :: ((wsL_twin_r1 ++ wsL_twin_r2) ++ wsX20 ++ wsX10 ++ (vx_atS RX2 69 "java/lang/IllegalStateException" ["java/lang/RuntimeException", "java/lang/Exception"]).filter goodWord ++ (vx_atS RX2 50 "java/lang/IllegalArgumentException" ["java/lang/RuntimeException", "java/lang/Exception"]).filter goodWord)
def wsL_mark_r1 : List Cond := [Cond.classLink RL 13 "java/lang/IllegalArgumentException", Cond.classLink RL 22 "java/lang/IllegalStateException", Cond.classLink RL 28 "java/lang/IndexOutOfBoundsException", Cond.methodLink RL 24 yX2_mark, Cond.instanceMethod yX2_mark, Cond.selects RX2 yX2_mark yX2_mark, Cond.initialized RX2, Cond.code yX2_mark cX2_mark 6 none, Cond.classLink RX2 65 "java/lang/IllegalStateException", Cond.initialized "java/lang/IllegalStateException", Cond.fieldLink RX2 11 "SpliceRoom" "hooks" "[LSpliceRoom$Reel;", Cond.methodLink RX2 42 yX2_requireHook, Cond.static yX2_requireHook, Cond.code yX2_requireHook cX2_requireHook 1 none, Cond.classLink RX2 46 "java/lang/IllegalArgumentException", Cond.initialized "java/lang/IllegalArgumentException", Cond.methodLink RX2 80 yX1_holdsNumbers, Cond.instanceMethod yX1_holdsNumbers, Cond.selects RX1 yX1_holdsNumbers yX1_holdsNumbers, Cond.initialized RX1, Cond.code yX1_holdsNumbers cX1_holdsNumbers 1 (some .boolean), Cond.fieldLink RX1 9 "SpliceRoom$Reel" "kind" "I", Cond.methodLink RX2 86 yX2_requireFrame, Cond.static yX2_requireFrame]
def wsL_mark_r2 : List Cond := [Cond.code yX2_requireFrame cX2_requireFrame 2 none, Cond.classLink RX2 164 "java/lang/IndexOutOfBoundsException", Cond.initialized "java/lang/IndexOutOfBoundsException"]
def wsL_mark : List Cond := .codeWith yL_mark cL_mark 6 (some .int) [(0, 7, 10, 13), (0, 7, 14, 22), (0, 7, 18, 28)] :: ((wsL_mark_r1 ++ wsL_mark_r2) ++ wsX20 ++ wsX10 ++ (vx_atS RX2 69 "java/lang/IllegalStateException" ["java/lang/RuntimeException", "java/lang/Exception"]).filter goodWord ++ (vx_atS RX2 50 "java/lang/IllegalArgumentException" ["java/lang/RuntimeException", "java/lang/Exception"]).filter goodWord ++ (vx_atS RX2 168 "java/lang/IndexOutOfBoundsException" ["java/lang/RuntimeException", "java/lang/Exception"]).filter goodWord)
def wsL_paste_r1 : List Cond := [Cond.classLink RL 13 "java/lang/IllegalArgumentException", Cond.classLink RL 22 "java/lang/IllegalStateException", Cond.classLink RL 28 "java/lang/IndexOutOfBoundsException", Cond.methodLink RL 30 yX2_paste, Cond.instanceMethod yX2_paste, Cond.selects RX2 yX2_paste yX2_paste, Cond.initialized RX2, Cond.code yX2_paste cX2_paste 8 (some .boolean), Cond.classLink RX2 46 "java/lang/IllegalArgumentException", Cond.initialized "java/lang/IllegalArgumentException", Cond.classLink RX2 65 "java/lang/IllegalStateException", Cond.initialized "java/lang/IllegalStateException", Cond.fieldLink RX2 11 "SpliceRoom" "hooks" "[LSpliceRoom$Reel;", Cond.methodLink RX2 42 yX2_requireHook, Cond.static yX2_requireHook, Cond.code yX2_requireHook cX2_requireHook 1 none, Cond.methodLink RX2 92 yX1_holdsCards, Cond.instanceMethod yX1_holdsCards, Cond.selects RX1 yX1_holdsCards yX1_holdsCards, Cond.initialized RX1, Cond.code yX1_holdsCards cX1_holdsCards 1 (some .boolean), Cond.fieldLink RX1 9 "SpliceRoom$Reel" "kind" "I", Cond.methodLink RX2 86 yX2_requireFrame, Cond.static yX2_requireFrame]
def wsL_paste_r2 : List Cond := [Cond.code yX2_requireFrame cX2_requireFrame 2 none, Cond.classLink RX2 164 "java/lang/IndexOutOfBoundsException", Cond.initialized "java/lang/IndexOutOfBoundsException", Cond.methodLink RX2 97 yX1_takes, Cond.instanceMethod yX1_takes, Cond.selects RX1 yX1_takes yX1_takes, Cond.code yX1_takes cX1_takes 3 (some .boolean), Cond.constantLong RX1 19 (-1), Cond.constantLong RX1 28 (1000)]
def wsL_paste : List Cond := .codeWith yL_paste cL_paste 7 (some .int) [(0, 21, 24, 13), (0, 21, 28, 22), (0, 21, 32, 28)] :: ((wsL_paste_r1 ++ wsL_paste_r2) ++ wsX20 ++ wsX10 ++ (vx_atS RX2 50 "java/lang/IllegalArgumentException" ["java/lang/RuntimeException", "java/lang/Exception"]).filter goodWord ++ (vx_atS RX2 69 "java/lang/IllegalStateException" ["java/lang/RuntimeException", "java/lang/Exception"]).filter goodWord ++ (vx_atS RX2 168 "java/lang/IndexOutOfBoundsException" ["java/lang/RuntimeException", "java/lang/Exception"]).filter goodWord)
def wsL_pull_r1 : List Cond := [Cond.classLink RL 13 "java/lang/IllegalArgumentException", Cond.classLink RL 22 "java/lang/IllegalStateException", Cond.classLink RL 28 "java/lang/IndexOutOfBoundsException", Cond.methodLink RL 34 yX2_pull, Cond.instanceMethod yX2_pull, Cond.selects RX2 yX2_pull yX2_pull, Cond.initialized RX2, Cond.code yX2_pull cX2_pull 5 (some .boolean), Cond.classLink RX2 65 "java/lang/IllegalStateException", Cond.initialized "java/lang/IllegalStateException", Cond.fieldLink RX2 11 "SpliceRoom" "hooks" "[LSpliceRoom$Reel;", Cond.constantLong RX2 101 (-1), Cond.methodLink RX2 42 yX2_requireHook, Cond.static yX2_requireHook, Cond.code yX2_requireHook cX2_requireHook 1 none, Cond.classLink RX2 46 "java/lang/IllegalArgumentException", Cond.initialized "java/lang/IllegalArgumentException", Cond.methodLink RX2 92 yX1_holdsCards, Cond.instanceMethod yX1_holdsCards, Cond.selects RX1 yX1_holdsCards yX1_holdsCards, Cond.initialized RX1, Cond.code yX1_holdsCards cX1_holdsCards 1 (some .boolean), Cond.fieldLink RX1 9 "SpliceRoom$Reel" "kind" "I", Cond.methodLink RX2 86 yX2_requireFrame]
def wsL_pull_r2 : List Cond := [Cond.static yX2_requireFrame, Cond.code yX2_requireFrame cX2_requireFrame 2 none, Cond.classLink RX2 164 "java/lang/IndexOutOfBoundsException", Cond.initialized "java/lang/IndexOutOfBoundsException"]
def wsL_pull : List Cond := .codeWith yL_pull cL_pull 5 (some .int) [(0, 17, 20, 13), (0, 17, 24, 22), (0, 17, 28, 28)] :: ((wsL_pull_r1 ++ wsL_pull_r2) ++ wsX20 ++ wsX10 ++ (vx_atS RX2 69 "java/lang/IllegalStateException" ["java/lang/RuntimeException", "java/lang/Exception"]).filter goodWord ++ (vx_atS RX2 50 "java/lang/IllegalArgumentException" ["java/lang/RuntimeException", "java/lang/Exception"]).filter goodWord ++ (vx_atS RX2 168 "java/lang/IndexOutOfBoundsException" ["java/lang/RuntimeException", "java/lang/Exception"]).filter goodWord)
def wsL_splice_r1 : List Cond := [Cond.classLink RL 13 "java/lang/IllegalArgumentException", Cond.classLink RL 22 "java/lang/IllegalStateException", Cond.methodLink RL 38 yX2_splice, Cond.instanceMethod yX2_splice, Cond.selects RX2 yX2_splice yX2_splice, Cond.initialized RX2, Cond.code yX2_splice cX2_splice 6 (some .int), Cond.fieldLink RX2 18 "SpliceRoom" "knife" "LSpliceRoom$Knife;", Cond.fieldLink RX2 11 "SpliceRoom" "hooks" "[LSpliceRoom$Reel;", Cond.methodLink RX2 42 yX2_requireHook, Cond.static yX2_requireHook, Cond.code yX2_requireHook cX2_requireHook 1 none, Cond.classLink RX2 46 "java/lang/IllegalArgumentException", Cond.initialized "java/lang/IllegalArgumentException", Cond.methodLink RX2 103 yX2_requireSharpKnife, Cond.instanceMethod yX2_requireSharpKnife, Cond.selects RX2 yX2_requireSharpKnife yX2_requireSharpKnife, Cond.code yX2_requireSharpKnife cX2_requireSharpKnife 1 none, Cond.classLink RX2 65 "java/lang/IllegalStateException", Cond.initialized "java/lang/IllegalStateException", Cond.methodLink RX2 118 yX0_isBlunt, Cond.instanceMethod yX0_isBlunt, Cond.selects RX0 yX0_isBlunt yX0_isBlunt, Cond.initialized RX0]
def wsL_splice_r2 : List Cond := [Cond.code yX0_isBlunt cX0_isBlunt 1 (some .boolean), Cond.fieldLink RX0 9 "SpliceRoom$Knife" "jamsInRow" "I", Cond.methodLink RX2 106 yX0_cut, Cond.instanceMethod yX0_cut, Cond.selects RX0 yX0_cut yX0_cut, Cond.code yX0_cut cX0_cut 6 (some .int), Cond.fieldLink RX0 18 "SpliceRoom$Knife" "far" "I", Cond.fieldLink RX0 25 "SpliceRoom$Knife" "told" "I", Cond.fieldLink RX0 28 "SpliceRoom$Knife" "laid" "I", Cond.fieldLink RX0 31 "SpliceRoom$Knife" "jams" "I", Cond.fieldLink RX0 34 "SpliceRoom$Knife" "wentWell" "I", Cond.methodLink RX0 21 yX0_lay, Cond.instanceMethod yX0_lay, Cond.selects RX0 yX0_lay yX0_lay, Cond.code yX0_lay cX0_lay 6 (some .int), Cond.methodLink RX0 55 arraycopyName, Cond.native arraycopyName, Cond.static arraycopyName, Cond.initialized "java/lang/System", Cond.methodLink RX0 37 yX1_isLike, Cond.instanceMethod yX1_isLike, Cond.selects RX1 yX1_isLike yX1_isLike, Cond.initialized RX1, Cond.code yX1_isLike cX1_isLike 2 (some .boolean)]
def wsL_splice_r3 : List Cond := [Cond.fieldLink RX1 9 "SpliceRoom$Reel" "kind" "I", Cond.methodLink RX1 21 yX1_holdsCards, Cond.instanceMethod yX1_holdsCards, Cond.selects RX1 yX1_holdsCards yX1_holdsCards, Cond.code yX1_holdsCards cX1_holdsCards 1 (some .boolean), Cond.methodLink RX1 25 yX1_holdsNumbers, Cond.instanceMethod yX1_holdsNumbers, Cond.selects RX1 yX1_holdsNumbers yX1_holdsNumbers, Cond.code yX1_holdsNumbers cX1_holdsNumbers 1 (some .boolean), Cond.methodLink RX0 43 yX1_hasFrames, Cond.instanceMethod yX1_hasFrames, Cond.selects RX1 yX1_hasFrames yX1_hasFrames, Cond.code yX1_hasFrames cX1_hasFrames 3 (some .boolean), Cond.fieldLink RX1 15 "SpliceRoom$Reel" "row" "[J", Cond.methodLink RX0 51 yX1_takes, Cond.instanceMethod yX1_takes, Cond.selects RX1 yX1_takes yX1_takes, Cond.code yX1_takes cX1_takes 3 (some .boolean), Cond.constantLong RX1 19 (-1), Cond.constantLong RX1 28 (1000)]
def wsL_splice : List Cond := .codeWith yL_splice cL_splice 8 (some .int) [(0, 16, 19, 13), (0, 16, 23, 22)] :: ((wsL_splice_r1 ++ (wsL_splice_r2 ++ wsL_splice_r3)) ++ wsX20 ++ wsX00 ++ wsX10 ++ (vx_atS RX2 50 "java/lang/IllegalArgumentException" ["java/lang/RuntimeException", "java/lang/Exception"]).filter goodWord ++ (vx_atS RX2 69 "java/lang/IllegalStateException" ["java/lang/RuntimeException", "java/lang/Exception"]).filter goodWord)
def wsL_step : List Cond := .codeWith yL_step cL_step 8 (some .int) [(0, 16, 19, 13), (0, 16, 23, 22)] :: ([.classLink RL 13 "java/lang/IllegalArgumentException", .classLink RL 22 "java/lang/IllegalStateException", .methodLink RL 42 yX2_step, .instanceMethod yX2_step, .selects RX2 yX2_step yX2_step, .initialized RX2, .code yX2_step cX2_step 6 (some .int), .classLink RX2 65 "java/lang/IllegalStateException", .initialized "java/lang/IllegalStateException", .fieldLink RX2 38 "SpliceRoom" "steps" "I", .fieldLink RX2 22 "SpliceRoom" "stepFrom" "[I", .fieldLink RX2 26 "SpliceRoom" "stepP" "[I", .fieldLink RX2 29 "SpliceRoom" "stepTo" "[I", .fieldLink RX2 32 "SpliceRoom" "stepQ" "[I", .fieldLink RX2 35 "SpliceRoom" "stepN" "[I", .methodLink RX2 42 yX2_requireHook, .static yX2_requireHook, .code yX2_requireHook cX2_requireHook 1 none, .classLink RX2 46 "java/lang/IllegalArgumentException", .initialized "java/lang/IllegalArgumentException"] ++ wsX20 ++ (vx_atS RX2 69 "java/lang/IllegalStateException" ["java/lang/RuntimeException", "java/lang/Exception"]).filter goodWord ++ (vx_atS RX2 50 "java/lang/IllegalArgumentException" ["java/lang/RuntimeException", "java/lang/Exception"]).filter goodWord)
def wsL_play_r1 : List Cond := [Cond.classLink RL 22 "java/lang/IllegalStateException", Cond.methodLink RL 45 yX2_play, Cond.instanceMethod yX2_play, Cond.selects RX2 yX2_play yX2_play, Cond.initialized RX2, Cond.code yX2_play cX2_play 4 (some .int), Cond.fieldLink RX2 38 "SpliceRoom" "steps" "I", Cond.methodLink RX2 103 yX2_requireSharpKnife, Cond.instanceMethod yX2_requireSharpKnife, Cond.selects RX2 yX2_requireSharpKnife yX2_requireSharpKnife, Cond.code yX2_requireSharpKnife cX2_requireSharpKnife 1 none, Cond.classLink RX2 65 "java/lang/IllegalStateException", Cond.initialized "java/lang/IllegalStateException", Cond.fieldLink RX2 18 "SpliceRoom" "knife" "LSpliceRoom$Knife;", Cond.methodLink RX2 118 yX0_isBlunt, Cond.instanceMethod yX0_isBlunt, Cond.selects RX0 yX0_isBlunt yX0_isBlunt, Cond.initialized RX0, Cond.code yX0_isBlunt cX0_isBlunt 1 (some .boolean), Cond.fieldLink RX0 9 "SpliceRoom$Knife" "jamsInRow" "I", Cond.methodLink RX2 112 yX2_cutTurned, Cond.instanceMethod yX2_cutTurned, Cond.selects RX2 yX2_cutTurned yX2_cutTurned, Cond.code yX2_cutTurned cX2_cutTurned 2 (some .int)]
def wsL_play_r2 : List Cond := [Cond.fieldLink RX2 11 "SpliceRoom" "hooks" "[LSpliceRoom$Reel;", Cond.fieldLink RX2 29 "SpliceRoom" "stepTo" "[I", Cond.fieldLink RX2 32 "SpliceRoom" "stepQ" "[I", Cond.fieldLink RX2 22 "SpliceRoom" "stepFrom" "[I", Cond.fieldLink RX2 26 "SpliceRoom" "stepP" "[I", Cond.fieldLink RX2 35 "SpliceRoom" "stepN" "[I", Cond.methodLink RX2 106 yX0_cut, Cond.instanceMethod yX0_cut, Cond.selects RX0 yX0_cut yX0_cut, Cond.code yX0_cut cX0_cut 6 (some .int), Cond.fieldLink RX0 18 "SpliceRoom$Knife" "far" "I", Cond.fieldLink RX0 25 "SpliceRoom$Knife" "told" "I", Cond.fieldLink RX0 28 "SpliceRoom$Knife" "laid" "I", Cond.fieldLink RX0 31 "SpliceRoom$Knife" "jams" "I", Cond.fieldLink RX0 34 "SpliceRoom$Knife" "wentWell" "I", Cond.methodLink RX0 21 yX0_lay, Cond.instanceMethod yX0_lay, Cond.selects RX0 yX0_lay yX0_lay, Cond.code yX0_lay cX0_lay 6 (some .int), Cond.methodLink RX0 55 arraycopyName, Cond.native arraycopyName, Cond.static arraycopyName, Cond.initialized "java/lang/System", Cond.methodLink RX0 37 yX1_isLike]
def wsL_play_r3 : List Cond := [Cond.instanceMethod yX1_isLike, Cond.selects RX1 yX1_isLike yX1_isLike, Cond.initialized RX1, Cond.code yX1_isLike cX1_isLike 2 (some .boolean), Cond.fieldLink RX1 9 "SpliceRoom$Reel" "kind" "I", Cond.methodLink RX1 21 yX1_holdsCards, Cond.instanceMethod yX1_holdsCards, Cond.selects RX1 yX1_holdsCards yX1_holdsCards, Cond.code yX1_holdsCards cX1_holdsCards 1 (some .boolean), Cond.methodLink RX1 25 yX1_holdsNumbers, Cond.instanceMethod yX1_holdsNumbers, Cond.selects RX1 yX1_holdsNumbers yX1_holdsNumbers, Cond.code yX1_holdsNumbers cX1_holdsNumbers 1 (some .boolean), Cond.methodLink RX0 43 yX1_hasFrames, Cond.instanceMethod yX1_hasFrames, Cond.selects RX1 yX1_hasFrames yX1_hasFrames, Cond.code yX1_hasFrames cX1_hasFrames 3 (some .boolean), Cond.fieldLink RX1 15 "SpliceRoom$Reel" "row" "[J", Cond.methodLink RX0 51 yX1_takes, Cond.instanceMethod yX1_takes, Cond.selects RX1 yX1_takes yX1_takes, Cond.code yX1_takes cX1_takes 3 (some .boolean), Cond.constantLong RX1 19 (-1), Cond.constantLong RX1 28 (1000)]
def wsL_play_r4 : List Cond := [Cond.methodLink RX2 115 yX2_cutAsWritten, Cond.instanceMethod yX2_cutAsWritten, Cond.selects RX2 yX2_cutAsWritten yX2_cutAsWritten, Cond.code yX2_cutAsWritten cX2_cutAsWritten 2 (some .int)]
def wsL_play : List Cond := .codeWith yL_play cL_play 4 (some .int) [(0, 9, 12, 22)] :: ((wsL_play_r1 ++ (wsL_play_r2 ++ (wsL_play_r3 ++ wsL_play_r4))) ++ wsX20 ++ wsX00 ++ wsX10 ++ (vx_atS RX2 69 "java/lang/IllegalStateException" ["java/lang/RuntimeException", "java/lang/Exception"]).filter goodWord)
def wsL_grind : List Cond := .codeWith yL_grind cL_grind 3 (some .int) [(0, 8, 11, 22)] :: ([.classLink RL 22 "java/lang/IllegalStateException", .methodLink RL 49 yX2_grind, .instanceMethod yX2_grind, .selects RX2 yX2_grind yX2_grind, .initialized RX2, .code yX2_grind cX2_grind 1 (some .int), .classLink RX2 65 "java/lang/IllegalStateException", .initialized "java/lang/IllegalStateException", .fieldLink RX2 18 "SpliceRoom" "knife" "LSpliceRoom$Knife;", .methodLink RX2 118 yX0_isBlunt, .instanceMethod yX0_isBlunt, .selects RX0 yX0_isBlunt yX0_isBlunt, .initialized RX0, .code yX0_isBlunt cX0_isBlunt 1 (some .boolean), .fieldLink RX0 9 "SpliceRoom$Knife" "jamsInRow" "I", .methodLink RX2 123 yX0_sharpen, .instanceMethod yX0_sharpen, .selects RX0 yX0_sharpen yX0_sharpen, .code yX0_sharpen cX0_sharpen 1 none, .fieldLink RX0 15 "SpliceRoom$Knife" "grindings" "I"] ++ wsX20 ++ wsX00 ++ (vx_atS RX2 69 "java/lang/IllegalStateException" ["java/lang/RuntimeException", "java/lang/Exception"]).filter goodWord)
def wsL_frame : List Cond := .codeWith yL_frame cL_frame 5 (some .int) [(0, 9, 12, 13), (0, 9, 16, 22), (0, 9, 20, 28)] :: ([.classLink RL 13 "java/lang/IllegalArgumentException", .classLink RL 22 "java/lang/IllegalStateException", .classLink RL 28 "java/lang/IndexOutOfBoundsException", .methodLink RL 53 yX2_frame, .instanceMethod yX2_frame, .selects RX2 yX2_frame yX2_frame, .initialized RX2, .code yX2_frame cX2_frame 4 (some .long), .classLink RX2 65 "java/lang/IllegalStateException", .initialized "java/lang/IllegalStateException", .fieldLink RX2 11 "SpliceRoom" "hooks" "[LSpliceRoom$Reel;", .methodLink RX2 42 yX2_requireHook, .static yX2_requireHook, .code yX2_requireHook cX2_requireHook 1 none, .classLink RX2 46 "java/lang/IllegalArgumentException", .initialized "java/lang/IllegalArgumentException", .methodLink RX2 86 yX2_requireFrame, .static yX2_requireFrame, .code yX2_requireFrame cX2_requireFrame 2 none, .classLink RX2 164 "java/lang/IndexOutOfBoundsException", .initialized "java/lang/IndexOutOfBoundsException"] ++ wsX20 ++ wsX10 ++ (vx_atS RX2 69 "java/lang/IllegalStateException" ["java/lang/RuntimeException", "java/lang/Exception"]).filter goodWord ++ (vx_atS RX2 50 "java/lang/IllegalArgumentException" ["java/lang/RuntimeException", "java/lang/Exception"]).filter goodWord ++ (vx_atS RX2 168 "java/lang/IndexOutOfBoundsException" ["java/lang/RuntimeException", "java/lang/Exception"]).filter goodWord)
def wsL_look : List Cond := .codeWith yL_look cL_look 5 (some .int) [(0, 10, 13, 13)] :: ([.classLink RL 13 "java/lang/IllegalArgumentException", .methodLink RL 57 yX2_look, .instanceMethod yX2_look, .selects RX2 yX2_look yX2_look, .initialized RX2, .code yX2_look cX2_look 3 (some .int), .classLink RX2 46 "java/lang/IllegalArgumentException", .initialized "java/lang/IllegalArgumentException", .fieldLink RX2 11 "SpliceRoom" "hooks" "[LSpliceRoom$Reel;", .methodLink RX2 42 yX2_requireHook, .static yX2_requireHook, .code yX2_requireHook cX2_requireHook 1 none, .methodLink RX2 58 yX2_kindOn, .instanceMethod yX2_kindOn, .selects RX2 yX2_kindOn yX2_kindOn, .code yX2_kindOn cX2_kindOn 3 (some .int), .methodLink RX2 131 yX2_framesOn, .instanceMethod yX2_framesOn, .selects RX2 yX2_framesOn yX2_framesOn, .code yX2_framesOn cX2_framesOn 3 (some .int), .methodLink RX2 134 yX2_holdersOf, .instanceMethod yX2_holdersOf, .selects RX2 yX2_holdersOf yX2_holdersOf, .code yX2_holdersOf cX2_holdersOf 4 (some .int)] ++ wsX20 ++ wsX10 ++ (vx_atS RX2 50 "java/lang/IllegalArgumentException" ["java/lang/RuntimeException", "java/lang/Exception"]).filter goodWord)
def wsL_sum : List Cond := .codeWith yL_sum cL_sum 4 (some .int) [(0, 8, 11, 13)] :: ([.classLink RL 13 "java/lang/IllegalArgumentException", .methodLink RL 60 yX2_sum, .instanceMethod yX2_sum, .selects RX2 yX2_sum yX2_sum, .initialized RX2, .code yX2_sum cX2_sum 6 (some .long), .fieldLink RX2 11 "SpliceRoom" "hooks" "[LSpliceRoom$Reel;", .constantLong RX2 140 (7), .constantLong RX2 142 (31), .methodLink RX2 42 yX2_requireHook, .static yX2_requireHook, .code yX2_requireHook cX2_requireHook 1 none, .classLink RX2 46 "java/lang/IllegalArgumentException", .initialized "java/lang/IllegalArgumentException"] ++ wsX20 ++ wsX10 ++ (vx_atS RX2 50 "java/lang/IllegalArgumentException" ["java/lang/RuntimeException", "java/lang/Exception"]).filter goodWord)
def wsL_count : List Cond := .codeWith yL_count cL_count 4 (some .int) [(0, 9, 12, 13)] :: ([.classLink RL 13 "java/lang/IllegalArgumentException", .methodLink RL 64 yX2_count, .instanceMethod yX2_count, .selects RX2 yX2_count yX2_count, .initialized RX2, .code yX2_count cX2_count 2 (some .int), .classLink RX2 46 "java/lang/IllegalArgumentException", .initialized "java/lang/IllegalArgumentException", .fieldLink RX2 18 "SpliceRoom" "knife" "LSpliceRoom$Knife;", .fieldLink RX2 38 "SpliceRoom" "steps" "I"] ++ wsX20 ++ wsX00 ++ (vx_atS RX2 50 "java/lang/IllegalArgumentException" ["java/lang/RuntimeException", "java/lang/Exception"]).filter goodWord)
def wsL_law0_r1 : List Cond := [Cond.classLink RL 8 RX2, Cond.instantiable RX2 8, Cond.initialized RX2, Cond.classLink RL 69 RX3, Cond.instantiable RX3 15, Cond.initialized RX3, Cond.arrayClass .long, Cond.constantLong RL 88 (4294967295), Cond.methodLink RL 68 yX2_init, Cond.instanceMethod yX2_init, Cond.code yX2_init cX2_init 1 none, Cond.methodLink RX2 1 objectInit, Cond.instanceMethod objectInit, Cond.code objectInit ⟨#[0xb1]⟩ 1 none, Cond.classLink RX2 9 RX1, Cond.fieldLink RX2 11 "SpliceRoom" "hooks" "[LSpliceRoom$Reel;", Cond.classLink RX2 15 RX0, Cond.instantiable RX0 7, Cond.initialized RX0, Cond.fieldLink RX2 18 "SpliceRoom" "knife" "LSpliceRoom$Knife;", Cond.arrayClass .int, Cond.fieldLink RX2 22 "SpliceRoom" "stepFrom" "[I", Cond.fieldLink RX2 26 "SpliceRoom" "stepP" "[I", Cond.fieldLink RX2 29 "SpliceRoom" "stepTo" "[I"]
def wsL_law0_r2 : List Cond := [Cond.fieldLink RX2 32 "SpliceRoom" "stepQ" "[I", Cond.fieldLink RX2 35 "SpliceRoom" "stepN" "[I", Cond.fieldLink RX2 38 "SpliceRoom" "steps" "I", Cond.instanceMethod yX0_init, Cond.code yX0_init cX0_init 1 none, Cond.methodLink RX0 3 objectInit, Cond.methodLink RL 71 yX3_init, Cond.instanceMethod yX3_init, Cond.code yX3_init cX3_init 2 none, Cond.methodLink RX3 1 objectInit, Cond.fieldLink RX3 7 "SpliceRoomModel" "on" "[I", Cond.fieldLink RX3 13 "SpliceRoomModel" "kinds" "[I", Cond.fieldLink RX3 16 "SpliceRoomModel" "sizes" "[I", Cond.fieldLink RX3 19 "SpliceRoomModel" "frames" "[J", Cond.fieldLink RX3 23 "SpliceRoomModel" "lifted" "[J", Cond.fieldLink RX3 26 "SpliceRoomModel" "sheet" "[I", Cond.methodLink RL 72 yL_wind, Cond.static yL_wind, Cond.initialized RL, Cond.codeWith yL_wind cL_wind 6 (some .int) [(0, 12, 15, 13)], Cond.classLink RL 13 "java/lang/IllegalArgumentException", Cond.methodLink RL 7 yX2_wind, Cond.instanceMethod yX2_wind, Cond.selects RX2 yX2_wind yX2_wind]
def wsL_law0_r3 : List Cond := [Cond.code yX2_wind cX2_wind 4 (some .int), Cond.classLink RX2 46 "java/lang/IllegalArgumentException", Cond.initialized "java/lang/IllegalArgumentException", Cond.instantiable RX1 2, Cond.initialized RX1, Cond.methodLink RX2 42 yX2_requireHook, Cond.static yX2_requireHook, Cond.code yX2_requireHook cX2_requireHook 1 none, Cond.methodLink RX2 53 yX1_init, Cond.instanceMethod yX1_init, Cond.code yX1_init cX1_init 4 none, Cond.methodLink RX1 3 objectInit, Cond.fieldLink RX1 9 "SpliceRoom$Reel" "kind" "I", Cond.fieldLink RX1 15 "SpliceRoom$Reel" "row" "[J", Cond.constantLong RX1 19 (-1), Cond.methodLink RL 77 yX3_wind, Cond.instanceMethod yX3_wind, Cond.selects RX3 yX3_wind yX3_wind, Cond.code yX3_wind cX3_wind 7 (some .int), Cond.fieldLink RX3 29 "SpliceRoomModel" "code" "I", Cond.constantLong RX3 49 (-1), Cond.methodLink RX3 33 yX3_in, Cond.static yX3_in, Cond.code yX3_in cX3_in 3 (some .boolean)]
def wsL_law0_r4 : List Cond := [Cond.methodLink RX3 41 yX3_isHook, Cond.static yX3_isHook, Cond.code yX3_isHook cX3_isHook 1 (some .boolean), Cond.methodLink RX3 45 yX3_free, Cond.instanceMethod yX3_free, Cond.selects RX3 yX3_free yX3_free, Cond.code yX3_free cX3_free 5 (some .int), Cond.methodLink RL 78 yX3_thrown, Cond.instanceMethod yX3_thrown, Cond.selects RX3 yX3_thrown yX3_thrown, Cond.code yX3_thrown cX3_thrown 1 (some .int), Cond.methodLink RL 81 yL_hang, Cond.static yL_hang, Cond.codeWith yL_hang cL_hang 5 (some .int) [(0, 10, 13, 13)], Cond.methodLink RL 15 yX2_hang, Cond.instanceMethod yX2_hang, Cond.selects RX2 yX2_hang yX2_hang, Cond.code yX2_hang cX2_hang 3 (some .int), Cond.methodLink RX2 58 yX2_kindOn, Cond.instanceMethod yX2_kindOn, Cond.selects RX2 yX2_kindOn yX2_kindOn, Cond.code yX2_kindOn cX2_kindOn 3 (some .int), Cond.methodLink RL 84 yX3_hang, Cond.instanceMethod yX3_hang]
def wsL_law0_r5 : List Cond := [Cond.selects RX3 yX3_hang yX3_hang, Cond.code yX3_hang cX3_hang 3 (some .int), Cond.methodLink RX3 37 yX3_kindAt, Cond.instanceMethod yX3_kindAt, Cond.selects RX3 yX3_kindAt yX3_kindAt, Cond.code yX3_kindAt cX3_kindAt 2 (some .int), Cond.methodLink RL 85 yL_twin, Cond.static yL_twin, Cond.codeWith yL_twin cL_twin 5 (some .int) [(0, 10, 13, 13), (0, 10, 17, 22)], Cond.classLink RL 22 "java/lang/IllegalStateException", Cond.methodLink RL 19 yX2_twin, Cond.instanceMethod yX2_twin, Cond.selects RX2 yX2_twin yX2_twin, Cond.code yX2_twin cX2_twin 5 (some .int), Cond.classLink RX2 65 "java/lang/IllegalStateException", Cond.initialized "java/lang/IllegalStateException", Cond.methodLink RX2 74 arraycopyName, Cond.native arraycopyName, Cond.static arraycopyName, Cond.initialized "java/lang/System", Cond.methodLink RL 87 yX3_twin, Cond.instanceMethod yX3_twin, Cond.selects RX3 yX3_twin yX3_twin, Cond.code yX3_twin cX3_twin 6 (some .int)]
def wsL_law0_r6 : List Cond := [Cond.methodLink RX3 51 yX3_hasRow, Cond.instanceMethod yX3_hasRow, Cond.selects RX3 yX3_hasRow yX3_hasRow, Cond.code yX3_hasRow cX3_hasRow 2 (some .boolean), Cond.methodLink RL 90 yL_mark, Cond.static yL_mark, Cond.codeWith yL_mark cL_mark 6 (some .int) [(0, 7, 10, 13), (0, 7, 14, 22), (0, 7, 18, 28)], Cond.classLink RL 28 "java/lang/IndexOutOfBoundsException", Cond.methodLink RL 24 yX2_mark, Cond.instanceMethod yX2_mark, Cond.selects RX2 yX2_mark yX2_mark, Cond.code yX2_mark cX2_mark 6 none, Cond.methodLink RX2 80 yX1_holdsNumbers, Cond.instanceMethod yX1_holdsNumbers, Cond.selects RX1 yX1_holdsNumbers yX1_holdsNumbers, Cond.code yX1_holdsNumbers cX1_holdsNumbers 1 (some .boolean), Cond.methodLink RX2 86 yX2_requireFrame, Cond.static yX2_requireFrame, Cond.code yX2_requireFrame cX2_requireFrame 2 none, Cond.classLink RX2 164 "java/lang/IndexOutOfBoundsException", Cond.initialized "java/lang/IndexOutOfBoundsException", Cond.methodLink RL 93 yX3_mark, Cond.instanceMethod yX3_mark, Cond.selects RX3 yX3_mark yX3_mark]
def wsL_law0_r7 : List Cond := [Cond.code yX3_mark cX3_mark 5 none, Cond.methodLink RX3 54 yX3_sizeAt, Cond.instanceMethod yX3_sizeAt, Cond.selects RX3 yX3_sizeAt yX3_sizeAt, Cond.code yX3_sizeAt cX3_sizeAt 2 (some .int), Cond.methodLink RL 94 yL_paste, Cond.static yL_paste, Cond.codeWith yL_paste cL_paste 7 (some .int) [(0, 21, 24, 13), (0, 21, 28, 22), (0, 21, 32, 28)], Cond.methodLink RL 30 yX2_paste, Cond.instanceMethod yX2_paste, Cond.selects RX2 yX2_paste yX2_paste, Cond.code yX2_paste cX2_paste 8 (some .boolean), Cond.methodLink RX2 92 yX1_holdsCards, Cond.instanceMethod yX1_holdsCards, Cond.selects RX1 yX1_holdsCards yX1_holdsCards, Cond.code yX1_holdsCards cX1_holdsCards 1 (some .boolean), Cond.methodLink RX2 97 yX1_takes, Cond.instanceMethod yX1_takes, Cond.selects RX1 yX1_takes yX1_takes, Cond.code yX1_takes cX1_takes 3 (some .boolean), Cond.constantLong RX1 28 (1000), Cond.methodLink RL 97 yX3_paste, Cond.instanceMethod yX3_paste, Cond.selects RX3 yX3_paste yX3_paste]
def wsL_law0_r8 : List Cond := [Cond.code yX3_paste cX3_paste 5 (some .boolean), Cond.constantLong RX3 64 (1000), Cond.methodLink RX3 60 yX3_cardCode, Cond.instanceMethod yX3_cardCode, Cond.selects RX3 yX3_cardCode yX3_cardCode, Cond.code yX3_cardCode cX3_cardCode 3 (some .int), Cond.methodLink RX3 57 yX3_hasCards, Cond.instanceMethod yX3_hasCards, Cond.selects RX3 yX3_hasCards yX3_hasCards, Cond.code yX3_hasCards cX3_hasCards 2 (some .boolean), Cond.methodLink RL 98 yL_pull, Cond.static yL_pull, Cond.codeWith yL_pull cL_pull 5 (some .int) [(0, 17, 20, 13), (0, 17, 24, 22), (0, 17, 28, 28)], Cond.methodLink RL 34 yX2_pull, Cond.instanceMethod yX2_pull, Cond.selects RX2 yX2_pull yX2_pull, Cond.code yX2_pull cX2_pull 5 (some .boolean), Cond.constantLong RX2 101 (-1), Cond.methodLink RL 100 yX3_pull, Cond.instanceMethod yX3_pull, Cond.selects RX3 yX3_pull yX3_pull, Cond.code yX3_pull cX3_pull 5 (some .boolean), Cond.methodLink RL 101 yL_splice, Cond.static yL_splice]
def wsL_law0_r9 : List Cond := [Cond.codeWith yL_splice cL_splice 8 (some .int) [(0, 16, 19, 13), (0, 16, 23, 22)], Cond.methodLink RL 38 yX2_splice, Cond.instanceMethod yX2_splice, Cond.selects RX2 yX2_splice yX2_splice, Cond.code yX2_splice cX2_splice 6 (some .int), Cond.methodLink RX2 103 yX2_requireSharpKnife, Cond.instanceMethod yX2_requireSharpKnife, Cond.selects RX2 yX2_requireSharpKnife yX2_requireSharpKnife, Cond.code yX2_requireSharpKnife cX2_requireSharpKnife 1 none, Cond.methodLink RX2 118 yX0_isBlunt, Cond.instanceMethod yX0_isBlunt, Cond.selects RX0 yX0_isBlunt yX0_isBlunt, Cond.code yX0_isBlunt cX0_isBlunt 1 (some .boolean), Cond.fieldLink RX0 9 "SpliceRoom$Knife" "jamsInRow" "I", Cond.methodLink RX2 106 yX0_cut, Cond.instanceMethod yX0_cut, Cond.selects RX0 yX0_cut yX0_cut, Cond.code yX0_cut cX0_cut 6 (some .int), Cond.fieldLink RX0 18 "SpliceRoom$Knife" "far" "I", Cond.fieldLink RX0 25 "SpliceRoom$Knife" "told" "I", Cond.fieldLink RX0 28 "SpliceRoom$Knife" "laid" "I", Cond.fieldLink RX0 31 "SpliceRoom$Knife" "jams" "I", Cond.fieldLink RX0 34 "SpliceRoom$Knife" "wentWell" "I", Cond.methodLink RX0 21 yX0_lay]
def wsL_law0_r10 : List Cond := [Cond.instanceMethod yX0_lay, Cond.selects RX0 yX0_lay yX0_lay, Cond.code yX0_lay cX0_lay 6 (some .int), Cond.methodLink RX0 55 arraycopyName, Cond.methodLink RX0 37 yX1_isLike, Cond.instanceMethod yX1_isLike, Cond.selects RX1 yX1_isLike yX1_isLike, Cond.code yX1_isLike cX1_isLike 2 (some .boolean), Cond.methodLink RX1 21 yX1_holdsCards, Cond.methodLink RX1 25 yX1_holdsNumbers, Cond.methodLink RX0 43 yX1_hasFrames, Cond.instanceMethod yX1_hasFrames, Cond.selects RX1 yX1_hasFrames yX1_hasFrames, Cond.code yX1_hasFrames cX1_hasFrames 3 (some .boolean), Cond.methodLink RX0 51 yX1_takes, Cond.methodLink RL 104 yX3_splice, Cond.instanceMethod yX3_splice, Cond.selects RX3 yX3_splice yX3_splice, Cond.code yX3_splice cX3_splice 6 (some .int), Cond.methodLink RX3 88 yX3_isBlunt, Cond.instanceMethod yX3_isBlunt, Cond.selects RX3 yX3_isBlunt yX3_isBlunt, Cond.code yX3_isBlunt cX3_isBlunt 1 (some .boolean), Cond.fieldLink RX3 79 "SpliceRoomModel" "inRow" "I"]
def wsL_law0_r11 : List Cond := [Cond.methodLink RX3 92 yX3_cut, Cond.instanceMethod yX3_cut, Cond.selects RX3 yX3_cut yX3_cut, Cond.code yX3_cut cX3_cut 8 (some .int), Cond.fieldLink RX3 70 "SpliceRoomModel" "far" "I", Cond.fieldLink RX3 73 "SpliceRoomModel" "laid" "I", Cond.fieldLink RX3 76 "SpliceRoomModel" "jams" "I", Cond.fieldLink RX3 82 "SpliceRoomModel" "well" "I", Cond.fieldLink RX3 85 "SpliceRoomModel" "told" "I", Cond.methodLink RX3 66 yX3_against, Cond.instanceMethod yX3_against, Cond.selects RX3 yX3_against yX3_against, Cond.code yX3_against cX3_against 10 (some .int), Cond.methodLink RL 105 yL_step, Cond.static yL_step, Cond.codeWith yL_step cL_step 8 (some .int) [(0, 16, 19, 13), (0, 16, 23, 22)], Cond.methodLink RL 42 yX2_step, Cond.instanceMethod yX2_step, Cond.selects RX2 yX2_step yX2_step, Cond.code yX2_step cX2_step 6 (some .int), Cond.methodLink RL 107 yX3_step, Cond.instanceMethod yX3_step, Cond.selects RX3 yX3_step yX3_step, Cond.code yX3_step cX3_step 7 (some .int)]
def wsL_law0_r12 : List Cond := [Cond.fieldLink RX3 95 "SpliceRoomModel" "steps" "I", Cond.methodLink RL 108 yL_play, Cond.static yL_play, Cond.codeWith yL_play cL_play 4 (some .int) [(0, 9, 12, 22)], Cond.methodLink RL 45 yX2_play, Cond.instanceMethod yX2_play, Cond.selects RX2 yX2_play yX2_play, Cond.code yX2_play cX2_play 4 (some .int), Cond.methodLink RX2 112 yX2_cutTurned, Cond.instanceMethod yX2_cutTurned, Cond.selects RX2 yX2_cutTurned yX2_cutTurned, Cond.code yX2_cutTurned cX2_cutTurned 2 (some .int), Cond.methodLink RX2 115 yX2_cutAsWritten, Cond.instanceMethod yX2_cutAsWritten, Cond.selects RX2 yX2_cutAsWritten yX2_cutAsWritten, Cond.code yX2_cutAsWritten cX2_cutAsWritten 2 (some .int), Cond.methodLink RL 111 yX3_play, Cond.instanceMethod yX3_play, Cond.selects RX3 yX3_play yX3_play, Cond.code yX3_play cX3_play 7 (some .int), Cond.methodLink RL 112 yX2_sweep, Cond.instanceMethod yX2_sweep, Cond.selects RX2 yX2_sweep yX2_sweep, Cond.code yX2_sweep cX2_sweep 2 (some .int)]
def wsL_law0_r13 : List Cond := [Cond.methodLink RL 115 yX3_sweep, Cond.instanceMethod yX3_sweep, Cond.selects RX3 yX3_sweep yX3_sweep, Cond.code yX3_sweep cX3_sweep 2 (some .int), Cond.methodLink RL 116 yL_grind, Cond.static yL_grind, Cond.codeWith yL_grind cL_grind 3 (some .int) [(0, 8, 11, 22)], Cond.methodLink RL 49 yX2_grind, Cond.instanceMethod yX2_grind, Cond.selects RX2 yX2_grind yX2_grind, Cond.code yX2_grind cX2_grind 1 (some .int), Cond.methodLink RX2 123 yX0_sharpen, Cond.instanceMethod yX0_sharpen, Cond.selects RX0 yX0_sharpen yX0_sharpen, Cond.code yX0_sharpen cX0_sharpen 1 none, Cond.fieldLink RX0 15 "SpliceRoom$Knife" "grindings" "I", Cond.methodLink RL 119 yX3_grind, Cond.instanceMethod yX3_grind, Cond.selects RX3 yX3_grind yX3_grind, Cond.code yX3_grind cX3_grind 1 (some .int), Cond.fieldLink RX3 98 "SpliceRoomModel" "grindings" "I", Cond.methodLink RL 120 yL_frame, Cond.static yL_frame, Cond.codeWith yL_frame cL_frame 5 (some .int) [(0, 9, 12, 13), (0, 9, 16, 22), (0, 9, 20, 28)]]
def wsL_law0_r14 : List Cond := [Cond.methodLink RL 53 yX2_frame, Cond.instanceMethod yX2_frame, Cond.selects RX2 yX2_frame yX2_frame, Cond.code yX2_frame cX2_frame 4 (some .long), Cond.methodLink RL 122 yX3_frame, Cond.instanceMethod yX3_frame, Cond.selects RX3 yX3_frame yX3_frame, Cond.code yX3_frame cX3_frame 3 (some .long), Cond.methodLink RL 123 yL_look, Cond.static yL_look, Cond.codeWith yL_look cL_look 5 (some .int) [(0, 10, 13, 13)], Cond.methodLink RL 57 yX2_look, Cond.instanceMethod yX2_look, Cond.selects RX2 yX2_look yX2_look, Cond.code yX2_look cX2_look 3 (some .int), Cond.methodLink RX2 131 yX2_framesOn, Cond.instanceMethod yX2_framesOn, Cond.selects RX2 yX2_framesOn yX2_framesOn, Cond.code yX2_framesOn cX2_framesOn 3 (some .int), Cond.methodLink RX2 134 yX2_holdersOf, Cond.instanceMethod yX2_holdersOf, Cond.selects RX2 yX2_holdersOf yX2_holdersOf, Cond.code yX2_holdersOf cX2_holdersOf 4 (some .int), Cond.methodLink RL 125 yX3_look]
def wsL_law0_r15 : List Cond := [Cond.instanceMethod yX3_look, Cond.selects RX3 yX3_look yX3_look, Cond.code yX3_look cX3_look 5 (some .int), Cond.methodLink RL 126 yL_sum, Cond.static yL_sum, Cond.codeWith yL_sum cL_sum 4 (some .int) [(0, 8, 11, 13)], Cond.methodLink RL 60 yX2_sum, Cond.instanceMethod yX2_sum, Cond.selects RX2 yX2_sum yX2_sum, Cond.code yX2_sum cX2_sum 6 (some .long), Cond.constantLong RX2 140 (7), Cond.constantLong RX2 142 (31), Cond.methodLink RL 129 yX3_sum, Cond.instanceMethod yX3_sum, Cond.selects RX3 yX3_sum yX3_sum, Cond.code yX3_sum cX3_sum 5 (some .long), Cond.constantLong RX3 101 (7), Cond.constantLong RX3 103 (31), Cond.methodLink RL 130 yL_count, Cond.static yL_count, Cond.codeWith yL_count cL_count 4 (some .int) [(0, 9, 12, 13)], Cond.methodLink RL 64 yX2_count, Cond.instanceMethod yX2_count, Cond.selects RX2 yX2_count yX2_count]
def wsL_law0_r16 : List Cond := [Cond.code yX2_count cX2_count 2 (some .int), Cond.methodLink RL 132 yX3_count, Cond.instanceMethod yX3_count, Cond.selects RX3 yX3_count yX3_count, Cond.code yX3_count cX3_count 2 (some .int)]
def wsL_law0 : List Cond := (wsL_law0_r1 ++ (wsL_law0_r2 ++ (wsL_law0_r3 ++ (wsL_law0_r4 ++ (wsL_law0_r5 ++ (wsL_law0_r6 ++ (wsL_law0_r7 ++ (wsL_law0_r8 ++ (wsL_law0_r9 ++ (wsL_law0_r10 ++ (wsL_law0_r11 ++ (wsL_law0_r12 ++ (wsL_law0_r13 ++ (wsL_law0_r14 ++ (wsL_law0_r15 ++ wsL_law0_r16))))))))))))))) ++ wsX20 ++ wsX30 ++ wsX00 ++ wsX10 ++ ([] : List Cond)
def wsL_law : List Cond := wsL_law0 ++ (vx_atS RX2 50 "java/lang/IllegalArgumentException" ["java/lang/RuntimeException", "java/lang/Exception"]).filter goodWord ++ (vx_atS RX2 69 "java/lang/IllegalStateException" ["java/lang/RuntimeException", "java/lang/Exception"]).filter goodWord ++ (vx_atS RX2 168 "java/lang/IndexOutOfBoundsException" ["java/lang/RuntimeException", "java/lang/Exception"]).filter goodWord
abbrev vwCl : List vw_C := [(RX0, TX0, 7), (RX1, TX1, 2), (RX2, TX2, 8), (RX3, TX3, 15)]
end
section
set_option maxRecDepth 20000 in
theorem ggX0_cut_X0_lay : GoodIn wsX0_cut wsX0_lay := goodIn_r _ [11, 1, 12, 13, 14, 15, 16, 17, 18, 19, 20, 21, 22, 23, 24, 25, 26, 27, 28, 29, 30, 31, 32, 33, 34, 35, 36, 37, 38, 39, 40, 41, 42, 43, 44, 45, 46, 47, 48, 49] (by decide +kernel) (by decide +kernel)
set_option maxRecDepth 20000 in
theorem gX0_cut_X0_lay : GoodIn wsX0_cut (wsV RX0 21 RX0 yX0_lay wsX0_lay) := goodIn_app (goodIn_of _ (by decide +kernel)) ggX0_cut_X0_lay
set_option maxRecDepth 20000 in
theorem ggX0_lay_X1_isLike : GoodIn wsX0_lay wsX1_isLike := goodIn_r _ [10, 11, 12, 13, 14, 9, 15, 16, 17, 18, 19, 38, 39] (by decide +kernel) (by decide +kernel)
set_option maxRecDepth 20000 in
theorem gX0_lay_X1_isLike : GoodIn wsX0_lay (wsV RX0 37 RX1 yX1_isLike wsX1_isLike) := goodIn_app (goodIn_of _ (by decide +kernel)) ggX0_lay_X1_isLike
set_option maxRecDepth 20000 in
theorem ggX0_lay_X1_hasFrames : GoodIn wsX0_lay wsX1_hasFrames := goodIn_r _ [23, 24, 38, 39] (by decide +kernel) (by decide +kernel)
set_option maxRecDepth 20000 in
theorem gX0_lay_X1_hasFrames : GoodIn wsX0_lay (wsV RX0 43 RX1 yX1_hasFrames wsX1_hasFrames) := goodIn_app (goodIn_of _ (by decide +kernel)) ggX0_lay_X1_hasFrames
set_option maxRecDepth 20000 in
theorem ggX0_lay_X1_takes : GoodIn wsX0_lay wsX1_takes := goodIn_r _ [28, 11, 29, 30, 38, 39] (by decide +kernel) (by decide +kernel)
set_option maxRecDepth 20000 in
theorem gX0_lay_X1_takes : GoodIn wsX0_lay (wsV RX0 51 RX1 yX1_takes wsX1_takes) := goodIn_app (goodIn_of _ (by decide +kernel)) ggX0_lay_X1_takes
set_option maxRecDepth 20000 in
theorem ggX1_isLike_X1_holdsCards : GoodIn wsX1_isLike wsX1_holdsCards := goodIn_r _ [6, 1, 11, 12] (by decide +kernel) (by decide +kernel)
set_option maxRecDepth 20000 in
theorem gX1_isLike_X1_holdsCards : GoodIn wsX1_isLike (wsV RX1 21 RX1 yX1_holdsCards wsX1_holdsCards) := goodIn_app (goodIn_of _ (by decide +kernel)) ggX1_isLike_X1_holdsCards
set_option maxRecDepth 20000 in
theorem ggX1_isLike_X1_holdsNumbers : GoodIn wsX1_isLike wsX1_holdsNumbers := goodIn_r _ [10, 1, 11, 12] (by decide +kernel) (by decide +kernel)
set_option maxRecDepth 20000 in
theorem gX1_isLike_X1_holdsNumbers : GoodIn wsX1_isLike (wsV RX1 25 RX1 yX1_holdsNumbers wsX1_holdsNumbers) := goodIn_app (goodIn_of _ (by decide +kernel)) ggX1_isLike_X1_holdsNumbers
set_option maxRecDepth 20000 in
theorem ggX2_init_X0_init : GoodIn wsX2_init wsX0_init := goodIn_r _ [18, 19, 2, 3] (by decide +kernel) (by decide +kernel)
set_option maxRecDepth 20000 in
theorem gX2_init_X0_init_n17 : GoodIn wsX2_init (wsX0_init) := ggX2_init_X0_init
set_option maxRecDepth 20000 in
theorem ggX2_wind_X2_requireHook : GoodIn wsX2_wind wsX2_requireHook := goodIn_ca (goodIn_r _ [10, 1, 2] (by decide +kernel) (by decide +kernel)) (goodIn_sub (fun _ h => List.mem_cons_of_mem _ (List.mem_append_right _ h)) (by decide +kernel))
set_option maxRecDepth 20000 in
theorem gX2_wind_X2_requireHook : GoodIn wsX2_wind (va_wsS RX2 42 yX2_requireHook wsX2_requireHook) := goodIn_app (goodIn_of _ (by decide +kernel)) ggX2_wind_X2_requireHook
set_option maxRecDepth 20000 in
theorem ggX2_wind_X1_init : GoodIn wsX2_wind wsX1_init := goodIn_r _ [13, 14, 15, 16, 17, 18, 19, 20, 29, 30] (by decide +kernel) (by decide +kernel)
set_option maxRecDepth 20000 in
theorem gX2_wind_X1_init : GoodIn wsX2_wind (wsX1_init) := ggX2_wind_X1_init
set_option maxRecDepth 20000 in
theorem ggX2_hang_X2_requireHook : GoodIn wsX2_hang wsX2_requireHook := goodIn_ca (goodIn_r _ [5, 6, 7] (by decide +kernel) (by decide +kernel)) (goodIn_sub (fun _ h => List.mem_cons_of_mem _ (List.mem_append_right _ h)) (by decide +kernel))
set_option maxRecDepth 20000 in
theorem gX2_hang_X2_requireHook : GoodIn wsX2_hang (va_wsS RX2 42 yX2_requireHook wsX2_requireHook) := goodIn_app (goodIn_of _ (by decide +kernel)) ggX2_hang_X2_requireHook
set_option maxRecDepth 20000 in
theorem ggX2_hang_X2_kindOn : GoodIn wsX2_hang wsX2_kindOn := goodIn_r _ [11, 1, 12, 13, 14, 15, 16, 17, 18, 19, 20, 21] (by decide +kernel) (by decide +kernel)
set_option maxRecDepth 20000 in
theorem gX2_hang_X2_kindOn : GoodIn wsX2_hang (wsV RX2 58 RX2 yX2_kindOn wsX2_kindOn) := goodIn_app (goodIn_of _ (by decide +kernel)) ggX2_hang_X2_kindOn
set_option maxRecDepth 20000 in
theorem ggX2_twin_X2_requireHook : GoodIn wsX2_twin wsX2_requireHook := goodIn_ca (goodIn_r _ [14, 15, 16] (by decide +kernel) (by decide +kernel)) (goodIn_sub (fun _ h => List.mem_cons_of_mem _ (List.mem_append_right _ h)) (by decide +kernel))
set_option maxRecDepth 20000 in
theorem gX2_twin_X2_requireHook : GoodIn wsX2_twin (va_wsS RX2 42 yX2_requireHook wsX2_requireHook) := goodIn_app (goodIn_of _ (by decide +kernel)) ggX2_twin_X2_requireHook
set_option maxRecDepth 20000 in
theorem ggX2_twin_X1_init : GoodIn wsX2_twin wsX1_init := goodIn_r _ [19, 20, 21, 22, 23, 24, 25, 26, 35, 36] (by decide +kernel) (by decide +kernel)
set_option maxRecDepth 20000 in
theorem gX2_twin_X1_init : GoodIn wsX2_twin (wsX1_init) := ggX2_twin_X1_init
set_option maxRecDepth 20000 in
theorem ggX2_mark_X2_requireHook : GoodIn wsX2_mark wsX2_requireHook := goodIn_ca (goodIn_r _ [7, 8, 9] (by decide +kernel) (by decide +kernel)) (goodIn_sub (fun _ h => List.mem_cons_of_mem _ (List.mem_append_left _ (List.mem_append_right _ h))) (by decide +kernel))
set_option maxRecDepth 20000 in
theorem gX2_mark_X2_requireHook : GoodIn wsX2_mark (va_wsS RX2 42 yX2_requireHook wsX2_requireHook) := goodIn_app (goodIn_of _ (by decide +kernel)) ggX2_mark_X2_requireHook
set_option maxRecDepth 20000 in
theorem ggX2_mark_X1_holdsNumbers : GoodIn wsX2_mark wsX1_holdsNumbers := goodIn_r _ [14, 15, 29, 30] (by decide +kernel) (by decide +kernel)
set_option maxRecDepth 20000 in
theorem gX2_mark_X1_holdsNumbers : GoodIn wsX2_mark (wsV RX2 80 RX1 yX1_holdsNumbers wsX1_holdsNumbers) := goodIn_app (goodIn_of _ (by decide +kernel)) ggX2_mark_X1_holdsNumbers
set_option maxRecDepth 20000 in
theorem ggX2_mark_X2_requireFrame : GoodIn wsX2_mark wsX2_requireFrame := goodIn_ca (goodIn_r _ [18, 19, 20, 29, 30] (by decide +kernel) (by decide +kernel)) (goodIn_sub (fun _ h => List.mem_cons_of_mem _ (List.mem_append_right _ h)) (by decide +kernel))
set_option maxRecDepth 20000 in
theorem gX2_mark_X2_requireFrame : GoodIn wsX2_mark (va_wsS RX2 86 yX2_requireFrame wsX2_requireFrame) := goodIn_app (goodIn_of _ (by decide +kernel)) ggX2_mark_X2_requireFrame
set_option maxRecDepth 20000 in
theorem ggX2_paste_X2_requireHook : GoodIn wsX2_paste wsX2_requireHook := goodIn_ca (goodIn_r _ [9, 1, 2] (by decide +kernel) (by decide +kernel)) (goodIn_sub (fun _ h => List.mem_cons_of_mem _ (List.mem_append_left _ (List.mem_append_left _ (List.mem_append_right _ h)))) (by decide +kernel))
set_option maxRecDepth 20000 in
theorem gX2_paste_X2_requireHook : GoodIn wsX2_paste (va_wsS RX2 42 yX2_requireHook wsX2_requireHook) := goodIn_app (goodIn_of _ (by decide +kernel)) ggX2_paste_X2_requireHook
set_option maxRecDepth 20000 in
theorem ggX2_paste_X1_holdsCards : GoodIn wsX2_paste wsX1_holdsCards := goodIn_r _ [14, 15, 35, 36] (by decide +kernel) (by decide +kernel)
set_option maxRecDepth 20000 in
theorem gX2_paste_X1_holdsCards : GoodIn wsX2_paste (wsV RX2 92 RX1 yX1_holdsCards wsX1_holdsCards) := goodIn_app (goodIn_of _ (by decide +kernel)) ggX2_paste_X1_holdsCards
set_option maxRecDepth 20000 in
theorem ggX2_paste_X2_requireFrame : GoodIn wsX2_paste wsX2_requireFrame := goodIn_ca (goodIn_r _ [18, 19, 20, 35, 36] (by decide +kernel) (by decide +kernel)) (goodIn_sub (fun _ h => List.mem_cons_of_mem _ (List.mem_append_right _ h)) (by decide +kernel))
set_option maxRecDepth 20000 in
theorem gX2_paste_X2_requireFrame : GoodIn wsX2_paste (va_wsS RX2 86 yX2_requireFrame wsX2_requireFrame) := goodIn_app (goodIn_of _ (by decide +kernel)) ggX2_paste_X2_requireFrame
set_option maxRecDepth 20000 in
theorem ggX2_paste_X1_takes : GoodIn wsX2_paste wsX1_takes := goodIn_r _ [24, 15, 25, 26, 35, 36] (by decide +kernel) (by decide +kernel)
set_option maxRecDepth 20000 in
theorem gX2_paste_X1_takes : GoodIn wsX2_paste (wsV RX2 97 RX1 yX1_takes wsX1_takes) := goodIn_app (goodIn_of _ (by decide +kernel)) ggX2_paste_X1_takes
set_option maxRecDepth 20000 in
theorem ggX2_pull_X2_requireHook : GoodIn wsX2_pull wsX2_requireHook := goodIn_ca (goodIn_r _ [8, 9, 10] (by decide +kernel) (by decide +kernel)) (goodIn_sub (fun _ h => List.mem_cons_of_mem _ (List.mem_append_left _ (List.mem_append_right _ h))) (by decide +kernel))
set_option maxRecDepth 20000 in
theorem gX2_pull_X2_requireHook : GoodIn wsX2_pull (va_wsS RX2 42 yX2_requireHook wsX2_requireHook) := goodIn_app (goodIn_of _ (by decide +kernel)) ggX2_pull_X2_requireHook
set_option maxRecDepth 20000 in
theorem ggX2_pull_X1_holdsCards : GoodIn wsX2_pull wsX1_holdsCards := goodIn_r _ [15, 16, 30, 31] (by decide +kernel) (by decide +kernel)
set_option maxRecDepth 20000 in
theorem gX2_pull_X1_holdsCards : GoodIn wsX2_pull (wsV RX2 92 RX1 yX1_holdsCards wsX1_holdsCards) := goodIn_app (goodIn_of _ (by decide +kernel)) ggX2_pull_X1_holdsCards
set_option maxRecDepth 20000 in
theorem ggX2_pull_X2_requireFrame : GoodIn wsX2_pull wsX2_requireFrame := goodIn_ca (goodIn_r _ [19, 20, 21, 30, 31] (by decide +kernel) (by decide +kernel)) (goodIn_sub (fun _ h => List.mem_cons_of_mem _ (List.mem_append_right _ h)) (by decide +kernel))
set_option maxRecDepth 20000 in
theorem gX2_pull_X2_requireFrame : GoodIn wsX2_pull (va_wsS RX2 86 yX2_requireFrame wsX2_requireFrame) := goodIn_app (goodIn_of _ (by decide +kernel)) ggX2_pull_X2_requireFrame
set_option maxRecDepth 20000 in
theorem ggX2_splice_X2_requireHook : GoodIn wsX2_splice wsX2_requireHook := goodIn_ca (goodIn_r _ [6, 7, 8] (by decide +kernel) (by decide +kernel)) (goodIn_sub (fun _ h => List.mem_cons_of_mem _ (List.mem_append_left _ (List.mem_append_right _ h))) (by decide +kernel))
set_option maxRecDepth 20000 in
theorem gX2_splice_X2_requireHook : GoodIn wsX2_splice (va_wsS RX2 42 yX2_requireHook wsX2_requireHook) := goodIn_app (goodIn_of _ (by decide +kernel)) ggX2_splice_X2_requireHook
set_option maxRecDepth 20000 in
theorem ggX2_splice_X2_requireSharpKnife : GoodIn wsX2_splice wsX2_requireSharpKnife := goodIn_ca (goodIn_r _ [12, 13, 14, 1, 15, 16, 17, 18, 19, 20, 63, 64, 65, 66, 67, 68, 69, 70, 71, 72, 73, 74, 75, 76, 77] (by decide +kernel) (by decide +kernel)) (goodIn_sub (fun _ h => List.mem_cons_of_mem _ (List.mem_append_right _ h)) (by decide +kernel))
set_option maxRecDepth 20000 in
theorem gX2_splice_X2_requireSharpKnife : GoodIn wsX2_splice (wsV RX2 103 RX2 yX2_requireSharpKnife wsX2_requireSharpKnife) := goodIn_app (goodIn_of _ (by decide +kernel)) ggX2_splice_X2_requireSharpKnife
set_option maxRecDepth 20000 in
theorem ggX2_splice_X0_cut : GoodIn wsX2_splice wsX0_cut := goodIn_r _ [24, 25, 26, 27, 28, 20, 29, 30, 31, 32, 18, 33, 34, 35, 36, 37, 38, 39, 40, 41, 42, 43, 44, 45, 46, 47, 48, 49, 50, 51, 52, 53, 54, 55, 56, 57, 58, 59, 60, 61, 62, 71, 72, 73, 74, 75, 76, 77, 78, 79] (by decide +kernel) (by decide +kernel)
set_option maxRecDepth 20000 in
theorem gX2_splice_X0_cut : GoodIn wsX2_splice (wsV RX2 106 RX0 yX0_cut wsX0_cut) := goodIn_app (goodIn_of _ (by decide +kernel)) ggX2_splice_X0_cut
set_option maxRecDepth 20000 in
theorem ggX2_step_X2_requireHook : GoodIn wsX2_step wsX2_requireHook := goodIn_ca (goodIn_r _ [12, 13, 14] (by decide +kernel) (by decide +kernel)) (goodIn_sub (fun _ h => List.mem_cons_of_mem _ (List.mem_append_right _ h)) (by decide +kernel))
set_option maxRecDepth 20000 in
theorem gX2_step_X2_requireHook : GoodIn wsX2_step (va_wsS RX2 42 yX2_requireHook wsX2_requireHook) := goodIn_app (goodIn_of _ (by decide +kernel)) ggX2_step_X2_requireHook
set_option maxRecDepth 20000 in
theorem ggX2_play_X2_requireSharpKnife : GoodIn wsX2_play wsX2_requireSharpKnife := goodIn_ca (goodIn_r _ [6, 7, 8, 9, 10, 11, 12, 13, 14, 15, 72, 73, 74, 75, 76, 77, 78, 79, 80, 81, 82, 83, 84, 85, 86] (by decide +kernel) (by decide +kernel)) (goodIn_sub (fun _ h => List.mem_cons_of_mem _ (List.mem_append_right _ h)) (by decide +kernel))
set_option maxRecDepth 20000 in
theorem gX2_play_X2_requireSharpKnife : GoodIn wsX2_play (wsV RX2 103 RX2 yX2_requireSharpKnife wsX2_requireSharpKnife) := goodIn_app (goodIn_of _ (by decide +kernel)) ggX2_play_X2_requireSharpKnife
set_option maxRecDepth 20000 in
theorem ggX2_play_X2_cutTurned : GoodIn wsX2_play wsX2_cutTurned := goodIn_r _ [19, 9, 20, 21, 22, 23, 24, 25, 26, 27, 28, 13, 29, 30, 31, 32, 33, 15, 34, 35, 36, 37, 38, 39, 40, 41, 42, 43, 44, 45, 46, 47, 48, 49, 50, 51, 52, 53, 54, 55, 56, 57, 58, 59, 60, 61, 62, 63, 64, 65, 66, 67, 72, 73, 74, 75, 76, 77, 78, 79, 80, 81, 82, 83, 84, 85, 86, 87, 88] (by decide +kernel) (by decide +kernel)
set_option maxRecDepth 20000 in
theorem gX2_play_X2_cutTurned : GoodIn wsX2_play (wsV RX2 112 RX2 yX2_cutTurned wsX2_cutTurned) := goodIn_app (goodIn_of _ (by decide +kernel)) ggX2_play_X2_cutTurned
set_option maxRecDepth 20000 in
theorem ggX2_play_X2_cutAsWritten : GoodIn wsX2_play wsX2_cutAsWritten := goodIn_r _ [71, 9, 20, 23, 24, 21, 22, 25, 26, 27, 28, 13, 29, 30, 31, 32, 33, 15, 34, 35, 36, 37, 38, 39, 40, 41, 42, 43, 44, 45, 46, 47, 48, 49, 50, 51, 52, 53, 54, 55, 56, 57, 58, 59, 60, 61, 62, 63, 64, 65, 66, 67, 72, 73, 74, 75, 76, 77, 78, 79, 80, 81, 82, 83, 84, 85, 86, 87, 88] (by decide +kernel) (by decide +kernel)
set_option maxRecDepth 20000 in
theorem gX2_play_X2_cutAsWritten : GoodIn wsX2_play (wsV RX2 115 RX2 yX2_cutAsWritten wsX2_cutAsWritten) := goodIn_app (goodIn_of _ (by decide +kernel)) ggX2_play_X2_cutAsWritten
set_option maxRecDepth 20000 in
theorem ggX2_grind_X0_isBlunt : GoodIn wsX2_grind wsX0_isBlunt := goodIn_r _ [8, 9, 23, 24, 25, 26, 27, 28, 29] (by decide +kernel) (by decide +kernel)
set_option maxRecDepth 20000 in
theorem gX2_grind_X0_isBlunt : GoodIn wsX2_grind (wsV RX2 118 RX0 yX0_isBlunt wsX0_isBlunt) := goodIn_app (goodIn_of _ (by decide +kernel)) ggX2_grind_X0_isBlunt
set_option maxRecDepth 20000 in
theorem ggX2_grind_X0_sharpen : GoodIn wsX2_grind wsX0_sharpen := goodIn_r _ [13, 9, 14, 23, 24, 25, 26, 27, 28, 29] (by decide +kernel) (by decide +kernel)
set_option maxRecDepth 20000 in
theorem gX2_grind_X0_sharpen : GoodIn wsX2_grind (wsV RX2 123 RX0 yX0_sharpen wsX0_sharpen) := goodIn_app (goodIn_of _ (by decide +kernel)) ggX2_grind_X0_sharpen
set_option maxRecDepth 20000 in
theorem ggX2_frame_X2_requireHook : GoodIn wsX2_frame wsX2_requireHook := goodIn_ca (goodIn_r _ [7, 8, 9] (by decide +kernel) (by decide +kernel)) (goodIn_sub (fun _ h => List.mem_cons_of_mem _ (List.mem_append_left _ (List.mem_append_right _ h))) (by decide +kernel))
set_option maxRecDepth 20000 in
theorem gX2_frame_X2_requireHook : GoodIn wsX2_frame (va_wsS RX2 42 yX2_requireHook wsX2_requireHook) := goodIn_app (goodIn_of _ (by decide +kernel)) ggX2_frame_X2_requireHook
set_option maxRecDepth 20000 in
theorem ggX2_frame_X2_requireFrame : GoodIn wsX2_frame wsX2_requireFrame := goodIn_ca (goodIn_r _ [12, 13, 14, 23, 24] (by decide +kernel) (by decide +kernel)) (goodIn_sub (fun _ h => List.mem_cons_of_mem _ (List.mem_append_right _ h)) (by decide +kernel))
set_option maxRecDepth 20000 in
theorem gX2_frame_X2_requireFrame : GoodIn wsX2_frame (va_wsS RX2 86 yX2_requireFrame wsX2_requireFrame) := goodIn_app (goodIn_of _ (by decide +kernel)) ggX2_frame_X2_requireFrame
set_option maxRecDepth 20000 in
theorem ggX2_look_X2_requireHook : GoodIn wsX2_look wsX2_requireHook := goodIn_ca (goodIn_r _ [7, 1, 2] (by decide +kernel) (by decide +kernel)) (goodIn_sub (fun _ h => List.mem_cons_of_mem _ (List.mem_append_right _ h)) (by decide +kernel))
set_option maxRecDepth 20000 in
theorem gX2_look_X2_requireHook : GoodIn wsX2_look (va_wsS RX2 42 yX2_requireHook wsX2_requireHook) := goodIn_app (goodIn_of _ (by decide +kernel)) ggX2_look_X2_requireHook
set_option maxRecDepth 20000 in
theorem ggX2_look_X2_kindOn : GoodIn wsX2_look wsX2_kindOn := goodIn_r _ [11, 3, 20, 21, 22, 23, 24, 25, 26, 27, 28, 29] (by decide +kernel) (by decide +kernel)
set_option maxRecDepth 20000 in
theorem gX2_look_X2_kindOn : GoodIn wsX2_look (wsV RX2 58 RX2 yX2_kindOn wsX2_kindOn) := goodIn_app (goodIn_of _ (by decide +kernel)) ggX2_look_X2_kindOn
set_option maxRecDepth 20000 in
theorem ggX2_look_X2_framesOn : GoodIn wsX2_look wsX2_framesOn := goodIn_r _ [15, 3, 20, 21, 22, 23, 24, 25, 26, 27, 28, 29] (by decide +kernel) (by decide +kernel)
set_option maxRecDepth 20000 in
theorem gX2_look_X2_framesOn : GoodIn wsX2_look (wsV RX2 131 RX2 yX2_framesOn wsX2_framesOn) := goodIn_app (goodIn_of _ (by decide +kernel)) ggX2_look_X2_framesOn
set_option maxRecDepth 20000 in
theorem ggX2_look_X2_holdersOf : GoodIn wsX2_look wsX2_holdersOf := goodIn_r _ [19, 3, 20, 21, 22, 23, 24, 25, 26, 27] (by decide +kernel) (by decide +kernel)
set_option maxRecDepth 20000 in
theorem gX2_look_X2_holdersOf : GoodIn wsX2_look (wsV RX2 134 RX2 yX2_holdersOf wsX2_holdersOf) := goodIn_app (goodIn_of _ (by decide +kernel)) ggX2_look_X2_holdersOf
set_option maxRecDepth 20000 in
theorem ggX2_sum_X2_requireHook : GoodIn wsX2_sum wsX2_requireHook := goodIn_ca (goodIn_r _ [7, 8, 9] (by decide +kernel) (by decide +kernel)) (goodIn_sub (fun _ h => List.mem_cons_of_mem _ (List.mem_append_right _ h)) (by decide +kernel))
set_option maxRecDepth 20000 in
theorem gX2_sum_X2_requireHook : GoodIn wsX2_sum (va_wsS RX2 42 yX2_requireHook wsX2_requireHook) := goodIn_app (goodIn_of _ (by decide +kernel)) ggX2_sum_X2_requireHook
set_option maxRecDepth 20000 in
theorem ggX2_requireSharpKnife_X0_isBlunt : GoodIn wsX2_requireSharpKnife wsX0_isBlunt := goodIn_r _ [8, 9, 18, 19, 20, 21, 22, 23, 24] (by decide +kernel) (by decide +kernel)
set_option maxRecDepth 20000 in
theorem gX2_requireSharpKnife_X0_isBlunt : GoodIn wsX2_requireSharpKnife (wsV RX2 118 RX0 yX0_isBlunt wsX0_isBlunt) := goodIn_app (goodIn_of _ (by decide +kernel)) ggX2_requireSharpKnife_X0_isBlunt
set_option maxRecDepth 20000 in
theorem ggX2_cutAsWritten_X0_cut : GoodIn wsX2_cutAsWritten wsX0_cut := goodIn_r _ [12, 13, 14, 15, 16, 17, 18, 19, 20, 21, 11, 22, 23, 24, 25, 26, 27, 28, 29, 30, 31, 32, 33, 34, 35, 36, 37, 38, 39, 40, 41, 42, 43, 44, 45, 46, 47, 48, 49, 50, 51, 60, 61, 62, 63, 64, 65, 66, 67, 68] (by decide +kernel) (by decide +kernel)
set_option maxRecDepth 20000 in
theorem gX2_cutAsWritten_X0_cut : GoodIn wsX2_cutAsWritten (wsV RX2 106 RX0 yX0_cut wsX0_cut) := goodIn_app (goodIn_of _ (by decide +kernel)) ggX2_cutAsWritten_X0_cut
set_option maxRecDepth 20000 in
theorem ggX2_cutTurned_X0_cut : GoodIn wsX2_cutTurned wsX0_cut := goodIn_r _ [12, 13, 14, 15, 16, 17, 18, 19, 20, 21, 11, 22, 23, 24, 25, 26, 27, 28, 29, 30, 31, 32, 33, 34, 35, 36, 37, 38, 39, 40, 41, 42, 43, 44, 45, 46, 47, 48, 49, 50, 51, 60, 61, 62, 63, 64, 65, 66, 67, 68] (by decide +kernel) (by decide +kernel)
set_option maxRecDepth 20000 in
theorem gX2_cutTurned_X0_cut : GoodIn wsX2_cutTurned (wsV RX2 106 RX0 yX0_cut wsX0_cut) := goodIn_app (goodIn_of _ (by decide +kernel)) ggX2_cutTurned_X0_cut
end
section
set_option maxRecDepth 20000 in
theorem ggX3_isHook_X3_in : GoodIn wsX3_isHook wsX3_in := goodIn_r _ [4] (by decide +kernel) (by decide +kernel)
set_option maxRecDepth 20000 in
theorem gX3_isHook_X3_in : GoodIn wsX3_isHook (va_wsS RX3 33 yX3_in wsX3_in) := goodIn_app (goodIn_of _ (by decide +kernel)) ggX3_isHook_X3_in
set_option maxRecDepth 20000 in
theorem ggX3_hasRow_X3_kindAt : GoodIn wsX3_hasRow wsX3_kindAt := goodIn_r _ [5, 6, 7, 11, 12, 13, 14, 15, 16, 17, 18, 19, 20, 21, 22, 23, 24, 25] (by decide +kernel) (by decide +kernel)
set_option maxRecDepth 20000 in
theorem gX3_hasRow_X3_kindAt : GoodIn wsX3_hasRow (wsV RX3 37 RX3 yX3_kindAt wsX3_kindAt) := goodIn_app (goodIn_of _ (by decide +kernel)) ggX3_hasRow_X3_kindAt
set_option maxRecDepth 20000 in
theorem ggX3_hasRow_X3_in : GoodIn wsX3_hasRow wsX3_in := goodIn_r _ [10] (by decide +kernel) (by decide +kernel)
set_option maxRecDepth 20000 in
theorem gX3_hasRow_X3_in : GoodIn wsX3_hasRow (va_wsS RX3 33 yX3_in wsX3_in) := goodIn_app (goodIn_of _ (by decide +kernel)) ggX3_hasRow_X3_in
set_option maxRecDepth 20000 in
theorem ggX3_hasCards_X3_kindAt : GoodIn wsX3_hasCards wsX3_kindAt := goodIn_r _ [5, 6, 7, 11, 12, 13, 14, 15, 16, 17, 18, 19, 20, 21, 22, 23, 24, 25] (by decide +kernel) (by decide +kernel)
set_option maxRecDepth 20000 in
theorem gX3_hasCards_X3_kindAt : GoodIn wsX3_hasCards (wsV RX3 37 RX3 yX3_kindAt wsX3_kindAt) := goodIn_app (goodIn_of _ (by decide +kernel)) ggX3_hasCards_X3_kindAt
set_option maxRecDepth 20000 in
theorem ggX3_hasCards_X3_in : GoodIn wsX3_hasCards wsX3_in := goodIn_r _ [10] (by decide +kernel) (by decide +kernel)
set_option maxRecDepth 20000 in
theorem gX3_hasCards_X3_in : GoodIn wsX3_hasCards (va_wsS RX3 33 yX3_in wsX3_in) := goodIn_app (goodIn_of _ (by decide +kernel)) ggX3_hasCards_X3_in
set_option maxRecDepth 20000 in
theorem ggX3_wind_X3_in : GoodIn wsX3_wind wsX3_in := goodIn_r _ [10] (by decide +kernel) (by decide +kernel)
set_option maxRecDepth 20000 in
theorem gX3_wind_X3_in : GoodIn wsX3_wind (va_wsS RX3 33 yX3_in wsX3_in) := goodIn_app (goodIn_of _ (by decide +kernel)) ggX3_wind_X3_in
set_option maxRecDepth 20000 in
theorem ggX3_wind_X3_isHook : GoodIn wsX3_wind wsX3_isHook := goodIn_r _ [13, 7, 8, 9, 10] (by decide +kernel) (by decide +kernel)
set_option maxRecDepth 20000 in
theorem gX3_wind_X3_isHook : GoodIn wsX3_wind (va_wsS RX3 41 yX3_isHook wsX3_isHook) := goodIn_app (goodIn_of _ (by decide +kernel)) ggX3_wind_X3_isHook
set_option maxRecDepth 20000 in
theorem ggX3_wind_X3_free : GoodIn wsX3_wind wsX3_free := goodIn_r _ [17, 2, 18, 19, 20, 21, 22, 23, 24, 25, 26, 27, 28, 29, 30, 31, 32] (by decide +kernel) (by decide +kernel)
set_option maxRecDepth 20000 in
theorem gX3_wind_X3_free : GoodIn wsX3_wind (wsV RX3 45 RX3 yX3_free wsX3_free) := goodIn_app (goodIn_of _ (by decide +kernel)) ggX3_wind_X3_free
set_option maxRecDepth 20000 in
theorem ggX3_hang_X3_isHook : GoodIn wsX3_hang wsX3_isHook := goodIn_r _ [6, 7, 8, 5, 9] (by decide +kernel) (by decide +kernel)
set_option maxRecDepth 20000 in
theorem gX3_hang_X3_isHook : GoodIn wsX3_hang (va_wsS RX3 41 yX3_isHook wsX3_isHook) := goodIn_app (goodIn_of _ (by decide +kernel)) ggX3_hang_X3_isHook
set_option maxRecDepth 20000 in
theorem ggX3_hang_X3_kindAt : GoodIn wsX3_hang wsX3_kindAt := goodIn_r _ [13, 2, 14, 15, 16, 17, 18, 19, 20, 21, 22, 23, 24, 25, 26, 27, 28, 29] (by decide +kernel) (by decide +kernel)
set_option maxRecDepth 20000 in
theorem gX3_hang_X3_kindAt : GoodIn wsX3_hang (wsV RX3 37 RX3 yX3_kindAt wsX3_kindAt) := goodIn_app (goodIn_of _ (by decide +kernel)) ggX3_hang_X3_kindAt
set_option maxRecDepth 20000 in
theorem ggX3_twin_X3_isHook : GoodIn wsX3_twin wsX3_isHook := goodIn_r _ [9, 10, 11, 8, 12] (by decide +kernel) (by decide +kernel)
set_option maxRecDepth 20000 in
theorem gX3_twin_X3_isHook : GoodIn wsX3_twin (va_wsS RX3 41 yX3_isHook wsX3_isHook) := goodIn_app (goodIn_of _ (by decide +kernel)) ggX3_twin_X3_isHook
set_option maxRecDepth 20000 in
theorem ggX3_twin_X3_hasRow : GoodIn wsX3_twin wsX3_hasRow := goodIn_r _ [16, 17, 18, 19, 8, 20, 2, 3, 10, 11, 12, 25, 26, 27, 28, 29, 30, 31, 32, 33, 34, 35, 36, 37, 38, 39] (by decide +kernel) (by decide +kernel)
set_option maxRecDepth 20000 in
theorem gX3_twin_X3_hasRow : GoodIn wsX3_twin (wsV RX3 51 RX3 yX3_hasRow wsX3_hasRow) := goodIn_app (goodIn_of _ (by decide +kernel)) ggX3_twin_X3_hasRow
set_option maxRecDepth 20000 in
theorem ggX3_twin_X3_free : GoodIn wsX3_twin wsX3_free := goodIn_r _ [24, 2, 25, 26, 27, 28, 29, 30, 31, 32, 33, 34, 35, 36, 37, 38, 39] (by decide +kernel) (by decide +kernel)
set_option maxRecDepth 20000 in
theorem gX3_twin_X3_free : GoodIn wsX3_twin (wsV RX3 45 RX3 yX3_free wsX3_free) := goodIn_app (goodIn_of _ (by decide +kernel)) ggX3_twin_X3_free
set_option maxRecDepth 20000 in
theorem ggX3_mark_X3_isHook : GoodIn wsX3_mark wsX3_isHook := goodIn_r _ [7, 8, 9, 6, 10] (by decide +kernel) (by decide +kernel)
set_option maxRecDepth 20000 in
theorem gX3_mark_X3_isHook : GoodIn wsX3_mark (va_wsS RX3 41 yX3_isHook wsX3_isHook) := goodIn_app (goodIn_of _ (by decide +kernel)) ggX3_mark_X3_isHook
set_option maxRecDepth 20000 in
theorem ggX3_mark_X3_kindAt : GoodIn wsX3_mark wsX3_kindAt := goodIn_r _ [14, 3, 15, 21, 22, 23, 24, 25, 26, 27, 28, 29, 30, 31, 32, 33, 34, 35] (by decide +kernel) (by decide +kernel)
set_option maxRecDepth 20000 in
theorem gX3_mark_X3_kindAt : GoodIn wsX3_mark (wsV RX3 37 RX3 yX3_kindAt wsX3_kindAt) := goodIn_app (goodIn_of _ (by decide +kernel)) ggX3_mark_X3_kindAt
set_option maxRecDepth 20000 in
theorem ggX3_mark_X3_in : GoodIn wsX3_mark wsX3_in := goodIn_r _ [10] (by decide +kernel) (by decide +kernel)
set_option maxRecDepth 20000 in
theorem gX3_mark_X3_in : GoodIn wsX3_mark (va_wsS RX3 33 yX3_in wsX3_in) := goodIn_app (goodIn_of _ (by decide +kernel)) ggX3_mark_X3_in
set_option maxRecDepth 20000 in
theorem ggX3_mark_X3_sizeAt : GoodIn wsX3_mark wsX3_sizeAt := goodIn_r _ [19, 20, 3, 21, 22, 23, 24, 25, 26, 27, 28, 29, 30, 31, 32, 33, 34, 35] (by decide +kernel) (by decide +kernel)
set_option maxRecDepth 20000 in
theorem gX3_mark_X3_sizeAt : GoodIn wsX3_mark (wsV RX3 54 RX3 yX3_sizeAt wsX3_sizeAt) := goodIn_app (goodIn_of _ (by decide +kernel)) ggX3_mark_X3_sizeAt
set_option maxRecDepth 20000 in
theorem ggX3_cardCode_X3_hasCards : GoodIn wsX3_cardCode wsX3_hasCards := goodIn_r _ [5, 6, 7, 8, 4, 9, 10, 11, 12, 13, 14, 20, 21, 22, 23, 24, 25, 26, 27, 28, 29, 30, 31, 32, 33, 34] (by decide +kernel) (by decide +kernel)
set_option maxRecDepth 20000 in
theorem gX3_cardCode_X3_hasCards : GoodIn wsX3_cardCode (wsV RX3 57 RX3 yX3_hasCards wsX3_hasCards) := goodIn_app (goodIn_of _ (by decide +kernel)) ggX3_cardCode_X3_hasCards
set_option maxRecDepth 20000 in
theorem ggX3_cardCode_X3_sizeAt : GoodIn wsX3_cardCode wsX3_sizeAt := goodIn_r _ [18, 19, 10, 20, 21, 22, 23, 24, 25, 26, 27, 28, 29, 30, 31, 32, 33, 34] (by decide +kernel) (by decide +kernel)
set_option maxRecDepth 20000 in
theorem gX3_cardCode_X3_sizeAt : GoodIn wsX3_cardCode (wsV RX3 54 RX3 yX3_sizeAt wsX3_sizeAt) := goodIn_app (goodIn_of _ (by decide +kernel)) ggX3_cardCode_X3_sizeAt
set_option maxRecDepth 20000 in
theorem ggX3_cardCode_X3_in : GoodIn wsX3_cardCode wsX3_in := goodIn_r _ [14] (by decide +kernel) (by decide +kernel)
set_option maxRecDepth 20000 in
theorem gX3_cardCode_X3_in : GoodIn wsX3_cardCode (va_wsS RX3 33 yX3_in wsX3_in) := goodIn_app (goodIn_of _ (by decide +kernel)) ggX3_cardCode_X3_in
set_option maxRecDepth 20000 in
theorem ggX3_paste_X3_isHook : GoodIn wsX3_paste wsX3_isHook := goodIn_r _ [8, 9, 10, 7, 11] (by decide +kernel) (by decide +kernel)
set_option maxRecDepth 20000 in
theorem gX3_paste_X3_isHook : GoodIn wsX3_paste (va_wsS RX3 41 yX3_isHook wsX3_isHook) := goodIn_app (goodIn_of _ (by decide +kernel)) ggX3_paste_X3_isHook
set_option maxRecDepth 20000 in
theorem ggX3_paste_X3_in : GoodIn wsX3_paste wsX3_in := goodIn_r _ [11] (by decide +kernel) (by decide +kernel)
set_option maxRecDepth 20000 in
theorem gX3_paste_X3_in : GoodIn wsX3_paste (va_wsS RX3 33 yX3_in wsX3_in) := goodIn_app (goodIn_of _ (by decide +kernel)) ggX3_paste_X3_in
set_option maxRecDepth 20000 in
theorem ggX3_paste_X3_cardCode : GoodIn wsX3_paste wsX3_cardCode := goodIn_r _ [15, 16, 17, 18, 7, 19, 20, 21, 22, 23, 3, 24, 9, 10, 11, 25, 26, 27, 28, 29, 30, 31, 32, 33, 34, 35, 36, 37, 38, 39, 40, 41, 42, 43, 44] (by decide +kernel) (by decide +kernel)
set_option maxRecDepth 20000 in
theorem gX3_paste_X3_cardCode : GoodIn wsX3_paste (wsV RX3 60 RX3 yX3_cardCode wsX3_cardCode) := goodIn_app (goodIn_of _ (by decide +kernel)) ggX3_paste_X3_cardCode
set_option maxRecDepth 20000 in
theorem ggX3_paste_X3_kindAt : GoodIn wsX3_paste wsX3_kindAt := goodIn_r _ [23, 3, 24, 30, 31, 32, 33, 34, 35, 36, 37, 38, 39, 40, 41, 42, 43, 44] (by decide +kernel) (by decide +kernel)
set_option maxRecDepth 20000 in
theorem gX3_paste_X3_kindAt : GoodIn wsX3_paste (wsV RX3 37 RX3 yX3_kindAt wsX3_kindAt) := goodIn_app (goodIn_of _ (by decide +kernel)) ggX3_paste_X3_kindAt
set_option maxRecDepth 20000 in
theorem ggX3_pull_X3_isHook : GoodIn wsX3_pull wsX3_isHook := goodIn_r _ [8, 9, 10, 7, 11] (by decide +kernel) (by decide +kernel)
set_option maxRecDepth 20000 in
theorem gX3_pull_X3_isHook : GoodIn wsX3_pull (va_wsS RX3 41 yX3_isHook wsX3_isHook) := goodIn_app (goodIn_of _ (by decide +kernel)) ggX3_pull_X3_isHook
set_option maxRecDepth 20000 in
theorem ggX3_pull_X3_cardCode : GoodIn wsX3_pull wsX3_cardCode := goodIn_r _ [15, 16, 17, 18, 7, 19, 20, 21, 22, 23, 2, 24, 9, 10, 11, 25, 26, 27, 28, 29, 30, 31, 32, 33, 34, 35, 36, 37, 38, 39, 40, 41, 42, 43, 44] (by decide +kernel) (by decide +kernel)
set_option maxRecDepth 20000 in
theorem gX3_pull_X3_cardCode : GoodIn wsX3_pull (wsV RX3 60 RX3 yX3_cardCode wsX3_cardCode) := goodIn_app (goodIn_of _ (by decide +kernel)) ggX3_pull_X3_cardCode
set_option maxRecDepth 20000 in
theorem ggX3_frame_X3_isHook : GoodIn wsX3_frame wsX3_isHook := goodIn_r _ [7, 8, 9, 6, 10] (by decide +kernel) (by decide +kernel)
set_option maxRecDepth 20000 in
theorem gX3_frame_X3_isHook : GoodIn wsX3_frame (va_wsS RX3 41 yX3_isHook wsX3_isHook) := goodIn_app (goodIn_of _ (by decide +kernel)) ggX3_frame_X3_isHook
set_option maxRecDepth 20000 in
theorem ggX3_frame_X3_hasRow : GoodIn wsX3_frame wsX3_hasRow := goodIn_r _ [14, 15, 16, 17, 6, 18, 3, 19, 8, 9, 10, 25, 26, 27, 28, 29, 30, 31, 32, 33, 34, 35, 36, 37, 38, 39] (by decide +kernel) (by decide +kernel)
set_option maxRecDepth 20000 in
theorem gX3_frame_X3_hasRow : GoodIn wsX3_frame (wsV RX3 51 RX3 yX3_hasRow wsX3_hasRow) := goodIn_app (goodIn_of _ (by decide +kernel)) ggX3_frame_X3_hasRow
set_option maxRecDepth 20000 in
theorem ggX3_frame_X3_sizeAt : GoodIn wsX3_frame wsX3_sizeAt := goodIn_r _ [23, 24, 3, 25, 26, 27, 28, 29, 30, 31, 32, 33, 34, 35, 36, 37, 38, 39] (by decide +kernel) (by decide +kernel)
set_option maxRecDepth 20000 in
theorem gX3_frame_X3_sizeAt : GoodIn wsX3_frame (wsV RX3 54 RX3 yX3_sizeAt wsX3_sizeAt) := goodIn_app (goodIn_of _ (by decide +kernel)) ggX3_frame_X3_sizeAt
set_option maxRecDepth 20000 in
theorem ggX3_frame_X3_in : GoodIn wsX3_frame wsX3_in := goodIn_r _ [10] (by decide +kernel) (by decide +kernel)
set_option maxRecDepth 20000 in
theorem gX3_frame_X3_in : GoodIn wsX3_frame (va_wsS RX3 33 yX3_in wsX3_in) := goodIn_app (goodIn_of _ (by decide +kernel)) ggX3_frame_X3_in
set_option maxRecDepth 20000 in
theorem ggX3_against_X3_kindAt : GoodIn wsX3_against wsX3_kindAt := goodIn_r _ [5, 6, 7, 13, 14, 15, 16, 17, 18, 19, 20, 21, 22, 23, 24, 25, 26, 27] (by decide +kernel) (by decide +kernel)
set_option maxRecDepth 20000 in
theorem gX3_against_X3_kindAt : GoodIn wsX3_against (wsV RX3 37 RX3 yX3_kindAt wsX3_kindAt) := goodIn_app (goodIn_of _ (by decide +kernel)) ggX3_against_X3_kindAt
set_option maxRecDepth 20000 in
theorem ggX3_against_X3_sizeAt : GoodIn wsX3_against wsX3_sizeAt := goodIn_r _ [11, 12, 6, 13, 14, 15, 16, 17, 18, 19, 20, 21, 22, 23, 24, 25, 26, 27] (by decide +kernel) (by decide +kernel)
set_option maxRecDepth 20000 in
theorem gX3_against_X3_sizeAt : GoodIn wsX3_against (wsV RX3 54 RX3 yX3_sizeAt wsX3_sizeAt) := goodIn_app (goodIn_of _ (by decide +kernel)) ggX3_against_X3_sizeAt
set_option maxRecDepth 20000 in
theorem ggX3_cut_X3_against : GoodIn wsX3_cut wsX3_against := goodIn_r _ [14, 15, 16, 17, 13, 18, 4, 19, 20, 21, 22, 23, 24, 28, 29, 30, 31, 32, 33, 34, 35, 36, 37, 38, 39, 40, 41, 42] (by decide +kernel) (by decide +kernel)
set_option maxRecDepth 20000 in
theorem gX3_cut_X3_against : GoodIn wsX3_cut (wsV RX3 66 RX3 yX3_against wsX3_against) := goodIn_app (goodIn_of _ (by decide +kernel)) ggX3_cut_X3_against
set_option maxRecDepth 20000 in
theorem ggX3_cut_X3_kindAt : GoodIn wsX3_cut wsX3_kindAt := goodIn_r _ [18, 4, 19, 28, 29, 30, 31, 32, 33, 34, 35, 36, 37, 38, 39, 40, 41, 42] (by decide +kernel) (by decide +kernel)
set_option maxRecDepth 20000 in
theorem gX3_cut_X3_kindAt : GoodIn wsX3_cut (wsV RX3 37 RX3 yX3_kindAt wsX3_kindAt) := goodIn_app (goodIn_of _ (by decide +kernel)) ggX3_cut_X3_kindAt
set_option maxRecDepth 20000 in
theorem ggX3_cut_X3_in : GoodIn wsX3_cut wsX3_in := goodIn_r _ [27] (by decide +kernel) (by decide +kernel)
set_option maxRecDepth 20000 in
theorem gX3_cut_X3_in : GoodIn wsX3_cut (va_wsS RX3 33 yX3_in wsX3_in) := goodIn_app (goodIn_of _ (by decide +kernel)) ggX3_cut_X3_in
set_option maxRecDepth 20000 in
theorem ggX3_splice_X3_isHook : GoodIn wsX3_splice wsX3_isHook := goodIn_r _ [5, 6, 7, 4, 8] (by decide +kernel) (by decide +kernel)
set_option maxRecDepth 20000 in
theorem gX3_splice_X3_isHook : GoodIn wsX3_splice (va_wsS RX3 41 yX3_isHook wsX3_isHook) := goodIn_app (goodIn_of _ (by decide +kernel)) ggX3_splice_X3_isHook
set_option maxRecDepth 20000 in
theorem ggX3_splice_X3_isBlunt : GoodIn wsX3_splice wsX3_isBlunt := goodIn_r _ [12, 13, 40, 41, 42, 43, 44, 45, 46, 47, 48, 49, 50, 51, 52, 53, 54] (by decide +kernel) (by decide +kernel)
set_option maxRecDepth 20000 in
theorem gX3_splice_X3_isBlunt : GoodIn wsX3_splice (wsV RX3 88 RX3 yX3_isBlunt wsX3_isBlunt) := goodIn_app (goodIn_of _ (by decide +kernel)) ggX3_splice_X3_isBlunt
set_option maxRecDepth 20000 in
theorem ggX3_splice_X3_cut : GoodIn wsX3_splice wsX3_cut := goodIn_r _ [17, 18, 19, 20, 21, 22, 23, 13, 24, 25, 26, 27, 28, 4, 29, 30, 31, 32, 33, 34, 35, 36, 37, 38, 39, 6, 7, 8, 40, 41, 42, 43, 44, 45, 46, 47, 48, 49, 50, 51, 52, 53, 54] (by decide +kernel) (by decide +kernel)
set_option maxRecDepth 20000 in
theorem gX3_splice_X3_cut : GoodIn wsX3_splice (wsV RX3 92 RX3 yX3_cut wsX3_cut) := goodIn_app (goodIn_of _ (by decide +kernel)) ggX3_splice_X3_cut
set_option maxRecDepth 20000 in
theorem ggX3_step_X3_isHook : GoodIn wsX3_step wsX3_isHook := goodIn_r _ [7, 8, 9, 6, 10] (by decide +kernel) (by decide +kernel)
set_option maxRecDepth 20000 in
theorem gX3_step_X3_isHook : GoodIn wsX3_step (va_wsS RX3 41 yX3_isHook wsX3_isHook) := goodIn_app (goodIn_of _ (by decide +kernel)) ggX3_step_X3_isHook
set_option maxRecDepth 20000 in
theorem ggX3_play_X3_isBlunt : GoodIn wsX3_play wsX3_isBlunt := goodIn_r _ [8, 9, 39, 40, 41, 42, 43, 44, 45, 46, 47, 48, 49, 50, 51, 52, 53] (by decide +kernel) (by decide +kernel)
set_option maxRecDepth 20000 in
theorem gX3_play_X3_isBlunt : GoodIn wsX3_play (wsV RX3 88 RX3 yX3_isBlunt wsX3_isBlunt) := goodIn_app (goodIn_of _ (by decide +kernel)) ggX3_play_X3_isBlunt
set_option maxRecDepth 20000 in
theorem ggX3_play_X3_cut : GoodIn wsX3_play wsX3_cut := goodIn_r _ [13, 14, 15, 16, 17, 18, 19, 9, 20, 21, 22, 23, 24, 7, 25, 26, 27, 28, 29, 30, 31, 32, 33, 34, 35, 36, 37, 38, 39, 40, 41, 42, 43, 44, 45, 46, 47, 48, 49, 50, 51, 52, 53] (by decide +kernel) (by decide +kernel)
set_option maxRecDepth 20000 in
theorem gX3_play_X3_cut : GoodIn wsX3_play (wsV RX3 92 RX3 yX3_cut wsX3_cut) := goodIn_app (goodIn_of _ (by decide +kernel)) ggX3_play_X3_cut
set_option maxRecDepth 20000 in
theorem ggX3_grind_X3_isBlunt : GoodIn wsX3_grind wsX3_isBlunt := goodIn_r _ [8, 2, 9, 10, 11, 12, 13, 14, 15, 16, 17, 18, 19, 20, 21, 22, 23] (by decide +kernel) (by decide +kernel)
set_option maxRecDepth 20000 in
theorem gX3_grind_X3_isBlunt : GoodIn wsX3_grind (wsV RX3 88 RX3 yX3_isBlunt wsX3_isBlunt) := goodIn_app (goodIn_of _ (by decide +kernel)) ggX3_grind_X3_isBlunt
set_option maxRecDepth 20000 in
theorem ggX3_look_X3_isHook : GoodIn wsX3_look wsX3_isHook := goodIn_r _ [6, 7, 8, 5, 9] (by decide +kernel) (by decide +kernel)
set_option maxRecDepth 20000 in
theorem gX3_look_X3_isHook : GoodIn wsX3_look (va_wsS RX3 41 yX3_isHook wsX3_isHook) := goodIn_app (goodIn_of _ (by decide +kernel)) ggX3_look_X3_isHook
set_option maxRecDepth 20000 in
theorem ggX3_look_X3_in : GoodIn wsX3_look wsX3_in := goodIn_r _ [9] (by decide +kernel) (by decide +kernel)
set_option maxRecDepth 20000 in
theorem gX3_look_X3_in : GoodIn wsX3_look (va_wsS RX3 33 yX3_in wsX3_in) := goodIn_app (goodIn_of _ (by decide +kernel)) ggX3_look_X3_in
set_option maxRecDepth 20000 in
theorem ggX3_look_X3_kindAt : GoodIn wsX3_look wsX3_kindAt := goodIn_r _ [13, 2, 14, 24, 25, 26, 27, 28, 29, 30, 31, 32, 33, 34, 35, 36, 37, 38] (by decide +kernel) (by decide +kernel)
set_option maxRecDepth 20000 in
theorem gX3_look_X3_kindAt : GoodIn wsX3_look (wsV RX3 37 RX3 yX3_kindAt wsX3_kindAt) := goodIn_app (goodIn_of _ (by decide +kernel)) ggX3_look_X3_kindAt
set_option maxRecDepth 20000 in
theorem ggX3_look_X3_hasRow : GoodIn wsX3_look wsX3_hasRow := goodIn_r _ [18, 10, 11, 12, 5, 13, 2, 14, 7, 8, 9, 24, 25, 26, 27, 28, 29, 30, 31, 32, 33, 34, 35, 36, 37, 38] (by decide +kernel) (by decide +kernel)
set_option maxRecDepth 20000 in
theorem gX3_look_X3_hasRow : GoodIn wsX3_look (wsV RX3 51 RX3 yX3_hasRow wsX3_hasRow) := goodIn_app (goodIn_of _ (by decide +kernel)) ggX3_look_X3_hasRow
set_option maxRecDepth 20000 in
theorem ggX3_look_X3_sizeAt : GoodIn wsX3_look wsX3_sizeAt := goodIn_r _ [22, 23, 2, 24, 25, 26, 27, 28, 29, 30, 31, 32, 33, 34, 35, 36, 37, 38] (by decide +kernel) (by decide +kernel)
set_option maxRecDepth 20000 in
theorem gX3_look_X3_sizeAt : GoodIn wsX3_look (wsV RX3 54 RX3 yX3_sizeAt wsX3_sizeAt) := goodIn_app (goodIn_of _ (by decide +kernel)) ggX3_look_X3_sizeAt
set_option maxRecDepth 20000 in
theorem ggX3_sum_X3_isHook : GoodIn wsX3_sum wsX3_isHook := goodIn_r _ [9, 10, 11, 8, 12] (by decide +kernel) (by decide +kernel)
set_option maxRecDepth 20000 in
theorem gX3_sum_X3_isHook : GoodIn wsX3_sum (va_wsS RX3 41 yX3_isHook wsX3_isHook) := goodIn_app (goodIn_of _ (by decide +kernel)) ggX3_sum_X3_isHook
set_option maxRecDepth 20000 in
theorem ggX3_sum_X3_hasRow : GoodIn wsX3_sum wsX3_hasRow := goodIn_r _ [16, 17, 18, 19, 8, 20, 5, 21, 10, 11, 12, 27, 28, 29, 30, 31, 32, 33, 34, 35, 36, 37, 38, 39, 40, 41] (by decide +kernel) (by decide +kernel)
set_option maxRecDepth 20000 in
theorem gX3_sum_X3_hasRow : GoodIn wsX3_sum (wsV RX3 51 RX3 yX3_hasRow wsX3_hasRow) := goodIn_app (goodIn_of _ (by decide +kernel)) ggX3_sum_X3_hasRow
set_option maxRecDepth 20000 in
theorem ggX3_sum_X3_sizeAt : GoodIn wsX3_sum wsX3_sizeAt := goodIn_r _ [25, 26, 5, 27, 28, 29, 30, 31, 32, 33, 34, 35, 36, 37, 38, 39, 40, 41] (by decide +kernel) (by decide +kernel)
set_option maxRecDepth 20000 in
theorem gX3_sum_X3_sizeAt : GoodIn wsX3_sum (wsV RX3 54 RX3 yX3_sizeAt wsX3_sizeAt) := goodIn_app (goodIn_of _ (by decide +kernel)) ggX3_sum_X3_sizeAt
set_option maxRecDepth 20000 in
theorem ggX3_count_X3_in : GoodIn wsX3_count wsX3_in := goodIn_r _ [13] (by decide +kernel) (by decide +kernel)
set_option maxRecDepth 20000 in
theorem gX3_count_X3_in : GoodIn wsX3_count (va_wsS RX3 33 yX3_in wsX3_in) := goodIn_app (goodIn_of _ (by decide +kernel)) ggX3_count_X3_in
end
section
theorem dX0_init_0 : decode cX0_init 0 = .ok (.aload_n 0, 1) := by decide +kernel
theorem dX0_init_1 : decode cX0_init 1 = .ok (.invokespecial 3, 3) := by decide +kernel
theorem dX0_init_4 : decode cX0_init 4 = .ok (.return_, 1) := by decide +kernel
theorem dX0_isBlunt_0 : decode cX0_isBlunt 0 = .ok (.aload_n 0, 1) := by decide +kernel
theorem dX0_isBlunt_1 : decode cX0_isBlunt 1 = .ok (.getfield 9, 3) := by decide +kernel
theorem dX0_isBlunt_4 : decode cX0_isBlunt 4 = .ok (.iconst 3, 1) := by decide +kernel
theorem dX0_isBlunt_5 : decode cX0_isBlunt 5 = .ok (.if_icmp .lt 7, 3) := by decide +kernel
theorem dX0_isBlunt_8 : decode cX0_isBlunt 8 = .ok (.iconst 1, 1) := by decide +kernel
theorem dX0_isBlunt_9 : decode cX0_isBlunt 9 = .ok (.goto 4, 3) := by decide +kernel
theorem dX0_isBlunt_12 : decode cX0_isBlunt 12 = .ok (.iconst 0, 1) := by decide +kernel
theorem dX0_isBlunt_13 : decode cX0_isBlunt 13 = .ok (.ireturn, 1) := by decide +kernel
theorem dX0_sharpen_0 : decode cX0_sharpen 0 = .ok (.aload_n 0, 1) := by decide +kernel
theorem dX0_sharpen_1 : decode cX0_sharpen 1 = .ok (.iconst 0, 1) := by decide +kernel
theorem dX0_sharpen_2 : decode cX0_sharpen 2 = .ok (.putfield 9, 3) := by decide +kernel
theorem dX0_sharpen_5 : decode cX0_sharpen 5 = .ok (.aload_n 0, 1) := by decide +kernel
theorem dX0_sharpen_6 : decode cX0_sharpen 6 = .ok (.dup, 1) := by decide +kernel
theorem dX0_sharpen_7 : decode cX0_sharpen 7 = .ok (.getfield 15, 3) := by decide +kernel
theorem dX0_sharpen_10 : decode cX0_sharpen 10 = .ok (.iconst 1, 1) := by decide +kernel
theorem dX0_sharpen_11 : decode cX0_sharpen 11 = .ok (.iadd, 1) := by decide +kernel
theorem dX0_sharpen_12 : decode cX0_sharpen 12 = .ok (.putfield 15, 3) := by decide +kernel
theorem dX0_sharpen_15 : decode cX0_sharpen 15 = .ok (.return_, 1) := by decide +kernel
theorem dX0_cut_0 : decode cX0_cut 0 = .ok (.aload_n 0, 1) := by decide +kernel
theorem dX0_cut_1 : decode cX0_cut 1 = .ok (.iconst 0, 1) := by decide +kernel
theorem dX0_cut_2 : decode cX0_cut 2 = .ok (.putfield 18, 3) := by decide +kernel
theorem dX0_cut_5 : decode cX0_cut 5 = .ok (.aload_n 0, 1) := by decide +kernel
theorem dX0_cut_6 : decode cX0_cut 6 = .ok (.aload_n 0, 1) := by decide +kernel
theorem dX0_cut_7 : decode cX0_cut 7 = .ok (.aload_n 1, 1) := by decide +kernel
theorem dX0_cut_8 : decode cX0_cut 8 = .ok (.iload_n 2, 1) := by decide +kernel
theorem dX0_cut_9 : decode cX0_cut 9 = .ok (.aload_n 3, 1) := by decide +kernel
theorem dX0_cut_10 : decode cX0_cut 10 = .ok (.iload 4, 2) := by decide +kernel
theorem dX0_cut_12 : decode cX0_cut 12 = .ok (.iload 5, 2) := by decide +kernel
theorem dX0_cut_14 : decode cX0_cut 14 = .ok (.invokevirtual 21, 3) := by decide +kernel
theorem dX0_cut_17 : decode cX0_cut 17 = .ok (.putfield 25, 3) := by decide +kernel
theorem dX0_cut_20 : decode cX0_cut 20 = .ok (.aload_n 0, 1) := by decide +kernel
theorem dX0_cut_21 : decode cX0_cut 21 = .ok (.dup, 1) := by decide +kernel
theorem dX0_cut_22 : decode cX0_cut 22 = .ok (.getfield 28, 3) := by decide +kernel
theorem dX0_cut_25 : decode cX0_cut 25 = .ok (.aload_n 0, 1) := by decide +kernel
theorem dX0_cut_26 : decode cX0_cut 26 = .ok (.getfield 18, 3) := by decide +kernel
theorem dX0_cut_29 : decode cX0_cut 29 = .ok (.iadd, 1) := by decide +kernel
theorem dX0_cut_30 : decode cX0_cut 30 = .ok (.putfield 28, 3) := by decide +kernel
theorem dX0_cut_33 : decode cX0_cut 33 = .ok (.aload_n 0, 1) := by decide +kernel
theorem dX0_cut_34 : decode cX0_cut 34 = .ok (.getfield 25, 3) := by decide +kernel
theorem dX0_cut_37 : decode cX0_cut 37 = .ok (.ifCond .ge 26, 3) := by decide +kernel
theorem dX0_cut_40 : decode cX0_cut 40 = .ok (.aload_n 0, 1) := by decide +kernel
theorem dX0_cut_41 : decode cX0_cut 41 = .ok (.dup, 1) := by decide +kernel
theorem dX0_cut_42 : decode cX0_cut 42 = .ok (.getfield 31, 3) := by decide +kernel
theorem dX0_cut_45 : decode cX0_cut 45 = .ok (.iconst 1, 1) := by decide +kernel
theorem dX0_cut_46 : decode cX0_cut 46 = .ok (.iadd, 1) := by decide +kernel
theorem dX0_cut_47 : decode cX0_cut 47 = .ok (.putfield 31, 3) := by decide +kernel
theorem dX0_cut_50 : decode cX0_cut 50 = .ok (.aload_n 0, 1) := by decide +kernel
theorem dX0_cut_51 : decode cX0_cut 51 = .ok (.dup, 1) := by decide +kernel
theorem dX0_cut_52 : decode cX0_cut 52 = .ok (.getfield 9, 3) := by decide +kernel
theorem dX0_cut_55 : decode cX0_cut 55 = .ok (.iconst 1, 1) := by decide +kernel
theorem dX0_cut_56 : decode cX0_cut 56 = .ok (.iadd, 1) := by decide +kernel
theorem dX0_cut_57 : decode cX0_cut 57 = .ok (.putfield 9, 3) := by decide +kernel
theorem dX0_cut_60 : decode cX0_cut 60 = .ok (.goto 18, 3) := by decide +kernel
theorem dX0_cut_63 : decode cX0_cut 63 = .ok (.aload_n 0, 1) := by decide +kernel
theorem dX0_cut_64 : decode cX0_cut 64 = .ok (.dup, 1) := by decide +kernel
theorem dX0_cut_65 : decode cX0_cut 65 = .ok (.getfield 34, 3) := by decide +kernel
theorem dX0_cut_68 : decode cX0_cut 68 = .ok (.iconst 1, 1) := by decide +kernel
theorem dX0_cut_69 : decode cX0_cut 69 = .ok (.iadd, 1) := by decide +kernel
theorem dX0_cut_70 : decode cX0_cut 70 = .ok (.putfield 34, 3) := by decide +kernel
theorem dX0_cut_73 : decode cX0_cut 73 = .ok (.aload_n 0, 1) := by decide +kernel
theorem dX0_cut_74 : decode cX0_cut 74 = .ok (.iconst 0, 1) := by decide +kernel
theorem dX0_cut_75 : decode cX0_cut 75 = .ok (.putfield 9, 3) := by decide +kernel
theorem dX0_cut_78 : decode cX0_cut 78 = .ok (.aload_n 0, 1) := by decide +kernel
theorem dX0_cut_79 : decode cX0_cut 79 = .ok (.getfield 25, 3) := by decide +kernel
theorem dX0_cut_82 : decode cX0_cut 82 = .ok (.ireturn, 1) := by decide +kernel
theorem dX0_lay_0 : decode cX0_lay 0 = .ok (.aload_n 1, 1) := by decide +kernel
theorem dX0_lay_1 : decode cX0_lay 1 = .ok (.ifnull 7, 3) := by decide +kernel
theorem dX0_lay_4 : decode cX0_lay 4 = .ok (.aload_n 3, 1) := by decide +kernel
theorem dX0_lay_5 : decode cX0_lay 5 = .ok (.ifnonnull 5, 3) := by decide +kernel
theorem dX0_lay_8 : decode cX0_lay 8 = .ok (.iconst (-1), 1) := by decide +kernel
theorem dX0_lay_9 : decode cX0_lay 9 = .ok (.ireturn, 1) := by decide +kernel
theorem dX0_lay_10 : decode cX0_lay 10 = .ok (.aload_n 1, 1) := by decide +kernel
theorem dX0_lay_11 : decode cX0_lay 11 = .ok (.aload_n 3, 1) := by decide +kernel
theorem dX0_lay_12 : decode cX0_lay 12 = .ok (.invokevirtual 37, 3) := by decide +kernel
theorem dX0_lay_15 : decode cX0_lay 15 = .ok (.ifCond .ne 6, 3) := by decide +kernel
theorem dX0_lay_18 : decode cX0_lay 18 = .ok (.bipush (-2), 2) := by decide +kernel
theorem dX0_lay_20 : decode cX0_lay 20 = .ok (.ireturn, 1) := by decide +kernel
theorem dX0_lay_21 : decode cX0_lay 21 = .ok (.aload_n 1, 1) := by decide +kernel
theorem dX0_lay_22 : decode cX0_lay 22 = .ok (.iload_n 2, 1) := by decide +kernel
theorem dX0_lay_23 : decode cX0_lay 23 = .ok (.iload 5, 2) := by decide +kernel
theorem dX0_lay_25 : decode cX0_lay 25 = .ok (.invokevirtual 43, 3) := by decide +kernel
theorem dX0_lay_28 : decode cX0_lay 28 = .ok (.ifCond .eq 14, 3) := by decide +kernel
theorem dX0_lay_31 : decode cX0_lay 31 = .ok (.aload_n 3, 1) := by decide +kernel
theorem dX0_lay_32 : decode cX0_lay 32 = .ok (.iload 4, 2) := by decide +kernel
theorem dX0_lay_34 : decode cX0_lay 34 = .ok (.iload 5, 2) := by decide +kernel
theorem dX0_lay_36 : decode cX0_lay 36 = .ok (.invokevirtual 43, 3) := by decide +kernel
theorem dX0_lay_39 : decode cX0_lay 39 = .ok (.ifCond .ne 6, 3) := by decide +kernel
theorem dX0_lay_42 : decode cX0_lay 42 = .ok (.bipush (-3), 2) := by decide +kernel
theorem dX0_lay_44 : decode cX0_lay 44 = .ok (.ireturn, 1) := by decide +kernel
theorem dX0_lay_45 : decode cX0_lay 45 = .ok (.aload_n 0, 1) := by decide +kernel
theorem dX0_lay_46 : decode cX0_lay 46 = .ok (.getfield 18, 3) := by decide +kernel
theorem dX0_lay_49 : decode cX0_lay 49 = .ok (.iload 5, 2) := by decide +kernel
theorem dX0_lay_51 : decode cX0_lay 51 = .ok (.if_icmp .ge 34, 3) := by decide +kernel
theorem dX0_lay_54 : decode cX0_lay 54 = .ok (.aload_n 3, 1) := by decide +kernel
theorem dX0_lay_55 : decode cX0_lay 55 = .ok (.aload_n 1, 1) := by decide +kernel
theorem dX0_lay_56 : decode cX0_lay 56 = .ok (.getfield 47, 3) := by decide +kernel
theorem dX0_lay_59 : decode cX0_lay 59 = .ok (.iload_n 2, 1) := by decide +kernel
theorem dX0_lay_60 : decode cX0_lay 60 = .ok (.aload_n 0, 1) := by decide +kernel
theorem dX0_lay_61 : decode cX0_lay 61 = .ok (.getfield 18, 3) := by decide +kernel
theorem dX0_lay_64 : decode cX0_lay 64 = .ok (.iadd, 1) := by decide +kernel
theorem dX0_lay_65 : decode cX0_lay 65 = .ok (.laload, 1) := by decide +kernel
theorem dX0_lay_66 : decode cX0_lay 66 = .ok (.invokevirtual 51, 3) := by decide +kernel
theorem dX0_lay_69 : decode cX0_lay 69 = .ok (.ifCond .eq 16, 3) := by decide +kernel
theorem dX0_lay_72 : decode cX0_lay 72 = .ok (.aload_n 0, 1) := by decide +kernel
theorem dX0_lay_73 : decode cX0_lay 73 = .ok (.dup, 1) := by decide +kernel
theorem dX0_lay_74 : decode cX0_lay 74 = .ok (.getfield 18, 3) := by decide +kernel
theorem dX0_lay_77 : decode cX0_lay 77 = .ok (.iconst 1, 1) := by decide +kernel
theorem dX0_lay_78 : decode cX0_lay 78 = .ok (.iadd, 1) := by decide +kernel
theorem dX0_lay_79 : decode cX0_lay 79 = .ok (.putfield 18, 3) := by decide +kernel
theorem dX0_lay_82 : decode cX0_lay 82 = .ok (.goto (-37), 3) := by decide +kernel
theorem dX0_lay_85 : decode cX0_lay 85 = .ok (.aload_n 1, 1) := by decide +kernel
theorem dX0_lay_86 : decode cX0_lay 86 = .ok (.getfield 47, 3) := by decide +kernel
theorem dX0_lay_89 : decode cX0_lay 89 = .ok (.iload_n 2, 1) := by decide +kernel
theorem dX0_lay_90 : decode cX0_lay 90 = .ok (.aload_n 3, 1) := by decide +kernel
theorem dX0_lay_91 : decode cX0_lay 91 = .ok (.getfield 47, 3) := by decide +kernel
theorem dX0_lay_94 : decode cX0_lay 94 = .ok (.iload 4, 2) := by decide +kernel
theorem dX0_lay_96 : decode cX0_lay 96 = .ok (.aload_n 0, 1) := by decide +kernel
theorem dX0_lay_97 : decode cX0_lay 97 = .ok (.getfield 18, 3) := by decide +kernel
theorem dX0_lay_100 : decode cX0_lay 100 = .ok (.invokestatic 55, 3) := by decide +kernel
theorem dX0_lay_103 : decode cX0_lay 103 = .ok (.aload_n 0, 1) := by decide +kernel
theorem dX0_lay_104 : decode cX0_lay 104 = .ok (.getfield 18, 3) := by decide +kernel
theorem dX0_lay_107 : decode cX0_lay 107 = .ok (.iload 5, 2) := by decide +kernel
theorem dX0_lay_109 : decode cX0_lay 109 = .ok (.if_icmp .ge 8, 3) := by decide +kernel
theorem dX0_lay_112 : decode cX0_lay 112 = .ok (.bipush (-4), 2) := by decide +kernel
theorem dX0_lay_114 : decode cX0_lay 114 = .ok (.goto 5, 3) := by decide +kernel
theorem dX0_lay_117 : decode cX0_lay 117 = .ok (.iload 5, 2) := by decide +kernel
theorem dX0_lay_119 : decode cX0_lay 119 = .ok (.ireturn, 1) := by decide +kernel
theorem dX1_init_0 : decode cX1_init 0 = .ok (.aload_n 0, 1) := by decide +kernel
theorem dX1_init_1 : decode cX1_init 1 = .ok (.invokespecial 3, 3) := by decide +kernel
theorem dX1_init_4 : decode cX1_init 4 = .ok (.aload_n 0, 1) := by decide +kernel
theorem dX1_init_5 : decode cX1_init 5 = .ok (.iload_n 1, 1) := by decide +kernel
theorem dX1_init_6 : decode cX1_init 6 = .ok (.putfield 9, 3) := by decide +kernel
theorem dX1_init_9 : decode cX1_init 9 = .ok (.aload_n 0, 1) := by decide +kernel
theorem dX1_init_10 : decode cX1_init 10 = .ok (.iload_n 2, 1) := by decide +kernel
theorem dX1_init_11 : decode cX1_init 11 = .ok (.newarray .long, 2) := by decide +kernel
theorem dX1_init_13 : decode cX1_init 13 = .ok (.putfield 15, 3) := by decide +kernel
theorem dX1_init_16 : decode cX1_init 16 = .ok (.iload_n 1, 1) := by decide +kernel
theorem dX1_init_17 : decode cX1_init 17 = .ok (.iconst 3, 1) := by decide +kernel
theorem dX1_init_18 : decode cX1_init 18 = .ok (.if_icmp .eq 8, 3) := by decide +kernel
theorem dX1_init_21 : decode cX1_init 21 = .ok (.iload_n 1, 1) := by decide +kernel
theorem dX1_init_22 : decode cX1_init 22 = .ok (.iconst 4, 1) := by decide +kernel
theorem dX1_init_23 : decode cX1_init 23 = .ok (.if_icmp .ne 25, 3) := by decide +kernel
theorem dX1_init_26 : decode cX1_init 26 = .ok (.iconst 0, 1) := by decide +kernel
theorem dX1_init_27 : decode cX1_init 27 = .ok (.istore_n 3, 1) := by decide +kernel
theorem dX1_init_28 : decode cX1_init 28 = .ok (.iload_n 3, 1) := by decide +kernel
theorem dX1_init_29 : decode cX1_init 29 = .ok (.iload_n 2, 1) := by decide +kernel
theorem dX1_init_30 : decode cX1_init 30 = .ok (.if_icmp .ge 18, 3) := by decide +kernel
theorem dX1_init_33 : decode cX1_init 33 = .ok (.aload_n 0, 1) := by decide +kernel
theorem dX1_init_34 : decode cX1_init 34 = .ok (.getfield 15, 3) := by decide +kernel
theorem dX1_init_37 : decode cX1_init 37 = .ok (.iload_n 3, 1) := by decide +kernel
theorem dX1_init_38 : decode cX1_init 38 = .ok (.ldc2_w 19, 3) := by decide +kernel
theorem dX1_init_41 : decode cX1_init 41 = .ok (.lastore, 1) := by decide +kernel
theorem dX1_init_42 : decode cX1_init 42 = .ok (.iinc 3 1, 3) := by decide +kernel
theorem dX1_init_45 : decode cX1_init 45 = .ok (.goto (-17), 3) := by decide +kernel
theorem dX1_init_48 : decode cX1_init 48 = .ok (.return_, 1) := by decide +kernel
theorem dX1_holdsNumbers_0 : decode cX1_holdsNumbers 0 = .ok (.aload_n 0, 1) := by decide +kernel
theorem dX1_holdsNumbers_1 : decode cX1_holdsNumbers 1 = .ok (.getfield 9, 3) := by decide +kernel
theorem dX1_holdsNumbers_4 : decode cX1_holdsNumbers 4 = .ok (.iconst 1, 1) := by decide +kernel
theorem dX1_holdsNumbers_5 : decode cX1_holdsNumbers 5 = .ok (.if_icmp .eq 11, 3) := by decide +kernel
theorem dX1_holdsNumbers_8 : decode cX1_holdsNumbers 8 = .ok (.aload_n 0, 1) := by decide +kernel
theorem dX1_holdsNumbers_9 : decode cX1_holdsNumbers 9 = .ok (.getfield 9, 3) := by decide +kernel
theorem dX1_holdsNumbers_12 : decode cX1_holdsNumbers 12 = .ok (.iconst 2, 1) := by decide +kernel
theorem dX1_holdsNumbers_13 : decode cX1_holdsNumbers 13 = .ok (.if_icmp .ne 7, 3) := by decide +kernel
theorem dX1_holdsNumbers_16 : decode cX1_holdsNumbers 16 = .ok (.iconst 1, 1) := by decide +kernel
theorem dX1_holdsNumbers_17 : decode cX1_holdsNumbers 17 = .ok (.goto 4, 3) := by decide +kernel
theorem dX1_holdsNumbers_20 : decode cX1_holdsNumbers 20 = .ok (.iconst 0, 1) := by decide +kernel
theorem dX1_holdsNumbers_21 : decode cX1_holdsNumbers 21 = .ok (.ireturn, 1) := by decide +kernel
theorem dX1_holdsCards_0 : decode cX1_holdsCards 0 = .ok (.aload_n 0, 1) := by decide +kernel
theorem dX1_holdsCards_1 : decode cX1_holdsCards 1 = .ok (.getfield 9, 3) := by decide +kernel
theorem dX1_holdsCards_4 : decode cX1_holdsCards 4 = .ok (.iconst 3, 1) := by decide +kernel
theorem dX1_holdsCards_5 : decode cX1_holdsCards 5 = .ok (.if_icmp .eq 11, 3) := by decide +kernel
theorem dX1_holdsCards_8 : decode cX1_holdsCards 8 = .ok (.aload_n 0, 1) := by decide +kernel
theorem dX1_holdsCards_9 : decode cX1_holdsCards 9 = .ok (.getfield 9, 3) := by decide +kernel
theorem dX1_holdsCards_12 : decode cX1_holdsCards 12 = .ok (.iconst 4, 1) := by decide +kernel
theorem dX1_holdsCards_13 : decode cX1_holdsCards 13 = .ok (.if_icmp .ne 7, 3) := by decide +kernel
theorem dX1_holdsCards_16 : decode cX1_holdsCards 16 = .ok (.iconst 1, 1) := by decide +kernel
theorem dX1_holdsCards_17 : decode cX1_holdsCards 17 = .ok (.goto 4, 3) := by decide +kernel
theorem dX1_holdsCards_20 : decode cX1_holdsCards 20 = .ok (.iconst 0, 1) := by decide +kernel
theorem dX1_holdsCards_21 : decode cX1_holdsCards 21 = .ok (.ireturn, 1) := by decide +kernel
theorem dX1_isLike_0 : decode cX1_isLike 0 = .ok (.aload_n 0, 1) := by decide +kernel
theorem dX1_isLike_1 : decode cX1_isLike 1 = .ok (.invokevirtual 21, 3) := by decide +kernel
theorem dX1_isLike_4 : decode cX1_isLike 4 = .ok (.ifCond .eq 10, 3) := by decide +kernel
theorem dX1_isLike_7 : decode cX1_isLike 7 = .ok (.aload_n 1, 1) := by decide +kernel
theorem dX1_isLike_8 : decode cX1_isLike 8 = .ok (.invokevirtual 21, 3) := by decide +kernel
theorem dX1_isLike_11 : decode cX1_isLike 11 = .ok (.goto 26, 3) := by decide +kernel
theorem dX1_isLike_14 : decode cX1_isLike 14 = .ok (.aload_n 0, 1) := by decide +kernel
theorem dX1_isLike_15 : decode cX1_isLike 15 = .ok (.invokevirtual 25, 3) := by decide +kernel
theorem dX1_isLike_18 : decode cX1_isLike 18 = .ok (.ifCond .eq 18, 3) := by decide +kernel
theorem dX1_isLike_21 : decode cX1_isLike 21 = .ok (.aload_n 0, 1) := by decide +kernel
theorem dX1_isLike_22 : decode cX1_isLike 22 = .ok (.getfield 9, 3) := by decide +kernel
theorem dX1_isLike_25 : decode cX1_isLike 25 = .ok (.aload_n 1, 1) := by decide +kernel
theorem dX1_isLike_26 : decode cX1_isLike 26 = .ok (.getfield 9, 3) := by decide +kernel
theorem dX1_isLike_29 : decode cX1_isLike 29 = .ok (.if_icmp .ne 7, 3) := by decide +kernel
theorem dX1_isLike_32 : decode cX1_isLike 32 = .ok (.iconst 1, 1) := by decide +kernel
theorem dX1_isLike_33 : decode cX1_isLike 33 = .ok (.goto 4, 3) := by decide +kernel
theorem dX1_isLike_36 : decode cX1_isLike 36 = .ok (.iconst 0, 1) := by decide +kernel
theorem dX1_isLike_37 : decode cX1_isLike 37 = .ok (.ireturn, 1) := by decide +kernel
theorem dX1_hasFrames_0 : decode cX1_hasFrames 0 = .ok (.iload_n 1, 1) := by decide +kernel
theorem dX1_hasFrames_1 : decode cX1_hasFrames 1 = .ok (.ifCond .lt 22, 3) := by decide +kernel
theorem dX1_hasFrames_4 : decode cX1_hasFrames 4 = .ok (.iload_n 2, 1) := by decide +kernel
theorem dX1_hasFrames_5 : decode cX1_hasFrames 5 = .ok (.ifCond .lt 18, 3) := by decide +kernel
theorem dX1_hasFrames_8 : decode cX1_hasFrames 8 = .ok (.iload_n 1, 1) := by decide +kernel
theorem dX1_hasFrames_9 : decode cX1_hasFrames 9 = .ok (.aload_n 0, 1) := by decide +kernel
theorem dX1_hasFrames_10 : decode cX1_hasFrames 10 = .ok (.getfield 15, 3) := by decide +kernel
theorem dX1_hasFrames_13 : decode cX1_hasFrames 13 = .ok (.arraylength, 1) := by decide +kernel
theorem dX1_hasFrames_14 : decode cX1_hasFrames 14 = .ok (.iload_n 2, 1) := by decide +kernel
theorem dX1_hasFrames_15 : decode cX1_hasFrames 15 = .ok (.isub, 1) := by decide +kernel
theorem dX1_hasFrames_16 : decode cX1_hasFrames 16 = .ok (.if_icmp .gt 7, 3) := by decide +kernel
theorem dX1_hasFrames_19 : decode cX1_hasFrames 19 = .ok (.iconst 1, 1) := by decide +kernel
theorem dX1_hasFrames_20 : decode cX1_hasFrames 20 = .ok (.goto 4, 3) := by decide +kernel
theorem dX1_hasFrames_23 : decode cX1_hasFrames 23 = .ok (.iconst 0, 1) := by decide +kernel
theorem dX1_hasFrames_24 : decode cX1_hasFrames 24 = .ok (.ireturn, 1) := by decide +kernel
theorem dX1_takes_0 : decode cX1_takes 0 = .ok (.aload_n 0, 1) := by decide +kernel
theorem dX1_takes_1 : decode cX1_takes 1 = .ok (.getfield 9, 3) := by decide +kernel
theorem dX1_takes_4 : decode cX1_takes 4 = .ok (.iconst 4, 1) := by decide +kernel
theorem dX1_takes_5 : decode cX1_takes 5 = .ok (.if_icmp .ne 19, 3) := by decide +kernel
theorem dX1_takes_8 : decode cX1_takes 8 = .ok (.lload_n 1, 1) := by decide +kernel
theorem dX1_takes_9 : decode cX1_takes 9 = .ok (.ldc2_w 19, 3) := by decide +kernel
theorem dX1_takes_12 : decode cX1_takes 12 = .ok (.lcmp, 1) := by decide +kernel
theorem dX1_takes_13 : decode cX1_takes 13 = .ok (.ifCond .eq 11, 3) := by decide +kernel
theorem dX1_takes_16 : decode cX1_takes 16 = .ok (.lload_n 1, 1) := by decide +kernel
theorem dX1_takes_17 : decode cX1_takes 17 = .ok (.ldc2_w 28, 3) := by decide +kernel
theorem dX1_takes_20 : decode cX1_takes 20 = .ok (.lcmp, 1) := by decide +kernel
theorem dX1_takes_21 : decode cX1_takes 21 = .ok (.ifCond .lt 7, 3) := by decide +kernel
theorem dX1_takes_24 : decode cX1_takes 24 = .ok (.iconst 1, 1) := by decide +kernel
theorem dX1_takes_25 : decode cX1_takes 25 = .ok (.goto 4, 3) := by decide +kernel
theorem dX1_takes_28 : decode cX1_takes 28 = .ok (.iconst 0, 1) := by decide +kernel
theorem dX1_takes_29 : decode cX1_takes 29 = .ok (.ireturn, 1) := by decide +kernel
theorem dX2_init_0 : decode cX2_init 0 = .ok (.aload_n 0, 1) := by decide +kernel
theorem dX2_init_1 : decode cX2_init 1 = .ok (.invokespecial 1, 3) := by decide +kernel
theorem dX2_init_4 : decode cX2_init 4 = .ok (.aload_n 0, 1) := by decide +kernel
theorem dX2_init_5 : decode cX2_init 5 = .ok (.bipush 6, 2) := by decide +kernel
theorem dX2_init_7 : decode cX2_init 7 = .ok (.anewarray 9, 3) := by decide +kernel
theorem dX2_init_10 : decode cX2_init 10 = .ok (.putfield 11, 3) := by decide +kernel
theorem dX2_init_13 : decode cX2_init 13 = .ok (.aload_n 0, 1) := by decide +kernel
theorem dX2_init_14 : decode cX2_init 14 = .ok (.new 15, 3) := by decide +kernel
theorem dX2_init_17 : decode cX2_init 17 = .ok (.dup, 1) := by decide +kernel
theorem dX2_init_18 : decode cX2_init 18 = .ok (.invokespecial 17, 3) := by decide +kernel
theorem dX2_init_21 : decode cX2_init 21 = .ok (.putfield 18, 3) := by decide +kernel
theorem dX2_init_24 : decode cX2_init 24 = .ok (.aload_n 0, 1) := by decide +kernel
theorem dX2_init_25 : decode cX2_init 25 = .ok (.bipush 24, 2) := by decide +kernel
theorem dX2_init_27 : decode cX2_init 27 = .ok (.newarray .int, 2) := by decide +kernel
theorem dX2_init_29 : decode cX2_init 29 = .ok (.putfield 22, 3) := by decide +kernel
theorem dX2_init_32 : decode cX2_init 32 = .ok (.aload_n 0, 1) := by decide +kernel
theorem dX2_init_33 : decode cX2_init 33 = .ok (.bipush 24, 2) := by decide +kernel
theorem dX2_init_35 : decode cX2_init 35 = .ok (.newarray .int, 2) := by decide +kernel
theorem dX2_init_37 : decode cX2_init 37 = .ok (.putfield 26, 3) := by decide +kernel
theorem dX2_init_40 : decode cX2_init 40 = .ok (.aload_n 0, 1) := by decide +kernel
theorem dX2_init_41 : decode cX2_init 41 = .ok (.bipush 24, 2) := by decide +kernel
theorem dX2_init_43 : decode cX2_init 43 = .ok (.newarray .int, 2) := by decide +kernel
theorem dX2_init_45 : decode cX2_init 45 = .ok (.putfield 29, 3) := by decide +kernel
theorem dX2_init_48 : decode cX2_init 48 = .ok (.aload_n 0, 1) := by decide +kernel
theorem dX2_init_49 : decode cX2_init 49 = .ok (.bipush 24, 2) := by decide +kernel
theorem dX2_init_51 : decode cX2_init 51 = .ok (.newarray .int, 2) := by decide +kernel
theorem dX2_init_53 : decode cX2_init 53 = .ok (.putfield 32, 3) := by decide +kernel
theorem dX2_init_56 : decode cX2_init 56 = .ok (.aload_n 0, 1) := by decide +kernel
theorem dX2_init_57 : decode cX2_init 57 = .ok (.bipush 24, 2) := by decide +kernel
theorem dX2_init_59 : decode cX2_init 59 = .ok (.newarray .int, 2) := by decide +kernel
theorem dX2_init_61 : decode cX2_init 61 = .ok (.putfield 35, 3) := by decide +kernel
theorem dX2_init_64 : decode cX2_init 64 = .ok (.aload_n 0, 1) := by decide +kernel
theorem dX2_init_65 : decode cX2_init 65 = .ok (.iconst 0, 1) := by decide +kernel
theorem dX2_init_66 : decode cX2_init 66 = .ok (.putfield 38, 3) := by decide +kernel
theorem dX2_init_69 : decode cX2_init 69 = .ok (.return_, 1) := by decide +kernel
theorem dX2_wind_0 : decode cX2_wind 0 = .ok (.iload_n 1, 1) := by decide +kernel
theorem dX2_wind_1 : decode cX2_wind 1 = .ok (.invokestatic 42, 3) := by decide +kernel
theorem dX2_wind_4 : decode cX2_wind 4 = .ok (.iload_n 2, 1) := by decide +kernel
theorem dX2_wind_5 : decode cX2_wind 5 = .ok (.ifCond .lt 8, 3) := by decide +kernel
theorem dX2_wind_8 : decode cX2_wind 8 = .ok (.iload_n 2, 1) := by decide +kernel
theorem dX2_wind_9 : decode cX2_wind 9 = .ok (.iconst 5, 1) := by decide +kernel
theorem dX2_wind_10 : decode cX2_wind 10 = .ok (.if_icmp .le 13, 3) := by decide +kernel
theorem dX2_wind_13 : decode cX2_wind 13 = .ok (.new 46, 3) := by decide +kernel
theorem dX2_wind_16 : decode cX2_wind 16 = .ok (.dup, 1) := by decide +kernel
theorem dX2_wind_17 : decode cX2_wind 17 = .ok (.ldc 48, 2) := by decide +kernel
theorem dX2_wind_19 : decode cX2_wind 19 = .ok (.invokespecial 50, 3) := by decide +kernel
theorem dX2_wind_22 : decode cX2_wind 22 = .ok (.athrow, 1) := by decide +kernel
theorem dX2_wind_23 : decode cX2_wind 23 = .ok (.iload_n 2, 1) := by decide +kernel
theorem dX2_wind_24 : decode cX2_wind 24 = .ok (.ifCond .ne 13, 3) := by decide +kernel
theorem dX2_wind_27 : decode cX2_wind 27 = .ok (.aload_n 0, 1) := by decide +kernel
theorem dX2_wind_28 : decode cX2_wind 28 = .ok (.getfield 11, 3) := by decide +kernel
theorem dX2_wind_31 : decode cX2_wind 31 = .ok (.iload_n 1, 1) := by decide +kernel
theorem dX2_wind_32 : decode cX2_wind 32 = .ok (.aconst_null, 1) := by decide +kernel
theorem dX2_wind_33 : decode cX2_wind 33 = .ok (.aastore, 1) := by decide +kernel
theorem dX2_wind_34 : decode cX2_wind 34 = .ok (.goto 64, 3) := by decide +kernel
theorem dX2_wind_37 : decode cX2_wind 37 = .ok (.iload_n 2, 1) := by decide +kernel
theorem dX2_wind_38 : decode cX2_wind 38 = .ok (.iconst 5, 1) := by decide +kernel
theorem dX2_wind_39 : decode cX2_wind 39 = .ok (.if_icmp .ne 21, 3) := by decide +kernel
theorem dX2_wind_42 : decode cX2_wind 42 = .ok (.aload_n 0, 1) := by decide +kernel
theorem dX2_wind_43 : decode cX2_wind 43 = .ok (.getfield 11, 3) := by decide +kernel
theorem dX2_wind_46 : decode cX2_wind 46 = .ok (.iload_n 1, 1) := by decide +kernel
theorem dX2_wind_47 : decode cX2_wind 47 = .ok (.new 9, 3) := by decide +kernel
theorem dX2_wind_50 : decode cX2_wind 50 = .ok (.dup, 1) := by decide +kernel
theorem dX2_wind_51 : decode cX2_wind 51 = .ok (.iconst 5, 1) := by decide +kernel
theorem dX2_wind_52 : decode cX2_wind 52 = .ok (.iconst 0, 1) := by decide +kernel
theorem dX2_wind_53 : decode cX2_wind 53 = .ok (.invokespecial 53, 3) := by decide +kernel
theorem dX2_wind_56 : decode cX2_wind 56 = .ok (.aastore, 1) := by decide +kernel
theorem dX2_wind_57 : decode cX2_wind 57 = .ok (.goto 41, 3) := by decide +kernel
theorem dX2_wind_60 : decode cX2_wind 60 = .ok (.iload_n 3, 1) := by decide +kernel
theorem dX2_wind_61 : decode cX2_wind 61 = .ok (.ifCond .lt 27, 3) := by decide +kernel
theorem dX2_wind_64 : decode cX2_wind 64 = .ok (.iload_n 3, 1) := by decide +kernel
theorem dX2_wind_65 : decode cX2_wind 65 = .ok (.bipush 40, 2) := by decide +kernel
theorem dX2_wind_67 : decode cX2_wind 67 = .ok (.if_icmp .gt 21, 3) := by decide +kernel
theorem dX2_wind_70 : decode cX2_wind 70 = .ok (.aload_n 0, 1) := by decide +kernel
theorem dX2_wind_71 : decode cX2_wind 71 = .ok (.getfield 11, 3) := by decide +kernel
theorem dX2_wind_74 : decode cX2_wind 74 = .ok (.iload_n 1, 1) := by decide +kernel
theorem dX2_wind_75 : decode cX2_wind 75 = .ok (.new 9, 3) := by decide +kernel
theorem dX2_wind_78 : decode cX2_wind 78 = .ok (.dup, 1) := by decide +kernel
theorem dX2_wind_79 : decode cX2_wind 79 = .ok (.iload_n 2, 1) := by decide +kernel
theorem dX2_wind_80 : decode cX2_wind 80 = .ok (.iload_n 3, 1) := by decide +kernel
theorem dX2_wind_81 : decode cX2_wind 81 = .ok (.invokespecial 53, 3) := by decide +kernel
theorem dX2_wind_84 : decode cX2_wind 84 = .ok (.aastore, 1) := by decide +kernel
theorem dX2_wind_85 : decode cX2_wind 85 = .ok (.goto 13, 3) := by decide +kernel
theorem dX2_wind_88 : decode cX2_wind 88 = .ok (.new 46, 3) := by decide +kernel
theorem dX2_wind_91 : decode cX2_wind 91 = .ok (.dup, 1) := by decide +kernel
theorem dX2_wind_92 : decode cX2_wind 92 = .ok (.ldc 56, 2) := by decide +kernel
theorem dX2_wind_94 : decode cX2_wind 94 = .ok (.invokespecial 50, 3) := by decide +kernel
theorem dX2_wind_97 : decode cX2_wind 97 = .ok (.athrow, 1) := by decide +kernel
theorem dX2_wind_98 : decode cX2_wind 98 = .ok (.iload_n 2, 1) := by decide +kernel
theorem dX2_wind_99 : decode cX2_wind 99 = .ok (.ireturn, 1) := by decide +kernel
theorem dX2_hang_0 : decode cX2_hang 0 = .ok (.iload_n 1, 1) := by decide +kernel
theorem dX2_hang_1 : decode cX2_hang 1 = .ok (.invokestatic 42, 3) := by decide +kernel
theorem dX2_hang_4 : decode cX2_hang 4 = .ok (.iload_n 2, 1) := by decide +kernel
theorem dX2_hang_5 : decode cX2_hang 5 = .ok (.invokestatic 42, 3) := by decide +kernel
theorem dX2_hang_8 : decode cX2_hang 8 = .ok (.aload_n 0, 1) := by decide +kernel
theorem dX2_hang_9 : decode cX2_hang 9 = .ok (.getfield 11, 3) := by decide +kernel
theorem dX2_hang_12 : decode cX2_hang 12 = .ok (.iload_n 1, 1) := by decide +kernel
theorem dX2_hang_13 : decode cX2_hang 13 = .ok (.aload_n 0, 1) := by decide +kernel
theorem dX2_hang_14 : decode cX2_hang 14 = .ok (.getfield 11, 3) := by decide +kernel
theorem dX2_hang_17 : decode cX2_hang 17 = .ok (.iload_n 2, 1) := by decide +kernel
theorem dX2_hang_18 : decode cX2_hang 18 = .ok (.aaload, 1) := by decide +kernel
theorem dX2_hang_19 : decode cX2_hang 19 = .ok (.aastore, 1) := by decide +kernel
theorem dX2_hang_20 : decode cX2_hang 20 = .ok (.aload_n 0, 1) := by decide +kernel
theorem dX2_hang_21 : decode cX2_hang 21 = .ok (.iload_n 1, 1) := by decide +kernel
theorem dX2_hang_22 : decode cX2_hang 22 = .ok (.invokevirtual 58, 3) := by decide +kernel
theorem dX2_hang_25 : decode cX2_hang 25 = .ok (.ireturn, 1) := by decide +kernel
theorem dX2_twin_0 : decode cX2_twin 0 = .ok (.iload_n 1, 1) := by decide +kernel
theorem dX2_twin_1 : decode cX2_twin 1 = .ok (.invokestatic 42, 3) := by decide +kernel
theorem dX2_twin_4 : decode cX2_twin 4 = .ok (.iload_n 2, 1) := by decide +kernel
theorem dX2_twin_5 : decode cX2_twin 5 = .ok (.invokestatic 42, 3) := by decide +kernel
theorem dX2_twin_8 : decode cX2_twin 8 = .ok (.aload_n 0, 1) := by decide +kernel
theorem dX2_twin_9 : decode cX2_twin 9 = .ok (.getfield 11, 3) := by decide +kernel
theorem dX2_twin_12 : decode cX2_twin 12 = .ok (.iload_n 2, 1) := by decide +kernel
theorem dX2_twin_13 : decode cX2_twin 13 = .ok (.aaload, 1) := by decide +kernel
theorem dX2_twin_14 : decode cX2_twin 14 = .ok (.astore_n 3, 1) := by decide +kernel
theorem dX2_twin_15 : decode cX2_twin 15 = .ok (.aload_n 3, 1) := by decide +kernel
theorem dX2_twin_16 : decode cX2_twin 16 = .ok (.ifnull 11, 3) := by decide +kernel
theorem dX2_twin_19 : decode cX2_twin 19 = .ok (.aload_n 3, 1) := by decide +kernel
theorem dX2_twin_20 : decode cX2_twin 20 = .ok (.getfield 62, 3) := by decide +kernel
theorem dX2_twin_23 : decode cX2_twin 23 = .ok (.iconst 5, 1) := by decide +kernel
theorem dX2_twin_24 : decode cX2_twin 24 = .ok (.if_icmp .ne 13, 3) := by decide +kernel
theorem dX2_twin_27 : decode cX2_twin 27 = .ok (.new 65, 3) := by decide +kernel
theorem dX2_twin_30 : decode cX2_twin 30 = .ok (.dup, 1) := by decide +kernel
theorem dX2_twin_31 : decode cX2_twin 31 = .ok (.ldc 67, 2) := by decide +kernel
theorem dX2_twin_33 : decode cX2_twin 33 = .ok (.invokespecial 69, 3) := by decide +kernel
theorem dX2_twin_36 : decode cX2_twin 36 = .ok (.athrow, 1) := by decide +kernel
theorem dX2_twin_37 : decode cX2_twin 37 = .ok (.new 9, 3) := by decide +kernel
theorem dX2_twin_40 : decode cX2_twin 40 = .ok (.dup, 1) := by decide +kernel
theorem dX2_twin_41 : decode cX2_twin 41 = .ok (.aload_n 3, 1) := by decide +kernel
theorem dX2_twin_42 : decode cX2_twin 42 = .ok (.getfield 62, 3) := by decide +kernel
theorem dX2_twin_45 : decode cX2_twin 45 = .ok (.aload_n 3, 1) := by decide +kernel
theorem dX2_twin_46 : decode cX2_twin 46 = .ok (.getfield 70, 3) := by decide +kernel
theorem dX2_twin_49 : decode cX2_twin 49 = .ok (.arraylength, 1) := by decide +kernel
theorem dX2_twin_50 : decode cX2_twin 50 = .ok (.invokespecial 53, 3) := by decide +kernel
theorem dX2_twin_53 : decode cX2_twin 53 = .ok (.astore 4, 2) := by decide +kernel
theorem dX2_twin_55 : decode cX2_twin 55 = .ok (.aload_n 3, 1) := by decide +kernel
theorem dX2_twin_56 : decode cX2_twin 56 = .ok (.getfield 70, 3) := by decide +kernel
theorem dX2_twin_59 : decode cX2_twin 59 = .ok (.iconst 0, 1) := by decide +kernel
theorem dX2_twin_60 : decode cX2_twin 60 = .ok (.aload 4, 2) := by decide +kernel
theorem dX2_twin_62 : decode cX2_twin 62 = .ok (.getfield 70, 3) := by decide +kernel
theorem dX2_twin_65 : decode cX2_twin 65 = .ok (.iconst 0, 1) := by decide +kernel
theorem dX2_twin_66 : decode cX2_twin 66 = .ok (.aload 4, 2) := by decide +kernel
theorem dX2_twin_68 : decode cX2_twin 68 = .ok (.getfield 70, 3) := by decide +kernel
theorem dX2_twin_71 : decode cX2_twin 71 = .ok (.arraylength, 1) := by decide +kernel
theorem dX2_twin_72 : decode cX2_twin 72 = .ok (.invokestatic 74, 3) := by decide +kernel
theorem dX2_twin_75 : decode cX2_twin 75 = .ok (.aload_n 0, 1) := by decide +kernel
theorem dX2_twin_76 : decode cX2_twin 76 = .ok (.getfield 11, 3) := by decide +kernel
theorem dX2_twin_79 : decode cX2_twin 79 = .ok (.iload_n 1, 1) := by decide +kernel
theorem dX2_twin_80 : decode cX2_twin 80 = .ok (.aload 4, 2) := by decide +kernel
theorem dX2_twin_82 : decode cX2_twin 82 = .ok (.aastore, 1) := by decide +kernel
theorem dX2_twin_83 : decode cX2_twin 83 = .ok (.aload 4, 2) := by decide +kernel
theorem dX2_twin_85 : decode cX2_twin 85 = .ok (.getfield 62, 3) := by decide +kernel
theorem dX2_twin_88 : decode cX2_twin 88 = .ok (.ireturn, 1) := by decide +kernel
theorem dX2_mark_0 : decode cX2_mark 0 = .ok (.iload_n 1, 1) := by decide +kernel
theorem dX2_mark_1 : decode cX2_mark 1 = .ok (.invokestatic 42, 3) := by decide +kernel
theorem dX2_mark_4 : decode cX2_mark 4 = .ok (.aload_n 0, 1) := by decide +kernel
theorem dX2_mark_5 : decode cX2_mark 5 = .ok (.getfield 11, 3) := by decide +kernel
theorem dX2_mark_8 : decode cX2_mark 8 = .ok (.iload_n 1, 1) := by decide +kernel
theorem dX2_mark_9 : decode cX2_mark 9 = .ok (.aaload, 1) := by decide +kernel
theorem dX2_mark_10 : decode cX2_mark 10 = .ok (.astore 5, 2) := by decide +kernel
theorem dX2_mark_12 : decode cX2_mark 12 = .ok (.aload 5, 2) := by decide +kernel
theorem dX2_mark_14 : decode cX2_mark 14 = .ok (.ifnull 11, 3) := by decide +kernel
theorem dX2_mark_17 : decode cX2_mark 17 = .ok (.aload 5, 2) := by decide +kernel
theorem dX2_mark_19 : decode cX2_mark 19 = .ok (.invokevirtual 80, 3) := by decide +kernel
theorem dX2_mark_22 : decode cX2_mark 22 = .ok (.ifCond .ne 13, 3) := by decide +kernel
theorem dX2_mark_25 : decode cX2_mark 25 = .ok (.new 65, 3) := by decide +kernel
theorem dX2_mark_28 : decode cX2_mark 28 = .ok (.dup, 1) := by decide +kernel
theorem dX2_mark_29 : decode cX2_mark 29 = .ok (.ldc 84, 2) := by decide +kernel
theorem dX2_mark_31 : decode cX2_mark 31 = .ok (.invokespecial 69, 3) := by decide +kernel
theorem dX2_mark_34 : decode cX2_mark 34 = .ok (.athrow, 1) := by decide +kernel
theorem dX2_mark_35 : decode cX2_mark 35 = .ok (.aload 5, 2) := by decide +kernel
theorem dX2_mark_37 : decode cX2_mark 37 = .ok (.iload_n 2, 1) := by decide +kernel
theorem dX2_mark_38 : decode cX2_mark 38 = .ok (.invokestatic 86, 3) := by decide +kernel
theorem dX2_mark_41 : decode cX2_mark 41 = .ok (.aload 5, 2) := by decide +kernel
theorem dX2_mark_43 : decode cX2_mark 43 = .ok (.getfield 70, 3) := by decide +kernel
theorem dX2_mark_46 : decode cX2_mark 46 = .ok (.iload_n 2, 1) := by decide +kernel
theorem dX2_mark_47 : decode cX2_mark 47 = .ok (.aload 5, 2) := by decide +kernel
theorem dX2_mark_49 : decode cX2_mark 49 = .ok (.getfield 62, 3) := by decide +kernel
theorem dX2_mark_52 : decode cX2_mark 52 = .ok (.iconst 1, 1) := by decide +kernel
theorem dX2_mark_53 : decode cX2_mark 53 = .ok (.if_icmp .ne 9, 3) := by decide +kernel
theorem dX2_mark_56 : decode cX2_mark 56 = .ok (.lload_n 3, 1) := by decide +kernel
theorem dX2_mark_57 : decode cX2_mark 57 = .ok (.l2i, 1) := by decide +kernel
theorem dX2_mark_58 : decode cX2_mark 58 = .ok (.i2l, 1) := by decide +kernel
theorem dX2_mark_59 : decode cX2_mark 59 = .ok (.goto 4, 3) := by decide +kernel
theorem dX2_mark_62 : decode cX2_mark 62 = .ok (.lload_n 3, 1) := by decide +kernel
theorem dX2_mark_63 : decode cX2_mark 63 = .ok (.lastore, 1) := by decide +kernel
theorem dX2_mark_64 : decode cX2_mark 64 = .ok (.return_, 1) := by decide +kernel
theorem dX2_paste_0 : decode cX2_paste 0 = .ok (.iload_n 1, 1) := by decide +kernel
theorem dX2_paste_1 : decode cX2_paste 1 = .ok (.invokestatic 42, 3) := by decide +kernel
theorem dX2_paste_4 : decode cX2_paste 4 = .ok (.iload_n 3, 1) := by decide +kernel
theorem dX2_paste_5 : decode cX2_paste 5 = .ok (.ifCond .lt 10, 3) := by decide +kernel
theorem dX2_paste_8 : decode cX2_paste 8 = .ok (.iload_n 3, 1) := by decide +kernel
theorem dX2_paste_9 : decode cX2_paste 9 = .ok (.sipush 1000, 3) := by decide +kernel
theorem dX2_paste_12 : decode cX2_paste 12 = .ok (.if_icmp .lt 13, 3) := by decide +kernel
theorem dX2_paste_15 : decode cX2_paste 15 = .ok (.new 46, 3) := by decide +kernel
theorem dX2_paste_18 : decode cX2_paste 18 = .ok (.dup, 1) := by decide +kernel
theorem dX2_paste_19 : decode cX2_paste 19 = .ok (.ldc 90, 2) := by decide +kernel
theorem dX2_paste_21 : decode cX2_paste 21 = .ok (.invokespecial 50, 3) := by decide +kernel
theorem dX2_paste_24 : decode cX2_paste 24 = .ok (.athrow, 1) := by decide +kernel
theorem dX2_paste_25 : decode cX2_paste 25 = .ok (.aload_n 0, 1) := by decide +kernel
theorem dX2_paste_26 : decode cX2_paste 26 = .ok (.getfield 11, 3) := by decide +kernel
theorem dX2_paste_29 : decode cX2_paste 29 = .ok (.iload_n 1, 1) := by decide +kernel
theorem dX2_paste_30 : decode cX2_paste 30 = .ok (.aaload, 1) := by decide +kernel
theorem dX2_paste_31 : decode cX2_paste 31 = .ok (.astore 5, 2) := by decide +kernel
theorem dX2_paste_33 : decode cX2_paste 33 = .ok (.aload 5, 2) := by decide +kernel
theorem dX2_paste_35 : decode cX2_paste 35 = .ok (.ifnull 11, 3) := by decide +kernel
theorem dX2_paste_38 : decode cX2_paste 38 = .ok (.aload 5, 2) := by decide +kernel
theorem dX2_paste_40 : decode cX2_paste 40 = .ok (.invokevirtual 92, 3) := by decide +kernel
theorem dX2_paste_43 : decode cX2_paste 43 = .ok (.ifCond .ne 13, 3) := by decide +kernel
theorem dX2_paste_46 : decode cX2_paste 46 = .ok (.new 65, 3) := by decide +kernel
theorem dX2_paste_49 : decode cX2_paste 49 = .ok (.dup, 1) := by decide +kernel
theorem dX2_paste_50 : decode cX2_paste 50 = .ok (.ldc 95, 2) := by decide +kernel
theorem dX2_paste_52 : decode cX2_paste 52 = .ok (.invokespecial 69, 3) := by decide +kernel
theorem dX2_paste_55 : decode cX2_paste 55 = .ok (.athrow, 1) := by decide +kernel
theorem dX2_paste_56 : decode cX2_paste 56 = .ok (.aload 5, 2) := by decide +kernel
theorem dX2_paste_58 : decode cX2_paste 58 = .ok (.iload_n 2, 1) := by decide +kernel
theorem dX2_paste_59 : decode cX2_paste 59 = .ok (.invokestatic 86, 3) := by decide +kernel
theorem dX2_paste_62 : decode cX2_paste 62 = .ok (.iload 4, 2) := by decide +kernel
theorem dX2_paste_64 : decode cX2_paste 64 = .ok (.ifCond .eq 12, 3) := by decide +kernel
theorem dX2_paste_67 : decode cX2_paste 67 = .ok (.sipush 1000, 3) := by decide +kernel
theorem dX2_paste_70 : decode cX2_paste 70 = .ok (.iload_n 3, 1) := by decide +kernel
theorem dX2_paste_71 : decode cX2_paste 71 = .ok (.iadd, 1) := by decide +kernel
theorem dX2_paste_72 : decode cX2_paste 72 = .ok (.i2l, 1) := by decide +kernel
theorem dX2_paste_73 : decode cX2_paste 73 = .ok (.goto 5, 3) := by decide +kernel
theorem dX2_paste_76 : decode cX2_paste 76 = .ok (.iload_n 3, 1) := by decide +kernel
theorem dX2_paste_77 : decode cX2_paste 77 = .ok (.i2l, 1) := by decide +kernel
theorem dX2_paste_78 : decode cX2_paste 78 = .ok (.lstore 6, 2) := by decide +kernel
theorem dX2_paste_80 : decode cX2_paste 80 = .ok (.aload 5, 2) := by decide +kernel
theorem dX2_paste_82 : decode cX2_paste 82 = .ok (.lload 6, 2) := by decide +kernel
theorem dX2_paste_84 : decode cX2_paste 84 = .ok (.invokevirtual 97, 3) := by decide +kernel
theorem dX2_paste_87 : decode cX2_paste 87 = .ok (.ifCond .ne 5, 3) := by decide +kernel
theorem dX2_paste_90 : decode cX2_paste 90 = .ok (.iconst 0, 1) := by decide +kernel
theorem dX2_paste_91 : decode cX2_paste 91 = .ok (.ireturn, 1) := by decide +kernel
theorem dX2_paste_92 : decode cX2_paste 92 = .ok (.aload 5, 2) := by decide +kernel
theorem dX2_paste_94 : decode cX2_paste 94 = .ok (.getfield 70, 3) := by decide +kernel
theorem dX2_paste_97 : decode cX2_paste 97 = .ok (.iload_n 2, 1) := by decide +kernel
theorem dX2_paste_98 : decode cX2_paste 98 = .ok (.lload 6, 2) := by decide +kernel
theorem dX2_paste_100 : decode cX2_paste 100 = .ok (.lastore, 1) := by decide +kernel
theorem dX2_paste_101 : decode cX2_paste 101 = .ok (.iconst 1, 1) := by decide +kernel
theorem dX2_paste_102 : decode cX2_paste 102 = .ok (.ireturn, 1) := by decide +kernel
theorem dX2_pull_0 : decode cX2_pull 0 = .ok (.iload_n 1, 1) := by decide +kernel
theorem dX2_pull_1 : decode cX2_pull 1 = .ok (.invokestatic 42, 3) := by decide +kernel
theorem dX2_pull_4 : decode cX2_pull 4 = .ok (.aload_n 0, 1) := by decide +kernel
theorem dX2_pull_5 : decode cX2_pull 5 = .ok (.getfield 11, 3) := by decide +kernel
theorem dX2_pull_8 : decode cX2_pull 8 = .ok (.iload_n 1, 1) := by decide +kernel
theorem dX2_pull_9 : decode cX2_pull 9 = .ok (.aaload, 1) := by decide +kernel
theorem dX2_pull_10 : decode cX2_pull 10 = .ok (.astore_n 3, 1) := by decide +kernel
theorem dX2_pull_11 : decode cX2_pull 11 = .ok (.aload_n 3, 1) := by decide +kernel
theorem dX2_pull_12 : decode cX2_pull 12 = .ok (.ifnull 10, 3) := by decide +kernel
theorem dX2_pull_15 : decode cX2_pull 15 = .ok (.aload_n 3, 1) := by decide +kernel
theorem dX2_pull_16 : decode cX2_pull 16 = .ok (.invokevirtual 92, 3) := by decide +kernel
theorem dX2_pull_19 : decode cX2_pull 19 = .ok (.ifCond .ne 13, 3) := by decide +kernel
theorem dX2_pull_22 : decode cX2_pull 22 = .ok (.new 65, 3) := by decide +kernel
theorem dX2_pull_25 : decode cX2_pull 25 = .ok (.dup, 1) := by decide +kernel
theorem dX2_pull_26 : decode cX2_pull 26 = .ok (.ldc 95, 2) := by decide +kernel
theorem dX2_pull_28 : decode cX2_pull 28 = .ok (.invokespecial 69, 3) := by decide +kernel
theorem dX2_pull_31 : decode cX2_pull 31 = .ok (.athrow, 1) := by decide +kernel
theorem dX2_pull_32 : decode cX2_pull 32 = .ok (.aload_n 3, 1) := by decide +kernel
theorem dX2_pull_33 : decode cX2_pull 33 = .ok (.iload_n 2, 1) := by decide +kernel
theorem dX2_pull_34 : decode cX2_pull 34 = .ok (.invokestatic 86, 3) := by decide +kernel
theorem dX2_pull_37 : decode cX2_pull 37 = .ok (.aload_n 3, 1) := by decide +kernel
theorem dX2_pull_38 : decode cX2_pull 38 = .ok (.getfield 70, 3) := by decide +kernel
theorem dX2_pull_41 : decode cX2_pull 41 = .ok (.iload_n 2, 1) := by decide +kernel
theorem dX2_pull_42 : decode cX2_pull 42 = .ok (.laload, 1) := by decide +kernel
theorem dX2_pull_43 : decode cX2_pull 43 = .ok (.ldc2_w 101, 3) := by decide +kernel
theorem dX2_pull_46 : decode cX2_pull 46 = .ok (.lcmp, 1) := by decide +kernel
theorem dX2_pull_47 : decode cX2_pull 47 = .ok (.ifCond .eq 7, 3) := by decide +kernel
theorem dX2_pull_50 : decode cX2_pull 50 = .ok (.iconst 1, 1) := by decide +kernel
theorem dX2_pull_51 : decode cX2_pull 51 = .ok (.goto 4, 3) := by decide +kernel
theorem dX2_pull_54 : decode cX2_pull 54 = .ok (.iconst 0, 1) := by decide +kernel
theorem dX2_pull_55 : decode cX2_pull 55 = .ok (.istore 4, 2) := by decide +kernel
theorem dX2_pull_57 : decode cX2_pull 57 = .ok (.aload_n 3, 1) := by decide +kernel
theorem dX2_pull_58 : decode cX2_pull 58 = .ok (.getfield 70, 3) := by decide +kernel
theorem dX2_pull_61 : decode cX2_pull 61 = .ok (.iload_n 2, 1) := by decide +kernel
theorem dX2_pull_62 : decode cX2_pull 62 = .ok (.ldc2_w 101, 3) := by decide +kernel
theorem dX2_pull_65 : decode cX2_pull 65 = .ok (.lastore, 1) := by decide +kernel
theorem dX2_pull_66 : decode cX2_pull 66 = .ok (.iload 4, 2) := by decide +kernel
theorem dX2_pull_68 : decode cX2_pull 68 = .ok (.ireturn, 1) := by decide +kernel
theorem dX2_splice_0 : decode cX2_splice 0 = .ok (.iload_n 1, 1) := by decide +kernel
theorem dX2_splice_1 : decode cX2_splice 1 = .ok (.invokestatic 42, 3) := by decide +kernel
theorem dX2_splice_4 : decode cX2_splice 4 = .ok (.iload_n 3, 1) := by decide +kernel
theorem dX2_splice_5 : decode cX2_splice 5 = .ok (.invokestatic 42, 3) := by decide +kernel
theorem dX2_splice_8 : decode cX2_splice 8 = .ok (.aload_n 0, 1) := by decide +kernel
theorem dX2_splice_9 : decode cX2_splice 9 = .ok (.invokevirtual 103, 3) := by decide +kernel
theorem dX2_splice_12 : decode cX2_splice 12 = .ok (.aload_n 0, 1) := by decide +kernel
theorem dX2_splice_13 : decode cX2_splice 13 = .ok (.getfield 18, 3) := by decide +kernel
theorem dX2_splice_16 : decode cX2_splice 16 = .ok (.aload_n 0, 1) := by decide +kernel
theorem dX2_splice_17 : decode cX2_splice 17 = .ok (.getfield 11, 3) := by decide +kernel
theorem dX2_splice_20 : decode cX2_splice 20 = .ok (.iload_n 1, 1) := by decide +kernel
theorem dX2_splice_21 : decode cX2_splice 21 = .ok (.aaload, 1) := by decide +kernel
theorem dX2_splice_22 : decode cX2_splice 22 = .ok (.iload_n 2, 1) := by decide +kernel
theorem dX2_splice_23 : decode cX2_splice 23 = .ok (.aload_n 0, 1) := by decide +kernel
theorem dX2_splice_24 : decode cX2_splice 24 = .ok (.getfield 11, 3) := by decide +kernel
theorem dX2_splice_27 : decode cX2_splice 27 = .ok (.iload_n 3, 1) := by decide +kernel
theorem dX2_splice_28 : decode cX2_splice 28 = .ok (.aaload, 1) := by decide +kernel
theorem dX2_splice_29 : decode cX2_splice 29 = .ok (.iload 4, 2) := by decide +kernel
theorem dX2_splice_31 : decode cX2_splice 31 = .ok (.iload 5, 2) := by decide +kernel
theorem dX2_splice_33 : decode cX2_splice 33 = .ok (.invokevirtual 106, 3) := by decide +kernel
theorem dX2_splice_36 : decode cX2_splice 36 = .ok (.ireturn, 1) := by decide +kernel
theorem dX2_step_0 : decode cX2_step 0 = .ok (.iload_n 1, 1) := by decide +kernel
theorem dX2_step_1 : decode cX2_step 1 = .ok (.invokestatic 42, 3) := by decide +kernel
theorem dX2_step_4 : decode cX2_step 4 = .ok (.iload_n 3, 1) := by decide +kernel
theorem dX2_step_5 : decode cX2_step 5 = .ok (.invokestatic 42, 3) := by decide +kernel
theorem dX2_step_8 : decode cX2_step 8 = .ok (.aload_n 0, 1) := by decide +kernel
theorem dX2_step_9 : decode cX2_step 9 = .ok (.getfield 38, 3) := by decide +kernel
theorem dX2_step_12 : decode cX2_step 12 = .ok (.bipush 24, 2) := by decide +kernel
theorem dX2_step_14 : decode cX2_step 14 = .ok (.if_icmp .lt 13, 3) := by decide +kernel
theorem dX2_step_17 : decode cX2_step 17 = .ok (.new 65, 3) := by decide +kernel
theorem dX2_step_20 : decode cX2_step 20 = .ok (.dup, 1) := by decide +kernel
theorem dX2_step_21 : decode cX2_step 21 = .ok (.ldc 110, 2) := by decide +kernel
theorem dX2_step_23 : decode cX2_step 23 = .ok (.invokespecial 69, 3) := by decide +kernel
theorem dX2_step_26 : decode cX2_step 26 = .ok (.athrow, 1) := by decide +kernel
theorem dX2_step_27 : decode cX2_step 27 = .ok (.aload_n 0, 1) := by decide +kernel
theorem dX2_step_28 : decode cX2_step 28 = .ok (.getfield 22, 3) := by decide +kernel
theorem dX2_step_31 : decode cX2_step 31 = .ok (.aload_n 0, 1) := by decide +kernel
theorem dX2_step_32 : decode cX2_step 32 = .ok (.getfield 38, 3) := by decide +kernel
theorem dX2_step_35 : decode cX2_step 35 = .ok (.iload_n 1, 1) := by decide +kernel
theorem dX2_step_36 : decode cX2_step 36 = .ok (.iastore, 1) := by decide +kernel
theorem dX2_step_37 : decode cX2_step 37 = .ok (.aload_n 0, 1) := by decide +kernel
theorem dX2_step_38 : decode cX2_step 38 = .ok (.getfield 26, 3) := by decide +kernel
theorem dX2_step_41 : decode cX2_step 41 = .ok (.aload_n 0, 1) := by decide +kernel
theorem dX2_step_42 : decode cX2_step 42 = .ok (.getfield 38, 3) := by decide +kernel
theorem dX2_step_45 : decode cX2_step 45 = .ok (.iload_n 2, 1) := by decide +kernel
theorem dX2_step_46 : decode cX2_step 46 = .ok (.iastore, 1) := by decide +kernel
theorem dX2_step_47 : decode cX2_step 47 = .ok (.aload_n 0, 1) := by decide +kernel
theorem dX2_step_48 : decode cX2_step 48 = .ok (.getfield 29, 3) := by decide +kernel
theorem dX2_step_51 : decode cX2_step 51 = .ok (.aload_n 0, 1) := by decide +kernel
theorem dX2_step_52 : decode cX2_step 52 = .ok (.getfield 38, 3) := by decide +kernel
theorem dX2_step_55 : decode cX2_step 55 = .ok (.iload_n 3, 1) := by decide +kernel
theorem dX2_step_56 : decode cX2_step 56 = .ok (.iastore, 1) := by decide +kernel
theorem dX2_step_57 : decode cX2_step 57 = .ok (.aload_n 0, 1) := by decide +kernel
theorem dX2_step_58 : decode cX2_step 58 = .ok (.getfield 32, 3) := by decide +kernel
theorem dX2_step_61 : decode cX2_step 61 = .ok (.aload_n 0, 1) := by decide +kernel
theorem dX2_step_62 : decode cX2_step 62 = .ok (.getfield 38, 3) := by decide +kernel
theorem dX2_step_65 : decode cX2_step 65 = .ok (.iload 4, 2) := by decide +kernel
theorem dX2_step_67 : decode cX2_step 67 = .ok (.iastore, 1) := by decide +kernel
theorem dX2_step_68 : decode cX2_step 68 = .ok (.aload_n 0, 1) := by decide +kernel
theorem dX2_step_69 : decode cX2_step 69 = .ok (.getfield 35, 3) := by decide +kernel
theorem dX2_step_72 : decode cX2_step 72 = .ok (.aload_n 0, 1) := by decide +kernel
theorem dX2_step_73 : decode cX2_step 73 = .ok (.getfield 38, 3) := by decide +kernel
theorem dX2_step_76 : decode cX2_step 76 = .ok (.iload 5, 2) := by decide +kernel
theorem dX2_step_78 : decode cX2_step 78 = .ok (.iastore, 1) := by decide +kernel
theorem dX2_step_79 : decode cX2_step 79 = .ok (.aload_n 0, 1) := by decide +kernel
theorem dX2_step_80 : decode cX2_step 80 = .ok (.dup, 1) := by decide +kernel
theorem dX2_step_81 : decode cX2_step 81 = .ok (.getfield 38, 3) := by decide +kernel
theorem dX2_step_84 : decode cX2_step 84 = .ok (.iconst 1, 1) := by decide +kernel
theorem dX2_step_85 : decode cX2_step 85 = .ok (.iadd, 1) := by decide +kernel
theorem dX2_step_86 : decode cX2_step 86 = .ok (.putfield 38, 3) := by decide +kernel
theorem dX2_step_89 : decode cX2_step 89 = .ok (.aload_n 0, 1) := by decide +kernel
theorem dX2_step_90 : decode cX2_step 90 = .ok (.getfield 38, 3) := by decide +kernel
theorem dX2_step_93 : decode cX2_step 93 = .ok (.ireturn, 1) := by decide +kernel
theorem dX2_play_0 : decode cX2_play 0 = .ok (.aload_n 0, 1) := by decide +kernel
theorem dX2_play_1 : decode cX2_play 1 = .ok (.invokevirtual 103, 3) := by decide +kernel
theorem dX2_play_4 : decode cX2_play 4 = .ok (.iconst 0, 1) := by decide +kernel
theorem dX2_play_5 : decode cX2_play 5 = .ok (.istore_n 2, 1) := by decide +kernel
theorem dX2_play_6 : decode cX2_play 6 = .ok (.iload_n 2, 1) := by decide +kernel
theorem dX2_play_7 : decode cX2_play 7 = .ok (.aload_n 0, 1) := by decide +kernel
theorem dX2_play_8 : decode cX2_play 8 = .ok (.getfield 38, 3) := by decide +kernel
theorem dX2_play_11 : decode cX2_play 11 = .ok (.if_icmp .ge 40, 3) := by decide +kernel
theorem dX2_play_14 : decode cX2_play 14 = .ok (.iload_n 1, 1) := by decide +kernel
theorem dX2_play_15 : decode cX2_play 15 = .ok (.ifCond .eq 18, 3) := by decide +kernel
theorem dX2_play_18 : decode cX2_play 18 = .ok (.aload_n 0, 1) := by decide +kernel
theorem dX2_play_19 : decode cX2_play 19 = .ok (.aload_n 0, 1) := by decide +kernel
theorem dX2_play_20 : decode cX2_play 20 = .ok (.getfield 38, 3) := by decide +kernel
theorem dX2_play_23 : decode cX2_play 23 = .ok (.iconst 1, 1) := by decide +kernel
theorem dX2_play_24 : decode cX2_play 24 = .ok (.isub, 1) := by decide +kernel
theorem dX2_play_25 : decode cX2_play 25 = .ok (.iload_n 2, 1) := by decide +kernel
theorem dX2_play_26 : decode cX2_play 26 = .ok (.isub, 1) := by decide +kernel
theorem dX2_play_27 : decode cX2_play 27 = .ok (.invokevirtual 112, 3) := by decide +kernel
theorem dX2_play_30 : decode cX2_play 30 = .ok (.goto 8, 3) := by decide +kernel
theorem dX2_play_33 : decode cX2_play 33 = .ok (.aload_n 0, 1) := by decide +kernel
theorem dX2_play_34 : decode cX2_play 34 = .ok (.iload_n 2, 1) := by decide +kernel
theorem dX2_play_35 : decode cX2_play 35 = .ok (.invokevirtual 115, 3) := by decide +kernel
theorem dX2_play_38 : decode cX2_play 38 = .ok (.istore_n 3, 1) := by decide +kernel
theorem dX2_play_39 : decode cX2_play 39 = .ok (.iload_n 3, 1) := by decide +kernel
theorem dX2_play_40 : decode cX2_play 40 = .ok (.ifCond .ge 5, 3) := by decide +kernel
theorem dX2_play_43 : decode cX2_play 43 = .ok (.iload_n 2, 1) := by decide +kernel
theorem dX2_play_44 : decode cX2_play 44 = .ok (.ireturn, 1) := by decide +kernel
theorem dX2_play_45 : decode cX2_play 45 = .ok (.iinc 2 1, 3) := by decide +kernel
theorem dX2_play_48 : decode cX2_play 48 = .ok (.goto (-42), 3) := by decide +kernel
theorem dX2_play_51 : decode cX2_play 51 = .ok (.aload_n 0, 1) := by decide +kernel
theorem dX2_play_52 : decode cX2_play 52 = .ok (.getfield 38, 3) := by decide +kernel
theorem dX2_play_55 : decode cX2_play 55 = .ok (.ireturn, 1) := by decide +kernel
theorem dX2_sweep_0 : decode cX2_sweep 0 = .ok (.aload_n 0, 1) := by decide +kernel
theorem dX2_sweep_1 : decode cX2_sweep 1 = .ok (.getfield 38, 3) := by decide +kernel
theorem dX2_sweep_4 : decode cX2_sweep 4 = .ok (.istore_n 1, 1) := by decide +kernel
theorem dX2_sweep_5 : decode cX2_sweep 5 = .ok (.aload_n 0, 1) := by decide +kernel
theorem dX2_sweep_6 : decode cX2_sweep 6 = .ok (.iconst 0, 1) := by decide +kernel
theorem dX2_sweep_7 : decode cX2_sweep 7 = .ok (.putfield 38, 3) := by decide +kernel
theorem dX2_sweep_10 : decode cX2_sweep 10 = .ok (.iload_n 1, 1) := by decide +kernel
theorem dX2_sweep_11 : decode cX2_sweep 11 = .ok (.ireturn, 1) := by decide +kernel
theorem dX2_grind_0 : decode cX2_grind 0 = .ok (.aload_n 0, 1) := by decide +kernel
theorem dX2_grind_1 : decode cX2_grind 1 = .ok (.getfield 18, 3) := by decide +kernel
theorem dX2_grind_4 : decode cX2_grind 4 = .ok (.invokevirtual 118, 3) := by decide +kernel
theorem dX2_grind_7 : decode cX2_grind 7 = .ok (.ifCond .ne 13, 3) := by decide +kernel
theorem dX2_grind_10 : decode cX2_grind 10 = .ok (.new 65, 3) := by decide +kernel
theorem dX2_grind_13 : decode cX2_grind 13 = .ok (.dup, 1) := by decide +kernel
theorem dX2_grind_14 : decode cX2_grind 14 = .ok (.ldc 121, 2) := by decide +kernel
theorem dX2_grind_16 : decode cX2_grind 16 = .ok (.invokespecial 69, 3) := by decide +kernel
theorem dX2_grind_19 : decode cX2_grind 19 = .ok (.athrow, 1) := by decide +kernel
theorem dX2_grind_20 : decode cX2_grind 20 = .ok (.aload_n 0, 1) := by decide +kernel
theorem dX2_grind_21 : decode cX2_grind 21 = .ok (.getfield 18, 3) := by decide +kernel
theorem dX2_grind_24 : decode cX2_grind 24 = .ok (.invokevirtual 123, 3) := by decide +kernel
theorem dX2_grind_27 : decode cX2_grind 27 = .ok (.aload_n 0, 1) := by decide +kernel
theorem dX2_grind_28 : decode cX2_grind 28 = .ok (.getfield 18, 3) := by decide +kernel
theorem dX2_grind_31 : decode cX2_grind 31 = .ok (.getfield 126, 3) := by decide +kernel
theorem dX2_grind_34 : decode cX2_grind 34 = .ok (.ireturn, 1) := by decide +kernel
theorem dX2_frame_0 : decode cX2_frame 0 = .ok (.iload_n 1, 1) := by decide +kernel
theorem dX2_frame_1 : decode cX2_frame 1 = .ok (.invokestatic 42, 3) := by decide +kernel
theorem dX2_frame_4 : decode cX2_frame 4 = .ok (.aload_n 0, 1) := by decide +kernel
theorem dX2_frame_5 : decode cX2_frame 5 = .ok (.getfield 11, 3) := by decide +kernel
theorem dX2_frame_8 : decode cX2_frame 8 = .ok (.iload_n 1, 1) := by decide +kernel
theorem dX2_frame_9 : decode cX2_frame 9 = .ok (.aaload, 1) := by decide +kernel
theorem dX2_frame_10 : decode cX2_frame 10 = .ok (.astore_n 3, 1) := by decide +kernel
theorem dX2_frame_11 : decode cX2_frame 11 = .ok (.aload_n 3, 1) := by decide +kernel
theorem dX2_frame_12 : decode cX2_frame 12 = .ok (.ifnull 11, 3) := by decide +kernel
theorem dX2_frame_15 : decode cX2_frame 15 = .ok (.aload_n 3, 1) := by decide +kernel
theorem dX2_frame_16 : decode cX2_frame 16 = .ok (.getfield 62, 3) := by decide +kernel
theorem dX2_frame_19 : decode cX2_frame 19 = .ok (.iconst 5, 1) := by decide +kernel
theorem dX2_frame_20 : decode cX2_frame 20 = .ok (.if_icmp .ne 13, 3) := by decide +kernel
theorem dX2_frame_23 : decode cX2_frame 23 = .ok (.new 65, 3) := by decide +kernel
theorem dX2_frame_26 : decode cX2_frame 26 = .ok (.dup, 1) := by decide +kernel
theorem dX2_frame_27 : decode cX2_frame 27 = .ok (.ldc 129, 2) := by decide +kernel
theorem dX2_frame_29 : decode cX2_frame 29 = .ok (.invokespecial 69, 3) := by decide +kernel
theorem dX2_frame_32 : decode cX2_frame 32 = .ok (.athrow, 1) := by decide +kernel
theorem dX2_frame_33 : decode cX2_frame 33 = .ok (.aload_n 3, 1) := by decide +kernel
theorem dX2_frame_34 : decode cX2_frame 34 = .ok (.iload_n 2, 1) := by decide +kernel
theorem dX2_frame_35 : decode cX2_frame 35 = .ok (.invokestatic 86, 3) := by decide +kernel
theorem dX2_frame_38 : decode cX2_frame 38 = .ok (.aload_n 3, 1) := by decide +kernel
theorem dX2_frame_39 : decode cX2_frame 39 = .ok (.getfield 70, 3) := by decide +kernel
theorem dX2_frame_42 : decode cX2_frame 42 = .ok (.iload_n 2, 1) := by decide +kernel
theorem dX2_frame_43 : decode cX2_frame 43 = .ok (.laload, 1) := by decide +kernel
theorem dX2_frame_44 : decode cX2_frame 44 = .ok (.lreturn, 1) := by decide +kernel
theorem dX2_look_0 : decode cX2_look 0 = .ok (.iload_n 1, 1) := by decide +kernel
theorem dX2_look_1 : decode cX2_look 1 = .ok (.invokestatic 42, 3) := by decide +kernel
theorem dX2_look_4 : decode cX2_look 4 = .ok (.iload_n 2, 1) := by decide +kernel
theorem dX2_look_5 : decode cX2_look 5 = .ok (.tableswitch 50 0 2 #[27, 33, 39], 27) := by decide +kernel
theorem dX2_look_32 : decode cX2_look 32 = .ok (.aload_n 0, 1) := by decide +kernel
theorem dX2_look_33 : decode cX2_look 33 = .ok (.iload_n 1, 1) := by decide +kernel
theorem dX2_look_34 : decode cX2_look 34 = .ok (.invokevirtual 58, 3) := by decide +kernel
theorem dX2_look_37 : decode cX2_look 37 = .ok (.ireturn, 1) := by decide +kernel
theorem dX2_look_38 : decode cX2_look 38 = .ok (.aload_n 0, 1) := by decide +kernel
theorem dX2_look_39 : decode cX2_look 39 = .ok (.iload_n 1, 1) := by decide +kernel
theorem dX2_look_40 : decode cX2_look 40 = .ok (.invokevirtual 131, 3) := by decide +kernel
theorem dX2_look_43 : decode cX2_look 43 = .ok (.ireturn, 1) := by decide +kernel
theorem dX2_look_44 : decode cX2_look 44 = .ok (.aload_n 0, 1) := by decide +kernel
theorem dX2_look_45 : decode cX2_look 45 = .ok (.aload_n 0, 1) := by decide +kernel
theorem dX2_look_46 : decode cX2_look 46 = .ok (.getfield 11, 3) := by decide +kernel
theorem dX2_look_49 : decode cX2_look 49 = .ok (.iload_n 1, 1) := by decide +kernel
theorem dX2_look_50 : decode cX2_look 50 = .ok (.aaload, 1) := by decide +kernel
theorem dX2_look_51 : decode cX2_look 51 = .ok (.invokevirtual 134, 3) := by decide +kernel
theorem dX2_look_54 : decode cX2_look 54 = .ok (.ireturn, 1) := by decide +kernel
theorem dX2_look_55 : decode cX2_look 55 = .ok (.new 46, 3) := by decide +kernel
theorem dX2_look_58 : decode cX2_look 58 = .ok (.dup, 1) := by decide +kernel
theorem dX2_look_59 : decode cX2_look 59 = .ok (.ldc 138, 2) := by decide +kernel
theorem dX2_look_61 : decode cX2_look 61 = .ok (.invokespecial 50, 3) := by decide +kernel
theorem dX2_look_64 : decode cX2_look 64 = .ok (.athrow, 1) := by decide +kernel
theorem dX2_sum_0 : decode cX2_sum 0 = .ok (.iload_n 1, 1) := by decide +kernel
theorem dX2_sum_1 : decode cX2_sum 1 = .ok (.invokestatic 42, 3) := by decide +kernel
theorem dX2_sum_4 : decode cX2_sum 4 = .ok (.aload_n 0, 1) := by decide +kernel
theorem dX2_sum_5 : decode cX2_sum 5 = .ok (.getfield 11, 3) := by decide +kernel
theorem dX2_sum_8 : decode cX2_sum 8 = .ok (.iload_n 1, 1) := by decide +kernel
theorem dX2_sum_9 : decode cX2_sum 9 = .ok (.aaload, 1) := by decide +kernel
theorem dX2_sum_10 : decode cX2_sum 10 = .ok (.astore_n 2, 1) := by decide +kernel
theorem dX2_sum_11 : decode cX2_sum 11 = .ok (.ldc2_w 140, 3) := by decide +kernel
theorem dX2_sum_14 : decode cX2_sum 14 = .ok (.lstore_n 3, 1) := by decide +kernel
theorem dX2_sum_15 : decode cX2_sum 15 = .ok (.aload_n 2, 1) := by decide +kernel
theorem dX2_sum_16 : decode cX2_sum 16 = .ok (.ifnull 36, 3) := by decide +kernel
theorem dX2_sum_19 : decode cX2_sum 19 = .ok (.iconst 0, 1) := by decide +kernel
theorem dX2_sum_20 : decode cX2_sum 20 = .ok (.istore 5, 2) := by decide +kernel
theorem dX2_sum_22 : decode cX2_sum 22 = .ok (.iload 5, 2) := by decide +kernel
theorem dX2_sum_24 : decode cX2_sum 24 = .ok (.aload_n 2, 1) := by decide +kernel
theorem dX2_sum_25 : decode cX2_sum 25 = .ok (.getfield 70, 3) := by decide +kernel
theorem dX2_sum_28 : decode cX2_sum 28 = .ok (.arraylength, 1) := by decide +kernel
theorem dX2_sum_29 : decode cX2_sum 29 = .ok (.if_icmp .ge 23, 3) := by decide +kernel
theorem dX2_sum_32 : decode cX2_sum 32 = .ok (.ldc2_w 142, 3) := by decide +kernel
theorem dX2_sum_35 : decode cX2_sum 35 = .ok (.lload_n 3, 1) := by decide +kernel
theorem dX2_sum_36 : decode cX2_sum 36 = .ok (.lmul, 1) := by decide +kernel
theorem dX2_sum_37 : decode cX2_sum 37 = .ok (.aload_n 2, 1) := by decide +kernel
theorem dX2_sum_38 : decode cX2_sum 38 = .ok (.getfield 70, 3) := by decide +kernel
theorem dX2_sum_41 : decode cX2_sum 41 = .ok (.iload 5, 2) := by decide +kernel
theorem dX2_sum_43 : decode cX2_sum 43 = .ok (.laload, 1) := by decide +kernel
theorem dX2_sum_44 : decode cX2_sum 44 = .ok (.ladd, 1) := by decide +kernel
theorem dX2_sum_45 : decode cX2_sum 45 = .ok (.lstore_n 3, 1) := by decide +kernel
theorem dX2_sum_46 : decode cX2_sum 46 = .ok (.iinc 5 1, 3) := by decide +kernel
theorem dX2_sum_49 : decode cX2_sum 49 = .ok (.goto (-27), 3) := by decide +kernel
theorem dX2_sum_52 : decode cX2_sum 52 = .ok (.lload_n 3, 1) := by decide +kernel
theorem dX2_sum_53 : decode cX2_sum 53 = .ok (.lreturn, 1) := by decide +kernel
theorem dX2_count_0 : decode cX2_count 0 = .ok (.iload_n 1, 1) := by decide +kernel
theorem dX2_count_1 : decode cX2_count 1 = .ok (.tableswitch 108 0 7 #[47, 55, 63, 71, 79, 84, 92, 100], 47) := by decide +kernel
theorem dX2_count_48 : decode cX2_count 48 = .ok (.aload_n 0, 1) := by decide +kernel
theorem dX2_count_49 : decode cX2_count 49 = .ok (.getfield 18, 3) := by decide +kernel
theorem dX2_count_52 : decode cX2_count 52 = .ok (.getfield 144, 3) := by decide +kernel
theorem dX2_count_55 : decode cX2_count 55 = .ok (.ireturn, 1) := by decide +kernel
theorem dX2_count_56 : decode cX2_count 56 = .ok (.aload_n 0, 1) := by decide +kernel
theorem dX2_count_57 : decode cX2_count 57 = .ok (.getfield 18, 3) := by decide +kernel
theorem dX2_count_60 : decode cX2_count 60 = .ok (.getfield 147, 3) := by decide +kernel
theorem dX2_count_63 : decode cX2_count 63 = .ok (.ireturn, 1) := by decide +kernel
theorem dX2_count_64 : decode cX2_count 64 = .ok (.aload_n 0, 1) := by decide +kernel
theorem dX2_count_65 : decode cX2_count 65 = .ok (.getfield 18, 3) := by decide +kernel
theorem dX2_count_68 : decode cX2_count 68 = .ok (.getfield 150, 3) := by decide +kernel
theorem dX2_count_71 : decode cX2_count 71 = .ok (.ireturn, 1) := by decide +kernel
theorem dX2_count_72 : decode cX2_count 72 = .ok (.aload_n 0, 1) := by decide +kernel
theorem dX2_count_73 : decode cX2_count 73 = .ok (.getfield 18, 3) := by decide +kernel
theorem dX2_count_76 : decode cX2_count 76 = .ok (.getfield 153, 3) := by decide +kernel
theorem dX2_count_79 : decode cX2_count 79 = .ok (.ireturn, 1) := by decide +kernel
theorem dX2_count_80 : decode cX2_count 80 = .ok (.aload_n 0, 1) := by decide +kernel
theorem dX2_count_81 : decode cX2_count 81 = .ok (.getfield 38, 3) := by decide +kernel
theorem dX2_count_84 : decode cX2_count 84 = .ok (.ireturn, 1) := by decide +kernel
theorem dX2_count_85 : decode cX2_count 85 = .ok (.aload_n 0, 1) := by decide +kernel
theorem dX2_count_86 : decode cX2_count 86 = .ok (.getfield 18, 3) := by decide +kernel
theorem dX2_count_89 : decode cX2_count 89 = .ok (.getfield 156, 3) := by decide +kernel
theorem dX2_count_92 : decode cX2_count 92 = .ok (.ireturn, 1) := by decide +kernel
theorem dX2_count_93 : decode cX2_count 93 = .ok (.aload_n 0, 1) := by decide +kernel
theorem dX2_count_94 : decode cX2_count 94 = .ok (.getfield 18, 3) := by decide +kernel
theorem dX2_count_97 : decode cX2_count 97 = .ok (.getfield 159, 3) := by decide +kernel
theorem dX2_count_100 : decode cX2_count 100 = .ok (.ireturn, 1) := by decide +kernel
theorem dX2_count_101 : decode cX2_count 101 = .ok (.aload_n 0, 1) := by decide +kernel
theorem dX2_count_102 : decode cX2_count 102 = .ok (.getfield 18, 3) := by decide +kernel
theorem dX2_count_105 : decode cX2_count 105 = .ok (.getfield 126, 3) := by decide +kernel
theorem dX2_count_108 : decode cX2_count 108 = .ok (.ireturn, 1) := by decide +kernel
theorem dX2_count_109 : decode cX2_count 109 = .ok (.new 46, 3) := by decide +kernel
theorem dX2_count_112 : decode cX2_count 112 = .ok (.dup, 1) := by decide +kernel
theorem dX2_count_113 : decode cX2_count 113 = .ok (.ldc 138, 2) := by decide +kernel
theorem dX2_count_115 : decode cX2_count 115 = .ok (.invokespecial 50, 3) := by decide +kernel
theorem dX2_count_118 : decode cX2_count 118 = .ok (.athrow, 1) := by decide +kernel
theorem dX2_requireHook_0 : decode cX2_requireHook 0 = .ok (.iload_n 0, 1) := by decide +kernel
theorem dX2_requireHook_1 : decode cX2_requireHook 1 = .ok (.ifCond .lt 9, 3) := by decide +kernel
theorem dX2_requireHook_4 : decode cX2_requireHook 4 = .ok (.iload_n 0, 1) := by decide +kernel
theorem dX2_requireHook_5 : decode cX2_requireHook 5 = .ok (.bipush 6, 2) := by decide +kernel
theorem dX2_requireHook_7 : decode cX2_requireHook 7 = .ok (.if_icmp .lt 13, 3) := by decide +kernel
theorem dX2_requireHook_10 : decode cX2_requireHook 10 = .ok (.new 46, 3) := by decide +kernel
theorem dX2_requireHook_13 : decode cX2_requireHook 13 = .ok (.dup, 1) := by decide +kernel
theorem dX2_requireHook_14 : decode cX2_requireHook 14 = .ok (.ldc 162, 2) := by decide +kernel
theorem dX2_requireHook_16 : decode cX2_requireHook 16 = .ok (.invokespecial 50, 3) := by decide +kernel
theorem dX2_requireHook_19 : decode cX2_requireHook 19 = .ok (.athrow, 1) := by decide +kernel
theorem dX2_requireHook_20 : decode cX2_requireHook 20 = .ok (.return_, 1) := by decide +kernel
theorem dX2_requireFrame_0 : decode cX2_requireFrame 0 = .ok (.iload_n 1, 1) := by decide +kernel
theorem dX2_requireFrame_1 : decode cX2_requireFrame 1 = .ok (.ifCond .lt 12, 3) := by decide +kernel
theorem dX2_requireFrame_4 : decode cX2_requireFrame 4 = .ok (.iload_n 1, 1) := by decide +kernel
theorem dX2_requireFrame_5 : decode cX2_requireFrame 5 = .ok (.aload_n 0, 1) := by decide +kernel
theorem dX2_requireFrame_6 : decode cX2_requireFrame 6 = .ok (.getfield 70, 3) := by decide +kernel
theorem dX2_requireFrame_9 : decode cX2_requireFrame 9 = .ok (.arraylength, 1) := by decide +kernel
theorem dX2_requireFrame_10 : decode cX2_requireFrame 10 = .ok (.if_icmp .lt 13, 3) := by decide +kernel
theorem dX2_requireFrame_13 : decode cX2_requireFrame 13 = .ok (.new 164, 3) := by decide +kernel
theorem dX2_requireFrame_16 : decode cX2_requireFrame 16 = .ok (.dup, 1) := by decide +kernel
theorem dX2_requireFrame_17 : decode cX2_requireFrame 17 = .ok (.ldc 166, 2) := by decide +kernel
theorem dX2_requireFrame_19 : decode cX2_requireFrame 19 = .ok (.invokespecial 168, 3) := by decide +kernel
theorem dX2_requireFrame_22 : decode cX2_requireFrame 22 = .ok (.athrow, 1) := by decide +kernel
theorem dX2_requireFrame_23 : decode cX2_requireFrame 23 = .ok (.return_, 1) := by decide +kernel
theorem dX2_requireSharpKnife_0 : decode cX2_requireSharpKnife 0 = .ok (.aload_n 0, 1) := by decide +kernel
theorem dX2_requireSharpKnife_1 : decode cX2_requireSharpKnife 1 = .ok (.getfield 18, 3) := by decide +kernel
theorem dX2_requireSharpKnife_4 : decode cX2_requireSharpKnife 4 = .ok (.invokevirtual 118, 3) := by decide +kernel
theorem dX2_requireSharpKnife_7 : decode cX2_requireSharpKnife 7 = .ok (.ifCond .eq 13, 3) := by decide +kernel
theorem dX2_requireSharpKnife_10 : decode cX2_requireSharpKnife 10 = .ok (.new 65, 3) := by decide +kernel
theorem dX2_requireSharpKnife_13 : decode cX2_requireSharpKnife 13 = .ok (.dup, 1) := by decide +kernel
theorem dX2_requireSharpKnife_14 : decode cX2_requireSharpKnife 14 = .ok (.ldc 169, 2) := by decide +kernel
theorem dX2_requireSharpKnife_16 : decode cX2_requireSharpKnife 16 = .ok (.invokespecial 69, 3) := by decide +kernel
theorem dX2_requireSharpKnife_19 : decode cX2_requireSharpKnife 19 = .ok (.athrow, 1) := by decide +kernel
theorem dX2_requireSharpKnife_20 : decode cX2_requireSharpKnife 20 = .ok (.return_, 1) := by decide +kernel
theorem dX2_kindOn_0 : decode cX2_kindOn 0 = .ok (.aload_n 0, 1) := by decide +kernel
theorem dX2_kindOn_1 : decode cX2_kindOn 1 = .ok (.getfield 11, 3) := by decide +kernel
theorem dX2_kindOn_4 : decode cX2_kindOn 4 = .ok (.iload_n 1, 1) := by decide +kernel
theorem dX2_kindOn_5 : decode cX2_kindOn 5 = .ok (.aaload, 1) := by decide +kernel
theorem dX2_kindOn_6 : decode cX2_kindOn 6 = .ok (.astore_n 2, 1) := by decide +kernel
theorem dX2_kindOn_7 : decode cX2_kindOn 7 = .ok (.aload_n 2, 1) := by decide +kernel
theorem dX2_kindOn_8 : decode cX2_kindOn 8 = .ok (.ifnonnull 7, 3) := by decide +kernel
theorem dX2_kindOn_11 : decode cX2_kindOn 11 = .ok (.iconst 0, 1) := by decide +kernel
theorem dX2_kindOn_12 : decode cX2_kindOn 12 = .ok (.goto 7, 3) := by decide +kernel
end
section
theorem dX2_kindOn_15 : decode cX2_kindOn 15 = .ok (.aload_n 2, 1) := by decide +kernel
theorem dX2_kindOn_16 : decode cX2_kindOn 16 = .ok (.getfield 62, 3) := by decide +kernel
theorem dX2_kindOn_19 : decode cX2_kindOn 19 = .ok (.ireturn, 1) := by decide +kernel
theorem dX2_framesOn_0 : decode cX2_framesOn 0 = .ok (.aload_n 0, 1) := by decide +kernel
theorem dX2_framesOn_1 : decode cX2_framesOn 1 = .ok (.getfield 11, 3) := by decide +kernel
theorem dX2_framesOn_4 : decode cX2_framesOn 4 = .ok (.iload_n 1, 1) := by decide +kernel
theorem dX2_framesOn_5 : decode cX2_framesOn 5 = .ok (.aaload, 1) := by decide +kernel
theorem dX2_framesOn_6 : decode cX2_framesOn 6 = .ok (.astore_n 2, 1) := by decide +kernel
theorem dX2_framesOn_7 : decode cX2_framesOn 7 = .ok (.aload_n 2, 1) := by decide +kernel
theorem dX2_framesOn_8 : decode cX2_framesOn 8 = .ok (.ifnull 11, 3) := by decide +kernel
theorem dX2_framesOn_11 : decode cX2_framesOn 11 = .ok (.aload_n 2, 1) := by decide +kernel
theorem dX2_framesOn_12 : decode cX2_framesOn 12 = .ok (.getfield 62, 3) := by decide +kernel
theorem dX2_framesOn_15 : decode cX2_framesOn 15 = .ok (.iconst 5, 1) := by decide +kernel
theorem dX2_framesOn_16 : decode cX2_framesOn 16 = .ok (.if_icmp .ne 7, 3) := by decide +kernel
theorem dX2_framesOn_19 : decode cX2_framesOn 19 = .ok (.iconst (-1), 1) := by decide +kernel
theorem dX2_framesOn_20 : decode cX2_framesOn 20 = .ok (.goto 8, 3) := by decide +kernel
theorem dX2_framesOn_23 : decode cX2_framesOn 23 = .ok (.aload_n 2, 1) := by decide +kernel
theorem dX2_framesOn_24 : decode cX2_framesOn 24 = .ok (.getfield 70, 3) := by decide +kernel
theorem dX2_framesOn_27 : decode cX2_framesOn 27 = .ok (.arraylength, 1) := by decide +kernel
theorem dX2_framesOn_28 : decode cX2_framesOn 28 = .ok (.ireturn, 1) := by decide +kernel
theorem dX2_holdersOf_0 : decode cX2_holdersOf 0 = .ok (.iconst 0, 1) := by decide +kernel
theorem dX2_holdersOf_1 : decode cX2_holdersOf 1 = .ok (.istore_n 2, 1) := by decide +kernel
theorem dX2_holdersOf_2 : decode cX2_holdersOf 2 = .ok (.iconst 0, 1) := by decide +kernel
theorem dX2_holdersOf_3 : decode cX2_holdersOf 3 = .ok (.istore_n 3, 1) := by decide +kernel
theorem dX2_holdersOf_4 : decode cX2_holdersOf 4 = .ok (.iload_n 3, 1) := by decide +kernel
theorem dX2_holdersOf_5 : decode cX2_holdersOf 5 = .ok (.bipush 6, 2) := by decide +kernel
theorem dX2_holdersOf_7 : decode cX2_holdersOf 7 = .ok (.if_icmp .ge 26, 3) := by decide +kernel
theorem dX2_holdersOf_10 : decode cX2_holdersOf 10 = .ok (.aload_n 1, 1) := by decide +kernel
theorem dX2_holdersOf_11 : decode cX2_holdersOf 11 = .ok (.ifnull 16, 3) := by decide +kernel
theorem dX2_holdersOf_14 : decode cX2_holdersOf 14 = .ok (.aload_n 0, 1) := by decide +kernel
theorem dX2_holdersOf_15 : decode cX2_holdersOf 15 = .ok (.getfield 11, 3) := by decide +kernel
theorem dX2_holdersOf_18 : decode cX2_holdersOf 18 = .ok (.iload_n 3, 1) := by decide +kernel
theorem dX2_holdersOf_19 : decode cX2_holdersOf 19 = .ok (.aaload, 1) := by decide +kernel
theorem dX2_holdersOf_20 : decode cX2_holdersOf 20 = .ok (.aload_n 1, 1) := by decide +kernel
theorem dX2_holdersOf_21 : decode cX2_holdersOf 21 = .ok (.if_acmp .ne 6, 3) := by decide +kernel
theorem dX2_holdersOf_24 : decode cX2_holdersOf 24 = .ok (.iinc 2 1, 3) := by decide +kernel
theorem dX2_holdersOf_27 : decode cX2_holdersOf 27 = .ok (.iinc 3 1, 3) := by decide +kernel
theorem dX2_holdersOf_30 : decode cX2_holdersOf 30 = .ok (.goto (-26), 3) := by decide +kernel
theorem dX2_holdersOf_33 : decode cX2_holdersOf 33 = .ok (.iload_n 2, 1) := by decide +kernel
theorem dX2_holdersOf_34 : decode cX2_holdersOf 34 = .ok (.ireturn, 1) := by decide +kernel
theorem dX2_cutAsWritten_0 : decode cX2_cutAsWritten 0 = .ok (.aload_n 0, 1) := by decide +kernel
theorem dX2_cutAsWritten_1 : decode cX2_cutAsWritten 1 = .ok (.getfield 18, 3) := by decide +kernel
theorem dX2_cutAsWritten_4 : decode cX2_cutAsWritten 4 = .ok (.aload_n 0, 1) := by decide +kernel
theorem dX2_cutAsWritten_5 : decode cX2_cutAsWritten 5 = .ok (.getfield 11, 3) := by decide +kernel
theorem dX2_cutAsWritten_8 : decode cX2_cutAsWritten 8 = .ok (.aload_n 0, 1) := by decide +kernel
theorem dX2_cutAsWritten_9 : decode cX2_cutAsWritten 9 = .ok (.getfield 22, 3) := by decide +kernel
theorem dX2_cutAsWritten_12 : decode cX2_cutAsWritten 12 = .ok (.iload_n 1, 1) := by decide +kernel
theorem dX2_cutAsWritten_13 : decode cX2_cutAsWritten 13 = .ok (.iaload, 1) := by decide +kernel
theorem dX2_cutAsWritten_14 : decode cX2_cutAsWritten 14 = .ok (.aaload, 1) := by decide +kernel
theorem dX2_cutAsWritten_15 : decode cX2_cutAsWritten 15 = .ok (.aload_n 0, 1) := by decide +kernel
theorem dX2_cutAsWritten_16 : decode cX2_cutAsWritten 16 = .ok (.getfield 26, 3) := by decide +kernel
theorem dX2_cutAsWritten_19 : decode cX2_cutAsWritten 19 = .ok (.iload_n 1, 1) := by decide +kernel
theorem dX2_cutAsWritten_20 : decode cX2_cutAsWritten 20 = .ok (.iaload, 1) := by decide +kernel
theorem dX2_cutAsWritten_21 : decode cX2_cutAsWritten 21 = .ok (.aload_n 0, 1) := by decide +kernel
theorem dX2_cutAsWritten_22 : decode cX2_cutAsWritten 22 = .ok (.getfield 11, 3) := by decide +kernel
theorem dX2_cutAsWritten_25 : decode cX2_cutAsWritten 25 = .ok (.aload_n 0, 1) := by decide +kernel
theorem dX2_cutAsWritten_26 : decode cX2_cutAsWritten 26 = .ok (.getfield 29, 3) := by decide +kernel
theorem dX2_cutAsWritten_29 : decode cX2_cutAsWritten 29 = .ok (.iload_n 1, 1) := by decide +kernel
theorem dX2_cutAsWritten_30 : decode cX2_cutAsWritten 30 = .ok (.iaload, 1) := by decide +kernel
theorem dX2_cutAsWritten_31 : decode cX2_cutAsWritten 31 = .ok (.aaload, 1) := by decide +kernel
theorem dX2_cutAsWritten_32 : decode cX2_cutAsWritten 32 = .ok (.aload_n 0, 1) := by decide +kernel
theorem dX2_cutAsWritten_33 : decode cX2_cutAsWritten 33 = .ok (.getfield 32, 3) := by decide +kernel
theorem dX2_cutAsWritten_36 : decode cX2_cutAsWritten 36 = .ok (.iload_n 1, 1) := by decide +kernel
theorem dX2_cutAsWritten_37 : decode cX2_cutAsWritten 37 = .ok (.iaload, 1) := by decide +kernel
theorem dX2_cutAsWritten_38 : decode cX2_cutAsWritten 38 = .ok (.aload_n 0, 1) := by decide +kernel
theorem dX2_cutAsWritten_39 : decode cX2_cutAsWritten 39 = .ok (.getfield 35, 3) := by decide +kernel
theorem dX2_cutAsWritten_42 : decode cX2_cutAsWritten 42 = .ok (.iload_n 1, 1) := by decide +kernel
theorem dX2_cutAsWritten_43 : decode cX2_cutAsWritten 43 = .ok (.iaload, 1) := by decide +kernel
theorem dX2_cutAsWritten_44 : decode cX2_cutAsWritten 44 = .ok (.invokevirtual 106, 3) := by decide +kernel
theorem dX2_cutAsWritten_47 : decode cX2_cutAsWritten 47 = .ok (.ireturn, 1) := by decide +kernel
theorem dX2_cutTurned_0 : decode cX2_cutTurned 0 = .ok (.aload_n 0, 1) := by decide +kernel
theorem dX2_cutTurned_1 : decode cX2_cutTurned 1 = .ok (.getfield 18, 3) := by decide +kernel
theorem dX2_cutTurned_4 : decode cX2_cutTurned 4 = .ok (.aload_n 0, 1) := by decide +kernel
theorem dX2_cutTurned_5 : decode cX2_cutTurned 5 = .ok (.getfield 11, 3) := by decide +kernel
theorem dX2_cutTurned_8 : decode cX2_cutTurned 8 = .ok (.aload_n 0, 1) := by decide +kernel
theorem dX2_cutTurned_9 : decode cX2_cutTurned 9 = .ok (.getfield 29, 3) := by decide +kernel
theorem dX2_cutTurned_12 : decode cX2_cutTurned 12 = .ok (.iload_n 1, 1) := by decide +kernel
theorem dX2_cutTurned_13 : decode cX2_cutTurned 13 = .ok (.iaload, 1) := by decide +kernel
theorem dX2_cutTurned_14 : decode cX2_cutTurned 14 = .ok (.aaload, 1) := by decide +kernel
theorem dX2_cutTurned_15 : decode cX2_cutTurned 15 = .ok (.aload_n 0, 1) := by decide +kernel
theorem dX2_cutTurned_16 : decode cX2_cutTurned 16 = .ok (.getfield 32, 3) := by decide +kernel
theorem dX2_cutTurned_19 : decode cX2_cutTurned 19 = .ok (.iload_n 1, 1) := by decide +kernel
theorem dX2_cutTurned_20 : decode cX2_cutTurned 20 = .ok (.iaload, 1) := by decide +kernel
theorem dX2_cutTurned_21 : decode cX2_cutTurned 21 = .ok (.aload_n 0, 1) := by decide +kernel
theorem dX2_cutTurned_22 : decode cX2_cutTurned 22 = .ok (.getfield 11, 3) := by decide +kernel
theorem dX2_cutTurned_25 : decode cX2_cutTurned 25 = .ok (.aload_n 0, 1) := by decide +kernel
theorem dX2_cutTurned_26 : decode cX2_cutTurned 26 = .ok (.getfield 22, 3) := by decide +kernel
theorem dX2_cutTurned_29 : decode cX2_cutTurned 29 = .ok (.iload_n 1, 1) := by decide +kernel
theorem dX2_cutTurned_30 : decode cX2_cutTurned 30 = .ok (.iaload, 1) := by decide +kernel
theorem dX2_cutTurned_31 : decode cX2_cutTurned 31 = .ok (.aaload, 1) := by decide +kernel
theorem dX2_cutTurned_32 : decode cX2_cutTurned 32 = .ok (.aload_n 0, 1) := by decide +kernel
theorem dX2_cutTurned_33 : decode cX2_cutTurned 33 = .ok (.getfield 26, 3) := by decide +kernel
theorem dX2_cutTurned_36 : decode cX2_cutTurned 36 = .ok (.iload_n 1, 1) := by decide +kernel
theorem dX2_cutTurned_37 : decode cX2_cutTurned 37 = .ok (.iaload, 1) := by decide +kernel
theorem dX2_cutTurned_38 : decode cX2_cutTurned 38 = .ok (.aload_n 0, 1) := by decide +kernel
theorem dX2_cutTurned_39 : decode cX2_cutTurned 39 = .ok (.getfield 35, 3) := by decide +kernel
theorem dX2_cutTurned_42 : decode cX2_cutTurned 42 = .ok (.iload_n 1, 1) := by decide +kernel
theorem dX2_cutTurned_43 : decode cX2_cutTurned 43 = .ok (.iaload, 1) := by decide +kernel
theorem dX2_cutTurned_44 : decode cX2_cutTurned 44 = .ok (.invokevirtual 106, 3) := by decide +kernel
theorem dX2_cutTurned_47 : decode cX2_cutTurned 47 = .ok (.ireturn, 1) := by decide +kernel
theorem dX3_init_0 : decode cX3_init 0 = .ok (.aload_n 0, 1) := by decide +kernel
theorem dX3_init_1 : decode cX3_init 1 = .ok (.invokespecial 1, 3) := by decide +kernel
theorem dX3_init_4 : decode cX3_init 4 = .ok (.aload_n 0, 1) := by decide +kernel
theorem dX3_init_5 : decode cX3_init 5 = .ok (.bipush 6, 2) := by decide +kernel
theorem dX3_init_7 : decode cX3_init 7 = .ok (.newarray .int, 2) := by decide +kernel
theorem dX3_init_9 : decode cX3_init 9 = .ok (.putfield 7, 3) := by decide +kernel
theorem dX3_init_12 : decode cX3_init 12 = .ok (.aload_n 0, 1) := by decide +kernel
theorem dX3_init_13 : decode cX3_init 13 = .ok (.bipush 7, 2) := by decide +kernel
theorem dX3_init_15 : decode cX3_init 15 = .ok (.newarray .int, 2) := by decide +kernel
theorem dX3_init_17 : decode cX3_init 17 = .ok (.putfield 13, 3) := by decide +kernel
theorem dX3_init_20 : decode cX3_init 20 = .ok (.aload_n 0, 1) := by decide +kernel
theorem dX3_init_21 : decode cX3_init 21 = .ok (.bipush 7, 2) := by decide +kernel
theorem dX3_init_23 : decode cX3_init 23 = .ok (.newarray .int, 2) := by decide +kernel
theorem dX3_init_25 : decode cX3_init 25 = .ok (.putfield 16, 3) := by decide +kernel
theorem dX3_init_28 : decode cX3_init 28 = .ok (.aload_n 0, 1) := by decide +kernel
theorem dX3_init_29 : decode cX3_init 29 = .ok (.sipush 280, 3) := by decide +kernel
theorem dX3_init_32 : decode cX3_init 32 = .ok (.newarray .long, 2) := by decide +kernel
theorem dX3_init_34 : decode cX3_init 34 = .ok (.putfield 19, 3) := by decide +kernel
theorem dX3_init_37 : decode cX3_init 37 = .ok (.aload_n 0, 1) := by decide +kernel
theorem dX3_init_38 : decode cX3_init 38 = .ok (.bipush 40, 2) := by decide +kernel
theorem dX3_init_40 : decode cX3_init 40 = .ok (.newarray .long, 2) := by decide +kernel
theorem dX3_init_42 : decode cX3_init 42 = .ok (.putfield 23, 3) := by decide +kernel
theorem dX3_init_45 : decode cX3_init 45 = .ok (.aload_n 0, 1) := by decide +kernel
theorem dX3_init_46 : decode cX3_init 46 = .ok (.bipush 120, 2) := by decide +kernel
theorem dX3_init_48 : decode cX3_init 48 = .ok (.newarray .int, 2) := by decide +kernel
theorem dX3_init_50 : decode cX3_init 50 = .ok (.putfield 26, 3) := by decide +kernel
theorem dX3_init_53 : decode cX3_init 53 = .ok (.iconst 0, 1) := by decide +kernel
theorem dX3_init_54 : decode cX3_init 54 = .ok (.istore_n 1, 1) := by decide +kernel
theorem dX3_init_55 : decode cX3_init 55 = .ok (.iload_n 1, 1) := by decide +kernel
theorem dX3_init_56 : decode cX3_init 56 = .ok (.bipush 6, 2) := by decide +kernel
theorem dX3_init_58 : decode cX3_init 58 = .ok (.if_icmp .ge 16, 3) := by decide +kernel
theorem dX3_init_61 : decode cX3_init 61 = .ok (.aload_n 0, 1) := by decide +kernel
theorem dX3_init_62 : decode cX3_init 62 = .ok (.getfield 7, 3) := by decide +kernel
theorem dX3_init_65 : decode cX3_init 65 = .ok (.iload_n 1, 1) := by decide +kernel
theorem dX3_init_66 : decode cX3_init 66 = .ok (.iconst (-1), 1) := by decide +kernel
theorem dX3_init_67 : decode cX3_init 67 = .ok (.iastore, 1) := by decide +kernel
theorem dX3_init_68 : decode cX3_init 68 = .ok (.iinc 1 1, 3) := by decide +kernel
theorem dX3_init_71 : decode cX3_init 71 = .ok (.goto (-16), 3) := by decide +kernel
theorem dX3_init_74 : decode cX3_init 74 = .ok (.return_, 1) := by decide +kernel
theorem dX3_thrown_0 : decode cX3_thrown 0 = .ok (.aload_n 0, 1) := by decide +kernel
theorem dX3_thrown_1 : decode cX3_thrown 1 = .ok (.getfield 29, 3) := by decide +kernel
theorem dX3_thrown_4 : decode cX3_thrown 4 = .ok (.ireturn, 1) := by decide +kernel
theorem dX3_in_0 : decode cX3_in 0 = .ok (.iload_n 0, 1) := by decide +kernel
theorem dX3_in_1 : decode cX3_in 1 = .ok (.iload_n 1, 1) := by decide +kernel
theorem dX3_in_2 : decode cX3_in 2 = .ok (.if_icmp .lt 12, 3) := by decide +kernel
theorem dX3_in_5 : decode cX3_in 5 = .ok (.iload_n 0, 1) := by decide +kernel
theorem dX3_in_6 : decode cX3_in 6 = .ok (.iload_n 2, 1) := by decide +kernel
theorem dX3_in_7 : decode cX3_in 7 = .ok (.if_icmp .gt 7, 3) := by decide +kernel
theorem dX3_in_10 : decode cX3_in 10 = .ok (.iconst 1, 1) := by decide +kernel
theorem dX3_in_11 : decode cX3_in 11 = .ok (.goto 4, 3) := by decide +kernel
theorem dX3_in_14 : decode cX3_in 14 = .ok (.iconst 0, 1) := by decide +kernel
theorem dX3_in_15 : decode cX3_in 15 = .ok (.ireturn, 1) := by decide +kernel
theorem dX3_isHook_0 : decode cX3_isHook 0 = .ok (.iload_n 0, 1) := by decide +kernel
theorem dX3_isHook_1 : decode cX3_isHook 1 = .ok (.iconst 0, 1) := by decide +kernel
theorem dX3_isHook_2 : decode cX3_isHook 2 = .ok (.iconst 5, 1) := by decide +kernel
theorem dX3_isHook_3 : decode cX3_isHook 3 = .ok (.invokestatic 33, 3) := by decide +kernel
theorem dX3_isHook_6 : decode cX3_isHook 6 = .ok (.ireturn, 1) := by decide +kernel
theorem dX3_kindAt_0 : decode cX3_kindAt 0 = .ok (.aload_n 0, 1) := by decide +kernel
theorem dX3_kindAt_1 : decode cX3_kindAt 1 = .ok (.getfield 7, 3) := by decide +kernel
theorem dX3_kindAt_4 : decode cX3_kindAt 4 = .ok (.iload_n 1, 1) := by decide +kernel
theorem dX3_kindAt_5 : decode cX3_kindAt 5 = .ok (.iaload, 1) := by decide +kernel
theorem dX3_kindAt_6 : decode cX3_kindAt 6 = .ok (.iconst (-1), 1) := by decide +kernel
theorem dX3_kindAt_7 : decode cX3_kindAt 7 = .ok (.if_icmp .ne 7, 3) := by decide +kernel
theorem dX3_kindAt_10 : decode cX3_kindAt 10 = .ok (.iconst 0, 1) := by decide +kernel
theorem dX3_kindAt_11 : decode cX3_kindAt 11 = .ok (.goto 14, 3) := by decide +kernel
theorem dX3_kindAt_14 : decode cX3_kindAt 14 = .ok (.aload_n 0, 1) := by decide +kernel
theorem dX3_kindAt_15 : decode cX3_kindAt 15 = .ok (.getfield 13, 3) := by decide +kernel
theorem dX3_kindAt_18 : decode cX3_kindAt 18 = .ok (.aload_n 0, 1) := by decide +kernel
theorem dX3_kindAt_19 : decode cX3_kindAt 19 = .ok (.getfield 7, 3) := by decide +kernel
theorem dX3_kindAt_22 : decode cX3_kindAt 22 = .ok (.iload_n 1, 1) := by decide +kernel
theorem dX3_kindAt_23 : decode cX3_kindAt 23 = .ok (.iaload, 1) := by decide +kernel
theorem dX3_kindAt_24 : decode cX3_kindAt 24 = .ok (.iaload, 1) := by decide +kernel
theorem dX3_kindAt_25 : decode cX3_kindAt 25 = .ok (.ireturn, 1) := by decide +kernel
theorem dX3_hasRow_0 : decode cX3_hasRow 0 = .ok (.aload_n 0, 1) := by decide +kernel
theorem dX3_hasRow_1 : decode cX3_hasRow 1 = .ok (.iload_n 1, 1) := by decide +kernel
theorem dX3_hasRow_2 : decode cX3_hasRow 2 = .ok (.invokevirtual 37, 3) := by decide +kernel
theorem dX3_hasRow_5 : decode cX3_hasRow 5 = .ok (.iconst 1, 1) := by decide +kernel
theorem dX3_hasRow_6 : decode cX3_hasRow 6 = .ok (.iconst 4, 1) := by decide +kernel
theorem dX3_hasRow_7 : decode cX3_hasRow 7 = .ok (.invokestatic 33, 3) := by decide +kernel
theorem dX3_hasRow_10 : decode cX3_hasRow 10 = .ok (.ireturn, 1) := by decide +kernel
theorem dX3_hasCards_0 : decode cX3_hasCards 0 = .ok (.aload_n 0, 1) := by decide +kernel
theorem dX3_hasCards_1 : decode cX3_hasCards 1 = .ok (.iload_n 1, 1) := by decide +kernel
theorem dX3_hasCards_2 : decode cX3_hasCards 2 = .ok (.invokevirtual 37, 3) := by decide +kernel
theorem dX3_hasCards_5 : decode cX3_hasCards 5 = .ok (.iconst 3, 1) := by decide +kernel
theorem dX3_hasCards_6 : decode cX3_hasCards 6 = .ok (.iconst 4, 1) := by decide +kernel
theorem dX3_hasCards_7 : decode cX3_hasCards 7 = .ok (.invokestatic 33, 3) := by decide +kernel
theorem dX3_hasCards_10 : decode cX3_hasCards 10 = .ok (.ireturn, 1) := by decide +kernel
theorem dX3_sizeAt_0 : decode cX3_sizeAt 0 = .ok (.aload_n 0, 1) := by decide +kernel
theorem dX3_sizeAt_1 : decode cX3_sizeAt 1 = .ok (.getfield 16, 3) := by decide +kernel
theorem dX3_sizeAt_4 : decode cX3_sizeAt 4 = .ok (.aload_n 0, 1) := by decide +kernel
theorem dX3_sizeAt_5 : decode cX3_sizeAt 5 = .ok (.getfield 7, 3) := by decide +kernel
theorem dX3_sizeAt_8 : decode cX3_sizeAt 8 = .ok (.iload_n 1, 1) := by decide +kernel
theorem dX3_sizeAt_9 : decode cX3_sizeAt 9 = .ok (.iaload, 1) := by decide +kernel
theorem dX3_sizeAt_10 : decode cX3_sizeAt 10 = .ok (.iaload, 1) := by decide +kernel
theorem dX3_sizeAt_11 : decode cX3_sizeAt 11 = .ok (.ireturn, 1) := by decide +kernel
theorem dX3_free_0 : decode cX3_free 0 = .ok (.iconst (-1), 1) := by decide +kernel
theorem dX3_free_1 : decode cX3_free 1 = .ok (.istore_n 1, 1) := by decide +kernel
theorem dX3_free_2 : decode cX3_free 2 = .ok (.iconst 0, 1) := by decide +kernel
theorem dX3_free_3 : decode cX3_free 3 = .ok (.istore_n 2, 1) := by decide +kernel
theorem dX3_free_4 : decode cX3_free 4 = .ok (.iload_n 2, 1) := by decide +kernel
theorem dX3_free_5 : decode cX3_free 5 = .ok (.bipush 7, 2) := by decide +kernel
theorem dX3_free_7 : decode cX3_free 7 = .ok (.if_icmp .ge 58, 3) := by decide +kernel
theorem dX3_free_10 : decode cX3_free 10 = .ok (.iconst 0, 1) := by decide +kernel
theorem dX3_free_11 : decode cX3_free 11 = .ok (.istore_n 3, 1) := by decide +kernel
theorem dX3_free_12 : decode cX3_free 12 = .ok (.iconst 0, 1) := by decide +kernel
theorem dX3_free_13 : decode cX3_free 13 = .ok (.istore 4, 2) := by decide +kernel
theorem dX3_free_15 : decode cX3_free 15 = .ok (.iload 4, 2) := by decide +kernel
theorem dX3_free_17 : decode cX3_free 17 = .ok (.bipush 6, 2) := by decide +kernel
theorem dX3_free_19 : decode cX3_free 19 = .ok (.if_icmp .ge 30, 3) := by decide +kernel
theorem dX3_free_22 : decode cX3_free 22 = .ok (.iload_n 3, 1) := by decide +kernel
theorem dX3_free_23 : decode cX3_free 23 = .ok (.ifCond .ne 14, 3) := by decide +kernel
theorem dX3_free_26 : decode cX3_free 26 = .ok (.aload_n 0, 1) := by decide +kernel
theorem dX3_free_27 : decode cX3_free 27 = .ok (.getfield 7, 3) := by decide +kernel
theorem dX3_free_30 : decode cX3_free 30 = .ok (.iload 4, 2) := by decide +kernel
theorem dX3_free_32 : decode cX3_free 32 = .ok (.iaload, 1) := by decide +kernel
theorem dX3_free_33 : decode cX3_free 33 = .ok (.iload_n 2, 1) := by decide +kernel
theorem dX3_free_34 : decode cX3_free 34 = .ok (.if_icmp .ne 7, 3) := by decide +kernel
theorem dX3_free_37 : decode cX3_free 37 = .ok (.iconst 1, 1) := by decide +kernel
theorem dX3_free_38 : decode cX3_free 38 = .ok (.goto 4, 3) := by decide +kernel
theorem dX3_free_41 : decode cX3_free 41 = .ok (.iconst 0, 1) := by decide +kernel
theorem dX3_free_42 : decode cX3_free 42 = .ok (.istore_n 3, 1) := by decide +kernel
theorem dX3_free_43 : decode cX3_free 43 = .ok (.iinc 4 1, 3) := by decide +kernel
theorem dX3_free_46 : decode cX3_free 46 = .ok (.goto (-31), 3) := by decide +kernel
theorem dX3_free_49 : decode cX3_free 49 = .ok (.iload_n 3, 1) := by decide +kernel
theorem dX3_free_50 : decode cX3_free 50 = .ok (.ifCond .eq 7, 3) := by decide +kernel
theorem dX3_free_53 : decode cX3_free 53 = .ok (.iload_n 1, 1) := by decide +kernel
theorem dX3_free_54 : decode cX3_free 54 = .ok (.goto 4, 3) := by decide +kernel
theorem dX3_free_57 : decode cX3_free 57 = .ok (.iload_n 2, 1) := by decide +kernel
theorem dX3_free_58 : decode cX3_free 58 = .ok (.istore_n 1, 1) := by decide +kernel
theorem dX3_free_59 : decode cX3_free 59 = .ok (.iinc 2 1, 3) := by decide +kernel
theorem dX3_free_62 : decode cX3_free 62 = .ok (.goto (-58), 3) := by decide +kernel
theorem dX3_free_65 : decode cX3_free 65 = .ok (.iload_n 1, 1) := by decide +kernel
theorem dX3_free_66 : decode cX3_free 66 = .ok (.ireturn, 1) := by decide +kernel
theorem dX3_wind_0 : decode cX3_wind 0 = .ok (.iload_n 2, 1) := by decide +kernel
theorem dX3_wind_1 : decode cX3_wind 1 = .ok (.iconst 1, 1) := by decide +kernel
theorem dX3_wind_2 : decode cX3_wind 2 = .ok (.iconst 4, 1) := by decide +kernel
theorem dX3_wind_3 : decode cX3_wind 3 = .ok (.invokestatic 33, 3) := by decide +kernel
theorem dX3_wind_6 : decode cX3_wind 6 = .ok (.istore 4, 2) := by decide +kernel
theorem dX3_wind_8 : decode cX3_wind 8 = .ok (.aload_n 0, 1) := by decide +kernel
theorem dX3_wind_9 : decode cX3_wind 9 = .ok (.iload_n 1, 1) := by decide +kernel
theorem dX3_wind_10 : decode cX3_wind 10 = .ok (.invokestatic 41, 3) := by decide +kernel
theorem dX3_wind_13 : decode cX3_wind 13 = .ok (.ifCond .eq 31, 3) := by decide +kernel
theorem dX3_wind_16 : decode cX3_wind 16 = .ok (.iload_n 2, 1) := by decide +kernel
theorem dX3_wind_17 : decode cX3_wind 17 = .ok (.iconst 0, 1) := by decide +kernel
theorem dX3_wind_18 : decode cX3_wind 18 = .ok (.iconst 5, 1) := by decide +kernel
theorem dX3_wind_19 : decode cX3_wind 19 = .ok (.invokestatic 33, 3) := by decide +kernel
theorem dX3_wind_22 : decode cX3_wind 22 = .ok (.ifCond .eq 22, 3) := by decide +kernel
theorem dX3_wind_25 : decode cX3_wind 25 = .ok (.iload 4, 2) := by decide +kernel
theorem dX3_wind_27 : decode cX3_wind 27 = .ok (.ifCond .eq 13, 3) := by decide +kernel
theorem dX3_wind_30 : decode cX3_wind 30 = .ok (.iload_n 3, 1) := by decide +kernel
theorem dX3_wind_31 : decode cX3_wind 31 = .ok (.iconst 0, 1) := by decide +kernel
theorem dX3_wind_32 : decode cX3_wind 32 = .ok (.bipush 40, 2) := by decide +kernel
theorem dX3_wind_34 : decode cX3_wind 34 = .ok (.invokestatic 33, 3) := by decide +kernel
theorem dX3_wind_37 : decode cX3_wind 37 = .ok (.ifCond .eq 7, 3) := by decide +kernel
theorem dX3_wind_40 : decode cX3_wind 40 = .ok (.iconst 0, 1) := by decide +kernel
theorem dX3_wind_41 : decode cX3_wind 41 = .ok (.goto 4, 3) := by decide +kernel
theorem dX3_wind_44 : decode cX3_wind 44 = .ok (.iconst 1, 1) := by decide +kernel
theorem dX3_wind_45 : decode cX3_wind 45 = .ok (.putfield 29, 3) := by decide +kernel
theorem dX3_wind_48 : decode cX3_wind 48 = .ok (.aload_n 0, 1) := by decide +kernel
theorem dX3_wind_49 : decode cX3_wind 49 = .ok (.getfield 29, 3) := by decide +kernel
theorem dX3_wind_52 : decode cX3_wind 52 = .ok (.ifCond .le 5, 3) := by decide +kernel
theorem dX3_wind_55 : decode cX3_wind 55 = .ok (.iconst 0, 1) := by decide +kernel
theorem dX3_wind_56 : decode cX3_wind 56 = .ok (.ireturn, 1) := by decide +kernel
theorem dX3_wind_57 : decode cX3_wind 57 = .ok (.iload_n 2, 1) := by decide +kernel
theorem dX3_wind_58 : decode cX3_wind 58 = .ok (.ifCond .ne 12, 3) := by decide +kernel
theorem dX3_wind_61 : decode cX3_wind 61 = .ok (.aload_n 0, 1) := by decide +kernel
theorem dX3_wind_62 : decode cX3_wind 62 = .ok (.getfield 7, 3) := by decide +kernel
theorem dX3_wind_65 : decode cX3_wind 65 = .ok (.iload_n 1, 1) := by decide +kernel
theorem dX3_wind_66 : decode cX3_wind 66 = .ok (.iconst (-1), 1) := by decide +kernel
theorem dX3_wind_67 : decode cX3_wind 67 = .ok (.iastore, 1) := by decide +kernel
theorem dX3_wind_68 : decode cX3_wind 68 = .ok (.iconst 0, 1) := by decide +kernel
theorem dX3_wind_69 : decode cX3_wind 69 = .ok (.ireturn, 1) := by decide +kernel
theorem dX3_wind_70 : decode cX3_wind 70 = .ok (.aload_n 0, 1) := by decide +kernel
theorem dX3_wind_71 : decode cX3_wind 71 = .ok (.invokevirtual 45, 3) := by decide +kernel
theorem dX3_wind_74 : decode cX3_wind 74 = .ok (.istore 5, 2) := by decide +kernel
theorem dX3_wind_76 : decode cX3_wind 76 = .ok (.aload_n 0, 1) := by decide +kernel
theorem dX3_wind_77 : decode cX3_wind 77 = .ok (.getfield 13, 3) := by decide +kernel
theorem dX3_wind_80 : decode cX3_wind 80 = .ok (.iload 5, 2) := by decide +kernel
theorem dX3_wind_82 : decode cX3_wind 82 = .ok (.iload_n 2, 1) := by decide +kernel
theorem dX3_wind_83 : decode cX3_wind 83 = .ok (.iastore, 1) := by decide +kernel
theorem dX3_wind_84 : decode cX3_wind 84 = .ok (.aload_n 0, 1) := by decide +kernel
theorem dX3_wind_85 : decode cX3_wind 85 = .ok (.getfield 16, 3) := by decide +kernel
theorem dX3_wind_88 : decode cX3_wind 88 = .ok (.iload 5, 2) := by decide +kernel
theorem dX3_wind_90 : decode cX3_wind 90 = .ok (.iload 4, 2) := by decide +kernel
theorem dX3_wind_92 : decode cX3_wind 92 = .ok (.ifCond .eq 7, 3) := by decide +kernel
theorem dX3_wind_95 : decode cX3_wind 95 = .ok (.iload_n 3, 1) := by decide +kernel
theorem dX3_wind_96 : decode cX3_wind 96 = .ok (.goto 4, 3) := by decide +kernel
theorem dX3_wind_99 : decode cX3_wind 99 = .ok (.iconst 0, 1) := by decide +kernel
theorem dX3_wind_100 : decode cX3_wind 100 = .ok (.iastore, 1) := by decide +kernel
theorem dX3_wind_101 : decode cX3_wind 101 = .ok (.iconst 0, 1) := by decide +kernel
theorem dX3_wind_102 : decode cX3_wind 102 = .ok (.istore 6, 2) := by decide +kernel
theorem dX3_wind_104 : decode cX3_wind 104 = .ok (.iload 6, 2) := by decide +kernel
theorem dX3_wind_106 : decode cX3_wind 106 = .ok (.bipush 40, 2) := by decide +kernel
theorem dX3_wind_108 : decode cX3_wind 108 = .ok (.if_icmp .ge 34, 3) := by decide +kernel
theorem dX3_wind_111 : decode cX3_wind 111 = .ok (.aload_n 0, 1) := by decide +kernel
theorem dX3_wind_112 : decode cX3_wind 112 = .ok (.getfield 19, 3) := by decide +kernel
theorem dX3_wind_115 : decode cX3_wind 115 = .ok (.bipush 40, 2) := by decide +kernel
theorem dX3_wind_117 : decode cX3_wind 117 = .ok (.iload 5, 2) := by decide +kernel
theorem dX3_wind_119 : decode cX3_wind 119 = .ok (.imul, 1) := by decide +kernel
theorem dX3_wind_120 : decode cX3_wind 120 = .ok (.iload 6, 2) := by decide +kernel
theorem dX3_wind_122 : decode cX3_wind 122 = .ok (.iadd, 1) := by decide +kernel
theorem dX3_wind_123 : decode cX3_wind 123 = .ok (.iload_n 2, 1) := by decide +kernel
theorem dX3_wind_124 : decode cX3_wind 124 = .ok (.iconst 3, 1) := by decide +kernel
theorem dX3_wind_125 : decode cX3_wind 125 = .ok (.if_icmp .lt 9, 3) := by decide +kernel
theorem dX3_wind_128 : decode cX3_wind 128 = .ok (.ldc2_w 49, 3) := by decide +kernel
theorem dX3_wind_131 : decode cX3_wind 131 = .ok (.goto 4, 3) := by decide +kernel
theorem dX3_wind_134 : decode cX3_wind 134 = .ok (.lconst 0, 1) := by decide +kernel
theorem dX3_wind_135 : decode cX3_wind 135 = .ok (.lastore, 1) := by decide +kernel
theorem dX3_wind_136 : decode cX3_wind 136 = .ok (.iinc 6 1, 3) := by decide +kernel
theorem dX3_wind_139 : decode cX3_wind 139 = .ok (.goto (-35), 3) := by decide +kernel
theorem dX3_wind_142 : decode cX3_wind 142 = .ok (.aload_n 0, 1) := by decide +kernel
theorem dX3_wind_143 : decode cX3_wind 143 = .ok (.getfield 7, 3) := by decide +kernel
theorem dX3_wind_146 : decode cX3_wind 146 = .ok (.iload_n 1, 1) := by decide +kernel
theorem dX3_wind_147 : decode cX3_wind 147 = .ok (.iload 5, 2) := by decide +kernel
theorem dX3_wind_149 : decode cX3_wind 149 = .ok (.iastore, 1) := by decide +kernel
theorem dX3_wind_150 : decode cX3_wind 150 = .ok (.iload_n 2, 1) := by decide +kernel
theorem dX3_wind_151 : decode cX3_wind 151 = .ok (.ireturn, 1) := by decide +kernel
theorem dX3_hang_0 : decode cX3_hang 0 = .ok (.aload_n 0, 1) := by decide +kernel
theorem dX3_hang_1 : decode cX3_hang 1 = .ok (.iload_n 1, 1) := by decide +kernel
theorem dX3_hang_2 : decode cX3_hang 2 = .ok (.invokestatic 41, 3) := by decide +kernel
theorem dX3_hang_5 : decode cX3_hang 5 = .ok (.ifCond .eq 14, 3) := by decide +kernel
theorem dX3_hang_8 : decode cX3_hang 8 = .ok (.iload_n 2, 1) := by decide +kernel
theorem dX3_hang_9 : decode cX3_hang 9 = .ok (.invokestatic 41, 3) := by decide +kernel
theorem dX3_hang_12 : decode cX3_hang 12 = .ok (.ifCond .eq 7, 3) := by decide +kernel
theorem dX3_hang_15 : decode cX3_hang 15 = .ok (.iconst 0, 1) := by decide +kernel
theorem dX3_hang_16 : decode cX3_hang 16 = .ok (.goto 4, 3) := by decide +kernel
theorem dX3_hang_19 : decode cX3_hang 19 = .ok (.iconst 1, 1) := by decide +kernel
theorem dX3_hang_20 : decode cX3_hang 20 = .ok (.putfield 29, 3) := by decide +kernel
theorem dX3_hang_23 : decode cX3_hang 23 = .ok (.aload_n 0, 1) := by decide +kernel
theorem dX3_hang_24 : decode cX3_hang 24 = .ok (.getfield 29, 3) := by decide +kernel
theorem dX3_hang_27 : decode cX3_hang 27 = .ok (.ifCond .le 5, 3) := by decide +kernel
theorem dX3_hang_30 : decode cX3_hang 30 = .ok (.iconst 0, 1) := by decide +kernel
theorem dX3_hang_31 : decode cX3_hang 31 = .ok (.ireturn, 1) := by decide +kernel
theorem dX3_hang_32 : decode cX3_hang 32 = .ok (.aload_n 0, 1) := by decide +kernel
theorem dX3_hang_33 : decode cX3_hang 33 = .ok (.getfield 7, 3) := by decide +kernel
theorem dX3_hang_36 : decode cX3_hang 36 = .ok (.iload_n 1, 1) := by decide +kernel
theorem dX3_hang_37 : decode cX3_hang 37 = .ok (.aload_n 0, 1) := by decide +kernel
theorem dX3_hang_38 : decode cX3_hang 38 = .ok (.getfield 7, 3) := by decide +kernel
theorem dX3_hang_41 : decode cX3_hang 41 = .ok (.iload_n 2, 1) := by decide +kernel
theorem dX3_hang_42 : decode cX3_hang 42 = .ok (.iaload, 1) := by decide +kernel
theorem dX3_hang_43 : decode cX3_hang 43 = .ok (.iastore, 1) := by decide +kernel
theorem dX3_hang_44 : decode cX3_hang 44 = .ok (.aload_n 0, 1) := by decide +kernel
theorem dX3_hang_45 : decode cX3_hang 45 = .ok (.iload_n 1, 1) := by decide +kernel
theorem dX3_hang_46 : decode cX3_hang 46 = .ok (.invokevirtual 37, 3) := by decide +kernel
theorem dX3_hang_49 : decode cX3_hang 49 = .ok (.ireturn, 1) := by decide +kernel
theorem dX3_twin_0 : decode cX3_twin 0 = .ok (.aload_n 0, 1) := by decide +kernel
theorem dX3_twin_1 : decode cX3_twin 1 = .ok (.iload_n 1, 1) := by decide +kernel
theorem dX3_twin_2 : decode cX3_twin 2 = .ok (.invokestatic 41, 3) := by decide +kernel
theorem dX3_twin_5 : decode cX3_twin 5 = .ok (.ifCond .eq 10, 3) := by decide +kernel
theorem dX3_twin_8 : decode cX3_twin 8 = .ok (.iload_n 2, 1) := by decide +kernel
theorem dX3_twin_9 : decode cX3_twin 9 = .ok (.invokestatic 41, 3) := by decide +kernel
theorem dX3_twin_12 : decode cX3_twin 12 = .ok (.ifCond .ne 7, 3) := by decide +kernel
theorem dX3_twin_15 : decode cX3_twin 15 = .ok (.iconst 1, 1) := by decide +kernel
theorem dX3_twin_16 : decode cX3_twin 16 = .ok (.goto 16, 3) := by decide +kernel
theorem dX3_twin_19 : decode cX3_twin 19 = .ok (.aload_n 0, 1) := by decide +kernel
theorem dX3_twin_20 : decode cX3_twin 20 = .ok (.iload_n 2, 1) := by decide +kernel
theorem dX3_twin_21 : decode cX3_twin 21 = .ok (.invokevirtual 51, 3) := by decide +kernel
theorem dX3_twin_24 : decode cX3_twin 24 = .ok (.ifCond .ne 7, 3) := by decide +kernel
theorem dX3_twin_27 : decode cX3_twin 27 = .ok (.iconst 2, 1) := by decide +kernel
theorem dX3_twin_28 : decode cX3_twin 28 = .ok (.goto 4, 3) := by decide +kernel
theorem dX3_twin_31 : decode cX3_twin 31 = .ok (.iconst 0, 1) := by decide +kernel
theorem dX3_twin_32 : decode cX3_twin 32 = .ok (.putfield 29, 3) := by decide +kernel
theorem dX3_twin_35 : decode cX3_twin 35 = .ok (.aload_n 0, 1) := by decide +kernel
theorem dX3_twin_36 : decode cX3_twin 36 = .ok (.getfield 29, 3) := by decide +kernel
theorem dX3_twin_39 : decode cX3_twin 39 = .ok (.ifCond .le 5, 3) := by decide +kernel
theorem dX3_twin_42 : decode cX3_twin 42 = .ok (.iconst 0, 1) := by decide +kernel
theorem dX3_twin_43 : decode cX3_twin 43 = .ok (.ireturn, 1) := by decide +kernel
theorem dX3_twin_44 : decode cX3_twin 44 = .ok (.aload_n 0, 1) := by decide +kernel
theorem dX3_twin_45 : decode cX3_twin 45 = .ok (.getfield 7, 3) := by decide +kernel
theorem dX3_twin_48 : decode cX3_twin 48 = .ok (.iload_n 2, 1) := by decide +kernel
theorem dX3_twin_49 : decode cX3_twin 49 = .ok (.iaload, 1) := by decide +kernel
theorem dX3_twin_50 : decode cX3_twin 50 = .ok (.istore_n 3, 1) := by decide +kernel
theorem dX3_twin_51 : decode cX3_twin 51 = .ok (.aload_n 0, 1) := by decide +kernel
theorem dX3_twin_52 : decode cX3_twin 52 = .ok (.invokevirtual 45, 3) := by decide +kernel
theorem dX3_twin_55 : decode cX3_twin 55 = .ok (.istore 4, 2) := by decide +kernel
theorem dX3_twin_57 : decode cX3_twin 57 = .ok (.aload_n 0, 1) := by decide +kernel
theorem dX3_twin_58 : decode cX3_twin 58 = .ok (.getfield 13, 3) := by decide +kernel
theorem dX3_twin_61 : decode cX3_twin 61 = .ok (.iload 4, 2) := by decide +kernel
theorem dX3_twin_63 : decode cX3_twin 63 = .ok (.aload_n 0, 1) := by decide +kernel
theorem dX3_twin_64 : decode cX3_twin 64 = .ok (.getfield 13, 3) := by decide +kernel
theorem dX3_twin_67 : decode cX3_twin 67 = .ok (.iload_n 3, 1) := by decide +kernel
theorem dX3_twin_68 : decode cX3_twin 68 = .ok (.iaload, 1) := by decide +kernel
theorem dX3_twin_69 : decode cX3_twin 69 = .ok (.iastore, 1) := by decide +kernel
theorem dX3_twin_70 : decode cX3_twin 70 = .ok (.aload_n 0, 1) := by decide +kernel
theorem dX3_twin_71 : decode cX3_twin 71 = .ok (.getfield 16, 3) := by decide +kernel
theorem dX3_twin_74 : decode cX3_twin 74 = .ok (.iload 4, 2) := by decide +kernel
theorem dX3_twin_76 : decode cX3_twin 76 = .ok (.aload_n 0, 1) := by decide +kernel
theorem dX3_twin_77 : decode cX3_twin 77 = .ok (.getfield 16, 3) := by decide +kernel
theorem dX3_twin_80 : decode cX3_twin 80 = .ok (.iload_n 3, 1) := by decide +kernel
theorem dX3_twin_81 : decode cX3_twin 81 = .ok (.iaload, 1) := by decide +kernel
theorem dX3_twin_82 : decode cX3_twin 82 = .ok (.iastore, 1) := by decide +kernel
theorem dX3_twin_83 : decode cX3_twin 83 = .ok (.iconst 0, 1) := by decide +kernel
theorem dX3_twin_84 : decode cX3_twin 84 = .ok (.istore 5, 2) := by decide +kernel
theorem dX3_twin_86 : decode cX3_twin 86 = .ok (.iload 5, 2) := by decide +kernel
theorem dX3_twin_88 : decode cX3_twin 88 = .ok (.bipush 40, 2) := by decide +kernel
theorem dX3_twin_90 : decode cX3_twin 90 = .ok (.if_icmp .ge 34, 3) := by decide +kernel
theorem dX3_twin_93 : decode cX3_twin 93 = .ok (.aload_n 0, 1) := by decide +kernel
theorem dX3_twin_94 : decode cX3_twin 94 = .ok (.getfield 19, 3) := by decide +kernel
theorem dX3_twin_97 : decode cX3_twin 97 = .ok (.bipush 40, 2) := by decide +kernel
theorem dX3_twin_99 : decode cX3_twin 99 = .ok (.iload 4, 2) := by decide +kernel
theorem dX3_twin_101 : decode cX3_twin 101 = .ok (.imul, 1) := by decide +kernel
theorem dX3_twin_102 : decode cX3_twin 102 = .ok (.iload 5, 2) := by decide +kernel
theorem dX3_twin_104 : decode cX3_twin 104 = .ok (.iadd, 1) := by decide +kernel
theorem dX3_twin_105 : decode cX3_twin 105 = .ok (.aload_n 0, 1) := by decide +kernel
theorem dX3_twin_106 : decode cX3_twin 106 = .ok (.getfield 19, 3) := by decide +kernel
theorem dX3_twin_109 : decode cX3_twin 109 = .ok (.bipush 40, 2) := by decide +kernel
theorem dX3_twin_111 : decode cX3_twin 111 = .ok (.iload_n 3, 1) := by decide +kernel
theorem dX3_twin_112 : decode cX3_twin 112 = .ok (.imul, 1) := by decide +kernel
theorem dX3_twin_113 : decode cX3_twin 113 = .ok (.iload 5, 2) := by decide +kernel
theorem dX3_twin_115 : decode cX3_twin 115 = .ok (.iadd, 1) := by decide +kernel
theorem dX3_twin_116 : decode cX3_twin 116 = .ok (.laload, 1) := by decide +kernel
theorem dX3_twin_117 : decode cX3_twin 117 = .ok (.lastore, 1) := by decide +kernel
theorem dX3_twin_118 : decode cX3_twin 118 = .ok (.iinc 5 1, 3) := by decide +kernel
theorem dX3_twin_121 : decode cX3_twin 121 = .ok (.goto (-35), 3) := by decide +kernel
theorem dX3_twin_124 : decode cX3_twin 124 = .ok (.aload_n 0, 1) := by decide +kernel
theorem dX3_twin_125 : decode cX3_twin 125 = .ok (.getfield 7, 3) := by decide +kernel
theorem dX3_twin_128 : decode cX3_twin 128 = .ok (.iload_n 1, 1) := by decide +kernel
theorem dX3_twin_129 : decode cX3_twin 129 = .ok (.iload 4, 2) := by decide +kernel
theorem dX3_twin_131 : decode cX3_twin 131 = .ok (.iastore, 1) := by decide +kernel
theorem dX3_twin_132 : decode cX3_twin 132 = .ok (.aload_n 0, 1) := by decide +kernel
theorem dX3_twin_133 : decode cX3_twin 133 = .ok (.getfield 13, 3) := by decide +kernel
theorem dX3_twin_136 : decode cX3_twin 136 = .ok (.iload 4, 2) := by decide +kernel
theorem dX3_twin_138 : decode cX3_twin 138 = .ok (.iaload, 1) := by decide +kernel
theorem dX3_twin_139 : decode cX3_twin 139 = .ok (.ireturn, 1) := by decide +kernel
theorem dX3_mark_0 : decode cX3_mark 0 = .ok (.aload_n 0, 1) := by decide +kernel
theorem dX3_mark_1 : decode cX3_mark 1 = .ok (.iload_n 1, 1) := by decide +kernel
theorem dX3_mark_2 : decode cX3_mark 2 = .ok (.invokestatic 41, 3) := by decide +kernel
theorem dX3_mark_5 : decode cX3_mark 5 = .ok (.ifCond .ne 7, 3) := by decide +kernel
theorem dX3_mark_8 : decode cX3_mark 8 = .ok (.iconst 1, 1) := by decide +kernel
theorem dX3_mark_9 : decode cX3_mark 9 = .ok (.goto 40, 3) := by decide +kernel
theorem dX3_mark_12 : decode cX3_mark 12 = .ok (.aload_n 0, 1) := by decide +kernel
theorem dX3_mark_13 : decode cX3_mark 13 = .ok (.iload_n 1, 1) := by decide +kernel
theorem dX3_mark_14 : decode cX3_mark 14 = .ok (.invokevirtual 37, 3) := by decide +kernel
theorem dX3_mark_17 : decode cX3_mark 17 = .ok (.iconst 1, 1) := by decide +kernel
theorem dX3_mark_18 : decode cX3_mark 18 = .ok (.iconst 2, 1) := by decide +kernel
theorem dX3_mark_19 : decode cX3_mark 19 = .ok (.invokestatic 33, 3) := by decide +kernel
theorem dX3_mark_22 : decode cX3_mark 22 = .ok (.ifCond .ne 7, 3) := by decide +kernel
theorem dX3_mark_25 : decode cX3_mark 25 = .ok (.iconst 2, 1) := by decide +kernel
theorem dX3_mark_26 : decode cX3_mark 26 = .ok (.goto 23, 3) := by decide +kernel
theorem dX3_mark_29 : decode cX3_mark 29 = .ok (.iload_n 2, 1) := by decide +kernel
theorem dX3_mark_30 : decode cX3_mark 30 = .ok (.iconst 0, 1) := by decide +kernel
theorem dX3_mark_31 : decode cX3_mark 31 = .ok (.aload_n 0, 1) := by decide +kernel
theorem dX3_mark_32 : decode cX3_mark 32 = .ok (.iload_n 1, 1) := by decide +kernel
theorem dX3_mark_33 : decode cX3_mark 33 = .ok (.invokevirtual 54, 3) := by decide +kernel
theorem dX3_mark_36 : decode cX3_mark 36 = .ok (.iconst 1, 1) := by decide +kernel
theorem dX3_mark_37 : decode cX3_mark 37 = .ok (.isub, 1) := by decide +kernel
theorem dX3_mark_38 : decode cX3_mark 38 = .ok (.invokestatic 33, 3) := by decide +kernel
theorem dX3_mark_41 : decode cX3_mark 41 = .ok (.ifCond .ne 7, 3) := by decide +kernel
theorem dX3_mark_44 : decode cX3_mark 44 = .ok (.iconst 3, 1) := by decide +kernel
theorem dX3_mark_45 : decode cX3_mark 45 = .ok (.goto 4, 3) := by decide +kernel
theorem dX3_mark_48 : decode cX3_mark 48 = .ok (.iconst 0, 1) := by decide +kernel
theorem dX3_mark_49 : decode cX3_mark 49 = .ok (.putfield 29, 3) := by decide +kernel
theorem dX3_mark_52 : decode cX3_mark 52 = .ok (.aload_n 0, 1) := by decide +kernel
theorem dX3_mark_53 : decode cX3_mark 53 = .ok (.getfield 29, 3) := by decide +kernel
theorem dX3_mark_56 : decode cX3_mark 56 = .ok (.ifCond .ne 35, 3) := by decide +kernel
theorem dX3_mark_59 : decode cX3_mark 59 = .ok (.aload_n 0, 1) := by decide +kernel
theorem dX3_mark_60 : decode cX3_mark 60 = .ok (.getfield 19, 3) := by decide +kernel
theorem dX3_mark_63 : decode cX3_mark 63 = .ok (.bipush 40, 2) := by decide +kernel
theorem dX3_mark_65 : decode cX3_mark 65 = .ok (.aload_n 0, 1) := by decide +kernel
theorem dX3_mark_66 : decode cX3_mark 66 = .ok (.getfield 7, 3) := by decide +kernel
theorem dX3_mark_69 : decode cX3_mark 69 = .ok (.iload_n 1, 1) := by decide +kernel
theorem dX3_mark_70 : decode cX3_mark 70 = .ok (.iaload, 1) := by decide +kernel
theorem dX3_mark_71 : decode cX3_mark 71 = .ok (.imul, 1) := by decide +kernel
theorem dX3_mark_72 : decode cX3_mark 72 = .ok (.iload_n 2, 1) := by decide +kernel
theorem dX3_mark_73 : decode cX3_mark 73 = .ok (.iadd, 1) := by decide +kernel
theorem dX3_mark_74 : decode cX3_mark 74 = .ok (.aload_n 0, 1) := by decide +kernel
theorem dX3_mark_75 : decode cX3_mark 75 = .ok (.iload_n 1, 1) := by decide +kernel
theorem dX3_mark_76 : decode cX3_mark 76 = .ok (.invokevirtual 37, 3) := by decide +kernel
theorem dX3_mark_79 : decode cX3_mark 79 = .ok (.iconst 1, 1) := by decide +kernel
theorem dX3_mark_80 : decode cX3_mark 80 = .ok (.if_icmp .ne 9, 3) := by decide +kernel
theorem dX3_mark_83 : decode cX3_mark 83 = .ok (.lload_n 3, 1) := by decide +kernel
theorem dX3_mark_84 : decode cX3_mark 84 = .ok (.l2i, 1) := by decide +kernel
theorem dX3_mark_85 : decode cX3_mark 85 = .ok (.i2l, 1) := by decide +kernel
theorem dX3_mark_86 : decode cX3_mark 86 = .ok (.goto 4, 3) := by decide +kernel
theorem dX3_mark_89 : decode cX3_mark 89 = .ok (.lload_n 3, 1) := by decide +kernel
theorem dX3_mark_90 : decode cX3_mark 90 = .ok (.lastore, 1) := by decide +kernel
theorem dX3_mark_91 : decode cX3_mark 91 = .ok (.return_, 1) := by decide +kernel
theorem dX3_cardCode_0 : decode cX3_cardCode 0 = .ok (.aload_n 0, 1) := by decide +kernel
theorem dX3_cardCode_1 : decode cX3_cardCode 1 = .ok (.iload_n 1, 1) := by decide +kernel
theorem dX3_cardCode_2 : decode cX3_cardCode 2 = .ok (.invokevirtual 57, 3) := by decide +kernel
theorem dX3_cardCode_5 : decode cX3_cardCode 5 = .ok (.ifCond .ne 7, 3) := by decide +kernel
theorem dX3_cardCode_8 : decode cX3_cardCode 8 = .ok (.iconst 2, 1) := by decide +kernel
theorem dX3_cardCode_9 : decode cX3_cardCode 9 = .ok (.goto 23, 3) := by decide +kernel
theorem dX3_cardCode_12 : decode cX3_cardCode 12 = .ok (.iload_n 2, 1) := by decide +kernel
theorem dX3_cardCode_13 : decode cX3_cardCode 13 = .ok (.iconst 0, 1) := by decide +kernel
theorem dX3_cardCode_14 : decode cX3_cardCode 14 = .ok (.aload_n 0, 1) := by decide +kernel
theorem dX3_cardCode_15 : decode cX3_cardCode 15 = .ok (.iload_n 1, 1) := by decide +kernel
theorem dX3_cardCode_16 : decode cX3_cardCode 16 = .ok (.invokevirtual 54, 3) := by decide +kernel
theorem dX3_cardCode_19 : decode cX3_cardCode 19 = .ok (.iconst 1, 1) := by decide +kernel
theorem dX3_cardCode_20 : decode cX3_cardCode 20 = .ok (.isub, 1) := by decide +kernel
theorem dX3_cardCode_21 : decode cX3_cardCode 21 = .ok (.invokestatic 33, 3) := by decide +kernel
theorem dX3_cardCode_24 : decode cX3_cardCode 24 = .ok (.ifCond .ne 7, 3) := by decide +kernel
theorem dX3_cardCode_27 : decode cX3_cardCode 27 = .ok (.iconst 3, 1) := by decide +kernel
theorem dX3_cardCode_28 : decode cX3_cardCode 28 = .ok (.goto 4, 3) := by decide +kernel
theorem dX3_cardCode_31 : decode cX3_cardCode 31 = .ok (.iconst 0, 1) := by decide +kernel
theorem dX3_cardCode_32 : decode cX3_cardCode 32 = .ok (.ireturn, 1) := by decide +kernel
theorem dX3_paste_0 : decode cX3_paste 0 = .ok (.aload_n 0, 1) := by decide +kernel
theorem dX3_paste_1 : decode cX3_paste 1 = .ok (.iload_n 1, 1) := by decide +kernel
theorem dX3_paste_2 : decode cX3_paste 2 = .ok (.invokestatic 41, 3) := by decide +kernel
theorem dX3_paste_5 : decode cX3_paste 5 = .ok (.ifCond .eq 14, 3) := by decide +kernel
theorem dX3_paste_8 : decode cX3_paste 8 = .ok (.iload_n 3, 1) := by decide +kernel
theorem dX3_paste_9 : decode cX3_paste 9 = .ok (.iconst 0, 1) := by decide +kernel
theorem dX3_paste_10 : decode cX3_paste 10 = .ok (.sipush 999, 3) := by decide +kernel
theorem dX3_paste_13 : decode cX3_paste 13 = .ok (.invokestatic 33, 3) := by decide +kernel
theorem dX3_paste_16 : decode cX3_paste 16 = .ok (.ifCond .ne 7, 3) := by decide +kernel
theorem dX3_paste_19 : decode cX3_paste 19 = .ok (.iconst 1, 1) := by decide +kernel
theorem dX3_paste_20 : decode cX3_paste 20 = .ok (.goto 9, 3) := by decide +kernel
theorem dX3_paste_23 : decode cX3_paste 23 = .ok (.aload_n 0, 1) := by decide +kernel
theorem dX3_paste_24 : decode cX3_paste 24 = .ok (.iload_n 1, 1) := by decide +kernel
theorem dX3_paste_25 : decode cX3_paste 25 = .ok (.iload_n 2, 1) := by decide +kernel
theorem dX3_paste_26 : decode cX3_paste 26 = .ok (.invokevirtual 60, 3) := by decide +kernel
theorem dX3_paste_29 : decode cX3_paste 29 = .ok (.putfield 29, 3) := by decide +kernel
theorem dX3_paste_32 : decode cX3_paste 32 = .ok (.aload_n 0, 1) := by decide +kernel
theorem dX3_paste_33 : decode cX3_paste 33 = .ok (.getfield 29, 3) := by decide +kernel
theorem dX3_paste_36 : decode cX3_paste 36 = .ok (.ifCond .gt 17, 3) := by decide +kernel
theorem dX3_paste_39 : decode cX3_paste 39 = .ok (.aload_n 0, 1) := by decide +kernel
theorem dX3_paste_40 : decode cX3_paste 40 = .ok (.iload_n 1, 1) := by decide +kernel
theorem dX3_paste_41 : decode cX3_paste 41 = .ok (.invokevirtual 37, 3) := by decide +kernel
theorem dX3_paste_44 : decode cX3_paste 44 = .ok (.iconst 4, 1) := by decide +kernel
theorem dX3_paste_45 : decode cX3_paste 45 = .ok (.if_icmp .ne 10, 3) := by decide +kernel
theorem dX3_paste_48 : decode cX3_paste 48 = .ok (.iload 4, 2) := by decide +kernel
theorem dX3_paste_50 : decode cX3_paste 50 = .ok (.ifCond .ne 5, 3) := by decide +kernel
theorem dX3_paste_53 : decode cX3_paste 53 = .ok (.iconst 0, 1) := by decide +kernel
theorem dX3_paste_54 : decode cX3_paste 54 = .ok (.ireturn, 1) := by decide +kernel
theorem dX3_paste_55 : decode cX3_paste 55 = .ok (.aload_n 0, 1) := by decide +kernel
theorem dX3_paste_56 : decode cX3_paste 56 = .ok (.getfield 19, 3) := by decide +kernel
theorem dX3_paste_59 : decode cX3_paste 59 = .ok (.bipush 40, 2) := by decide +kernel
theorem dX3_paste_61 : decode cX3_paste 61 = .ok (.aload_n 0, 1) := by decide +kernel
theorem dX3_paste_62 : decode cX3_paste 62 = .ok (.getfield 7, 3) := by decide +kernel
theorem dX3_paste_65 : decode cX3_paste 65 = .ok (.iload_n 1, 1) := by decide +kernel
theorem dX3_paste_66 : decode cX3_paste 66 = .ok (.iaload, 1) := by decide +kernel
theorem dX3_paste_67 : decode cX3_paste 67 = .ok (.imul, 1) := by decide +kernel
theorem dX3_paste_68 : decode cX3_paste 68 = .ok (.iload_n 2, 1) := by decide +kernel
theorem dX3_paste_69 : decode cX3_paste 69 = .ok (.iadd, 1) := by decide +kernel
theorem dX3_paste_70 : decode cX3_paste 70 = .ok (.iload 4, 2) := by decide +kernel
theorem dX3_paste_72 : decode cX3_paste 72 = .ok (.ifCond .eq 12, 3) := by decide +kernel
theorem dX3_paste_75 : decode cX3_paste 75 = .ok (.iload_n 3, 1) := by decide +kernel
theorem dX3_paste_76 : decode cX3_paste 76 = .ok (.i2l, 1) := by decide +kernel
theorem dX3_paste_77 : decode cX3_paste 77 = .ok (.ldc2_w 64, 3) := by decide +kernel
theorem dX3_paste_80 : decode cX3_paste 80 = .ok (.ladd, 1) := by decide +kernel
theorem dX3_paste_81 : decode cX3_paste 81 = .ok (.goto 5, 3) := by decide +kernel
theorem dX3_paste_84 : decode cX3_paste 84 = .ok (.iload_n 3, 1) := by decide +kernel
theorem dX3_paste_85 : decode cX3_paste 85 = .ok (.i2l, 1) := by decide +kernel
theorem dX3_paste_86 : decode cX3_paste 86 = .ok (.lastore, 1) := by decide +kernel
theorem dX3_paste_87 : decode cX3_paste 87 = .ok (.iconst 1, 1) := by decide +kernel
theorem dX3_paste_88 : decode cX3_paste 88 = .ok (.ireturn, 1) := by decide +kernel
theorem dX3_pull_0 : decode cX3_pull 0 = .ok (.aload_n 0, 1) := by decide +kernel
theorem dX3_pull_1 : decode cX3_pull 1 = .ok (.iload_n 1, 1) := by decide +kernel
theorem dX3_pull_2 : decode cX3_pull 2 = .ok (.invokestatic 41, 3) := by decide +kernel
theorem dX3_pull_5 : decode cX3_pull 5 = .ok (.ifCond .ne 7, 3) := by decide +kernel
theorem dX3_pull_8 : decode cX3_pull 8 = .ok (.iconst 1, 1) := by decide +kernel
theorem dX3_pull_9 : decode cX3_pull 9 = .ok (.goto 9, 3) := by decide +kernel
theorem dX3_pull_12 : decode cX3_pull 12 = .ok (.aload_n 0, 1) := by decide +kernel
theorem dX3_pull_13 : decode cX3_pull 13 = .ok (.iload_n 1, 1) := by decide +kernel
theorem dX3_pull_14 : decode cX3_pull 14 = .ok (.iload_n 2, 1) := by decide +kernel
theorem dX3_pull_15 : decode cX3_pull 15 = .ok (.invokevirtual 60, 3) := by decide +kernel
theorem dX3_pull_18 : decode cX3_pull 18 = .ok (.putfield 29, 3) := by decide +kernel
theorem dX3_pull_21 : decode cX3_pull 21 = .ok (.aload_n 0, 1) := by decide +kernel
theorem dX3_pull_22 : decode cX3_pull 22 = .ok (.getfield 29, 3) := by decide +kernel
theorem dX3_pull_25 : decode cX3_pull 25 = .ok (.ifCond .le 5, 3) := by decide +kernel
theorem dX3_pull_28 : decode cX3_pull 28 = .ok (.iconst 0, 1) := by decide +kernel
theorem dX3_pull_29 : decode cX3_pull 29 = .ok (.ireturn, 1) := by decide +kernel
theorem dX3_pull_30 : decode cX3_pull 30 = .ok (.bipush 40, 2) := by decide +kernel
theorem dX3_pull_32 : decode cX3_pull 32 = .ok (.aload_n 0, 1) := by decide +kernel
theorem dX3_pull_33 : decode cX3_pull 33 = .ok (.getfield 7, 3) := by decide +kernel
theorem dX3_pull_36 : decode cX3_pull 36 = .ok (.iload_n 1, 1) := by decide +kernel
theorem dX3_pull_37 : decode cX3_pull 37 = .ok (.iaload, 1) := by decide +kernel
theorem dX3_pull_38 : decode cX3_pull 38 = .ok (.imul, 1) := by decide +kernel
theorem dX3_pull_39 : decode cX3_pull 39 = .ok (.iload_n 2, 1) := by decide +kernel
theorem dX3_pull_40 : decode cX3_pull 40 = .ok (.iadd, 1) := by decide +kernel
theorem dX3_pull_41 : decode cX3_pull 41 = .ok (.istore_n 3, 1) := by decide +kernel
theorem dX3_pull_42 : decode cX3_pull 42 = .ok (.aload_n 0, 1) := by decide +kernel
theorem dX3_pull_43 : decode cX3_pull 43 = .ok (.getfield 19, 3) := by decide +kernel
theorem dX3_pull_46 : decode cX3_pull 46 = .ok (.iload_n 3, 1) := by decide +kernel
theorem dX3_pull_47 : decode cX3_pull 47 = .ok (.laload, 1) := by decide +kernel
theorem dX3_pull_48 : decode cX3_pull 48 = .ok (.lconst 0, 1) := by decide +kernel
theorem dX3_pull_49 : decode cX3_pull 49 = .ok (.lcmp, 1) := by decide +kernel
theorem dX3_pull_50 : decode cX3_pull 50 = .ok (.ifCond .lt 7, 3) := by decide +kernel
theorem dX3_pull_53 : decode cX3_pull 53 = .ok (.iconst 1, 1) := by decide +kernel
theorem dX3_pull_54 : decode cX3_pull 54 = .ok (.goto 4, 3) := by decide +kernel
theorem dX3_pull_57 : decode cX3_pull 57 = .ok (.iconst 0, 1) := by decide +kernel
theorem dX3_pull_58 : decode cX3_pull 58 = .ok (.istore 4, 2) := by decide +kernel
theorem dX3_pull_60 : decode cX3_pull 60 = .ok (.aload_n 0, 1) := by decide +kernel
theorem dX3_pull_61 : decode cX3_pull 61 = .ok (.getfield 19, 3) := by decide +kernel
theorem dX3_pull_64 : decode cX3_pull 64 = .ok (.iload_n 3, 1) := by decide +kernel
theorem dX3_pull_65 : decode cX3_pull 65 = .ok (.ldc2_w 49, 3) := by decide +kernel
theorem dX3_pull_68 : decode cX3_pull 68 = .ok (.lastore, 1) := by decide +kernel
theorem dX3_pull_69 : decode cX3_pull 69 = .ok (.iload 4, 2) := by decide +kernel
theorem dX3_pull_71 : decode cX3_pull 71 = .ok (.ireturn, 1) := by decide +kernel
theorem dX3_frame_0 : decode cX3_frame 0 = .ok (.aload_n 0, 1) := by decide +kernel
theorem dX3_frame_1 : decode cX3_frame 1 = .ok (.iload_n 1, 1) := by decide +kernel
theorem dX3_frame_2 : decode cX3_frame 2 = .ok (.invokestatic 41, 3) := by decide +kernel
theorem dX3_frame_5 : decode cX3_frame 5 = .ok (.ifCond .ne 7, 3) := by decide +kernel
theorem dX3_frame_8 : decode cX3_frame 8 = .ok (.iconst 1, 1) := by decide +kernel
theorem dX3_frame_9 : decode cX3_frame 9 = .ok (.goto 35, 3) := by decide +kernel
theorem dX3_frame_12 : decode cX3_frame 12 = .ok (.aload_n 0, 1) := by decide +kernel
theorem dX3_frame_13 : decode cX3_frame 13 = .ok (.iload_n 1, 1) := by decide +kernel
theorem dX3_frame_14 : decode cX3_frame 14 = .ok (.invokevirtual 51, 3) := by decide +kernel
theorem dX3_frame_17 : decode cX3_frame 17 = .ok (.ifCond .ne 7, 3) := by decide +kernel
theorem dX3_frame_20 : decode cX3_frame 20 = .ok (.iconst 2, 1) := by decide +kernel
theorem dX3_frame_21 : decode cX3_frame 21 = .ok (.goto 23, 3) := by decide +kernel
theorem dX3_frame_24 : decode cX3_frame 24 = .ok (.iload_n 2, 1) := by decide +kernel
theorem dX3_frame_25 : decode cX3_frame 25 = .ok (.iconst 0, 1) := by decide +kernel
theorem dX3_frame_26 : decode cX3_frame 26 = .ok (.aload_n 0, 1) := by decide +kernel
theorem dX3_frame_27 : decode cX3_frame 27 = .ok (.iload_n 1, 1) := by decide +kernel
theorem dX3_frame_28 : decode cX3_frame 28 = .ok (.invokevirtual 54, 3) := by decide +kernel
theorem dX3_frame_31 : decode cX3_frame 31 = .ok (.iconst 1, 1) := by decide +kernel
theorem dX3_frame_32 : decode cX3_frame 32 = .ok (.isub, 1) := by decide +kernel
theorem dX3_frame_33 : decode cX3_frame 33 = .ok (.invokestatic 33, 3) := by decide +kernel
theorem dX3_frame_36 : decode cX3_frame 36 = .ok (.ifCond .ne 7, 3) := by decide +kernel
theorem dX3_frame_39 : decode cX3_frame 39 = .ok (.iconst 3, 1) := by decide +kernel
theorem dX3_frame_40 : decode cX3_frame 40 = .ok (.goto 4, 3) := by decide +kernel
theorem dX3_frame_43 : decode cX3_frame 43 = .ok (.iconst 0, 1) := by decide +kernel
theorem dX3_frame_44 : decode cX3_frame 44 = .ok (.putfield 29, 3) := by decide +kernel
theorem dX3_frame_47 : decode cX3_frame 47 = .ok (.aload_n 0, 1) := by decide +kernel
theorem dX3_frame_48 : decode cX3_frame 48 = .ok (.getfield 29, 3) := by decide +kernel
theorem dX3_frame_51 : decode cX3_frame 51 = .ok (.ifCond .le 7, 3) := by decide +kernel
theorem dX3_frame_54 : decode cX3_frame 54 = .ok (.lconst 0, 1) := by decide +kernel
theorem dX3_frame_55 : decode cX3_frame 55 = .ok (.goto 19, 3) := by decide +kernel
theorem dX3_frame_58 : decode cX3_frame 58 = .ok (.aload_n 0, 1) := by decide +kernel
theorem dX3_frame_59 : decode cX3_frame 59 = .ok (.getfield 19, 3) := by decide +kernel
theorem dX3_frame_62 : decode cX3_frame 62 = .ok (.bipush 40, 2) := by decide +kernel
theorem dX3_frame_64 : decode cX3_frame 64 = .ok (.aload_n 0, 1) := by decide +kernel
theorem dX3_frame_65 : decode cX3_frame 65 = .ok (.getfield 7, 3) := by decide +kernel
theorem dX3_frame_68 : decode cX3_frame 68 = .ok (.iload_n 1, 1) := by decide +kernel
theorem dX3_frame_69 : decode cX3_frame 69 = .ok (.iaload, 1) := by decide +kernel
theorem dX3_frame_70 : decode cX3_frame 70 = .ok (.imul, 1) := by decide +kernel
theorem dX3_frame_71 : decode cX3_frame 71 = .ok (.iload_n 2, 1) := by decide +kernel
theorem dX3_frame_72 : decode cX3_frame 72 = .ok (.iadd, 1) := by decide +kernel
theorem dX3_frame_73 : decode cX3_frame 73 = .ok (.laload, 1) := by decide +kernel
theorem dX3_frame_74 : decode cX3_frame 74 = .ok (.lreturn, 1) := by decide +kernel
theorem dX3_against_0 : decode cX3_against 0 = .ok (.aload_n 0, 1) := by decide +kernel
theorem dX3_against_1 : decode cX3_against 1 = .ok (.iload_n 1, 1) := by decide +kernel
theorem dX3_against_2 : decode cX3_against 2 = .ok (.invokevirtual 37, 3) := by decide +kernel
theorem dX3_against_5 : decode cX3_against 5 = .ok (.istore 6, 2) := by decide +kernel
theorem dX3_against_7 : decode cX3_against 7 = .ok (.aload_n 0, 1) := by decide +kernel
theorem dX3_against_8 : decode cX3_against 8 = .ok (.iload_n 3, 1) := by decide +kernel
theorem dX3_against_9 : decode cX3_against 9 = .ok (.invokevirtual 37, 3) := by decide +kernel
theorem dX3_against_12 : decode cX3_against 12 = .ok (.istore 7, 2) := by decide +kernel
theorem dX3_against_14 : decode cX3_against 14 = .ok (.iload 6, 2) := by decide +kernel
theorem dX3_against_16 : decode cX3_against 16 = .ok (.ifCond .eq 8, 3) := by decide +kernel
theorem dX3_against_19 : decode cX3_against 19 = .ok (.iload 7, 2) := by decide +kernel
theorem dX3_against_21 : decode cX3_against 21 = .ok (.ifCond .ne 5, 3) := by decide +kernel
theorem dX3_against_24 : decode cX3_against 24 = .ok (.iconst (-1), 1) := by decide +kernel
theorem dX3_against_25 : decode cX3_against 25 = .ok (.ireturn, 1) := by decide +kernel
theorem dX3_against_26 : decode cX3_against 26 = .ok (.iload 6, 2) := by decide +kernel
theorem dX3_against_28 : decode cX3_against 28 = .ok (.iconst 3, 1) := by decide +kernel
theorem dX3_against_29 : decode cX3_against 29 = .ok (.if_icmp .lt 13, 3) := by decide +kernel
theorem dX3_against_32 : decode cX3_against 32 = .ok (.iload 7, 2) := by decide +kernel
theorem dX3_against_34 : decode cX3_against 34 = .ok (.iconst 3, 1) := by decide +kernel
theorem dX3_against_35 : decode cX3_against 35 = .ok (.if_icmp .lt 7, 3) := by decide +kernel
theorem dX3_against_38 : decode cX3_against 38 = .ok (.iconst 1, 1) := by decide +kernel
theorem dX3_against_39 : decode cX3_against 39 = .ok (.goto 4, 3) := by decide +kernel
theorem dX3_against_42 : decode cX3_against 42 = .ok (.iconst 0, 1) := by decide +kernel
theorem dX3_against_43 : decode cX3_against 43 = .ok (.istore 8, 2) := by decide +kernel
theorem dX3_against_45 : decode cX3_against 45 = .ok (.iload 6, 2) := by decide +kernel
theorem dX3_against_47 : decode cX3_against 47 = .ok (.iconst 5, 1) := by decide +kernel
theorem dX3_against_48 : decode cX3_against 48 = .ok (.if_icmp .eq 21, 3) := by decide +kernel
theorem dX3_against_51 : decode cX3_against 51 = .ok (.iload 7, 2) := by decide +kernel
theorem dX3_against_53 : decode cX3_against 53 = .ok (.iconst 5, 1) := by decide +kernel
theorem dX3_against_54 : decode cX3_against 54 = .ok (.if_icmp .eq 15, 3) := by decide +kernel
theorem dX3_against_57 : decode cX3_against 57 = .ok (.iload 8, 2) := by decide +kernel
theorem dX3_against_59 : decode cX3_against 59 = .ok (.ifCond .ne 13, 3) := by decide +kernel
theorem dX3_against_62 : decode cX3_against 62 = .ok (.iload 6, 2) := by decide +kernel
theorem dX3_against_64 : decode cX3_against 64 = .ok (.iload 7, 2) := by decide +kernel
theorem dX3_against_66 : decode cX3_against 66 = .ok (.if_icmp .eq 6, 3) := by decide +kernel
theorem dX3_against_69 : decode cX3_against 69 = .ok (.bipush (-2), 2) := by decide +kernel
theorem dX3_against_71 : decode cX3_against 71 = .ok (.ireturn, 1) := by decide +kernel
theorem dX3_against_72 : decode cX3_against 72 = .ok (.iload_n 2, 1) := by decide +kernel
theorem dX3_against_73 : decode cX3_against 73 = .ok (.ifCond .lt 50, 3) := by decide +kernel
theorem dX3_against_76 : decode cX3_against 76 = .ok (.iload 4, 2) := by decide +kernel
theorem dX3_against_78 : decode cX3_against 78 = .ok (.ifCond .lt 45, 3) := by decide +kernel
theorem dX3_against_81 : decode cX3_against 81 = .ok (.iload 5, 2) := by decide +kernel
theorem dX3_against_83 : decode cX3_against 83 = .ok (.ifCond .lt 40, 3) := by decide +kernel
theorem dX3_against_86 : decode cX3_against 86 = .ok (.iload_n 2, 1) := by decide +kernel
theorem dX3_against_87 : decode cX3_against 87 = .ok (.i2l, 1) := by decide +kernel
theorem dX3_against_88 : decode cX3_against 88 = .ok (.iload 5, 2) := by decide +kernel
theorem dX3_against_90 : decode cX3_against 90 = .ok (.i2l, 1) := by decide +kernel
theorem dX3_against_91 : decode cX3_against 91 = .ok (.ladd, 1) := by decide +kernel
theorem dX3_against_92 : decode cX3_against 92 = .ok (.aload_n 0, 1) := by decide +kernel
theorem dX3_against_93 : decode cX3_against 93 = .ok (.iload_n 1, 1) := by decide +kernel
theorem dX3_against_94 : decode cX3_against 94 = .ok (.invokevirtual 54, 3) := by decide +kernel
theorem dX3_against_97 : decode cX3_against 97 = .ok (.i2l, 1) := by decide +kernel
theorem dX3_against_98 : decode cX3_against 98 = .ok (.lcmp, 1) := by decide +kernel
theorem dX3_against_99 : decode cX3_against 99 = .ok (.ifCond .gt 24, 3) := by decide +kernel
theorem dX3_against_102 : decode cX3_against 102 = .ok (.iload 4, 2) := by decide +kernel
theorem dX3_against_104 : decode cX3_against 104 = .ok (.i2l, 1) := by decide +kernel
theorem dX3_against_105 : decode cX3_against 105 = .ok (.iload 5, 2) := by decide +kernel
theorem dX3_against_107 : decode cX3_against 107 = .ok (.i2l, 1) := by decide +kernel
theorem dX3_against_108 : decode cX3_against 108 = .ok (.ladd, 1) := by decide +kernel
theorem dX3_against_109 : decode cX3_against 109 = .ok (.aload_n 0, 1) := by decide +kernel
theorem dX3_against_110 : decode cX3_against 110 = .ok (.iload_n 3, 1) := by decide +kernel
theorem dX3_against_111 : decode cX3_against 111 = .ok (.invokevirtual 54, 3) := by decide +kernel
theorem dX3_against_114 : decode cX3_against 114 = .ok (.i2l, 1) := by decide +kernel
theorem dX3_against_115 : decode cX3_against 115 = .ok (.lcmp, 1) := by decide +kernel
theorem dX3_against_116 : decode cX3_against 116 = .ok (.ifCond .gt 7, 3) := by decide +kernel
theorem dX3_against_119 : decode cX3_against 119 = .ok (.iconst 1, 1) := by decide +kernel
theorem dX3_against_120 : decode cX3_against 120 = .ok (.goto 4, 3) := by decide +kernel
theorem dX3_against_123 : decode cX3_against 123 = .ok (.iconst 0, 1) := by decide +kernel
theorem dX3_against_124 : decode cX3_against 124 = .ok (.istore 9, 2) := by decide +kernel
theorem dX3_against_126 : decode cX3_against 126 = .ok (.iload 9, 2) := by decide +kernel
theorem dX3_against_128 : decode cX3_against 128 = .ok (.ifCond .eq 7, 3) := by decide +kernel
theorem dX3_against_131 : decode cX3_against 131 = .ok (.iconst 0, 1) := by decide +kernel
theorem dX3_against_132 : decode cX3_against 132 = .ok (.goto 5, 3) := by decide +kernel
theorem dX3_against_135 : decode cX3_against 135 = .ok (.bipush (-3), 2) := by decide +kernel
theorem dX3_against_137 : decode cX3_against 137 = .ok (.ireturn, 1) := by decide +kernel
theorem dX3_cut_0 : decode cX3_cut 0 = .ok (.aload_n 0, 1) := by decide +kernel
theorem dX3_cut_1 : decode cX3_cut 1 = .ok (.iload_n 1, 1) := by decide +kernel
theorem dX3_cut_2 : decode cX3_cut 2 = .ok (.iload_n 2, 1) := by decide +kernel
theorem dX3_cut_3 : decode cX3_cut 3 = .ok (.iload_n 3, 1) := by decide +kernel
theorem dX3_cut_4 : decode cX3_cut 4 = .ok (.iload 4, 2) := by decide +kernel
theorem dX3_cut_6 : decode cX3_cut 6 = .ok (.iload 5, 2) := by decide +kernel
theorem dX3_cut_8 : decode cX3_cut 8 = .ok (.invokevirtual 66, 3) := by decide +kernel
theorem dX3_cut_11 : decode cX3_cut 11 = .ok (.istore 6, 2) := by decide +kernel
theorem dX3_cut_13 : decode cX3_cut 13 = .ok (.aload_n 0, 1) := by decide +kernel
theorem dX3_cut_14 : decode cX3_cut 14 = .ok (.iconst 0, 1) := by decide +kernel
theorem dX3_cut_15 : decode cX3_cut 15 = .ok (.putfield 70, 3) := by decide +kernel
theorem dX3_cut_18 : decode cX3_cut 18 = .ok (.iload 6, 2) := by decide +kernel
theorem dX3_cut_20 : decode cX3_cut 20 = .ok (.ifCond .ne 139, 3) := by decide +kernel
theorem dX3_cut_23 : decode cX3_cut 23 = .ok (.iconst 0, 1) := by decide +kernel
theorem dX3_cut_24 : decode cX3_cut 24 = .ok (.istore 7, 2) := by decide +kernel
theorem dX3_cut_26 : decode cX3_cut 26 = .ok (.iload 7, 2) := by decide +kernel
theorem dX3_cut_28 : decode cX3_cut 28 = .ok (.iload 5, 2) := by decide +kernel
theorem dX3_cut_30 : decode cX3_cut 30 = .ok (.if_icmp .ge 35, 3) := by decide +kernel
theorem dX3_cut_33 : decode cX3_cut 33 = .ok (.aload_n 0, 1) := by decide +kernel
theorem dX3_cut_34 : decode cX3_cut 34 = .ok (.getfield 23, 3) := by decide +kernel
theorem dX3_cut_37 : decode cX3_cut 37 = .ok (.iload 7, 2) := by decide +kernel
theorem dX3_cut_39 : decode cX3_cut 39 = .ok (.aload_n 0, 1) := by decide +kernel
theorem dX3_cut_40 : decode cX3_cut 40 = .ok (.getfield 19, 3) := by decide +kernel
theorem dX3_cut_43 : decode cX3_cut 43 = .ok (.bipush 40, 2) := by decide +kernel
theorem dX3_cut_45 : decode cX3_cut 45 = .ok (.aload_n 0, 1) := by decide +kernel
theorem dX3_cut_46 : decode cX3_cut 46 = .ok (.getfield 7, 3) := by decide +kernel
theorem dX3_cut_49 : decode cX3_cut 49 = .ok (.iload_n 1, 1) := by decide +kernel
theorem dX3_cut_50 : decode cX3_cut 50 = .ok (.iaload, 1) := by decide +kernel
theorem dX3_cut_51 : decode cX3_cut 51 = .ok (.imul, 1) := by decide +kernel
theorem dX3_cut_52 : decode cX3_cut 52 = .ok (.iload_n 2, 1) := by decide +kernel
theorem dX3_cut_53 : decode cX3_cut 53 = .ok (.iadd, 1) := by decide +kernel
theorem dX3_cut_54 : decode cX3_cut 54 = .ok (.iload 7, 2) := by decide +kernel
theorem dX3_cut_56 : decode cX3_cut 56 = .ok (.iadd, 1) := by decide +kernel
theorem dX3_cut_57 : decode cX3_cut 57 = .ok (.laload, 1) := by decide +kernel
theorem dX3_cut_58 : decode cX3_cut 58 = .ok (.lastore, 1) := by decide +kernel
theorem dX3_cut_59 : decode cX3_cut 59 = .ok (.iinc 7 1, 3) := by decide +kernel
theorem dX3_cut_62 : decode cX3_cut 62 = .ok (.goto (-36), 3) := by decide +kernel
theorem dX3_cut_65 : decode cX3_cut 65 = .ok (.aload_n 0, 1) := by decide +kernel
theorem dX3_cut_66 : decode cX3_cut 66 = .ok (.getfield 70, 3) := by decide +kernel
theorem dX3_cut_69 : decode cX3_cut 69 = .ok (.iload 5, 2) := by decide +kernel
theorem dX3_cut_71 : decode cX3_cut 71 = .ok (.if_icmp .ge 88, 3) := by decide +kernel
theorem dX3_cut_74 : decode cX3_cut 74 = .ok (.iload 6, 2) := by decide +kernel
theorem dX3_cut_76 : decode cX3_cut 76 = .ok (.ifCond .ne 83, 3) := by decide +kernel
theorem dX3_cut_79 : decode cX3_cut 79 = .ok (.aload_n 0, 1) := by decide +kernel
theorem dX3_cut_80 : decode cX3_cut 80 = .ok (.iload_n 3, 1) := by decide +kernel
theorem dX3_cut_81 : decode cX3_cut 81 = .ok (.invokevirtual 37, 3) := by decide +kernel
theorem dX3_cut_84 : decode cX3_cut 84 = .ok (.iconst 4, 1) := by decide +kernel
theorem dX3_cut_85 : decode cX3_cut 85 = .ok (.if_icmp .ne 30, 3) := by decide +kernel
theorem dX3_cut_88 : decode cX3_cut 88 = .ok (.aload_n 0, 1) := by decide +kernel
theorem dX3_cut_89 : decode cX3_cut 89 = .ok (.getfield 23, 3) := by decide +kernel
theorem dX3_cut_92 : decode cX3_cut 92 = .ok (.aload_n 0, 1) := by decide +kernel
theorem dX3_cut_93 : decode cX3_cut 93 = .ok (.getfield 70, 3) := by decide +kernel
theorem dX3_cut_96 : decode cX3_cut 96 = .ok (.laload, 1) := by decide +kernel
theorem dX3_cut_97 : decode cX3_cut 97 = .ok (.l2i, 1) := by decide +kernel
theorem dX3_cut_98 : decode cX3_cut 98 = .ok (.iconst 0, 1) := by decide +kernel
theorem dX3_cut_99 : decode cX3_cut 99 = .ok (.sipush 999, 3) := by decide +kernel
theorem dX3_cut_102 : decode cX3_cut 102 = .ok (.invokestatic 33, 3) := by decide +kernel
theorem dX3_cut_105 : decode cX3_cut 105 = .ok (.ifCond .eq 10, 3) := by decide +kernel
theorem dX3_cut_108 : decode cX3_cut 108 = .ok (.bipush (-4), 2) := by decide +kernel
theorem dX3_cut_110 : decode cX3_cut 110 = .ok (.istore 6, 2) := by decide +kernel
theorem dX3_cut_112 : decode cX3_cut 112 = .ok (.goto (-47), 3) := by decide +kernel
theorem dX3_cut_115 : decode cX3_cut 115 = .ok (.aload_n 0, 1) := by decide +kernel
theorem dX3_cut_116 : decode cX3_cut 116 = .ok (.getfield 19, 3) := by decide +kernel
theorem dX3_cut_119 : decode cX3_cut 119 = .ok (.bipush 40, 2) := by decide +kernel
theorem dX3_cut_121 : decode cX3_cut 121 = .ok (.aload_n 0, 1) := by decide +kernel
theorem dX3_cut_122 : decode cX3_cut 122 = .ok (.getfield 7, 3) := by decide +kernel
theorem dX3_cut_125 : decode cX3_cut 125 = .ok (.iload_n 3, 1) := by decide +kernel
theorem dX3_cut_126 : decode cX3_cut 126 = .ok (.iaload, 1) := by decide +kernel
theorem dX3_cut_127 : decode cX3_cut 127 = .ok (.imul, 1) := by decide +kernel
theorem dX3_cut_128 : decode cX3_cut 128 = .ok (.iload 4, 2) := by decide +kernel
theorem dX3_cut_130 : decode cX3_cut 130 = .ok (.iadd, 1) := by decide +kernel
theorem dX3_cut_131 : decode cX3_cut 131 = .ok (.aload_n 0, 1) := by decide +kernel
theorem dX3_cut_132 : decode cX3_cut 132 = .ok (.getfield 70, 3) := by decide +kernel
theorem dX3_cut_135 : decode cX3_cut 135 = .ok (.iadd, 1) := by decide +kernel
theorem dX3_cut_136 : decode cX3_cut 136 = .ok (.aload_n 0, 1) := by decide +kernel
theorem dX3_cut_137 : decode cX3_cut 137 = .ok (.getfield 23, 3) := by decide +kernel
theorem dX3_cut_140 : decode cX3_cut 140 = .ok (.aload_n 0, 1) := by decide +kernel
theorem dX3_cut_141 : decode cX3_cut 141 = .ok (.getfield 70, 3) := by decide +kernel
theorem dX3_cut_144 : decode cX3_cut 144 = .ok (.laload, 1) := by decide +kernel
theorem dX3_cut_145 : decode cX3_cut 145 = .ok (.lastore, 1) := by decide +kernel
theorem dX3_cut_146 : decode cX3_cut 146 = .ok (.aload_n 0, 1) := by decide +kernel
theorem dX3_cut_147 : decode cX3_cut 147 = .ok (.dup, 1) := by decide +kernel
theorem dX3_cut_148 : decode cX3_cut 148 = .ok (.getfield 70, 3) := by decide +kernel
theorem dX3_cut_151 : decode cX3_cut 151 = .ok (.iconst 1, 1) := by decide +kernel
theorem dX3_cut_152 : decode cX3_cut 152 = .ok (.iadd, 1) := by decide +kernel
theorem dX3_cut_153 : decode cX3_cut 153 = .ok (.putfield 70, 3) := by decide +kernel
theorem dX3_cut_156 : decode cX3_cut 156 = .ok (.goto (-91), 3) := by decide +kernel
theorem dX3_cut_159 : decode cX3_cut 159 = .ok (.aload_n 0, 1) := by decide +kernel
theorem dX3_cut_160 : decode cX3_cut 160 = .ok (.dup, 1) := by decide +kernel
theorem dX3_cut_161 : decode cX3_cut 161 = .ok (.getfield 73, 3) := by decide +kernel
theorem dX3_cut_164 : decode cX3_cut 164 = .ok (.aload_n 0, 1) := by decide +kernel
theorem dX3_cut_165 : decode cX3_cut 165 = .ok (.getfield 70, 3) := by decide +kernel
theorem dX3_cut_168 : decode cX3_cut 168 = .ok (.iadd, 1) := by decide +kernel
theorem dX3_cut_169 : decode cX3_cut 169 = .ok (.putfield 73, 3) := by decide +kernel
end
section
theorem dX3_cut_172 : decode cX3_cut 172 = .ok (.aload_n 0, 1) := by decide +kernel
theorem dX3_cut_173 : decode cX3_cut 173 = .ok (.iload 6, 2) := by decide +kernel
theorem dX3_cut_175 : decode cX3_cut 175 = .ok (.ifCond .ge 12, 3) := by decide +kernel
theorem dX3_cut_178 : decode cX3_cut 178 = .ok (.aload_n 0, 1) := by decide +kernel
theorem dX3_cut_179 : decode cX3_cut 179 = .ok (.getfield 76, 3) := by decide +kernel
theorem dX3_cut_182 : decode cX3_cut 182 = .ok (.iconst 1, 1) := by decide +kernel
theorem dX3_cut_183 : decode cX3_cut 183 = .ok (.iadd, 1) := by decide +kernel
theorem dX3_cut_184 : decode cX3_cut 184 = .ok (.goto 7, 3) := by decide +kernel
theorem dX3_cut_187 : decode cX3_cut 187 = .ok (.aload_n 0, 1) := by decide +kernel
theorem dX3_cut_188 : decode cX3_cut 188 = .ok (.getfield 76, 3) := by decide +kernel
theorem dX3_cut_191 : decode cX3_cut 191 = .ok (.putfield 76, 3) := by decide +kernel
theorem dX3_cut_194 : decode cX3_cut 194 = .ok (.aload_n 0, 1) := by decide +kernel
theorem dX3_cut_195 : decode cX3_cut 195 = .ok (.iload 6, 2) := by decide +kernel
theorem dX3_cut_197 : decode cX3_cut 197 = .ok (.ifCond .ge 12, 3) := by decide +kernel
theorem dX3_cut_200 : decode cX3_cut 200 = .ok (.aload_n 0, 1) := by decide +kernel
theorem dX3_cut_201 : decode cX3_cut 201 = .ok (.getfield 79, 3) := by decide +kernel
theorem dX3_cut_204 : decode cX3_cut 204 = .ok (.iconst 1, 1) := by decide +kernel
theorem dX3_cut_205 : decode cX3_cut 205 = .ok (.iadd, 1) := by decide +kernel
theorem dX3_cut_206 : decode cX3_cut 206 = .ok (.goto 4, 3) := by decide +kernel
theorem dX3_cut_209 : decode cX3_cut 209 = .ok (.iconst 0, 1) := by decide +kernel
theorem dX3_cut_210 : decode cX3_cut 210 = .ok (.putfield 79, 3) := by decide +kernel
theorem dX3_cut_213 : decode cX3_cut 213 = .ok (.aload_n 0, 1) := by decide +kernel
theorem dX3_cut_214 : decode cX3_cut 214 = .ok (.iload 6, 2) := by decide +kernel
theorem dX3_cut_216 : decode cX3_cut 216 = .ok (.ifCond .ge 10, 3) := by decide +kernel
theorem dX3_cut_219 : decode cX3_cut 219 = .ok (.aload_n 0, 1) := by decide +kernel
theorem dX3_cut_220 : decode cX3_cut 220 = .ok (.getfield 82, 3) := by decide +kernel
theorem dX3_cut_223 : decode cX3_cut 223 = .ok (.goto 9, 3) := by decide +kernel
theorem dX3_cut_226 : decode cX3_cut 226 = .ok (.aload_n 0, 1) := by decide +kernel
theorem dX3_cut_227 : decode cX3_cut 227 = .ok (.getfield 82, 3) := by decide +kernel
theorem dX3_cut_230 : decode cX3_cut 230 = .ok (.iconst 1, 1) := by decide +kernel
theorem dX3_cut_231 : decode cX3_cut 231 = .ok (.iadd, 1) := by decide +kernel
theorem dX3_cut_232 : decode cX3_cut 232 = .ok (.putfield 82, 3) := by decide +kernel
theorem dX3_cut_235 : decode cX3_cut 235 = .ok (.aload_n 0, 1) := by decide +kernel
theorem dX3_cut_236 : decode cX3_cut 236 = .ok (.iload 6, 2) := by decide +kernel
theorem dX3_cut_238 : decode cX3_cut 238 = .ok (.ifCond .ge 8, 3) := by decide +kernel
theorem dX3_cut_241 : decode cX3_cut 241 = .ok (.iload 6, 2) := by decide +kernel
theorem dX3_cut_243 : decode cX3_cut 243 = .ok (.goto 5, 3) := by decide +kernel
theorem dX3_cut_246 : decode cX3_cut 246 = .ok (.iload 5, 2) := by decide +kernel
theorem dX3_cut_248 : decode cX3_cut 248 = .ok (.putfield 85, 3) := by decide +kernel
theorem dX3_cut_251 : decode cX3_cut 251 = .ok (.aload_n 0, 1) := by decide +kernel
theorem dX3_cut_252 : decode cX3_cut 252 = .ok (.getfield 85, 3) := by decide +kernel
theorem dX3_cut_255 : decode cX3_cut 255 = .ok (.ireturn, 1) := by decide +kernel
theorem dX3_isBlunt_0 : decode cX3_isBlunt 0 = .ok (.aload_n 0, 1) := by decide +kernel
theorem dX3_isBlunt_1 : decode cX3_isBlunt 1 = .ok (.getfield 79, 3) := by decide +kernel
theorem dX3_isBlunt_4 : decode cX3_isBlunt 4 = .ok (.iconst 3, 1) := by decide +kernel
theorem dX3_isBlunt_5 : decode cX3_isBlunt 5 = .ok (.if_icmp .ne 7, 3) := by decide +kernel
theorem dX3_isBlunt_8 : decode cX3_isBlunt 8 = .ok (.iconst 1, 1) := by decide +kernel
theorem dX3_isBlunt_9 : decode cX3_isBlunt 9 = .ok (.goto 4, 3) := by decide +kernel
theorem dX3_isBlunt_12 : decode cX3_isBlunt 12 = .ok (.iconst 0, 1) := by decide +kernel
theorem dX3_isBlunt_13 : decode cX3_isBlunt 13 = .ok (.ireturn, 1) := by decide +kernel
theorem dX3_splice_0 : decode cX3_splice 0 = .ok (.aload_n 0, 1) := by decide +kernel
theorem dX3_splice_1 : decode cX3_splice 1 = .ok (.iload_n 1, 1) := by decide +kernel
theorem dX3_splice_2 : decode cX3_splice 2 = .ok (.invokestatic 41, 3) := by decide +kernel
theorem dX3_splice_5 : decode cX3_splice 5 = .ok (.ifCond .eq 10, 3) := by decide +kernel
theorem dX3_splice_8 : decode cX3_splice 8 = .ok (.iload_n 3, 1) := by decide +kernel
theorem dX3_splice_9 : decode cX3_splice 9 = .ok (.invokestatic 41, 3) := by decide +kernel
theorem dX3_splice_12 : decode cX3_splice 12 = .ok (.ifCond .ne 7, 3) := by decide +kernel
theorem dX3_splice_15 : decode cX3_splice 15 = .ok (.iconst 1, 1) := by decide +kernel
theorem dX3_splice_16 : decode cX3_splice 16 = .ok (.goto 15, 3) := by decide +kernel
theorem dX3_splice_19 : decode cX3_splice 19 = .ok (.aload_n 0, 1) := by decide +kernel
theorem dX3_splice_20 : decode cX3_splice 20 = .ok (.invokevirtual 88, 3) := by decide +kernel
theorem dX3_splice_23 : decode cX3_splice 23 = .ok (.ifCond .eq 7, 3) := by decide +kernel
theorem dX3_splice_26 : decode cX3_splice 26 = .ok (.iconst 2, 1) := by decide +kernel
theorem dX3_splice_27 : decode cX3_splice 27 = .ok (.goto 4, 3) := by decide +kernel
theorem dX3_splice_30 : decode cX3_splice 30 = .ok (.iconst 0, 1) := by decide +kernel
theorem dX3_splice_31 : decode cX3_splice 31 = .ok (.putfield 29, 3) := by decide +kernel
theorem dX3_splice_34 : decode cX3_splice 34 = .ok (.aload_n 0, 1) := by decide +kernel
theorem dX3_splice_35 : decode cX3_splice 35 = .ok (.getfield 29, 3) := by decide +kernel
theorem dX3_splice_38 : decode cX3_splice 38 = .ok (.ifCond .le 7, 3) := by decide +kernel
theorem dX3_splice_41 : decode cX3_splice 41 = .ok (.iconst 0, 1) := by decide +kernel
theorem dX3_splice_42 : decode cX3_splice 42 = .ok (.goto 14, 3) := by decide +kernel
theorem dX3_splice_45 : decode cX3_splice 45 = .ok (.aload_n 0, 1) := by decide +kernel
theorem dX3_splice_46 : decode cX3_splice 46 = .ok (.iload_n 1, 1) := by decide +kernel
theorem dX3_splice_47 : decode cX3_splice 47 = .ok (.iload_n 2, 1) := by decide +kernel
theorem dX3_splice_48 : decode cX3_splice 48 = .ok (.iload_n 3, 1) := by decide +kernel
theorem dX3_splice_49 : decode cX3_splice 49 = .ok (.iload 4, 2) := by decide +kernel
theorem dX3_splice_51 : decode cX3_splice 51 = .ok (.iload 5, 2) := by decide +kernel
theorem dX3_splice_53 : decode cX3_splice 53 = .ok (.invokevirtual 92, 3) := by decide +kernel
theorem dX3_splice_56 : decode cX3_splice 56 = .ok (.ireturn, 1) := by decide +kernel
theorem dX3_step_0 : decode cX3_step 0 = .ok (.aload_n 0, 1) := by decide +kernel
theorem dX3_step_1 : decode cX3_step 1 = .ok (.iload_n 1, 1) := by decide +kernel
theorem dX3_step_2 : decode cX3_step 2 = .ok (.invokestatic 41, 3) := by decide +kernel
theorem dX3_step_5 : decode cX3_step 5 = .ok (.ifCond .eq 10, 3) := by decide +kernel
theorem dX3_step_8 : decode cX3_step 8 = .ok (.iload_n 3, 1) := by decide +kernel
theorem dX3_step_9 : decode cX3_step 9 = .ok (.invokestatic 41, 3) := by decide +kernel
theorem dX3_step_12 : decode cX3_step 12 = .ok (.ifCond .ne 7, 3) := by decide +kernel
theorem dX3_step_15 : decode cX3_step 15 = .ok (.iconst 1, 1) := by decide +kernel
theorem dX3_step_16 : decode cX3_step 16 = .ok (.goto 17, 3) := by decide +kernel
theorem dX3_step_19 : decode cX3_step 19 = .ok (.aload_n 0, 1) := by decide +kernel
theorem dX3_step_20 : decode cX3_step 20 = .ok (.getfield 95, 3) := by decide +kernel
theorem dX3_step_23 : decode cX3_step 23 = .ok (.bipush 24, 2) := by decide +kernel
theorem dX3_step_25 : decode cX3_step 25 = .ok (.if_icmp .ne 7, 3) := by decide +kernel
theorem dX3_step_28 : decode cX3_step 28 = .ok (.iconst 2, 1) := by decide +kernel
theorem dX3_step_29 : decode cX3_step 29 = .ok (.goto 4, 3) := by decide +kernel
theorem dX3_step_32 : decode cX3_step 32 = .ok (.iconst 0, 1) := by decide +kernel
theorem dX3_step_33 : decode cX3_step 33 = .ok (.putfield 29, 3) := by decide +kernel
theorem dX3_step_36 : decode cX3_step 36 = .ok (.aload_n 0, 1) := by decide +kernel
theorem dX3_step_37 : decode cX3_step 37 = .ok (.getfield 29, 3) := by decide +kernel
theorem dX3_step_40 : decode cX3_step 40 = .ok (.ifCond .le 5, 3) := by decide +kernel
theorem dX3_step_43 : decode cX3_step 43 = .ok (.iconst 0, 1) := by decide +kernel
theorem dX3_step_44 : decode cX3_step 44 = .ok (.ireturn, 1) := by decide +kernel
theorem dX3_step_45 : decode cX3_step 45 = .ok (.iconst 5, 1) := by decide +kernel
theorem dX3_step_46 : decode cX3_step 46 = .ok (.aload_n 0, 1) := by decide +kernel
theorem dX3_step_47 : decode cX3_step 47 = .ok (.getfield 95, 3) := by decide +kernel
theorem dX3_step_50 : decode cX3_step 50 = .ok (.imul, 1) := by decide +kernel
theorem dX3_step_51 : decode cX3_step 51 = .ok (.istore 6, 2) := by decide +kernel
theorem dX3_step_53 : decode cX3_step 53 = .ok (.aload_n 0, 1) := by decide +kernel
theorem dX3_step_54 : decode cX3_step 54 = .ok (.getfield 26, 3) := by decide +kernel
theorem dX3_step_57 : decode cX3_step 57 = .ok (.iload 6, 2) := by decide +kernel
theorem dX3_step_59 : decode cX3_step 59 = .ok (.iload_n 1, 1) := by decide +kernel
theorem dX3_step_60 : decode cX3_step 60 = .ok (.iastore, 1) := by decide +kernel
theorem dX3_step_61 : decode cX3_step 61 = .ok (.aload_n 0, 1) := by decide +kernel
theorem dX3_step_62 : decode cX3_step 62 = .ok (.getfield 26, 3) := by decide +kernel
theorem dX3_step_65 : decode cX3_step 65 = .ok (.iload 6, 2) := by decide +kernel
theorem dX3_step_67 : decode cX3_step 67 = .ok (.iconst 1, 1) := by decide +kernel
theorem dX3_step_68 : decode cX3_step 68 = .ok (.iadd, 1) := by decide +kernel
theorem dX3_step_69 : decode cX3_step 69 = .ok (.iload_n 2, 1) := by decide +kernel
theorem dX3_step_70 : decode cX3_step 70 = .ok (.iastore, 1) := by decide +kernel
theorem dX3_step_71 : decode cX3_step 71 = .ok (.aload_n 0, 1) := by decide +kernel
theorem dX3_step_72 : decode cX3_step 72 = .ok (.getfield 26, 3) := by decide +kernel
theorem dX3_step_75 : decode cX3_step 75 = .ok (.iload 6, 2) := by decide +kernel
theorem dX3_step_77 : decode cX3_step 77 = .ok (.iconst 2, 1) := by decide +kernel
theorem dX3_step_78 : decode cX3_step 78 = .ok (.iadd, 1) := by decide +kernel
theorem dX3_step_79 : decode cX3_step 79 = .ok (.iload_n 3, 1) := by decide +kernel
theorem dX3_step_80 : decode cX3_step 80 = .ok (.iastore, 1) := by decide +kernel
theorem dX3_step_81 : decode cX3_step 81 = .ok (.aload_n 0, 1) := by decide +kernel
theorem dX3_step_82 : decode cX3_step 82 = .ok (.getfield 26, 3) := by decide +kernel
theorem dX3_step_85 : decode cX3_step 85 = .ok (.iload 6, 2) := by decide +kernel
theorem dX3_step_87 : decode cX3_step 87 = .ok (.iconst 3, 1) := by decide +kernel
theorem dX3_step_88 : decode cX3_step 88 = .ok (.iadd, 1) := by decide +kernel
theorem dX3_step_89 : decode cX3_step 89 = .ok (.iload 4, 2) := by decide +kernel
theorem dX3_step_91 : decode cX3_step 91 = .ok (.iastore, 1) := by decide +kernel
theorem dX3_step_92 : decode cX3_step 92 = .ok (.aload_n 0, 1) := by decide +kernel
theorem dX3_step_93 : decode cX3_step 93 = .ok (.getfield 26, 3) := by decide +kernel
theorem dX3_step_96 : decode cX3_step 96 = .ok (.iload 6, 2) := by decide +kernel
theorem dX3_step_98 : decode cX3_step 98 = .ok (.iconst 4, 1) := by decide +kernel
theorem dX3_step_99 : decode cX3_step 99 = .ok (.iadd, 1) := by decide +kernel
theorem dX3_step_100 : decode cX3_step 100 = .ok (.iload 5, 2) := by decide +kernel
theorem dX3_step_102 : decode cX3_step 102 = .ok (.iastore, 1) := by decide +kernel
theorem dX3_step_103 : decode cX3_step 103 = .ok (.aload_n 0, 1) := by decide +kernel
theorem dX3_step_104 : decode cX3_step 104 = .ok (.dup, 1) := by decide +kernel
theorem dX3_step_105 : decode cX3_step 105 = .ok (.getfield 95, 3) := by decide +kernel
theorem dX3_step_108 : decode cX3_step 108 = .ok (.iconst 1, 1) := by decide +kernel
theorem dX3_step_109 : decode cX3_step 109 = .ok (.iadd, 1) := by decide +kernel
theorem dX3_step_110 : decode cX3_step 110 = .ok (.putfield 95, 3) := by decide +kernel
theorem dX3_step_113 : decode cX3_step 113 = .ok (.aload_n 0, 1) := by decide +kernel
theorem dX3_step_114 : decode cX3_step 114 = .ok (.getfield 95, 3) := by decide +kernel
theorem dX3_step_117 : decode cX3_step 117 = .ok (.ireturn, 1) := by decide +kernel
theorem dX3_play_0 : decode cX3_play 0 = .ok (.aload_n 0, 1) := by decide +kernel
theorem dX3_play_1 : decode cX3_play 1 = .ok (.aload_n 0, 1) := by decide +kernel
theorem dX3_play_2 : decode cX3_play 2 = .ok (.invokevirtual 88, 3) := by decide +kernel
theorem dX3_play_5 : decode cX3_play 5 = .ok (.ifCond .eq 7, 3) := by decide +kernel
theorem dX3_play_8 : decode cX3_play 8 = .ok (.iconst 1, 1) := by decide +kernel
theorem dX3_play_9 : decode cX3_play 9 = .ok (.goto 4, 3) := by decide +kernel
theorem dX3_play_12 : decode cX3_play 12 = .ok (.iconst 0, 1) := by decide +kernel
theorem dX3_play_13 : decode cX3_play 13 = .ok (.putfield 29, 3) := by decide +kernel
theorem dX3_play_16 : decode cX3_play 16 = .ok (.iconst 0, 1) := by decide +kernel
theorem dX3_play_17 : decode cX3_play 17 = .ok (.istore_n 2, 1) := by decide +kernel
theorem dX3_play_18 : decode cX3_play 18 = .ok (.aload_n 0, 1) := by decide +kernel
theorem dX3_play_19 : decode cX3_play 19 = .ok (.getfield 29, 3) := by decide +kernel
theorem dX3_play_22 : decode cX3_play 22 = .ok (.ifCond .ne 7, 3) := by decide +kernel
theorem dX3_play_25 : decode cX3_play 25 = .ok (.iconst 1, 1) := by decide +kernel
theorem dX3_play_26 : decode cX3_play 26 = .ok (.goto 4, 3) := by decide +kernel
theorem dX3_play_29 : decode cX3_play 29 = .ok (.iconst 0, 1) := by decide +kernel
theorem dX3_play_30 : decode cX3_play 30 = .ok (.istore_n 3, 1) := by decide +kernel
theorem dX3_play_31 : decode cX3_play 31 = .ok (.iconst 0, 1) := by decide +kernel
theorem dX3_play_32 : decode cX3_play 32 = .ok (.istore 4, 2) := by decide +kernel
theorem dX3_play_34 : decode cX3_play 34 = .ok (.iload 4, 2) := by decide +kernel
theorem dX3_play_36 : decode cX3_play 36 = .ok (.aload_n 0, 1) := by decide +kernel
theorem dX3_play_37 : decode cX3_play 37 = .ok (.getfield 95, 3) := by decide +kernel
theorem dX3_play_40 : decode cX3_play 40 = .ok (.if_icmp .ge 161, 3) := by decide +kernel
theorem dX3_play_43 : decode cX3_play 43 = .ok (.iload_n 3, 1) := by decide +kernel
theorem dX3_play_44 : decode cX3_play 44 = .ok (.ifCond .eq 157, 3) := by decide +kernel
theorem dX3_play_47 : decode cX3_play 47 = .ok (.iconst 5, 1) := by decide +kernel
theorem dX3_play_48 : decode cX3_play 48 = .ok (.iload_n 1, 1) := by decide +kernel
theorem dX3_play_49 : decode cX3_play 49 = .ok (.ifCond .eq 15, 3) := by decide +kernel
theorem dX3_play_52 : decode cX3_play 52 = .ok (.aload_n 0, 1) := by decide +kernel
theorem dX3_play_53 : decode cX3_play 53 = .ok (.getfield 95, 3) := by decide +kernel
theorem dX3_play_56 : decode cX3_play 56 = .ok (.iconst 1, 1) := by decide +kernel
theorem dX3_play_57 : decode cX3_play 57 = .ok (.isub, 1) := by decide +kernel
theorem dX3_play_58 : decode cX3_play 58 = .ok (.iload 4, 2) := by decide +kernel
theorem dX3_play_60 : decode cX3_play 60 = .ok (.isub, 1) := by decide +kernel
theorem dX3_play_61 : decode cX3_play 61 = .ok (.goto 5, 3) := by decide +kernel
theorem dX3_play_64 : decode cX3_play 64 = .ok (.iload 4, 2) := by decide +kernel
theorem dX3_play_66 : decode cX3_play 66 = .ok (.imul, 1) := by decide +kernel
theorem dX3_play_67 : decode cX3_play 67 = .ok (.istore 5, 2) := by decide +kernel
theorem dX3_play_69 : decode cX3_play 69 = .ok (.iload_n 1, 1) := by decide +kernel
theorem dX3_play_70 : decode cX3_play 70 = .ok (.ifCond .eq 53, 3) := by decide +kernel
theorem dX3_play_73 : decode cX3_play 73 = .ok (.aload_n 0, 1) := by decide +kernel
theorem dX3_play_74 : decode cX3_play 74 = .ok (.aload_n 0, 1) := by decide +kernel
theorem dX3_play_75 : decode cX3_play 75 = .ok (.getfield 26, 3) := by decide +kernel
theorem dX3_play_78 : decode cX3_play 78 = .ok (.iload 5, 2) := by decide +kernel
theorem dX3_play_80 : decode cX3_play 80 = .ok (.iconst 2, 1) := by decide +kernel
theorem dX3_play_81 : decode cX3_play 81 = .ok (.iadd, 1) := by decide +kernel
theorem dX3_play_82 : decode cX3_play 82 = .ok (.iaload, 1) := by decide +kernel
theorem dX3_play_83 : decode cX3_play 83 = .ok (.aload_n 0, 1) := by decide +kernel
theorem dX3_play_84 : decode cX3_play 84 = .ok (.getfield 26, 3) := by decide +kernel
theorem dX3_play_87 : decode cX3_play 87 = .ok (.iload 5, 2) := by decide +kernel
theorem dX3_play_89 : decode cX3_play 89 = .ok (.iconst 3, 1) := by decide +kernel
theorem dX3_play_90 : decode cX3_play 90 = .ok (.iadd, 1) := by decide +kernel
theorem dX3_play_91 : decode cX3_play 91 = .ok (.iaload, 1) := by decide +kernel
theorem dX3_play_92 : decode cX3_play 92 = .ok (.aload_n 0, 1) := by decide +kernel
theorem dX3_play_93 : decode cX3_play 93 = .ok (.getfield 26, 3) := by decide +kernel
theorem dX3_play_96 : decode cX3_play 96 = .ok (.iload 5, 2) := by decide +kernel
theorem dX3_play_98 : decode cX3_play 98 = .ok (.iaload, 1) := by decide +kernel
theorem dX3_play_99 : decode cX3_play 99 = .ok (.aload_n 0, 1) := by decide +kernel
theorem dX3_play_100 : decode cX3_play 100 = .ok (.getfield 26, 3) := by decide +kernel
theorem dX3_play_103 : decode cX3_play 103 = .ok (.iload 5, 2) := by decide +kernel
theorem dX3_play_105 : decode cX3_play 105 = .ok (.iconst 1, 1) := by decide +kernel
theorem dX3_play_106 : decode cX3_play 106 = .ok (.iadd, 1) := by decide +kernel
theorem dX3_play_107 : decode cX3_play 107 = .ok (.iaload, 1) := by decide +kernel
theorem dX3_play_108 : decode cX3_play 108 = .ok (.aload_n 0, 1) := by decide +kernel
theorem dX3_play_109 : decode cX3_play 109 = .ok (.getfield 26, 3) := by decide +kernel
theorem dX3_play_112 : decode cX3_play 112 = .ok (.iload 5, 2) := by decide +kernel
theorem dX3_play_114 : decode cX3_play 114 = .ok (.iconst 4, 1) := by decide +kernel
theorem dX3_play_115 : decode cX3_play 115 = .ok (.iadd, 1) := by decide +kernel
theorem dX3_play_116 : decode cX3_play 116 = .ok (.iaload, 1) := by decide +kernel
theorem dX3_play_117 : decode cX3_play 117 = .ok (.invokevirtual 92, 3) := by decide +kernel
theorem dX3_play_120 : decode cX3_play 120 = .ok (.goto 50, 3) := by decide +kernel
theorem dX3_play_123 : decode cX3_play 123 = .ok (.aload_n 0, 1) := by decide +kernel
theorem dX3_play_124 : decode cX3_play 124 = .ok (.aload_n 0, 1) := by decide +kernel
theorem dX3_play_125 : decode cX3_play 125 = .ok (.getfield 26, 3) := by decide +kernel
theorem dX3_play_128 : decode cX3_play 128 = .ok (.iload 5, 2) := by decide +kernel
theorem dX3_play_130 : decode cX3_play 130 = .ok (.iaload, 1) := by decide +kernel
theorem dX3_play_131 : decode cX3_play 131 = .ok (.aload_n 0, 1) := by decide +kernel
theorem dX3_play_132 : decode cX3_play 132 = .ok (.getfield 26, 3) := by decide +kernel
theorem dX3_play_135 : decode cX3_play 135 = .ok (.iload 5, 2) := by decide +kernel
theorem dX3_play_137 : decode cX3_play 137 = .ok (.iconst 1, 1) := by decide +kernel
theorem dX3_play_138 : decode cX3_play 138 = .ok (.iadd, 1) := by decide +kernel
theorem dX3_play_139 : decode cX3_play 139 = .ok (.iaload, 1) := by decide +kernel
theorem dX3_play_140 : decode cX3_play 140 = .ok (.aload_n 0, 1) := by decide +kernel
theorem dX3_play_141 : decode cX3_play 141 = .ok (.getfield 26, 3) := by decide +kernel
theorem dX3_play_144 : decode cX3_play 144 = .ok (.iload 5, 2) := by decide +kernel
theorem dX3_play_146 : decode cX3_play 146 = .ok (.iconst 2, 1) := by decide +kernel
theorem dX3_play_147 : decode cX3_play 147 = .ok (.iadd, 1) := by decide +kernel
theorem dX3_play_148 : decode cX3_play 148 = .ok (.iaload, 1) := by decide +kernel
theorem dX3_play_149 : decode cX3_play 149 = .ok (.aload_n 0, 1) := by decide +kernel
theorem dX3_play_150 : decode cX3_play 150 = .ok (.getfield 26, 3) := by decide +kernel
theorem dX3_play_153 : decode cX3_play 153 = .ok (.iload 5, 2) := by decide +kernel
theorem dX3_play_155 : decode cX3_play 155 = .ok (.iconst 3, 1) := by decide +kernel
theorem dX3_play_156 : decode cX3_play 156 = .ok (.iadd, 1) := by decide +kernel
theorem dX3_play_157 : decode cX3_play 157 = .ok (.iaload, 1) := by decide +kernel
theorem dX3_play_158 : decode cX3_play 158 = .ok (.aload_n 0, 1) := by decide +kernel
theorem dX3_play_159 : decode cX3_play 159 = .ok (.getfield 26, 3) := by decide +kernel
theorem dX3_play_162 : decode cX3_play 162 = .ok (.iload 5, 2) := by decide +kernel
theorem dX3_play_164 : decode cX3_play 164 = .ok (.iconst 4, 1) := by decide +kernel
theorem dX3_play_165 : decode cX3_play 165 = .ok (.iadd, 1) := by decide +kernel
theorem dX3_play_166 : decode cX3_play 166 = .ok (.iaload, 1) := by decide +kernel
theorem dX3_play_167 : decode cX3_play 167 = .ok (.invokevirtual 92, 3) := by decide +kernel
theorem dX3_play_170 : decode cX3_play 170 = .ok (.istore 6, 2) := by decide +kernel
theorem dX3_play_172 : decode cX3_play 172 = .ok (.iload 6, 2) := by decide +kernel
theorem dX3_play_174 : decode cX3_play 174 = .ok (.ifCond .lt 7, 3) := by decide +kernel
theorem dX3_play_177 : decode cX3_play 177 = .ok (.iconst 1, 1) := by decide +kernel
theorem dX3_play_178 : decode cX3_play 178 = .ok (.goto 4, 3) := by decide +kernel
theorem dX3_play_181 : decode cX3_play 181 = .ok (.iconst 0, 1) := by decide +kernel
theorem dX3_play_182 : decode cX3_play 182 = .ok (.istore_n 3, 1) := by decide +kernel
theorem dX3_play_183 : decode cX3_play 183 = .ok (.iload_n 3, 1) := by decide +kernel
theorem dX3_play_184 : decode cX3_play 184 = .ok (.ifCond .eq 9, 3) := by decide +kernel
theorem dX3_play_187 : decode cX3_play 187 = .ok (.iload_n 2, 1) := by decide +kernel
theorem dX3_play_188 : decode cX3_play 188 = .ok (.iconst 1, 1) := by decide +kernel
theorem dX3_play_189 : decode cX3_play 189 = .ok (.iadd, 1) := by decide +kernel
theorem dX3_play_190 : decode cX3_play 190 = .ok (.goto 4, 3) := by decide +kernel
theorem dX3_play_193 : decode cX3_play 193 = .ok (.iload_n 2, 1) := by decide +kernel
theorem dX3_play_194 : decode cX3_play 194 = .ok (.istore_n 2, 1) := by decide +kernel
theorem dX3_play_195 : decode cX3_play 195 = .ok (.iinc 4 1, 3) := by decide +kernel
theorem dX3_play_198 : decode cX3_play 198 = .ok (.goto (-164), 3) := by decide +kernel
theorem dX3_play_201 : decode cX3_play 201 = .ok (.iload_n 2, 1) := by decide +kernel
theorem dX3_play_202 : decode cX3_play 202 = .ok (.ireturn, 1) := by decide +kernel
theorem dX3_sweep_0 : decode cX3_sweep 0 = .ok (.aload_n 0, 1) := by decide +kernel
theorem dX3_sweep_1 : decode cX3_sweep 1 = .ok (.iconst 0, 1) := by decide +kernel
theorem dX3_sweep_2 : decode cX3_sweep 2 = .ok (.putfield 29, 3) := by decide +kernel
theorem dX3_sweep_5 : decode cX3_sweep 5 = .ok (.aload_n 0, 1) := by decide +kernel
theorem dX3_sweep_6 : decode cX3_sweep 6 = .ok (.getfield 95, 3) := by decide +kernel
theorem dX3_sweep_9 : decode cX3_sweep 9 = .ok (.istore_n 1, 1) := by decide +kernel
theorem dX3_sweep_10 : decode cX3_sweep 10 = .ok (.aload_n 0, 1) := by decide +kernel
theorem dX3_sweep_11 : decode cX3_sweep 11 = .ok (.iconst 0, 1) := by decide +kernel
theorem dX3_sweep_12 : decode cX3_sweep 12 = .ok (.putfield 95, 3) := by decide +kernel
theorem dX3_sweep_15 : decode cX3_sweep 15 = .ok (.iload_n 1, 1) := by decide +kernel
theorem dX3_sweep_16 : decode cX3_sweep 16 = .ok (.ireturn, 1) := by decide +kernel
theorem dX3_grind_0 : decode cX3_grind 0 = .ok (.aload_n 0, 1) := by decide +kernel
theorem dX3_grind_1 : decode cX3_grind 1 = .ok (.aload_n 0, 1) := by decide +kernel
theorem dX3_grind_2 : decode cX3_grind 2 = .ok (.invokevirtual 88, 3) := by decide +kernel
theorem dX3_grind_5 : decode cX3_grind 5 = .ok (.ifCond .eq 7, 3) := by decide +kernel
theorem dX3_grind_8 : decode cX3_grind 8 = .ok (.iconst 0, 1) := by decide +kernel
theorem dX3_grind_9 : decode cX3_grind 9 = .ok (.goto 4, 3) := by decide +kernel
theorem dX3_grind_12 : decode cX3_grind 12 = .ok (.iconst 1, 1) := by decide +kernel
theorem dX3_grind_13 : decode cX3_grind 13 = .ok (.putfield 29, 3) := by decide +kernel
theorem dX3_grind_16 : decode cX3_grind 16 = .ok (.aload_n 0, 1) := by decide +kernel
theorem dX3_grind_17 : decode cX3_grind 17 = .ok (.getfield 29, 3) := by decide +kernel
theorem dX3_grind_20 : decode cX3_grind 20 = .ok (.ifCond .le 5, 3) := by decide +kernel
theorem dX3_grind_23 : decode cX3_grind 23 = .ok (.iconst 0, 1) := by decide +kernel
theorem dX3_grind_24 : decode cX3_grind 24 = .ok (.ireturn, 1) := by decide +kernel
theorem dX3_grind_25 : decode cX3_grind 25 = .ok (.aload_n 0, 1) := by decide +kernel
theorem dX3_grind_26 : decode cX3_grind 26 = .ok (.iconst 0, 1) := by decide +kernel
theorem dX3_grind_27 : decode cX3_grind 27 = .ok (.putfield 79, 3) := by decide +kernel
theorem dX3_grind_30 : decode cX3_grind 30 = .ok (.aload_n 0, 1) := by decide +kernel
theorem dX3_grind_31 : decode cX3_grind 31 = .ok (.dup, 1) := by decide +kernel
theorem dX3_grind_32 : decode cX3_grind 32 = .ok (.getfield 98, 3) := by decide +kernel
theorem dX3_grind_35 : decode cX3_grind 35 = .ok (.iconst 1, 1) := by decide +kernel
theorem dX3_grind_36 : decode cX3_grind 36 = .ok (.iadd, 1) := by decide +kernel
theorem dX3_grind_37 : decode cX3_grind 37 = .ok (.putfield 98, 3) := by decide +kernel
theorem dX3_grind_40 : decode cX3_grind 40 = .ok (.aload_n 0, 1) := by decide +kernel
theorem dX3_grind_41 : decode cX3_grind 41 = .ok (.getfield 98, 3) := by decide +kernel
theorem dX3_grind_44 : decode cX3_grind 44 = .ok (.ireturn, 1) := by decide +kernel
theorem dX3_look_0 : decode cX3_look 0 = .ok (.aload_n 0, 1) := by decide +kernel
theorem dX3_look_1 : decode cX3_look 1 = .ok (.iload_n 1, 1) := by decide +kernel
theorem dX3_look_2 : decode cX3_look 2 = .ok (.invokestatic 41, 3) := by decide +kernel
theorem dX3_look_5 : decode cX3_look 5 = .ok (.ifCond .eq 16, 3) := by decide +kernel
theorem dX3_look_8 : decode cX3_look 8 = .ok (.iload_n 2, 1) := by decide +kernel
theorem dX3_look_9 : decode cX3_look 9 = .ok (.iconst 0, 1) := by decide +kernel
theorem dX3_look_10 : decode cX3_look 10 = .ok (.iconst 2, 1) := by decide +kernel
theorem dX3_look_11 : decode cX3_look 11 = .ok (.invokestatic 33, 3) := by decide +kernel
theorem dX3_look_14 : decode cX3_look 14 = .ok (.ifCond .eq 7, 3) := by decide +kernel
theorem dX3_look_17 : decode cX3_look 17 = .ok (.iconst 0, 1) := by decide +kernel
theorem dX3_look_18 : decode cX3_look 18 = .ok (.goto 4, 3) := by decide +kernel
theorem dX3_look_21 : decode cX3_look 21 = .ok (.iconst 1, 1) := by decide +kernel
theorem dX3_look_22 : decode cX3_look 22 = .ok (.putfield 29, 3) := by decide +kernel
theorem dX3_look_25 : decode cX3_look 25 = .ok (.aload_n 0, 1) := by decide +kernel
theorem dX3_look_26 : decode cX3_look 26 = .ok (.getfield 29, 3) := by decide +kernel
theorem dX3_look_29 : decode cX3_look 29 = .ok (.ifCond .le 5, 3) := by decide +kernel
theorem dX3_look_32 : decode cX3_look 32 = .ok (.iconst 0, 1) := by decide +kernel
theorem dX3_look_33 : decode cX3_look 33 = .ok (.ireturn, 1) := by decide +kernel
theorem dX3_look_34 : decode cX3_look 34 = .ok (.iload_n 2, 1) := by decide +kernel
theorem dX3_look_35 : decode cX3_look 35 = .ok (.ifCond .ne 9, 3) := by decide +kernel
theorem dX3_look_38 : decode cX3_look 38 = .ok (.aload_n 0, 1) := by decide +kernel
theorem dX3_look_39 : decode cX3_look 39 = .ok (.iload_n 1, 1) := by decide +kernel
theorem dX3_look_40 : decode cX3_look 40 = .ok (.invokevirtual 37, 3) := by decide +kernel
theorem dX3_look_43 : decode cX3_look 43 = .ok (.ireturn, 1) := by decide +kernel
theorem dX3_look_44 : decode cX3_look 44 = .ok (.iload_n 2, 1) := by decide +kernel
theorem dX3_look_45 : decode cX3_look 45 = .ok (.iconst 1, 1) := by decide +kernel
theorem dX3_look_46 : decode cX3_look 46 = .ok (.if_icmp .ne 21, 3) := by decide +kernel
theorem dX3_look_49 : decode cX3_look 49 = .ok (.aload_n 0, 1) := by decide +kernel
theorem dX3_look_50 : decode cX3_look 50 = .ok (.iload_n 1, 1) := by decide +kernel
theorem dX3_look_51 : decode cX3_look 51 = .ok (.invokevirtual 51, 3) := by decide +kernel
theorem dX3_look_54 : decode cX3_look 54 = .ok (.ifCond .eq 11, 3) := by decide +kernel
theorem dX3_look_57 : decode cX3_look 57 = .ok (.aload_n 0, 1) := by decide +kernel
theorem dX3_look_58 : decode cX3_look 58 = .ok (.iload_n 1, 1) := by decide +kernel
theorem dX3_look_59 : decode cX3_look 59 = .ok (.invokevirtual 54, 3) := by decide +kernel
theorem dX3_look_62 : decode cX3_look 62 = .ok (.goto 4, 3) := by decide +kernel
theorem dX3_look_65 : decode cX3_look 65 = .ok (.iconst (-1), 1) := by decide +kernel
theorem dX3_look_66 : decode cX3_look 66 = .ok (.ireturn, 1) := by decide +kernel
theorem dX3_look_67 : decode cX3_look 67 = .ok (.iconst 0, 1) := by decide +kernel
theorem dX3_look_68 : decode cX3_look 68 = .ok (.istore_n 3, 1) := by decide +kernel
theorem dX3_look_69 : decode cX3_look 69 = .ok (.iconst 0, 1) := by decide +kernel
theorem dX3_look_70 : decode cX3_look 70 = .ok (.istore 4, 2) := by decide +kernel
theorem dX3_look_72 : decode cX3_look 72 = .ok (.iload 4, 2) := by decide +kernel
theorem dX3_look_74 : decode cX3_look 74 = .ok (.bipush 6, 2) := by decide +kernel
theorem dX3_look_76 : decode cX3_look 76 = .ok (.if_icmp .ge 43, 3) := by decide +kernel
theorem dX3_look_79 : decode cX3_look 79 = .ok (.aload_n 0, 1) := by decide +kernel
theorem dX3_look_80 : decode cX3_look 80 = .ok (.getfield 7, 3) := by decide +kernel
theorem dX3_look_83 : decode cX3_look 83 = .ok (.iload_n 1, 1) := by decide +kernel
theorem dX3_look_84 : decode cX3_look 84 = .ok (.iaload, 1) := by decide +kernel
theorem dX3_look_85 : decode cX3_look 85 = .ok (.iconst (-1), 1) := by decide +kernel
theorem dX3_look_86 : decode cX3_look 86 = .ok (.if_icmp .eq 25, 3) := by decide +kernel
theorem dX3_look_89 : decode cX3_look 89 = .ok (.aload_n 0, 1) := by decide +kernel
theorem dX3_look_90 : decode cX3_look 90 = .ok (.getfield 7, 3) := by decide +kernel
theorem dX3_look_93 : decode cX3_look 93 = .ok (.iload 4, 2) := by decide +kernel
theorem dX3_look_95 : decode cX3_look 95 = .ok (.iaload, 1) := by decide +kernel
theorem dX3_look_96 : decode cX3_look 96 = .ok (.aload_n 0, 1) := by decide +kernel
theorem dX3_look_97 : decode cX3_look 97 = .ok (.getfield 7, 3) := by decide +kernel
theorem dX3_look_100 : decode cX3_look 100 = .ok (.iload_n 1, 1) := by decide +kernel
theorem dX3_look_101 : decode cX3_look 101 = .ok (.iaload, 1) := by decide +kernel
theorem dX3_look_102 : decode cX3_look 102 = .ok (.if_icmp .ne 9, 3) := by decide +kernel
theorem dX3_look_105 : decode cX3_look 105 = .ok (.iload_n 3, 1) := by decide +kernel
theorem dX3_look_106 : decode cX3_look 106 = .ok (.iconst 1, 1) := by decide +kernel
theorem dX3_look_107 : decode cX3_look 107 = .ok (.iadd, 1) := by decide +kernel
theorem dX3_look_108 : decode cX3_look 108 = .ok (.goto 4, 3) := by decide +kernel
theorem dX3_look_111 : decode cX3_look 111 = .ok (.iload_n 3, 1) := by decide +kernel
theorem dX3_look_112 : decode cX3_look 112 = .ok (.istore_n 3, 1) := by decide +kernel
theorem dX3_look_113 : decode cX3_look 113 = .ok (.iinc 4 1, 3) := by decide +kernel
theorem dX3_look_116 : decode cX3_look 116 = .ok (.goto (-44), 3) := by decide +kernel
theorem dX3_look_119 : decode cX3_look 119 = .ok (.iload_n 3, 1) := by decide +kernel
theorem dX3_look_120 : decode cX3_look 120 = .ok (.ireturn, 1) := by decide +kernel
theorem dX3_sum_0 : decode cX3_sum 0 = .ok (.aload_n 0, 1) := by decide +kernel
theorem dX3_sum_1 : decode cX3_sum 1 = .ok (.iload_n 1, 1) := by decide +kernel
theorem dX3_sum_2 : decode cX3_sum 2 = .ok (.invokestatic 41, 3) := by decide +kernel
theorem dX3_sum_5 : decode cX3_sum 5 = .ok (.ifCond .eq 7, 3) := by decide +kernel
theorem dX3_sum_8 : decode cX3_sum 8 = .ok (.iconst 0, 1) := by decide +kernel
theorem dX3_sum_9 : decode cX3_sum 9 = .ok (.goto 4, 3) := by decide +kernel
theorem dX3_sum_12 : decode cX3_sum 12 = .ok (.iconst 1, 1) := by decide +kernel
theorem dX3_sum_13 : decode cX3_sum 13 = .ok (.putfield 29, 3) := by decide +kernel
theorem dX3_sum_16 : decode cX3_sum 16 = .ok (.ldc2_w 101, 3) := by decide +kernel
theorem dX3_sum_19 : decode cX3_sum 19 = .ok (.lstore_n 2, 1) := by decide +kernel
theorem dX3_sum_20 : decode cX3_sum 20 = .ok (.iconst 0, 1) := by decide +kernel
theorem dX3_sum_21 : decode cX3_sum 21 = .ok (.istore 4, 2) := by decide +kernel
theorem dX3_sum_23 : decode cX3_sum 23 = .ok (.aload_n 0, 1) := by decide +kernel
theorem dX3_sum_24 : decode cX3_sum 24 = .ok (.getfield 29, 3) := by decide +kernel
theorem dX3_sum_27 : decode cX3_sum 27 = .ok (.ifCond .ne 51, 3) := by decide +kernel
theorem dX3_sum_30 : decode cX3_sum 30 = .ok (.aload_n 0, 1) := by decide +kernel
theorem dX3_sum_31 : decode cX3_sum 31 = .ok (.iload_n 1, 1) := by decide +kernel
theorem dX3_sum_32 : decode cX3_sum 32 = .ok (.invokevirtual 51, 3) := by decide +kernel
theorem dX3_sum_35 : decode cX3_sum 35 = .ok (.ifCond .eq 43, 3) := by decide +kernel
theorem dX3_sum_38 : decode cX3_sum 38 = .ok (.iload 4, 2) := by decide +kernel
theorem dX3_sum_40 : decode cX3_sum 40 = .ok (.aload_n 0, 1) := by decide +kernel
theorem dX3_sum_41 : decode cX3_sum 41 = .ok (.iload_n 1, 1) := by decide +kernel
theorem dX3_sum_42 : decode cX3_sum 42 = .ok (.invokevirtual 54, 3) := by decide +kernel
theorem dX3_sum_45 : decode cX3_sum 45 = .ok (.if_icmp .ge 33, 3) := by decide +kernel
theorem dX3_sum_48 : decode cX3_sum 48 = .ok (.ldc2_w 103, 3) := by decide +kernel
theorem dX3_sum_51 : decode cX3_sum 51 = .ok (.lload_n 2, 1) := by decide +kernel
theorem dX3_sum_52 : decode cX3_sum 52 = .ok (.lmul, 1) := by decide +kernel
theorem dX3_sum_53 : decode cX3_sum 53 = .ok (.aload_n 0, 1) := by decide +kernel
theorem dX3_sum_54 : decode cX3_sum 54 = .ok (.getfield 19, 3) := by decide +kernel
theorem dX3_sum_57 : decode cX3_sum 57 = .ok (.bipush 40, 2) := by decide +kernel
theorem dX3_sum_59 : decode cX3_sum 59 = .ok (.aload_n 0, 1) := by decide +kernel
theorem dX3_sum_60 : decode cX3_sum 60 = .ok (.getfield 7, 3) := by decide +kernel
theorem dX3_sum_63 : decode cX3_sum 63 = .ok (.iload_n 1, 1) := by decide +kernel
theorem dX3_sum_64 : decode cX3_sum 64 = .ok (.iaload, 1) := by decide +kernel
theorem dX3_sum_65 : decode cX3_sum 65 = .ok (.imul, 1) := by decide +kernel
theorem dX3_sum_66 : decode cX3_sum 66 = .ok (.iload 4, 2) := by decide +kernel
theorem dX3_sum_68 : decode cX3_sum 68 = .ok (.iadd, 1) := by decide +kernel
theorem dX3_sum_69 : decode cX3_sum 69 = .ok (.laload, 1) := by decide +kernel
theorem dX3_sum_70 : decode cX3_sum 70 = .ok (.ladd, 1) := by decide +kernel
theorem dX3_sum_71 : decode cX3_sum 71 = .ok (.lstore_n 2, 1) := by decide +kernel
theorem dX3_sum_72 : decode cX3_sum 72 = .ok (.iinc 4 1, 3) := by decide +kernel
theorem dX3_sum_75 : decode cX3_sum 75 = .ok (.goto (-52), 3) := by decide +kernel
theorem dX3_sum_78 : decode cX3_sum 78 = .ok (.aload_n 0, 1) := by decide +kernel
theorem dX3_sum_79 : decode cX3_sum 79 = .ok (.getfield 29, 3) := by decide +kernel
theorem dX3_sum_82 : decode cX3_sum 82 = .ok (.ifCond .le 7, 3) := by decide +kernel
theorem dX3_sum_85 : decode cX3_sum 85 = .ok (.lconst 0, 1) := by decide +kernel
theorem dX3_sum_86 : decode cX3_sum 86 = .ok (.goto 4, 3) := by decide +kernel
theorem dX3_sum_89 : decode cX3_sum 89 = .ok (.lload_n 2, 1) := by decide +kernel
theorem dX3_sum_90 : decode cX3_sum 90 = .ok (.lreturn, 1) := by decide +kernel
theorem dX3_count_0 : decode cX3_count 0 = .ok (.aload_n 0, 1) := by decide +kernel
theorem dX3_count_1 : decode cX3_count 1 = .ok (.iload_n 1, 1) := by decide +kernel
theorem dX3_count_2 : decode cX3_count 2 = .ok (.iconst 0, 1) := by decide +kernel
theorem dX3_count_3 : decode cX3_count 3 = .ok (.bipush 7, 2) := by decide +kernel
theorem dX3_count_5 : decode cX3_count 5 = .ok (.invokestatic 33, 3) := by decide +kernel
theorem dX3_count_8 : decode cX3_count 8 = .ok (.ifCond .eq 7, 3) := by decide +kernel
theorem dX3_count_11 : decode cX3_count 11 = .ok (.iconst 0, 1) := by decide +kernel
theorem dX3_count_12 : decode cX3_count 12 = .ok (.goto 4, 3) := by decide +kernel
theorem dX3_count_15 : decode cX3_count 15 = .ok (.iconst 1, 1) := by decide +kernel
theorem dX3_count_16 : decode cX3_count 16 = .ok (.putfield 29, 3) := by decide +kernel
theorem dX3_count_19 : decode cX3_count 19 = .ok (.iload_n 1, 1) := by decide +kernel
theorem dX3_count_20 : decode cX3_count 20 = .ok (.tableswitch 88 0 7 #[48, 53, 58, 63, 68, 73, 78, 83], 48) := by decide +kernel
theorem dX3_count_68 : decode cX3_count 68 = .ok (.aload_n 0, 1) := by decide +kernel
theorem dX3_count_69 : decode cX3_count 69 = .ok (.getfield 82, 3) := by decide +kernel
theorem dX3_count_72 : decode cX3_count 72 = .ok (.ireturn, 1) := by decide +kernel
theorem dX3_count_73 : decode cX3_count 73 = .ok (.aload_n 0, 1) := by decide +kernel
theorem dX3_count_74 : decode cX3_count 74 = .ok (.getfield 73, 3) := by decide +kernel
theorem dX3_count_77 : decode cX3_count 77 = .ok (.ireturn, 1) := by decide +kernel
theorem dX3_count_78 : decode cX3_count 78 = .ok (.aload_n 0, 1) := by decide +kernel
theorem dX3_count_79 : decode cX3_count 79 = .ok (.getfield 76, 3) := by decide +kernel
theorem dX3_count_82 : decode cX3_count 82 = .ok (.ireturn, 1) := by decide +kernel
theorem dX3_count_83 : decode cX3_count 83 = .ok (.aload_n 0, 1) := by decide +kernel
theorem dX3_count_84 : decode cX3_count 84 = .ok (.getfield 79, 3) := by decide +kernel
theorem dX3_count_87 : decode cX3_count 87 = .ok (.ireturn, 1) := by decide +kernel
theorem dX3_count_88 : decode cX3_count 88 = .ok (.aload_n 0, 1) := by decide +kernel
theorem dX3_count_89 : decode cX3_count 89 = .ok (.getfield 95, 3) := by decide +kernel
theorem dX3_count_92 : decode cX3_count 92 = .ok (.ireturn, 1) := by decide +kernel
theorem dX3_count_93 : decode cX3_count 93 = .ok (.aload_n 0, 1) := by decide +kernel
theorem dX3_count_94 : decode cX3_count 94 = .ok (.getfield 70, 3) := by decide +kernel
theorem dX3_count_97 : decode cX3_count 97 = .ok (.ireturn, 1) := by decide +kernel
theorem dX3_count_98 : decode cX3_count 98 = .ok (.aload_n 0, 1) := by decide +kernel
theorem dX3_count_99 : decode cX3_count 99 = .ok (.getfield 85, 3) := by decide +kernel
theorem dX3_count_102 : decode cX3_count 102 = .ok (.ireturn, 1) := by decide +kernel
theorem dX3_count_103 : decode cX3_count 103 = .ok (.aload_n 0, 1) := by decide +kernel
theorem dX3_count_104 : decode cX3_count 104 = .ok (.getfield 98, 3) := by decide +kernel
theorem dX3_count_107 : decode cX3_count 107 = .ok (.ireturn, 1) := by decide +kernel
theorem dX3_count_108 : decode cX3_count 108 = .ok (.iconst 0, 1) := by decide +kernel
theorem dX3_count_109 : decode cX3_count 109 = .ok (.ireturn, 1) := by decide +kernel
theorem dL_wind_0 : decode cL_wind 0 = .ok (.aload 4, 2) := by decide +kernel
theorem dL_wind_2 : decode cL_wind 2 = .ok (.iconst 0, 1) := by decide +kernel
theorem dL_wind_3 : decode cL_wind 3 = .ok (.aload_n 0, 1) := by decide +kernel
theorem dL_wind_4 : decode cL_wind 4 = .ok (.iload_n 1, 1) := by decide +kernel
theorem dL_wind_5 : decode cL_wind 5 = .ok (.iload_n 2, 1) := by decide +kernel
theorem dL_wind_6 : decode cL_wind 6 = .ok (.iload_n 3, 1) := by decide +kernel
theorem dL_wind_7 : decode cL_wind 7 = .ok (.invokevirtual 7, 3) := by decide +kernel
theorem dL_wind_10 : decode cL_wind 10 = .ok (.i2l, 1) := by decide +kernel
theorem dL_wind_11 : decode cL_wind 11 = .ok (.lastore, 1) := by decide +kernel
theorem dL_wind_12 : decode cL_wind 12 = .ok (.goto 7, 3) := by decide +kernel
theorem dL_wind_15 : decode cL_wind 15 = .ok (.astore 5, 2) := by decide +kernel
theorem dL_wind_17 : decode cL_wind 17 = .ok (.iconst 1, 1) := by decide +kernel
theorem dL_wind_18 : decode cL_wind 18 = .ok (.ireturn, 1) := by decide +kernel
theorem dL_wind_19 : decode cL_wind 19 = .ok (.iconst 0, 1) := by decide +kernel
theorem dL_wind_20 : decode cL_wind 20 = .ok (.ireturn, 1) := by decide +kernel
theorem dL_hang_0 : decode cL_hang 0 = .ok (.aload_n 3, 1) := by decide +kernel
theorem dL_hang_1 : decode cL_hang 1 = .ok (.iconst 0, 1) := by decide +kernel
theorem dL_hang_2 : decode cL_hang 2 = .ok (.aload_n 0, 1) := by decide +kernel
theorem dL_hang_3 : decode cL_hang 3 = .ok (.iload_n 1, 1) := by decide +kernel
theorem dL_hang_4 : decode cL_hang 4 = .ok (.iload_n 2, 1) := by decide +kernel
theorem dL_hang_5 : decode cL_hang 5 = .ok (.invokevirtual 15, 3) := by decide +kernel
theorem dL_hang_8 : decode cL_hang 8 = .ok (.i2l, 1) := by decide +kernel
theorem dL_hang_9 : decode cL_hang 9 = .ok (.lastore, 1) := by decide +kernel
theorem dL_hang_10 : decode cL_hang 10 = .ok (.goto 7, 3) := by decide +kernel
theorem dL_hang_13 : decode cL_hang 13 = .ok (.astore 4, 2) := by decide +kernel
theorem dL_hang_15 : decode cL_hang 15 = .ok (.iconst 1, 1) := by decide +kernel
theorem dL_hang_16 : decode cL_hang 16 = .ok (.ireturn, 1) := by decide +kernel
theorem dL_hang_17 : decode cL_hang 17 = .ok (.iconst 0, 1) := by decide +kernel
theorem dL_hang_18 : decode cL_hang 18 = .ok (.ireturn, 1) := by decide +kernel
theorem dL_twin_0 : decode cL_twin 0 = .ok (.aload_n 3, 1) := by decide +kernel
theorem dL_twin_1 : decode cL_twin 1 = .ok (.iconst 0, 1) := by decide +kernel
theorem dL_twin_2 : decode cL_twin 2 = .ok (.aload_n 0, 1) := by decide +kernel
theorem dL_twin_3 : decode cL_twin 3 = .ok (.iload_n 1, 1) := by decide +kernel
theorem dL_twin_4 : decode cL_twin 4 = .ok (.iload_n 2, 1) := by decide +kernel
theorem dL_twin_5 : decode cL_twin 5 = .ok (.invokevirtual 19, 3) := by decide +kernel
theorem dL_twin_8 : decode cL_twin 8 = .ok (.i2l, 1) := by decide +kernel
theorem dL_twin_9 : decode cL_twin 9 = .ok (.lastore, 1) := by decide +kernel
theorem dL_twin_10 : decode cL_twin 10 = .ok (.goto 11, 3) := by decide +kernel
theorem dL_twin_13 : decode cL_twin 13 = .ok (.astore 4, 2) := by decide +kernel
theorem dL_twin_15 : decode cL_twin 15 = .ok (.iconst 1, 1) := by decide +kernel
theorem dL_twin_16 : decode cL_twin 16 = .ok (.ireturn, 1) := by decide +kernel
theorem dL_twin_17 : decode cL_twin 17 = .ok (.astore 4, 2) := by decide +kernel
theorem dL_twin_19 : decode cL_twin 19 = .ok (.iconst 2, 1) := by decide +kernel
theorem dL_twin_20 : decode cL_twin 20 = .ok (.ireturn, 1) := by decide +kernel
theorem dL_twin_21 : decode cL_twin 21 = .ok (.iconst 0, 1) := by decide +kernel
theorem dL_twin_22 : decode cL_twin 22 = .ok (.ireturn, 1) := by decide +kernel
theorem dL_mark_0 : decode cL_mark 0 = .ok (.aload_n 0, 1) := by decide +kernel
theorem dL_mark_1 : decode cL_mark 1 = .ok (.iload_n 1, 1) := by decide +kernel
theorem dL_mark_2 : decode cL_mark 2 = .ok (.iload_n 2, 1) := by decide +kernel
theorem dL_mark_3 : decode cL_mark 3 = .ok (.lload_n 3, 1) := by decide +kernel
theorem dL_mark_4 : decode cL_mark 4 = .ok (.invokevirtual 24, 3) := by decide +kernel
theorem dL_mark_7 : decode cL_mark 7 = .ok (.goto 15, 3) := by decide +kernel
theorem dL_mark_10 : decode cL_mark 10 = .ok (.astore 5, 2) := by decide +kernel
theorem dL_mark_12 : decode cL_mark 12 = .ok (.iconst 1, 1) := by decide +kernel
theorem dL_mark_13 : decode cL_mark 13 = .ok (.ireturn, 1) := by decide +kernel
theorem dL_mark_14 : decode cL_mark 14 = .ok (.astore 5, 2) := by decide +kernel
theorem dL_mark_16 : decode cL_mark 16 = .ok (.iconst 2, 1) := by decide +kernel
theorem dL_mark_17 : decode cL_mark 17 = .ok (.ireturn, 1) := by decide +kernel
theorem dL_mark_18 : decode cL_mark 18 = .ok (.astore 5, 2) := by decide +kernel
theorem dL_mark_20 : decode cL_mark 20 = .ok (.iconst 3, 1) := by decide +kernel
theorem dL_mark_21 : decode cL_mark 21 = .ok (.ireturn, 1) := by decide +kernel
theorem dL_mark_22 : decode cL_mark 22 = .ok (.iconst 0, 1) := by decide +kernel
theorem dL_mark_23 : decode cL_mark 23 = .ok (.ireturn, 1) := by decide +kernel
theorem dL_paste_0 : decode cL_paste 0 = .ok (.aload 5, 2) := by decide +kernel
theorem dL_paste_2 : decode cL_paste 2 = .ok (.iconst 0, 1) := by decide +kernel
theorem dL_paste_3 : decode cL_paste 3 = .ok (.aload_n 0, 1) := by decide +kernel
theorem dL_paste_4 : decode cL_paste 4 = .ok (.iload_n 1, 1) := by decide +kernel
theorem dL_paste_5 : decode cL_paste 5 = .ok (.iload_n 2, 1) := by decide +kernel
theorem dL_paste_6 : decode cL_paste 6 = .ok (.iload_n 3, 1) := by decide +kernel
theorem dL_paste_7 : decode cL_paste 7 = .ok (.iload 4, 2) := by decide +kernel
theorem dL_paste_9 : decode cL_paste 9 = .ok (.invokevirtual 30, 3) := by decide +kernel
theorem dL_paste_12 : decode cL_paste 12 = .ok (.ifCond .eq 7, 3) := by decide +kernel
theorem dL_paste_15 : decode cL_paste 15 = .ok (.lconst 1, 1) := by decide +kernel
theorem dL_paste_16 : decode cL_paste 16 = .ok (.goto 4, 3) := by decide +kernel
theorem dL_paste_19 : decode cL_paste 19 = .ok (.lconst 0, 1) := by decide +kernel
theorem dL_paste_20 : decode cL_paste 20 = .ok (.lastore, 1) := by decide +kernel
theorem dL_paste_21 : decode cL_paste 21 = .ok (.goto 15, 3) := by decide +kernel
theorem dL_paste_24 : decode cL_paste 24 = .ok (.astore 6, 2) := by decide +kernel
theorem dL_paste_26 : decode cL_paste 26 = .ok (.iconst 1, 1) := by decide +kernel
theorem dL_paste_27 : decode cL_paste 27 = .ok (.ireturn, 1) := by decide +kernel
theorem dL_paste_28 : decode cL_paste 28 = .ok (.astore 6, 2) := by decide +kernel
theorem dL_paste_30 : decode cL_paste 30 = .ok (.iconst 2, 1) := by decide +kernel
theorem dL_paste_31 : decode cL_paste 31 = .ok (.ireturn, 1) := by decide +kernel
theorem dL_paste_32 : decode cL_paste 32 = .ok (.astore 6, 2) := by decide +kernel
theorem dL_paste_34 : decode cL_paste 34 = .ok (.iconst 3, 1) := by decide +kernel
theorem dL_paste_35 : decode cL_paste 35 = .ok (.ireturn, 1) := by decide +kernel
theorem dL_paste_36 : decode cL_paste 36 = .ok (.iconst 0, 1) := by decide +kernel
theorem dL_paste_37 : decode cL_paste 37 = .ok (.ireturn, 1) := by decide +kernel
theorem dL_pull_0 : decode cL_pull 0 = .ok (.aload_n 3, 1) := by decide +kernel
theorem dL_pull_1 : decode cL_pull 1 = .ok (.iconst 0, 1) := by decide +kernel
theorem dL_pull_2 : decode cL_pull 2 = .ok (.aload_n 0, 1) := by decide +kernel
theorem dL_pull_3 : decode cL_pull 3 = .ok (.iload_n 1, 1) := by decide +kernel
theorem dL_pull_4 : decode cL_pull 4 = .ok (.iload_n 2, 1) := by decide +kernel
theorem dL_pull_5 : decode cL_pull 5 = .ok (.invokevirtual 34, 3) := by decide +kernel
theorem dL_pull_8 : decode cL_pull 8 = .ok (.ifCond .eq 7, 3) := by decide +kernel
theorem dL_pull_11 : decode cL_pull 11 = .ok (.lconst 1, 1) := by decide +kernel
theorem dL_pull_12 : decode cL_pull 12 = .ok (.goto 4, 3) := by decide +kernel
theorem dL_pull_15 : decode cL_pull 15 = .ok (.lconst 0, 1) := by decide +kernel
theorem dL_pull_16 : decode cL_pull 16 = .ok (.lastore, 1) := by decide +kernel
theorem dL_pull_17 : decode cL_pull 17 = .ok (.goto 15, 3) := by decide +kernel
theorem dL_pull_20 : decode cL_pull 20 = .ok (.astore 4, 2) := by decide +kernel
theorem dL_pull_22 : decode cL_pull 22 = .ok (.iconst 1, 1) := by decide +kernel
theorem dL_pull_23 : decode cL_pull 23 = .ok (.ireturn, 1) := by decide +kernel
theorem dL_pull_24 : decode cL_pull 24 = .ok (.astore 4, 2) := by decide +kernel
theorem dL_pull_26 : decode cL_pull 26 = .ok (.iconst 2, 1) := by decide +kernel
theorem dL_pull_27 : decode cL_pull 27 = .ok (.ireturn, 1) := by decide +kernel
theorem dL_pull_28 : decode cL_pull 28 = .ok (.astore 4, 2) := by decide +kernel
theorem dL_pull_30 : decode cL_pull 30 = .ok (.iconst 3, 1) := by decide +kernel
theorem dL_pull_31 : decode cL_pull 31 = .ok (.ireturn, 1) := by decide +kernel
theorem dL_pull_32 : decode cL_pull 32 = .ok (.iconst 0, 1) := by decide +kernel
theorem dL_pull_33 : decode cL_pull 33 = .ok (.ireturn, 1) := by decide +kernel
theorem dL_splice_0 : decode cL_splice 0 = .ok (.aload 6, 2) := by decide +kernel
theorem dL_splice_2 : decode cL_splice 2 = .ok (.iconst 0, 1) := by decide +kernel
theorem dL_splice_3 : decode cL_splice 3 = .ok (.aload_n 0, 1) := by decide +kernel
theorem dL_splice_4 : decode cL_splice 4 = .ok (.iload_n 1, 1) := by decide +kernel
theorem dL_splice_5 : decode cL_splice 5 = .ok (.iload_n 2, 1) := by decide +kernel
theorem dL_splice_6 : decode cL_splice 6 = .ok (.iload_n 3, 1) := by decide +kernel
theorem dL_splice_7 : decode cL_splice 7 = .ok (.iload 4, 2) := by decide +kernel
theorem dL_splice_9 : decode cL_splice 9 = .ok (.iload 5, 2) := by decide +kernel
theorem dL_splice_11 : decode cL_splice 11 = .ok (.invokevirtual 38, 3) := by decide +kernel
theorem dL_splice_14 : decode cL_splice 14 = .ok (.i2l, 1) := by decide +kernel
theorem dL_splice_15 : decode cL_splice 15 = .ok (.lastore, 1) := by decide +kernel
theorem dL_splice_16 : decode cL_splice 16 = .ok (.goto 11, 3) := by decide +kernel
theorem dL_splice_19 : decode cL_splice 19 = .ok (.astore 7, 2) := by decide +kernel
theorem dL_splice_21 : decode cL_splice 21 = .ok (.iconst 1, 1) := by decide +kernel
theorem dL_splice_22 : decode cL_splice 22 = .ok (.ireturn, 1) := by decide +kernel
theorem dL_splice_23 : decode cL_splice 23 = .ok (.astore 7, 2) := by decide +kernel
theorem dL_splice_25 : decode cL_splice 25 = .ok (.iconst 2, 1) := by decide +kernel
theorem dL_splice_26 : decode cL_splice 26 = .ok (.ireturn, 1) := by decide +kernel
theorem dL_splice_27 : decode cL_splice 27 = .ok (.iconst 0, 1) := by decide +kernel
theorem dL_splice_28 : decode cL_splice 28 = .ok (.ireturn, 1) := by decide +kernel
theorem dL_step_0 : decode cL_step 0 = .ok (.aload 6, 2) := by decide +kernel
theorem dL_step_2 : decode cL_step 2 = .ok (.iconst 0, 1) := by decide +kernel
theorem dL_step_3 : decode cL_step 3 = .ok (.aload_n 0, 1) := by decide +kernel
theorem dL_step_4 : decode cL_step 4 = .ok (.iload_n 1, 1) := by decide +kernel
theorem dL_step_5 : decode cL_step 5 = .ok (.iload_n 2, 1) := by decide +kernel
theorem dL_step_6 : decode cL_step 6 = .ok (.iload_n 3, 1) := by decide +kernel
theorem dL_step_7 : decode cL_step 7 = .ok (.iload 4, 2) := by decide +kernel
theorem dL_step_9 : decode cL_step 9 = .ok (.iload 5, 2) := by decide +kernel
theorem dL_step_11 : decode cL_step 11 = .ok (.invokevirtual 42, 3) := by decide +kernel
theorem dL_step_14 : decode cL_step 14 = .ok (.i2l, 1) := by decide +kernel
theorem dL_step_15 : decode cL_step 15 = .ok (.lastore, 1) := by decide +kernel
theorem dL_step_16 : decode cL_step 16 = .ok (.goto 11, 3) := by decide +kernel
theorem dL_step_19 : decode cL_step 19 = .ok (.astore 7, 2) := by decide +kernel
theorem dL_step_21 : decode cL_step 21 = .ok (.iconst 1, 1) := by decide +kernel
theorem dL_step_22 : decode cL_step 22 = .ok (.ireturn, 1) := by decide +kernel
theorem dL_step_23 : decode cL_step 23 = .ok (.astore 7, 2) := by decide +kernel
theorem dL_step_25 : decode cL_step 25 = .ok (.iconst 2, 1) := by decide +kernel
theorem dL_step_26 : decode cL_step 26 = .ok (.ireturn, 1) := by decide +kernel
theorem dL_step_27 : decode cL_step 27 = .ok (.iconst 0, 1) := by decide +kernel
theorem dL_step_28 : decode cL_step 28 = .ok (.ireturn, 1) := by decide +kernel
theorem dL_play_0 : decode cL_play 0 = .ok (.aload_n 2, 1) := by decide +kernel
theorem dL_play_1 : decode cL_play 1 = .ok (.iconst 0, 1) := by decide +kernel
theorem dL_play_2 : decode cL_play 2 = .ok (.aload_n 0, 1) := by decide +kernel
theorem dL_play_3 : decode cL_play 3 = .ok (.iload_n 1, 1) := by decide +kernel
theorem dL_play_4 : decode cL_play 4 = .ok (.invokevirtual 45, 3) := by decide +kernel
theorem dL_play_7 : decode cL_play 7 = .ok (.i2l, 1) := by decide +kernel
theorem dL_play_8 : decode cL_play 8 = .ok (.lastore, 1) := by decide +kernel
theorem dL_play_9 : decode cL_play 9 = .ok (.goto 6, 3) := by decide +kernel
theorem dL_play_12 : decode cL_play 12 = .ok (.astore_n 3, 1) := by decide +kernel
theorem dL_play_13 : decode cL_play 13 = .ok (.iconst 1, 1) := by decide +kernel
theorem dL_play_14 : decode cL_play 14 = .ok (.ireturn, 1) := by decide +kernel
theorem dL_play_15 : decode cL_play 15 = .ok (.iconst 0, 1) := by decide +kernel
theorem dL_play_16 : decode cL_play 16 = .ok (.ireturn, 1) := by decide +kernel
theorem dL_grind_0 : decode cL_grind 0 = .ok (.aload_n 1, 1) := by decide +kernel
theorem dL_grind_1 : decode cL_grind 1 = .ok (.iconst 0, 1) := by decide +kernel
theorem dL_grind_2 : decode cL_grind 2 = .ok (.aload_n 0, 1) := by decide +kernel
theorem dL_grind_3 : decode cL_grind 3 = .ok (.invokevirtual 49, 3) := by decide +kernel
theorem dL_grind_6 : decode cL_grind 6 = .ok (.i2l, 1) := by decide +kernel
theorem dL_grind_7 : decode cL_grind 7 = .ok (.lastore, 1) := by decide +kernel
theorem dL_grind_8 : decode cL_grind 8 = .ok (.goto 6, 3) := by decide +kernel
theorem dL_grind_11 : decode cL_grind 11 = .ok (.astore_n 2, 1) := by decide +kernel
theorem dL_grind_12 : decode cL_grind 12 = .ok (.iconst 1, 1) := by decide +kernel
theorem dL_grind_13 : decode cL_grind 13 = .ok (.ireturn, 1) := by decide +kernel
theorem dL_grind_14 : decode cL_grind 14 = .ok (.iconst 0, 1) := by decide +kernel
theorem dL_grind_15 : decode cL_grind 15 = .ok (.ireturn, 1) := by decide +kernel
theorem dL_frame_0 : decode cL_frame 0 = .ok (.aload_n 3, 1) := by decide +kernel
theorem dL_frame_1 : decode cL_frame 1 = .ok (.iconst 0, 1) := by decide +kernel
theorem dL_frame_2 : decode cL_frame 2 = .ok (.aload_n 0, 1) := by decide +kernel
theorem dL_frame_3 : decode cL_frame 3 = .ok (.iload_n 1, 1) := by decide +kernel
theorem dL_frame_4 : decode cL_frame 4 = .ok (.iload_n 2, 1) := by decide +kernel
theorem dL_frame_5 : decode cL_frame 5 = .ok (.invokevirtual 53, 3) := by decide +kernel
theorem dL_frame_8 : decode cL_frame 8 = .ok (.lastore, 1) := by decide +kernel
theorem dL_frame_9 : decode cL_frame 9 = .ok (.goto 15, 3) := by decide +kernel
theorem dL_frame_12 : decode cL_frame 12 = .ok (.astore 4, 2) := by decide +kernel
theorem dL_frame_14 : decode cL_frame 14 = .ok (.iconst 1, 1) := by decide +kernel
theorem dL_frame_15 : decode cL_frame 15 = .ok (.ireturn, 1) := by decide +kernel
theorem dL_frame_16 : decode cL_frame 16 = .ok (.astore 4, 2) := by decide +kernel
theorem dL_frame_18 : decode cL_frame 18 = .ok (.iconst 2, 1) := by decide +kernel
theorem dL_frame_19 : decode cL_frame 19 = .ok (.ireturn, 1) := by decide +kernel
theorem dL_frame_20 : decode cL_frame 20 = .ok (.astore 4, 2) := by decide +kernel
theorem dL_frame_22 : decode cL_frame 22 = .ok (.iconst 3, 1) := by decide +kernel
theorem dL_frame_23 : decode cL_frame 23 = .ok (.ireturn, 1) := by decide +kernel
theorem dL_frame_24 : decode cL_frame 24 = .ok (.iconst 0, 1) := by decide +kernel
theorem dL_frame_25 : decode cL_frame 25 = .ok (.ireturn, 1) := by decide +kernel
theorem dL_look_0 : decode cL_look 0 = .ok (.aload_n 3, 1) := by decide +kernel
theorem dL_look_1 : decode cL_look 1 = .ok (.iconst 0, 1) := by decide +kernel
theorem dL_look_2 : decode cL_look 2 = .ok (.aload_n 0, 1) := by decide +kernel
theorem dL_look_3 : decode cL_look 3 = .ok (.iload_n 1, 1) := by decide +kernel
theorem dL_look_4 : decode cL_look 4 = .ok (.iload_n 2, 1) := by decide +kernel
theorem dL_look_5 : decode cL_look 5 = .ok (.invokevirtual 57, 3) := by decide +kernel
theorem dL_look_8 : decode cL_look 8 = .ok (.i2l, 1) := by decide +kernel
theorem dL_look_9 : decode cL_look 9 = .ok (.lastore, 1) := by decide +kernel
theorem dL_look_10 : decode cL_look 10 = .ok (.goto 7, 3) := by decide +kernel
theorem dL_look_13 : decode cL_look 13 = .ok (.astore 4, 2) := by decide +kernel
theorem dL_look_15 : decode cL_look 15 = .ok (.iconst 1, 1) := by decide +kernel
theorem dL_look_16 : decode cL_look 16 = .ok (.ireturn, 1) := by decide +kernel
theorem dL_look_17 : decode cL_look 17 = .ok (.iconst 0, 1) := by decide +kernel
theorem dL_look_18 : decode cL_look 18 = .ok (.ireturn, 1) := by decide +kernel
theorem dL_sum_0 : decode cL_sum 0 = .ok (.aload_n 2, 1) := by decide +kernel
theorem dL_sum_1 : decode cL_sum 1 = .ok (.iconst 0, 1) := by decide +kernel
theorem dL_sum_2 : decode cL_sum 2 = .ok (.aload_n 0, 1) := by decide +kernel
theorem dL_sum_3 : decode cL_sum 3 = .ok (.iload_n 1, 1) := by decide +kernel
theorem dL_sum_4 : decode cL_sum 4 = .ok (.invokevirtual 60, 3) := by decide +kernel
theorem dL_sum_7 : decode cL_sum 7 = .ok (.lastore, 1) := by decide +kernel
theorem dL_sum_8 : decode cL_sum 8 = .ok (.goto 6, 3) := by decide +kernel
theorem dL_sum_11 : decode cL_sum 11 = .ok (.astore_n 3, 1) := by decide +kernel
theorem dL_sum_12 : decode cL_sum 12 = .ok (.iconst 1, 1) := by decide +kernel
theorem dL_sum_13 : decode cL_sum 13 = .ok (.ireturn, 1) := by decide +kernel
theorem dL_sum_14 : decode cL_sum 14 = .ok (.iconst 0, 1) := by decide +kernel
theorem dL_sum_15 : decode cL_sum 15 = .ok (.ireturn, 1) := by decide +kernel
theorem dL_count_0 : decode cL_count 0 = .ok (.aload_n 2, 1) := by decide +kernel
theorem dL_count_1 : decode cL_count 1 = .ok (.iconst 0, 1) := by decide +kernel
theorem dL_count_2 : decode cL_count 2 = .ok (.aload_n 0, 1) := by decide +kernel
theorem dL_count_3 : decode cL_count 3 = .ok (.iload_n 1, 1) := by decide +kernel
theorem dL_count_4 : decode cL_count 4 = .ok (.invokevirtual 64, 3) := by decide +kernel
theorem dL_count_7 : decode cL_count 7 = .ok (.i2l, 1) := by decide +kernel
theorem dL_count_8 : decode cL_count 8 = .ok (.lastore, 1) := by decide +kernel
theorem dL_count_9 : decode cL_count 9 = .ok (.goto 6, 3) := by decide +kernel
theorem dL_count_12 : decode cL_count 12 = .ok (.astore_n 3, 1) := by decide +kernel
theorem dL_count_13 : decode cL_count 13 = .ok (.iconst 1, 1) := by decide +kernel
theorem dL_count_14 : decode cL_count 14 = .ok (.ireturn, 1) := by decide +kernel
theorem dL_count_15 : decode cL_count 15 = .ok (.iconst 0, 1) := by decide +kernel
theorem dL_count_16 : decode cL_count 16 = .ok (.ireturn, 1) := by decide +kernel
theorem dL_law_0 : decode cL_law 0 = .ok (.new 8, 3) := by decide +kernel
theorem dL_law_3 : decode cL_law 3 = .ok (.dup, 1) := by decide +kernel
theorem dL_law_4 : decode cL_law 4 = .ok (.invokespecial 68, 3) := by decide +kernel
theorem dL_law_7 : decode cL_law 7 = .ok (.astore_n 1, 1) := by decide +kernel
theorem dL_law_8 : decode cL_law 8 = .ok (.new 69, 3) := by decide +kernel
theorem dL_law_11 : decode cL_law 11 = .ok (.dup, 1) := by decide +kernel
theorem dL_law_12 : decode cL_law 12 = .ok (.invokespecial 71, 3) := by decide +kernel
theorem dL_law_15 : decode cL_law 15 = .ok (.astore_n 2, 1) := by decide +kernel
theorem dL_law_16 : decode cL_law 16 = .ok (.iconst 1, 1) := by decide +kernel
theorem dL_law_17 : decode cL_law 17 = .ok (.newarray .long, 2) := by decide +kernel
theorem dL_law_19 : decode cL_law 19 = .ok (.astore_n 3, 1) := by decide +kernel
theorem dL_law_20 : decode cL_law 20 = .ok (.iconst 0, 1) := by decide +kernel
theorem dL_law_21 : decode cL_law 21 = .ok (.istore 4, 2) := by decide +kernel
theorem dL_law_23 : decode cL_law 23 = .ok (.iload 4, 2) := by decide +kernel
theorem dL_law_25 : decode cL_law 25 = .ok (.aload_n 0, 1) := by decide +kernel
theorem dL_law_26 : decode cL_law 26 = .ok (.arraylength, 1) := by decide +kernel
theorem dL_law_27 : decode cL_law 27 = .ok (.bipush 6, 2) := by decide +kernel
theorem dL_law_29 : decode cL_law 29 = .ok (.isub, 1) := by decide +kernel
theorem dL_law_30 : decode cL_law 30 = .ok (.if_icmp .gt 1173, 3) := by decide +kernel
theorem dL_law_33 : decode cL_law 33 = .ok (.aload_n 0, 1) := by decide +kernel
theorem dL_law_34 : decode cL_law 34 = .ok (.iload 4, 2) := by decide +kernel
theorem dL_law_36 : decode cL_law 36 = .ok (.iaload, 1) := by decide +kernel
theorem dL_law_37 : decode cL_law 37 = .ok (.bipush 15, 2) := by decide +kernel
theorem dL_law_39 : decode cL_law 39 = .ok (.iand, 1) := by decide +kernel
theorem dL_law_40 : decode cL_law 40 = .ok (.tableswitch 1157 0 14 #[76, 156, 224, 292, 384, 499, 574, 678, 782, 854, 867, 911, 978, 1046, 1101], 76) := by decide +kernel
theorem dL_law_116 : decode cL_law 116 = .ok (.aload_n 1, 1) := by decide +kernel
theorem dL_law_117 : decode cL_law 117 = .ok (.aload_n 0, 1) := by decide +kernel
theorem dL_law_118 : decode cL_law 118 = .ok (.iload 4, 2) := by decide +kernel
theorem dL_law_120 : decode cL_law 120 = .ok (.iconst 1, 1) := by decide +kernel
theorem dL_law_121 : decode cL_law 121 = .ok (.iadd, 1) := by decide +kernel
theorem dL_law_122 : decode cL_law 122 = .ok (.iaload, 1) := by decide +kernel
theorem dL_law_123 : decode cL_law 123 = .ok (.aload_n 0, 1) := by decide +kernel
theorem dL_law_124 : decode cL_law 124 = .ok (.iload 4, 2) := by decide +kernel
theorem dL_law_126 : decode cL_law 126 = .ok (.iconst 2, 1) := by decide +kernel
theorem dL_law_127 : decode cL_law 127 = .ok (.iadd, 1) := by decide +kernel
theorem dL_law_128 : decode cL_law 128 = .ok (.iaload, 1) := by decide +kernel
theorem dL_law_129 : decode cL_law 129 = .ok (.aload_n 0, 1) := by decide +kernel
theorem dL_law_130 : decode cL_law 130 = .ok (.iload 4, 2) := by decide +kernel
theorem dL_law_132 : decode cL_law 132 = .ok (.iconst 3, 1) := by decide +kernel
theorem dL_law_133 : decode cL_law 133 = .ok (.iadd, 1) := by decide +kernel
theorem dL_law_134 : decode cL_law 134 = .ok (.iaload, 1) := by decide +kernel
theorem dL_law_135 : decode cL_law 135 = .ok (.aload_n 3, 1) := by decide +kernel
theorem dL_law_136 : decode cL_law 136 = .ok (.invokestatic 72, 3) := by decide +kernel
theorem dL_law_139 : decode cL_law 139 = .ok (.istore 5, 2) := by decide +kernel
theorem dL_law_141 : decode cL_law 141 = .ok (.aload_n 2, 1) := by decide +kernel
theorem dL_law_142 : decode cL_law 142 = .ok (.aload_n 0, 1) := by decide +kernel
theorem dL_law_143 : decode cL_law 143 = .ok (.iload 4, 2) := by decide +kernel
theorem dL_law_145 : decode cL_law 145 = .ok (.iconst 1, 1) := by decide +kernel
theorem dL_law_146 : decode cL_law 146 = .ok (.iadd, 1) := by decide +kernel
theorem dL_law_147 : decode cL_law 147 = .ok (.iaload, 1) := by decide +kernel
theorem dL_law_148 : decode cL_law 148 = .ok (.aload_n 0, 1) := by decide +kernel
theorem dL_law_149 : decode cL_law 149 = .ok (.iload 4, 2) := by decide +kernel
theorem dL_law_151 : decode cL_law 151 = .ok (.iconst 2, 1) := by decide +kernel
theorem dL_law_152 : decode cL_law 152 = .ok (.iadd, 1) := by decide +kernel
theorem dL_law_153 : decode cL_law 153 = .ok (.iaload, 1) := by decide +kernel
theorem dL_law_154 : decode cL_law 154 = .ok (.aload_n 0, 1) := by decide +kernel
theorem dL_law_155 : decode cL_law 155 = .ok (.iload 4, 2) := by decide +kernel
theorem dL_law_157 : decode cL_law 157 = .ok (.iconst 3, 1) := by decide +kernel
theorem dL_law_158 : decode cL_law 158 = .ok (.iadd, 1) := by decide +kernel
theorem dL_law_159 : decode cL_law 159 = .ok (.iaload, 1) := by decide +kernel
theorem dL_law_160 : decode cL_law 160 = .ok (.invokevirtual 77, 3) := by decide +kernel
theorem dL_law_163 : decode cL_law 163 = .ok (.istore 6, 2) := by decide +kernel
theorem dL_law_165 : decode cL_law 165 = .ok (.aload_n 2, 1) := by decide +kernel
theorem dL_law_166 : decode cL_law 166 = .ok (.invokevirtual 78, 3) := by decide +kernel
theorem dL_law_169 : decode cL_law 169 = .ok (.iload 5, 2) := by decide +kernel
theorem dL_law_171 : decode cL_law 171 = .ok (.if_icmp .eq 5, 3) := by decide +kernel
theorem dL_law_174 : decode cL_law 174 = .ok (.iconst 0, 1) := by decide +kernel
theorem dL_law_175 : decode cL_law 175 = .ok (.ireturn, 1) := by decide +kernel
theorem dL_law_176 : decode cL_law 176 = .ok (.iload 5, 2) := by decide +kernel
theorem dL_law_178 : decode cL_law 178 = .ok (.ifCond .ne 15, 3) := by decide +kernel
theorem dL_law_181 : decode cL_law 181 = .ok (.aload_n 3, 1) := by decide +kernel
theorem dL_law_182 : decode cL_law 182 = .ok (.iconst 0, 1) := by decide +kernel
theorem dL_law_183 : decode cL_law 183 = .ok (.laload, 1) := by decide +kernel
theorem dL_law_184 : decode cL_law 184 = .ok (.iload 6, 2) := by decide +kernel
theorem dL_law_186 : decode cL_law 186 = .ok (.i2l, 1) := by decide +kernel
theorem dL_law_187 : decode cL_law 187 = .ok (.lcmp, 1) := by decide +kernel
theorem dL_law_188 : decode cL_law 188 = .ok (.ifCond .eq 5, 3) := by decide +kernel
theorem dL_law_191 : decode cL_law 191 = .ok (.iconst 0, 1) := by decide +kernel
theorem dL_law_192 : decode cL_law 192 = .ok (.ireturn, 1) := by decide +kernel
theorem dL_law_193 : decode cL_law 193 = .ok (.goto 1004, 3) := by decide +kernel
theorem dL_law_196 : decode cL_law 196 = .ok (.aload_n 1, 1) := by decide +kernel
theorem dL_law_197 : decode cL_law 197 = .ok (.aload_n 0, 1) := by decide +kernel
theorem dL_law_198 : decode cL_law 198 = .ok (.iload 4, 2) := by decide +kernel
theorem dL_law_200 : decode cL_law 200 = .ok (.iconst 1, 1) := by decide +kernel
theorem dL_law_201 : decode cL_law 201 = .ok (.iadd, 1) := by decide +kernel
theorem dL_law_202 : decode cL_law 202 = .ok (.iaload, 1) := by decide +kernel
theorem dL_law_203 : decode cL_law 203 = .ok (.aload_n 0, 1) := by decide +kernel
theorem dL_law_204 : decode cL_law 204 = .ok (.iload 4, 2) := by decide +kernel
theorem dL_law_206 : decode cL_law 206 = .ok (.iconst 2, 1) := by decide +kernel
theorem dL_law_207 : decode cL_law 207 = .ok (.iadd, 1) := by decide +kernel
theorem dL_law_208 : decode cL_law 208 = .ok (.iaload, 1) := by decide +kernel
theorem dL_law_209 : decode cL_law 209 = .ok (.aload_n 3, 1) := by decide +kernel
theorem dL_law_210 : decode cL_law 210 = .ok (.invokestatic 81, 3) := by decide +kernel
theorem dL_law_213 : decode cL_law 213 = .ok (.istore 5, 2) := by decide +kernel
theorem dL_law_215 : decode cL_law 215 = .ok (.aload_n 2, 1) := by decide +kernel
theorem dL_law_216 : decode cL_law 216 = .ok (.aload_n 0, 1) := by decide +kernel
theorem dL_law_217 : decode cL_law 217 = .ok (.iload 4, 2) := by decide +kernel
theorem dL_law_219 : decode cL_law 219 = .ok (.iconst 1, 1) := by decide +kernel
theorem dL_law_220 : decode cL_law 220 = .ok (.iadd, 1) := by decide +kernel
theorem dL_law_221 : decode cL_law 221 = .ok (.iaload, 1) := by decide +kernel
theorem dL_law_222 : decode cL_law 222 = .ok (.aload_n 0, 1) := by decide +kernel
theorem dL_law_223 : decode cL_law 223 = .ok (.iload 4, 2) := by decide +kernel
theorem dL_law_225 : decode cL_law 225 = .ok (.iconst 2, 1) := by decide +kernel
theorem dL_law_226 : decode cL_law 226 = .ok (.iadd, 1) := by decide +kernel
theorem dL_law_227 : decode cL_law 227 = .ok (.iaload, 1) := by decide +kernel
theorem dL_law_228 : decode cL_law 228 = .ok (.invokevirtual 84, 3) := by decide +kernel
end
section
theorem dL_law_231 : decode cL_law 231 = .ok (.istore 6, 2) := by decide +kernel
theorem dL_law_233 : decode cL_law 233 = .ok (.aload_n 2, 1) := by decide +kernel
theorem dL_law_234 : decode cL_law 234 = .ok (.invokevirtual 78, 3) := by decide +kernel
theorem dL_law_237 : decode cL_law 237 = .ok (.iload 5, 2) := by decide +kernel
theorem dL_law_239 : decode cL_law 239 = .ok (.if_icmp .eq 5, 3) := by decide +kernel
theorem dL_law_242 : decode cL_law 242 = .ok (.iconst 0, 1) := by decide +kernel
theorem dL_law_243 : decode cL_law 243 = .ok (.ireturn, 1) := by decide +kernel
theorem dL_law_244 : decode cL_law 244 = .ok (.iload 5, 2) := by decide +kernel
theorem dL_law_246 : decode cL_law 246 = .ok (.ifCond .ne 15, 3) := by decide +kernel
theorem dL_law_249 : decode cL_law 249 = .ok (.aload_n 3, 1) := by decide +kernel
theorem dL_law_250 : decode cL_law 250 = .ok (.iconst 0, 1) := by decide +kernel
theorem dL_law_251 : decode cL_law 251 = .ok (.laload, 1) := by decide +kernel
theorem dL_law_252 : decode cL_law 252 = .ok (.iload 6, 2) := by decide +kernel
theorem dL_law_254 : decode cL_law 254 = .ok (.i2l, 1) := by decide +kernel
theorem dL_law_255 : decode cL_law 255 = .ok (.lcmp, 1) := by decide +kernel
theorem dL_law_256 : decode cL_law 256 = .ok (.ifCond .eq 5, 3) := by decide +kernel
theorem dL_law_259 : decode cL_law 259 = .ok (.iconst 0, 1) := by decide +kernel
theorem dL_law_260 : decode cL_law 260 = .ok (.ireturn, 1) := by decide +kernel
theorem dL_law_261 : decode cL_law 261 = .ok (.goto 936, 3) := by decide +kernel
theorem dL_law_264 : decode cL_law 264 = .ok (.aload_n 1, 1) := by decide +kernel
theorem dL_law_265 : decode cL_law 265 = .ok (.aload_n 0, 1) := by decide +kernel
theorem dL_law_266 : decode cL_law 266 = .ok (.iload 4, 2) := by decide +kernel
theorem dL_law_268 : decode cL_law 268 = .ok (.iconst 1, 1) := by decide +kernel
theorem dL_law_269 : decode cL_law 269 = .ok (.iadd, 1) := by decide +kernel
theorem dL_law_270 : decode cL_law 270 = .ok (.iaload, 1) := by decide +kernel
theorem dL_law_271 : decode cL_law 271 = .ok (.aload_n 0, 1) := by decide +kernel
theorem dL_law_272 : decode cL_law 272 = .ok (.iload 4, 2) := by decide +kernel
theorem dL_law_274 : decode cL_law 274 = .ok (.iconst 2, 1) := by decide +kernel
theorem dL_law_275 : decode cL_law 275 = .ok (.iadd, 1) := by decide +kernel
theorem dL_law_276 : decode cL_law 276 = .ok (.iaload, 1) := by decide +kernel
theorem dL_law_277 : decode cL_law 277 = .ok (.aload_n 3, 1) := by decide +kernel
theorem dL_law_278 : decode cL_law 278 = .ok (.invokestatic 85, 3) := by decide +kernel
theorem dL_law_281 : decode cL_law 281 = .ok (.istore 5, 2) := by decide +kernel
theorem dL_law_283 : decode cL_law 283 = .ok (.aload_n 2, 1) := by decide +kernel
theorem dL_law_284 : decode cL_law 284 = .ok (.aload_n 0, 1) := by decide +kernel
theorem dL_law_285 : decode cL_law 285 = .ok (.iload 4, 2) := by decide +kernel
theorem dL_law_287 : decode cL_law 287 = .ok (.iconst 1, 1) := by decide +kernel
theorem dL_law_288 : decode cL_law 288 = .ok (.iadd, 1) := by decide +kernel
theorem dL_law_289 : decode cL_law 289 = .ok (.iaload, 1) := by decide +kernel
theorem dL_law_290 : decode cL_law 290 = .ok (.aload_n 0, 1) := by decide +kernel
theorem dL_law_291 : decode cL_law 291 = .ok (.iload 4, 2) := by decide +kernel
theorem dL_law_293 : decode cL_law 293 = .ok (.iconst 2, 1) := by decide +kernel
theorem dL_law_294 : decode cL_law 294 = .ok (.iadd, 1) := by decide +kernel
theorem dL_law_295 : decode cL_law 295 = .ok (.iaload, 1) := by decide +kernel
theorem dL_law_296 : decode cL_law 296 = .ok (.invokevirtual 87, 3) := by decide +kernel
theorem dL_law_299 : decode cL_law 299 = .ok (.istore 6, 2) := by decide +kernel
theorem dL_law_301 : decode cL_law 301 = .ok (.aload_n 2, 1) := by decide +kernel
theorem dL_law_302 : decode cL_law 302 = .ok (.invokevirtual 78, 3) := by decide +kernel
theorem dL_law_305 : decode cL_law 305 = .ok (.iload 5, 2) := by decide +kernel
theorem dL_law_307 : decode cL_law 307 = .ok (.if_icmp .eq 5, 3) := by decide +kernel
theorem dL_law_310 : decode cL_law 310 = .ok (.iconst 0, 1) := by decide +kernel
theorem dL_law_311 : decode cL_law 311 = .ok (.ireturn, 1) := by decide +kernel
theorem dL_law_312 : decode cL_law 312 = .ok (.iload 5, 2) := by decide +kernel
theorem dL_law_314 : decode cL_law 314 = .ok (.ifCond .ne 15, 3) := by decide +kernel
theorem dL_law_317 : decode cL_law 317 = .ok (.aload_n 3, 1) := by decide +kernel
theorem dL_law_318 : decode cL_law 318 = .ok (.iconst 0, 1) := by decide +kernel
theorem dL_law_319 : decode cL_law 319 = .ok (.laload, 1) := by decide +kernel
theorem dL_law_320 : decode cL_law 320 = .ok (.iload 6, 2) := by decide +kernel
theorem dL_law_322 : decode cL_law 322 = .ok (.i2l, 1) := by decide +kernel
theorem dL_law_323 : decode cL_law 323 = .ok (.lcmp, 1) := by decide +kernel
theorem dL_law_324 : decode cL_law 324 = .ok (.ifCond .eq 5, 3) := by decide +kernel
theorem dL_law_327 : decode cL_law 327 = .ok (.iconst 0, 1) := by decide +kernel
theorem dL_law_328 : decode cL_law 328 = .ok (.ireturn, 1) := by decide +kernel
theorem dL_law_329 : decode cL_law 329 = .ok (.goto 868, 3) := by decide +kernel
theorem dL_law_332 : decode cL_law 332 = .ok (.aload_n 1, 1) := by decide +kernel
theorem dL_law_333 : decode cL_law 333 = .ok (.aload_n 0, 1) := by decide +kernel
theorem dL_law_334 : decode cL_law 334 = .ok (.iload 4, 2) := by decide +kernel
theorem dL_law_336 : decode cL_law 336 = .ok (.iconst 1, 1) := by decide +kernel
theorem dL_law_337 : decode cL_law 337 = .ok (.iadd, 1) := by decide +kernel
theorem dL_law_338 : decode cL_law 338 = .ok (.iaload, 1) := by decide +kernel
theorem dL_law_339 : decode cL_law 339 = .ok (.aload_n 0, 1) := by decide +kernel
theorem dL_law_340 : decode cL_law 340 = .ok (.iload 4, 2) := by decide +kernel
theorem dL_law_342 : decode cL_law 342 = .ok (.iconst 2, 1) := by decide +kernel
theorem dL_law_343 : decode cL_law 343 = .ok (.iadd, 1) := by decide +kernel
theorem dL_law_344 : decode cL_law 344 = .ok (.iaload, 1) := by decide +kernel
theorem dL_law_345 : decode cL_law 345 = .ok (.aload_n 0, 1) := by decide +kernel
theorem dL_law_346 : decode cL_law 346 = .ok (.iload 4, 2) := by decide +kernel
theorem dL_law_348 : decode cL_law 348 = .ok (.iconst 3, 1) := by decide +kernel
theorem dL_law_349 : decode cL_law 349 = .ok (.iadd, 1) := by decide +kernel
theorem dL_law_350 : decode cL_law 350 = .ok (.iaload, 1) := by decide +kernel
theorem dL_law_351 : decode cL_law 351 = .ok (.i2l, 1) := by decide +kernel
theorem dL_law_352 : decode cL_law 352 = .ok (.bipush 32, 2) := by decide +kernel
theorem dL_law_354 : decode cL_law 354 = .ok (.lshl, 1) := by decide +kernel
theorem dL_law_355 : decode cL_law 355 = .ok (.aload_n 0, 1) := by decide +kernel
theorem dL_law_356 : decode cL_law 356 = .ok (.iload 4, 2) := by decide +kernel
theorem dL_law_358 : decode cL_law 358 = .ok (.iconst 4, 1) := by decide +kernel
theorem dL_law_359 : decode cL_law 359 = .ok (.iadd, 1) := by decide +kernel
theorem dL_law_360 : decode cL_law 360 = .ok (.iaload, 1) := by decide +kernel
theorem dL_law_361 : decode cL_law 361 = .ok (.i2l, 1) := by decide +kernel
theorem dL_law_362 : decode cL_law 362 = .ok (.ldc2_w 88, 3) := by decide +kernel
theorem dL_law_365 : decode cL_law 365 = .ok (.land, 1) := by decide +kernel
theorem dL_law_366 : decode cL_law 366 = .ok (.lor, 1) := by decide +kernel
theorem dL_law_367 : decode cL_law 367 = .ok (.invokestatic 90, 3) := by decide +kernel
theorem dL_law_370 : decode cL_law 370 = .ok (.istore 5, 2) := by decide +kernel
theorem dL_law_372 : decode cL_law 372 = .ok (.aload_n 2, 1) := by decide +kernel
theorem dL_law_373 : decode cL_law 373 = .ok (.aload_n 0, 1) := by decide +kernel
theorem dL_law_374 : decode cL_law 374 = .ok (.iload 4, 2) := by decide +kernel
theorem dL_law_376 : decode cL_law 376 = .ok (.iconst 1, 1) := by decide +kernel
theorem dL_law_377 : decode cL_law 377 = .ok (.iadd, 1) := by decide +kernel
theorem dL_law_378 : decode cL_law 378 = .ok (.iaload, 1) := by decide +kernel
theorem dL_law_379 : decode cL_law 379 = .ok (.aload_n 0, 1) := by decide +kernel
theorem dL_law_380 : decode cL_law 380 = .ok (.iload 4, 2) := by decide +kernel
theorem dL_law_382 : decode cL_law 382 = .ok (.iconst 2, 1) := by decide +kernel
theorem dL_law_383 : decode cL_law 383 = .ok (.iadd, 1) := by decide +kernel
theorem dL_law_384 : decode cL_law 384 = .ok (.iaload, 1) := by decide +kernel
theorem dL_law_385 : decode cL_law 385 = .ok (.aload_n 0, 1) := by decide +kernel
theorem dL_law_386 : decode cL_law 386 = .ok (.iload 4, 2) := by decide +kernel
theorem dL_law_388 : decode cL_law 388 = .ok (.iconst 3, 1) := by decide +kernel
theorem dL_law_389 : decode cL_law 389 = .ok (.iadd, 1) := by decide +kernel
theorem dL_law_390 : decode cL_law 390 = .ok (.iaload, 1) := by decide +kernel
theorem dL_law_391 : decode cL_law 391 = .ok (.i2l, 1) := by decide +kernel
theorem dL_law_392 : decode cL_law 392 = .ok (.bipush 32, 2) := by decide +kernel
theorem dL_law_394 : decode cL_law 394 = .ok (.lshl, 1) := by decide +kernel
theorem dL_law_395 : decode cL_law 395 = .ok (.aload_n 0, 1) := by decide +kernel
theorem dL_law_396 : decode cL_law 396 = .ok (.iload 4, 2) := by decide +kernel
theorem dL_law_398 : decode cL_law 398 = .ok (.iconst 4, 1) := by decide +kernel
theorem dL_law_399 : decode cL_law 399 = .ok (.iadd, 1) := by decide +kernel
theorem dL_law_400 : decode cL_law 400 = .ok (.iaload, 1) := by decide +kernel
theorem dL_law_401 : decode cL_law 401 = .ok (.i2l, 1) := by decide +kernel
theorem dL_law_402 : decode cL_law 402 = .ok (.ldc2_w 88, 3) := by decide +kernel
theorem dL_law_405 : decode cL_law 405 = .ok (.land, 1) := by decide +kernel
theorem dL_law_406 : decode cL_law 406 = .ok (.lor, 1) := by decide +kernel
theorem dL_law_407 : decode cL_law 407 = .ok (.invokevirtual 93, 3) := by decide +kernel
theorem dL_law_410 : decode cL_law 410 = .ok (.aload_n 2, 1) := by decide +kernel
theorem dL_law_411 : decode cL_law 411 = .ok (.invokevirtual 78, 3) := by decide +kernel
theorem dL_law_414 : decode cL_law 414 = .ok (.iload 5, 2) := by decide +kernel
theorem dL_law_416 : decode cL_law 416 = .ok (.if_icmp .eq 5, 3) := by decide +kernel
theorem dL_law_419 : decode cL_law 419 = .ok (.iconst 0, 1) := by decide +kernel
theorem dL_law_420 : decode cL_law 420 = .ok (.ireturn, 1) := by decide +kernel
theorem dL_law_421 : decode cL_law 421 = .ok (.goto 776, 3) := by decide +kernel
theorem dL_law_424 : decode cL_law 424 = .ok (.aload_n 1, 1) := by decide +kernel
theorem dL_law_425 : decode cL_law 425 = .ok (.aload_n 0, 1) := by decide +kernel
theorem dL_law_426 : decode cL_law 426 = .ok (.iload 4, 2) := by decide +kernel
theorem dL_law_428 : decode cL_law 428 = .ok (.iconst 1, 1) := by decide +kernel
theorem dL_law_429 : decode cL_law 429 = .ok (.iadd, 1) := by decide +kernel
theorem dL_law_430 : decode cL_law 430 = .ok (.iaload, 1) := by decide +kernel
theorem dL_law_431 : decode cL_law 431 = .ok (.aload_n 0, 1) := by decide +kernel
theorem dL_law_432 : decode cL_law 432 = .ok (.iload 4, 2) := by decide +kernel
theorem dL_law_434 : decode cL_law 434 = .ok (.iconst 2, 1) := by decide +kernel
theorem dL_law_435 : decode cL_law 435 = .ok (.iadd, 1) := by decide +kernel
theorem dL_law_436 : decode cL_law 436 = .ok (.iaload, 1) := by decide +kernel
theorem dL_law_437 : decode cL_law 437 = .ok (.aload_n 0, 1) := by decide +kernel
theorem dL_law_438 : decode cL_law 438 = .ok (.iload 4, 2) := by decide +kernel
theorem dL_law_440 : decode cL_law 440 = .ok (.iconst 3, 1) := by decide +kernel
theorem dL_law_441 : decode cL_law 441 = .ok (.iadd, 1) := by decide +kernel
theorem dL_law_442 : decode cL_law 442 = .ok (.iaload, 1) := by decide +kernel
theorem dL_law_443 : decode cL_law 443 = .ok (.aload_n 0, 1) := by decide +kernel
theorem dL_law_444 : decode cL_law 444 = .ok (.iload 4, 2) := by decide +kernel
theorem dL_law_446 : decode cL_law 446 = .ok (.iconst 4, 1) := by decide +kernel
theorem dL_law_447 : decode cL_law 447 = .ok (.iadd, 1) := by decide +kernel
theorem dL_law_448 : decode cL_law 448 = .ok (.iaload, 1) := by decide +kernel
theorem dL_law_449 : decode cL_law 449 = .ok (.ifCond .eq 7, 3) := by decide +kernel
theorem dL_law_452 : decode cL_law 452 = .ok (.iconst 1, 1) := by decide +kernel
theorem dL_law_453 : decode cL_law 453 = .ok (.goto 4, 3) := by decide +kernel
theorem dL_law_456 : decode cL_law 456 = .ok (.iconst 0, 1) := by decide +kernel
theorem dL_law_457 : decode cL_law 457 = .ok (.aload_n 3, 1) := by decide +kernel
theorem dL_law_458 : decode cL_law 458 = .ok (.invokestatic 94, 3) := by decide +kernel
theorem dL_law_461 : decode cL_law 461 = .ok (.istore 5, 2) := by decide +kernel
theorem dL_law_463 : decode cL_law 463 = .ok (.aload_n 2, 1) := by decide +kernel
theorem dL_law_464 : decode cL_law 464 = .ok (.aload_n 0, 1) := by decide +kernel
theorem dL_law_465 : decode cL_law 465 = .ok (.iload 4, 2) := by decide +kernel
theorem dL_law_467 : decode cL_law 467 = .ok (.iconst 1, 1) := by decide +kernel
theorem dL_law_468 : decode cL_law 468 = .ok (.iadd, 1) := by decide +kernel
theorem dL_law_469 : decode cL_law 469 = .ok (.iaload, 1) := by decide +kernel
theorem dL_law_470 : decode cL_law 470 = .ok (.aload_n 0, 1) := by decide +kernel
theorem dL_law_471 : decode cL_law 471 = .ok (.iload 4, 2) := by decide +kernel
theorem dL_law_473 : decode cL_law 473 = .ok (.iconst 2, 1) := by decide +kernel
theorem dL_law_474 : decode cL_law 474 = .ok (.iadd, 1) := by decide +kernel
theorem dL_law_475 : decode cL_law 475 = .ok (.iaload, 1) := by decide +kernel
theorem dL_law_476 : decode cL_law 476 = .ok (.aload_n 0, 1) := by decide +kernel
theorem dL_law_477 : decode cL_law 477 = .ok (.iload 4, 2) := by decide +kernel
theorem dL_law_479 : decode cL_law 479 = .ok (.iconst 3, 1) := by decide +kernel
theorem dL_law_480 : decode cL_law 480 = .ok (.iadd, 1) := by decide +kernel
theorem dL_law_481 : decode cL_law 481 = .ok (.iaload, 1) := by decide +kernel
theorem dL_law_482 : decode cL_law 482 = .ok (.aload_n 0, 1) := by decide +kernel
theorem dL_law_483 : decode cL_law 483 = .ok (.iload 4, 2) := by decide +kernel
theorem dL_law_485 : decode cL_law 485 = .ok (.iconst 4, 1) := by decide +kernel
theorem dL_law_486 : decode cL_law 486 = .ok (.iadd, 1) := by decide +kernel
theorem dL_law_487 : decode cL_law 487 = .ok (.iaload, 1) := by decide +kernel
theorem dL_law_488 : decode cL_law 488 = .ok (.ifCond .eq 7, 3) := by decide +kernel
theorem dL_law_491 : decode cL_law 491 = .ok (.iconst 1, 1) := by decide +kernel
theorem dL_law_492 : decode cL_law 492 = .ok (.goto 4, 3) := by decide +kernel
theorem dL_law_495 : decode cL_law 495 = .ok (.iconst 0, 1) := by decide +kernel
theorem dL_law_496 : decode cL_law 496 = .ok (.invokevirtual 97, 3) := by decide +kernel
theorem dL_law_499 : decode cL_law 499 = .ok (.istore 6, 2) := by decide +kernel
theorem dL_law_501 : decode cL_law 501 = .ok (.aload_n 2, 1) := by decide +kernel
theorem dL_law_502 : decode cL_law 502 = .ok (.invokevirtual 78, 3) := by decide +kernel
theorem dL_law_505 : decode cL_law 505 = .ok (.iload 5, 2) := by decide +kernel
theorem dL_law_507 : decode cL_law 507 = .ok (.if_icmp .eq 5, 3) := by decide +kernel
theorem dL_law_510 : decode cL_law 510 = .ok (.iconst 0, 1) := by decide +kernel
theorem dL_law_511 : decode cL_law 511 = .ok (.ireturn, 1) := by decide +kernel
theorem dL_law_512 : decode cL_law 512 = .ok (.iload 5, 2) := by decide +kernel
theorem dL_law_514 : decode cL_law 514 = .ok (.ifCond .ne 22, 3) := by decide +kernel
theorem dL_law_517 : decode cL_law 517 = .ok (.aload_n 3, 1) := by decide +kernel
theorem dL_law_518 : decode cL_law 518 = .ok (.iconst 0, 1) := by decide +kernel
theorem dL_law_519 : decode cL_law 519 = .ok (.laload, 1) := by decide +kernel
theorem dL_law_520 : decode cL_law 520 = .ok (.iload 6, 2) := by decide +kernel
theorem dL_law_522 : decode cL_law 522 = .ok (.ifCond .eq 7, 3) := by decide +kernel
theorem dL_law_525 : decode cL_law 525 = .ok (.lconst 1, 1) := by decide +kernel
theorem dL_law_526 : decode cL_law 526 = .ok (.goto 4, 3) := by decide +kernel
theorem dL_law_529 : decode cL_law 529 = .ok (.lconst 0, 1) := by decide +kernel
theorem dL_law_530 : decode cL_law 530 = .ok (.lcmp, 1) := by decide +kernel
theorem dL_law_531 : decode cL_law 531 = .ok (.ifCond .eq 5, 3) := by decide +kernel
theorem dL_law_534 : decode cL_law 534 = .ok (.iconst 0, 1) := by decide +kernel
theorem dL_law_535 : decode cL_law 535 = .ok (.ireturn, 1) := by decide +kernel
theorem dL_law_536 : decode cL_law 536 = .ok (.goto 661, 3) := by decide +kernel
theorem dL_law_539 : decode cL_law 539 = .ok (.aload_n 1, 1) := by decide +kernel
theorem dL_law_540 : decode cL_law 540 = .ok (.aload_n 0, 1) := by decide +kernel
theorem dL_law_541 : decode cL_law 541 = .ok (.iload 4, 2) := by decide +kernel
theorem dL_law_543 : decode cL_law 543 = .ok (.iconst 1, 1) := by decide +kernel
theorem dL_law_544 : decode cL_law 544 = .ok (.iadd, 1) := by decide +kernel
theorem dL_law_545 : decode cL_law 545 = .ok (.iaload, 1) := by decide +kernel
theorem dL_law_546 : decode cL_law 546 = .ok (.aload_n 0, 1) := by decide +kernel
theorem dL_law_547 : decode cL_law 547 = .ok (.iload 4, 2) := by decide +kernel
theorem dL_law_549 : decode cL_law 549 = .ok (.iconst 2, 1) := by decide +kernel
theorem dL_law_550 : decode cL_law 550 = .ok (.iadd, 1) := by decide +kernel
theorem dL_law_551 : decode cL_law 551 = .ok (.iaload, 1) := by decide +kernel
theorem dL_law_552 : decode cL_law 552 = .ok (.aload_n 3, 1) := by decide +kernel
theorem dL_law_553 : decode cL_law 553 = .ok (.invokestatic 98, 3) := by decide +kernel
theorem dL_law_556 : decode cL_law 556 = .ok (.istore 5, 2) := by decide +kernel
theorem dL_law_558 : decode cL_law 558 = .ok (.aload_n 2, 1) := by decide +kernel
theorem dL_law_559 : decode cL_law 559 = .ok (.aload_n 0, 1) := by decide +kernel
theorem dL_law_560 : decode cL_law 560 = .ok (.iload 4, 2) := by decide +kernel
theorem dL_law_562 : decode cL_law 562 = .ok (.iconst 1, 1) := by decide +kernel
theorem dL_law_563 : decode cL_law 563 = .ok (.iadd, 1) := by decide +kernel
theorem dL_law_564 : decode cL_law 564 = .ok (.iaload, 1) := by decide +kernel
theorem dL_law_565 : decode cL_law 565 = .ok (.aload_n 0, 1) := by decide +kernel
theorem dL_law_566 : decode cL_law 566 = .ok (.iload 4, 2) := by decide +kernel
theorem dL_law_568 : decode cL_law 568 = .ok (.iconst 2, 1) := by decide +kernel
theorem dL_law_569 : decode cL_law 569 = .ok (.iadd, 1) := by decide +kernel
theorem dL_law_570 : decode cL_law 570 = .ok (.iaload, 1) := by decide +kernel
theorem dL_law_571 : decode cL_law 571 = .ok (.invokevirtual 100, 3) := by decide +kernel
theorem dL_law_574 : decode cL_law 574 = .ok (.istore 6, 2) := by decide +kernel
theorem dL_law_576 : decode cL_law 576 = .ok (.aload_n 2, 1) := by decide +kernel
theorem dL_law_577 : decode cL_law 577 = .ok (.invokevirtual 78, 3) := by decide +kernel
theorem dL_law_580 : decode cL_law 580 = .ok (.iload 5, 2) := by decide +kernel
theorem dL_law_582 : decode cL_law 582 = .ok (.if_icmp .eq 5, 3) := by decide +kernel
theorem dL_law_585 : decode cL_law 585 = .ok (.iconst 0, 1) := by decide +kernel
theorem dL_law_586 : decode cL_law 586 = .ok (.ireturn, 1) := by decide +kernel
theorem dL_law_587 : decode cL_law 587 = .ok (.iload 5, 2) := by decide +kernel
theorem dL_law_589 : decode cL_law 589 = .ok (.ifCond .ne 22, 3) := by decide +kernel
theorem dL_law_592 : decode cL_law 592 = .ok (.aload_n 3, 1) := by decide +kernel
theorem dL_law_593 : decode cL_law 593 = .ok (.iconst 0, 1) := by decide +kernel
theorem dL_law_594 : decode cL_law 594 = .ok (.laload, 1) := by decide +kernel
theorem dL_law_595 : decode cL_law 595 = .ok (.iload 6, 2) := by decide +kernel
theorem dL_law_597 : decode cL_law 597 = .ok (.ifCond .eq 7, 3) := by decide +kernel
theorem dL_law_600 : decode cL_law 600 = .ok (.lconst 1, 1) := by decide +kernel
theorem dL_law_601 : decode cL_law 601 = .ok (.goto 4, 3) := by decide +kernel
theorem dL_law_604 : decode cL_law 604 = .ok (.lconst 0, 1) := by decide +kernel
theorem dL_law_605 : decode cL_law 605 = .ok (.lcmp, 1) := by decide +kernel
theorem dL_law_606 : decode cL_law 606 = .ok (.ifCond .eq 5, 3) := by decide +kernel
theorem dL_law_609 : decode cL_law 609 = .ok (.iconst 0, 1) := by decide +kernel
theorem dL_law_610 : decode cL_law 610 = .ok (.ireturn, 1) := by decide +kernel
theorem dL_law_611 : decode cL_law 611 = .ok (.goto 586, 3) := by decide +kernel
theorem dL_law_614 : decode cL_law 614 = .ok (.aload_n 1, 1) := by decide +kernel
theorem dL_law_615 : decode cL_law 615 = .ok (.aload_n 0, 1) := by decide +kernel
theorem dL_law_616 : decode cL_law 616 = .ok (.iload 4, 2) := by decide +kernel
theorem dL_law_618 : decode cL_law 618 = .ok (.iconst 1, 1) := by decide +kernel
theorem dL_law_619 : decode cL_law 619 = .ok (.iadd, 1) := by decide +kernel
theorem dL_law_620 : decode cL_law 620 = .ok (.iaload, 1) := by decide +kernel
theorem dL_law_621 : decode cL_law 621 = .ok (.aload_n 0, 1) := by decide +kernel
theorem dL_law_622 : decode cL_law 622 = .ok (.iload 4, 2) := by decide +kernel
theorem dL_law_624 : decode cL_law 624 = .ok (.iconst 2, 1) := by decide +kernel
theorem dL_law_625 : decode cL_law 625 = .ok (.iadd, 1) := by decide +kernel
theorem dL_law_626 : decode cL_law 626 = .ok (.iaload, 1) := by decide +kernel
theorem dL_law_627 : decode cL_law 627 = .ok (.aload_n 0, 1) := by decide +kernel
theorem dL_law_628 : decode cL_law 628 = .ok (.iload 4, 2) := by decide +kernel
theorem dL_law_630 : decode cL_law 630 = .ok (.iconst 3, 1) := by decide +kernel
theorem dL_law_631 : decode cL_law 631 = .ok (.iadd, 1) := by decide +kernel
theorem dL_law_632 : decode cL_law 632 = .ok (.iaload, 1) := by decide +kernel
theorem dL_law_633 : decode cL_law 633 = .ok (.aload_n 0, 1) := by decide +kernel
theorem dL_law_634 : decode cL_law 634 = .ok (.iload 4, 2) := by decide +kernel
theorem dL_law_636 : decode cL_law 636 = .ok (.iconst 4, 1) := by decide +kernel
theorem dL_law_637 : decode cL_law 637 = .ok (.iadd, 1) := by decide +kernel
theorem dL_law_638 : decode cL_law 638 = .ok (.iaload, 1) := by decide +kernel
theorem dL_law_639 : decode cL_law 639 = .ok (.aload_n 0, 1) := by decide +kernel
theorem dL_law_640 : decode cL_law 640 = .ok (.iload 4, 2) := by decide +kernel
theorem dL_law_642 : decode cL_law 642 = .ok (.iconst 5, 1) := by decide +kernel
theorem dL_law_643 : decode cL_law 643 = .ok (.iadd, 1) := by decide +kernel
theorem dL_law_644 : decode cL_law 644 = .ok (.iaload, 1) := by decide +kernel
theorem dL_law_645 : decode cL_law 645 = .ok (.aload_n 3, 1) := by decide +kernel
theorem dL_law_646 : decode cL_law 646 = .ok (.invokestatic 101, 3) := by decide +kernel
theorem dL_law_649 : decode cL_law 649 = .ok (.istore 5, 2) := by decide +kernel
theorem dL_law_651 : decode cL_law 651 = .ok (.aload_n 2, 1) := by decide +kernel
theorem dL_law_652 : decode cL_law 652 = .ok (.aload_n 0, 1) := by decide +kernel
theorem dL_law_653 : decode cL_law 653 = .ok (.iload 4, 2) := by decide +kernel
theorem dL_law_655 : decode cL_law 655 = .ok (.iconst 1, 1) := by decide +kernel
theorem dL_law_656 : decode cL_law 656 = .ok (.iadd, 1) := by decide +kernel
theorem dL_law_657 : decode cL_law 657 = .ok (.iaload, 1) := by decide +kernel
theorem dL_law_658 : decode cL_law 658 = .ok (.aload_n 0, 1) := by decide +kernel
theorem dL_law_659 : decode cL_law 659 = .ok (.iload 4, 2) := by decide +kernel
theorem dL_law_661 : decode cL_law 661 = .ok (.iconst 2, 1) := by decide +kernel
theorem dL_law_662 : decode cL_law 662 = .ok (.iadd, 1) := by decide +kernel
theorem dL_law_663 : decode cL_law 663 = .ok (.iaload, 1) := by decide +kernel
theorem dL_law_664 : decode cL_law 664 = .ok (.aload_n 0, 1) := by decide +kernel
theorem dL_law_665 : decode cL_law 665 = .ok (.iload 4, 2) := by decide +kernel
theorem dL_law_667 : decode cL_law 667 = .ok (.iconst 3, 1) := by decide +kernel
theorem dL_law_668 : decode cL_law 668 = .ok (.iadd, 1) := by decide +kernel
theorem dL_law_669 : decode cL_law 669 = .ok (.iaload, 1) := by decide +kernel
theorem dL_law_670 : decode cL_law 670 = .ok (.aload_n 0, 1) := by decide +kernel
theorem dL_law_671 : decode cL_law 671 = .ok (.iload 4, 2) := by decide +kernel
theorem dL_law_673 : decode cL_law 673 = .ok (.iconst 4, 1) := by decide +kernel
theorem dL_law_674 : decode cL_law 674 = .ok (.iadd, 1) := by decide +kernel
theorem dL_law_675 : decode cL_law 675 = .ok (.iaload, 1) := by decide +kernel
theorem dL_law_676 : decode cL_law 676 = .ok (.aload_n 0, 1) := by decide +kernel
theorem dL_law_677 : decode cL_law 677 = .ok (.iload 4, 2) := by decide +kernel
theorem dL_law_679 : decode cL_law 679 = .ok (.iconst 5, 1) := by decide +kernel
theorem dL_law_680 : decode cL_law 680 = .ok (.iadd, 1) := by decide +kernel
theorem dL_law_681 : decode cL_law 681 = .ok (.iaload, 1) := by decide +kernel
theorem dL_law_682 : decode cL_law 682 = .ok (.invokevirtual 104, 3) := by decide +kernel
theorem dL_law_685 : decode cL_law 685 = .ok (.istore 6, 2) := by decide +kernel
theorem dL_law_687 : decode cL_law 687 = .ok (.aload_n 2, 1) := by decide +kernel
theorem dL_law_688 : decode cL_law 688 = .ok (.invokevirtual 78, 3) := by decide +kernel
theorem dL_law_691 : decode cL_law 691 = .ok (.iload 5, 2) := by decide +kernel
theorem dL_law_693 : decode cL_law 693 = .ok (.if_icmp .eq 5, 3) := by decide +kernel
theorem dL_law_696 : decode cL_law 696 = .ok (.iconst 0, 1) := by decide +kernel
theorem dL_law_697 : decode cL_law 697 = .ok (.ireturn, 1) := by decide +kernel
theorem dL_law_698 : decode cL_law 698 = .ok (.iload 5, 2) := by decide +kernel
theorem dL_law_700 : decode cL_law 700 = .ok (.ifCond .ne 15, 3) := by decide +kernel
theorem dL_law_703 : decode cL_law 703 = .ok (.aload_n 3, 1) := by decide +kernel
theorem dL_law_704 : decode cL_law 704 = .ok (.iconst 0, 1) := by decide +kernel
theorem dL_law_705 : decode cL_law 705 = .ok (.laload, 1) := by decide +kernel
theorem dL_law_706 : decode cL_law 706 = .ok (.iload 6, 2) := by decide +kernel
theorem dL_law_708 : decode cL_law 708 = .ok (.i2l, 1) := by decide +kernel
theorem dL_law_709 : decode cL_law 709 = .ok (.lcmp, 1) := by decide +kernel
theorem dL_law_710 : decode cL_law 710 = .ok (.ifCond .eq 5, 3) := by decide +kernel
theorem dL_law_713 : decode cL_law 713 = .ok (.iconst 0, 1) := by decide +kernel
theorem dL_law_714 : decode cL_law 714 = .ok (.ireturn, 1) := by decide +kernel
theorem dL_law_715 : decode cL_law 715 = .ok (.goto 482, 3) := by decide +kernel
theorem dL_law_718 : decode cL_law 718 = .ok (.aload_n 1, 1) := by decide +kernel
theorem dL_law_719 : decode cL_law 719 = .ok (.aload_n 0, 1) := by decide +kernel
theorem dL_law_720 : decode cL_law 720 = .ok (.iload 4, 2) := by decide +kernel
theorem dL_law_722 : decode cL_law 722 = .ok (.iconst 1, 1) := by decide +kernel
theorem dL_law_723 : decode cL_law 723 = .ok (.iadd, 1) := by decide +kernel
theorem dL_law_724 : decode cL_law 724 = .ok (.iaload, 1) := by decide +kernel
theorem dL_law_725 : decode cL_law 725 = .ok (.aload_n 0, 1) := by decide +kernel
theorem dL_law_726 : decode cL_law 726 = .ok (.iload 4, 2) := by decide +kernel
theorem dL_law_728 : decode cL_law 728 = .ok (.iconst 2, 1) := by decide +kernel
theorem dL_law_729 : decode cL_law 729 = .ok (.iadd, 1) := by decide +kernel
theorem dL_law_730 : decode cL_law 730 = .ok (.iaload, 1) := by decide +kernel
theorem dL_law_731 : decode cL_law 731 = .ok (.aload_n 0, 1) := by decide +kernel
theorem dL_law_732 : decode cL_law 732 = .ok (.iload 4, 2) := by decide +kernel
theorem dL_law_734 : decode cL_law 734 = .ok (.iconst 3, 1) := by decide +kernel
theorem dL_law_735 : decode cL_law 735 = .ok (.iadd, 1) := by decide +kernel
theorem dL_law_736 : decode cL_law 736 = .ok (.iaload, 1) := by decide +kernel
theorem dL_law_737 : decode cL_law 737 = .ok (.aload_n 0, 1) := by decide +kernel
theorem dL_law_738 : decode cL_law 738 = .ok (.iload 4, 2) := by decide +kernel
theorem dL_law_740 : decode cL_law 740 = .ok (.iconst 4, 1) := by decide +kernel
theorem dL_law_741 : decode cL_law 741 = .ok (.iadd, 1) := by decide +kernel
theorem dL_law_742 : decode cL_law 742 = .ok (.iaload, 1) := by decide +kernel
theorem dL_law_743 : decode cL_law 743 = .ok (.aload_n 0, 1) := by decide +kernel
theorem dL_law_744 : decode cL_law 744 = .ok (.iload 4, 2) := by decide +kernel
theorem dL_law_746 : decode cL_law 746 = .ok (.iconst 5, 1) := by decide +kernel
theorem dL_law_747 : decode cL_law 747 = .ok (.iadd, 1) := by decide +kernel
theorem dL_law_748 : decode cL_law 748 = .ok (.iaload, 1) := by decide +kernel
theorem dL_law_749 : decode cL_law 749 = .ok (.aload_n 3, 1) := by decide +kernel
theorem dL_law_750 : decode cL_law 750 = .ok (.invokestatic 105, 3) := by decide +kernel
theorem dL_law_753 : decode cL_law 753 = .ok (.istore 5, 2) := by decide +kernel
theorem dL_law_755 : decode cL_law 755 = .ok (.aload_n 2, 1) := by decide +kernel
theorem dL_law_756 : decode cL_law 756 = .ok (.aload_n 0, 1) := by decide +kernel
theorem dL_law_757 : decode cL_law 757 = .ok (.iload 4, 2) := by decide +kernel
theorem dL_law_759 : decode cL_law 759 = .ok (.iconst 1, 1) := by decide +kernel
theorem dL_law_760 : decode cL_law 760 = .ok (.iadd, 1) := by decide +kernel
theorem dL_law_761 : decode cL_law 761 = .ok (.iaload, 1) := by decide +kernel
theorem dL_law_762 : decode cL_law 762 = .ok (.aload_n 0, 1) := by decide +kernel
theorem dL_law_763 : decode cL_law 763 = .ok (.iload 4, 2) := by decide +kernel
theorem dL_law_765 : decode cL_law 765 = .ok (.iconst 2, 1) := by decide +kernel
theorem dL_law_766 : decode cL_law 766 = .ok (.iadd, 1) := by decide +kernel
theorem dL_law_767 : decode cL_law 767 = .ok (.iaload, 1) := by decide +kernel
theorem dL_law_768 : decode cL_law 768 = .ok (.aload_n 0, 1) := by decide +kernel
theorem dL_law_769 : decode cL_law 769 = .ok (.iload 4, 2) := by decide +kernel
theorem dL_law_771 : decode cL_law 771 = .ok (.iconst 3, 1) := by decide +kernel
theorem dL_law_772 : decode cL_law 772 = .ok (.iadd, 1) := by decide +kernel
theorem dL_law_773 : decode cL_law 773 = .ok (.iaload, 1) := by decide +kernel
theorem dL_law_774 : decode cL_law 774 = .ok (.aload_n 0, 1) := by decide +kernel
theorem dL_law_775 : decode cL_law 775 = .ok (.iload 4, 2) := by decide +kernel
theorem dL_law_777 : decode cL_law 777 = .ok (.iconst 4, 1) := by decide +kernel
theorem dL_law_778 : decode cL_law 778 = .ok (.iadd, 1) := by decide +kernel
theorem dL_law_779 : decode cL_law 779 = .ok (.iaload, 1) := by decide +kernel
theorem dL_law_780 : decode cL_law 780 = .ok (.aload_n 0, 1) := by decide +kernel
theorem dL_law_781 : decode cL_law 781 = .ok (.iload 4, 2) := by decide +kernel
theorem dL_law_783 : decode cL_law 783 = .ok (.iconst 5, 1) := by decide +kernel
theorem dL_law_784 : decode cL_law 784 = .ok (.iadd, 1) := by decide +kernel
theorem dL_law_785 : decode cL_law 785 = .ok (.iaload, 1) := by decide +kernel
theorem dL_law_786 : decode cL_law 786 = .ok (.invokevirtual 107, 3) := by decide +kernel
theorem dL_law_789 : decode cL_law 789 = .ok (.istore 6, 2) := by decide +kernel
theorem dL_law_791 : decode cL_law 791 = .ok (.aload_n 2, 1) := by decide +kernel
theorem dL_law_792 : decode cL_law 792 = .ok (.invokevirtual 78, 3) := by decide +kernel
theorem dL_law_795 : decode cL_law 795 = .ok (.iload 5, 2) := by decide +kernel
theorem dL_law_797 : decode cL_law 797 = .ok (.if_icmp .eq 5, 3) := by decide +kernel
theorem dL_law_800 : decode cL_law 800 = .ok (.iconst 0, 1) := by decide +kernel
theorem dL_law_801 : decode cL_law 801 = .ok (.ireturn, 1) := by decide +kernel
theorem dL_law_802 : decode cL_law 802 = .ok (.iload 5, 2) := by decide +kernel
theorem dL_law_804 : decode cL_law 804 = .ok (.ifCond .ne 15, 3) := by decide +kernel
theorem dL_law_807 : decode cL_law 807 = .ok (.aload_n 3, 1) := by decide +kernel
theorem dL_law_808 : decode cL_law 808 = .ok (.iconst 0, 1) := by decide +kernel
theorem dL_law_809 : decode cL_law 809 = .ok (.laload, 1) := by decide +kernel
theorem dL_law_810 : decode cL_law 810 = .ok (.iload 6, 2) := by decide +kernel
theorem dL_law_812 : decode cL_law 812 = .ok (.i2l, 1) := by decide +kernel
theorem dL_law_813 : decode cL_law 813 = .ok (.lcmp, 1) := by decide +kernel
theorem dL_law_814 : decode cL_law 814 = .ok (.ifCond .eq 5, 3) := by decide +kernel
theorem dL_law_817 : decode cL_law 817 = .ok (.iconst 0, 1) := by decide +kernel
theorem dL_law_818 : decode cL_law 818 = .ok (.ireturn, 1) := by decide +kernel
theorem dL_law_819 : decode cL_law 819 = .ok (.goto 378, 3) := by decide +kernel
theorem dL_law_822 : decode cL_law 822 = .ok (.aload_n 1, 1) := by decide +kernel
theorem dL_law_823 : decode cL_law 823 = .ok (.aload_n 0, 1) := by decide +kernel
theorem dL_law_824 : decode cL_law 824 = .ok (.iload 4, 2) := by decide +kernel
theorem dL_law_826 : decode cL_law 826 = .ok (.iconst 1, 1) := by decide +kernel
theorem dL_law_827 : decode cL_law 827 = .ok (.iadd, 1) := by decide +kernel
theorem dL_law_828 : decode cL_law 828 = .ok (.iaload, 1) := by decide +kernel
theorem dL_law_829 : decode cL_law 829 = .ok (.ifCond .eq 7, 3) := by decide +kernel
theorem dL_law_832 : decode cL_law 832 = .ok (.iconst 1, 1) := by decide +kernel
theorem dL_law_833 : decode cL_law 833 = .ok (.goto 4, 3) := by decide +kernel
theorem dL_law_836 : decode cL_law 836 = .ok (.iconst 0, 1) := by decide +kernel
theorem dL_law_837 : decode cL_law 837 = .ok (.aload_n 3, 1) := by decide +kernel
theorem dL_law_838 : decode cL_law 838 = .ok (.invokestatic 108, 3) := by decide +kernel
theorem dL_law_841 : decode cL_law 841 = .ok (.istore 5, 2) := by decide +kernel
theorem dL_law_843 : decode cL_law 843 = .ok (.aload_n 2, 1) := by decide +kernel
theorem dL_law_844 : decode cL_law 844 = .ok (.aload_n 0, 1) := by decide +kernel
theorem dL_law_845 : decode cL_law 845 = .ok (.iload 4, 2) := by decide +kernel
theorem dL_law_847 : decode cL_law 847 = .ok (.iconst 1, 1) := by decide +kernel
theorem dL_law_848 : decode cL_law 848 = .ok (.iadd, 1) := by decide +kernel
theorem dL_law_849 : decode cL_law 849 = .ok (.iaload, 1) := by decide +kernel
theorem dL_law_850 : decode cL_law 850 = .ok (.ifCond .eq 7, 3) := by decide +kernel
theorem dL_law_853 : decode cL_law 853 = .ok (.iconst 1, 1) := by decide +kernel
theorem dL_law_854 : decode cL_law 854 = .ok (.goto 4, 3) := by decide +kernel
theorem dL_law_857 : decode cL_law 857 = .ok (.iconst 0, 1) := by decide +kernel
theorem dL_law_858 : decode cL_law 858 = .ok (.invokevirtual 111, 3) := by decide +kernel
theorem dL_law_861 : decode cL_law 861 = .ok (.istore 6, 2) := by decide +kernel
theorem dL_law_863 : decode cL_law 863 = .ok (.aload_n 2, 1) := by decide +kernel
theorem dL_law_864 : decode cL_law 864 = .ok (.invokevirtual 78, 3) := by decide +kernel
theorem dL_law_867 : decode cL_law 867 = .ok (.iload 5, 2) := by decide +kernel
theorem dL_law_869 : decode cL_law 869 = .ok (.if_icmp .eq 5, 3) := by decide +kernel
theorem dL_law_872 : decode cL_law 872 = .ok (.iconst 0, 1) := by decide +kernel
theorem dL_law_873 : decode cL_law 873 = .ok (.ireturn, 1) := by decide +kernel
theorem dL_law_874 : decode cL_law 874 = .ok (.iload 5, 2) := by decide +kernel
theorem dL_law_876 : decode cL_law 876 = .ok (.ifCond .ne 15, 3) := by decide +kernel
theorem dL_law_879 : decode cL_law 879 = .ok (.aload_n 3, 1) := by decide +kernel
theorem dL_law_880 : decode cL_law 880 = .ok (.iconst 0, 1) := by decide +kernel
theorem dL_law_881 : decode cL_law 881 = .ok (.laload, 1) := by decide +kernel
theorem dL_law_882 : decode cL_law 882 = .ok (.iload 6, 2) := by decide +kernel
theorem dL_law_884 : decode cL_law 884 = .ok (.i2l, 1) := by decide +kernel
theorem dL_law_885 : decode cL_law 885 = .ok (.lcmp, 1) := by decide +kernel
theorem dL_law_886 : decode cL_law 886 = .ok (.ifCond .eq 5, 3) := by decide +kernel
theorem dL_law_889 : decode cL_law 889 = .ok (.iconst 0, 1) := by decide +kernel
theorem dL_law_890 : decode cL_law 890 = .ok (.ireturn, 1) := by decide +kernel
theorem dL_law_891 : decode cL_law 891 = .ok (.goto 306, 3) := by decide +kernel
theorem dL_law_894 : decode cL_law 894 = .ok (.aload_n 1, 1) := by decide +kernel
theorem dL_law_895 : decode cL_law 895 = .ok (.invokevirtual 112, 3) := by decide +kernel
theorem dL_law_898 : decode cL_law 898 = .ok (.aload_n 2, 1) := by decide +kernel
theorem dL_law_899 : decode cL_law 899 = .ok (.invokevirtual 115, 3) := by decide +kernel
theorem dL_law_902 : decode cL_law 902 = .ok (.if_icmp .eq 295, 3) := by decide +kernel
theorem dL_law_905 : decode cL_law 905 = .ok (.iconst 0, 1) := by decide +kernel
theorem dL_law_906 : decode cL_law 906 = .ok (.ireturn, 1) := by decide +kernel
theorem dL_law_907 : decode cL_law 907 = .ok (.aload_n 1, 1) := by decide +kernel
theorem dL_law_908 : decode cL_law 908 = .ok (.aload_n 3, 1) := by decide +kernel
theorem dL_law_909 : decode cL_law 909 = .ok (.invokestatic 116, 3) := by decide +kernel
theorem dL_law_912 : decode cL_law 912 = .ok (.istore 5, 2) := by decide +kernel
theorem dL_law_914 : decode cL_law 914 = .ok (.aload_n 2, 1) := by decide +kernel
theorem dL_law_915 : decode cL_law 915 = .ok (.invokevirtual 119, 3) := by decide +kernel
theorem dL_law_918 : decode cL_law 918 = .ok (.istore 6, 2) := by decide +kernel
theorem dL_law_920 : decode cL_law 920 = .ok (.aload_n 2, 1) := by decide +kernel
theorem dL_law_921 : decode cL_law 921 = .ok (.invokevirtual 78, 3) := by decide +kernel
theorem dL_law_924 : decode cL_law 924 = .ok (.iload 5, 2) := by decide +kernel
theorem dL_law_926 : decode cL_law 926 = .ok (.if_icmp .eq 5, 3) := by decide +kernel
theorem dL_law_929 : decode cL_law 929 = .ok (.iconst 0, 1) := by decide +kernel
theorem dL_law_930 : decode cL_law 930 = .ok (.ireturn, 1) := by decide +kernel
theorem dL_law_931 : decode cL_law 931 = .ok (.iload 5, 2) := by decide +kernel
theorem dL_law_933 : decode cL_law 933 = .ok (.ifCond .ne 15, 3) := by decide +kernel
theorem dL_law_936 : decode cL_law 936 = .ok (.aload_n 3, 1) := by decide +kernel
theorem dL_law_937 : decode cL_law 937 = .ok (.iconst 0, 1) := by decide +kernel
theorem dL_law_938 : decode cL_law 938 = .ok (.laload, 1) := by decide +kernel
theorem dL_law_939 : decode cL_law 939 = .ok (.iload 6, 2) := by decide +kernel
theorem dL_law_941 : decode cL_law 941 = .ok (.i2l, 1) := by decide +kernel
theorem dL_law_942 : decode cL_law 942 = .ok (.lcmp, 1) := by decide +kernel
theorem dL_law_943 : decode cL_law 943 = .ok (.ifCond .eq 5, 3) := by decide +kernel
theorem dL_law_946 : decode cL_law 946 = .ok (.iconst 0, 1) := by decide +kernel
theorem dL_law_947 : decode cL_law 947 = .ok (.ireturn, 1) := by decide +kernel
theorem dL_law_948 : decode cL_law 948 = .ok (.goto 249, 3) := by decide +kernel
theorem dL_law_951 : decode cL_law 951 = .ok (.aload_n 1, 1) := by decide +kernel
theorem dL_law_952 : decode cL_law 952 = .ok (.aload_n 0, 1) := by decide +kernel
theorem dL_law_953 : decode cL_law 953 = .ok (.iload 4, 2) := by decide +kernel
theorem dL_law_955 : decode cL_law 955 = .ok (.iconst 1, 1) := by decide +kernel
theorem dL_law_956 : decode cL_law 956 = .ok (.iadd, 1) := by decide +kernel
theorem dL_law_957 : decode cL_law 957 = .ok (.iaload, 1) := by decide +kernel
theorem dL_law_958 : decode cL_law 958 = .ok (.aload_n 0, 1) := by decide +kernel
theorem dL_law_959 : decode cL_law 959 = .ok (.iload 4, 2) := by decide +kernel
theorem dL_law_961 : decode cL_law 961 = .ok (.iconst 2, 1) := by decide +kernel
theorem dL_law_962 : decode cL_law 962 = .ok (.iadd, 1) := by decide +kernel
theorem dL_law_963 : decode cL_law 963 = .ok (.iaload, 1) := by decide +kernel
theorem dL_law_964 : decode cL_law 964 = .ok (.aload_n 3, 1) := by decide +kernel
theorem dL_law_965 : decode cL_law 965 = .ok (.invokestatic 120, 3) := by decide +kernel
theorem dL_law_968 : decode cL_law 968 = .ok (.istore 5, 2) := by decide +kernel
theorem dL_law_970 : decode cL_law 970 = .ok (.aload_n 2, 1) := by decide +kernel
theorem dL_law_971 : decode cL_law 971 = .ok (.aload_n 0, 1) := by decide +kernel
theorem dL_law_972 : decode cL_law 972 = .ok (.iload 4, 2) := by decide +kernel
theorem dL_law_974 : decode cL_law 974 = .ok (.iconst 1, 1) := by decide +kernel
theorem dL_law_975 : decode cL_law 975 = .ok (.iadd, 1) := by decide +kernel
theorem dL_law_976 : decode cL_law 976 = .ok (.iaload, 1) := by decide +kernel
theorem dL_law_977 : decode cL_law 977 = .ok (.aload_n 0, 1) := by decide +kernel
theorem dL_law_978 : decode cL_law 978 = .ok (.iload 4, 2) := by decide +kernel
theorem dL_law_980 : decode cL_law 980 = .ok (.iconst 2, 1) := by decide +kernel
theorem dL_law_981 : decode cL_law 981 = .ok (.iadd, 1) := by decide +kernel
theorem dL_law_982 : decode cL_law 982 = .ok (.iaload, 1) := by decide +kernel
theorem dL_law_983 : decode cL_law 983 = .ok (.invokevirtual 122, 3) := by decide +kernel
theorem dL_law_986 : decode cL_law 986 = .ok (.lstore 6, 2) := by decide +kernel
theorem dL_law_988 : decode cL_law 988 = .ok (.aload_n 2, 1) := by decide +kernel
theorem dL_law_989 : decode cL_law 989 = .ok (.invokevirtual 78, 3) := by decide +kernel
theorem dL_law_992 : decode cL_law 992 = .ok (.iload 5, 2) := by decide +kernel
theorem dL_law_994 : decode cL_law 994 = .ok (.if_icmp .eq 5, 3) := by decide +kernel
theorem dL_law_997 : decode cL_law 997 = .ok (.iconst 0, 1) := by decide +kernel
theorem dL_law_998 : decode cL_law 998 = .ok (.ireturn, 1) := by decide +kernel
theorem dL_law_999 : decode cL_law 999 = .ok (.iload 5, 2) := by decide +kernel
theorem dL_law_1001 : decode cL_law 1001 = .ok (.ifCond .ne 14, 3) := by decide +kernel
theorem dL_law_1004 : decode cL_law 1004 = .ok (.aload_n 3, 1) := by decide +kernel
theorem dL_law_1005 : decode cL_law 1005 = .ok (.iconst 0, 1) := by decide +kernel
theorem dL_law_1006 : decode cL_law 1006 = .ok (.laload, 1) := by decide +kernel
theorem dL_law_1007 : decode cL_law 1007 = .ok (.lload 6, 2) := by decide +kernel
theorem dL_law_1009 : decode cL_law 1009 = .ok (.lcmp, 1) := by decide +kernel
theorem dL_law_1010 : decode cL_law 1010 = .ok (.ifCond .eq 5, 3) := by decide +kernel
theorem dL_law_1013 : decode cL_law 1013 = .ok (.iconst 0, 1) := by decide +kernel
theorem dL_law_1014 : decode cL_law 1014 = .ok (.ireturn, 1) := by decide +kernel
theorem dL_law_1015 : decode cL_law 1015 = .ok (.goto 182, 3) := by decide +kernel
theorem dL_law_1018 : decode cL_law 1018 = .ok (.aload_n 1, 1) := by decide +kernel
theorem dL_law_1019 : decode cL_law 1019 = .ok (.aload_n 0, 1) := by decide +kernel
theorem dL_law_1020 : decode cL_law 1020 = .ok (.iload 4, 2) := by decide +kernel
theorem dL_law_1022 : decode cL_law 1022 = .ok (.iconst 1, 1) := by decide +kernel
theorem dL_law_1023 : decode cL_law 1023 = .ok (.iadd, 1) := by decide +kernel
theorem dL_law_1024 : decode cL_law 1024 = .ok (.iaload, 1) := by decide +kernel
theorem dL_law_1025 : decode cL_law 1025 = .ok (.aload_n 0, 1) := by decide +kernel
theorem dL_law_1026 : decode cL_law 1026 = .ok (.iload 4, 2) := by decide +kernel
theorem dL_law_1028 : decode cL_law 1028 = .ok (.iconst 2, 1) := by decide +kernel
theorem dL_law_1029 : decode cL_law 1029 = .ok (.iadd, 1) := by decide +kernel
theorem dL_law_1030 : decode cL_law 1030 = .ok (.iaload, 1) := by decide +kernel
theorem dL_law_1031 : decode cL_law 1031 = .ok (.aload_n 3, 1) := by decide +kernel
theorem dL_law_1032 : decode cL_law 1032 = .ok (.invokestatic 123, 3) := by decide +kernel
theorem dL_law_1035 : decode cL_law 1035 = .ok (.istore 5, 2) := by decide +kernel
theorem dL_law_1037 : decode cL_law 1037 = .ok (.aload_n 2, 1) := by decide +kernel
theorem dL_law_1038 : decode cL_law 1038 = .ok (.aload_n 0, 1) := by decide +kernel
theorem dL_law_1039 : decode cL_law 1039 = .ok (.iload 4, 2) := by decide +kernel
theorem dL_law_1041 : decode cL_law 1041 = .ok (.iconst 1, 1) := by decide +kernel
theorem dL_law_1042 : decode cL_law 1042 = .ok (.iadd, 1) := by decide +kernel
theorem dL_law_1043 : decode cL_law 1043 = .ok (.iaload, 1) := by decide +kernel
theorem dL_law_1044 : decode cL_law 1044 = .ok (.aload_n 0, 1) := by decide +kernel
theorem dL_law_1045 : decode cL_law 1045 = .ok (.iload 4, 2) := by decide +kernel
theorem dL_law_1047 : decode cL_law 1047 = .ok (.iconst 2, 1) := by decide +kernel
theorem dL_law_1048 : decode cL_law 1048 = .ok (.iadd, 1) := by decide +kernel
theorem dL_law_1049 : decode cL_law 1049 = .ok (.iaload, 1) := by decide +kernel
theorem dL_law_1050 : decode cL_law 1050 = .ok (.invokevirtual 125, 3) := by decide +kernel
theorem dL_law_1053 : decode cL_law 1053 = .ok (.istore 6, 2) := by decide +kernel
theorem dL_law_1055 : decode cL_law 1055 = .ok (.aload_n 2, 1) := by decide +kernel
theorem dL_law_1056 : decode cL_law 1056 = .ok (.invokevirtual 78, 3) := by decide +kernel
theorem dL_law_1059 : decode cL_law 1059 = .ok (.iload 5, 2) := by decide +kernel
theorem dL_law_1061 : decode cL_law 1061 = .ok (.if_icmp .eq 5, 3) := by decide +kernel
theorem dL_law_1064 : decode cL_law 1064 = .ok (.iconst 0, 1) := by decide +kernel
theorem dL_law_1065 : decode cL_law 1065 = .ok (.ireturn, 1) := by decide +kernel
theorem dL_law_1066 : decode cL_law 1066 = .ok (.iload 5, 2) := by decide +kernel
theorem dL_law_1068 : decode cL_law 1068 = .ok (.ifCond .ne 15, 3) := by decide +kernel
theorem dL_law_1071 : decode cL_law 1071 = .ok (.aload_n 3, 1) := by decide +kernel
theorem dL_law_1072 : decode cL_law 1072 = .ok (.iconst 0, 1) := by decide +kernel
theorem dL_law_1073 : decode cL_law 1073 = .ok (.laload, 1) := by decide +kernel
theorem dL_law_1074 : decode cL_law 1074 = .ok (.iload 6, 2) := by decide +kernel
theorem dL_law_1076 : decode cL_law 1076 = .ok (.i2l, 1) := by decide +kernel
theorem dL_law_1077 : decode cL_law 1077 = .ok (.lcmp, 1) := by decide +kernel
theorem dL_law_1078 : decode cL_law 1078 = .ok (.ifCond .eq 5, 3) := by decide +kernel
theorem dL_law_1081 : decode cL_law 1081 = .ok (.iconst 0, 1) := by decide +kernel
theorem dL_law_1082 : decode cL_law 1082 = .ok (.ireturn, 1) := by decide +kernel
theorem dL_law_1083 : decode cL_law 1083 = .ok (.goto 114, 3) := by decide +kernel
theorem dL_law_1086 : decode cL_law 1086 = .ok (.aload_n 1, 1) := by decide +kernel
theorem dL_law_1087 : decode cL_law 1087 = .ok (.aload_n 0, 1) := by decide +kernel
theorem dL_law_1088 : decode cL_law 1088 = .ok (.iload 4, 2) := by decide +kernel
theorem dL_law_1090 : decode cL_law 1090 = .ok (.iconst 1, 1) := by decide +kernel
theorem dL_law_1091 : decode cL_law 1091 = .ok (.iadd, 1) := by decide +kernel
theorem dL_law_1092 : decode cL_law 1092 = .ok (.iaload, 1) := by decide +kernel
theorem dL_law_1093 : decode cL_law 1093 = .ok (.aload_n 3, 1) := by decide +kernel
theorem dL_law_1094 : decode cL_law 1094 = .ok (.invokestatic 126, 3) := by decide +kernel
theorem dL_law_1097 : decode cL_law 1097 = .ok (.istore 5, 2) := by decide +kernel
theorem dL_law_1099 : decode cL_law 1099 = .ok (.aload_n 2, 1) := by decide +kernel
theorem dL_law_1100 : decode cL_law 1100 = .ok (.aload_n 0, 1) := by decide +kernel
theorem dL_law_1101 : decode cL_law 1101 = .ok (.iload 4, 2) := by decide +kernel
theorem dL_law_1103 : decode cL_law 1103 = .ok (.iconst 1, 1) := by decide +kernel
theorem dL_law_1104 : decode cL_law 1104 = .ok (.iadd, 1) := by decide +kernel
theorem dL_law_1105 : decode cL_law 1105 = .ok (.iaload, 1) := by decide +kernel
theorem dL_law_1106 : decode cL_law 1106 = .ok (.invokevirtual 129, 3) := by decide +kernel
theorem dL_law_1109 : decode cL_law 1109 = .ok (.lstore 6, 2) := by decide +kernel
theorem dL_law_1111 : decode cL_law 1111 = .ok (.aload_n 2, 1) := by decide +kernel
theorem dL_law_1112 : decode cL_law 1112 = .ok (.invokevirtual 78, 3) := by decide +kernel
theorem dL_law_1115 : decode cL_law 1115 = .ok (.iload 5, 2) := by decide +kernel
theorem dL_law_1117 : decode cL_law 1117 = .ok (.if_icmp .eq 5, 3) := by decide +kernel
theorem dL_law_1120 : decode cL_law 1120 = .ok (.iconst 0, 1) := by decide +kernel
theorem dL_law_1121 : decode cL_law 1121 = .ok (.ireturn, 1) := by decide +kernel
theorem dL_law_1122 : decode cL_law 1122 = .ok (.iload 5, 2) := by decide +kernel
theorem dL_law_1124 : decode cL_law 1124 = .ok (.ifCond .ne 14, 3) := by decide +kernel
theorem dL_law_1127 : decode cL_law 1127 = .ok (.aload_n 3, 1) := by decide +kernel
theorem dL_law_1128 : decode cL_law 1128 = .ok (.iconst 0, 1) := by decide +kernel
theorem dL_law_1129 : decode cL_law 1129 = .ok (.laload, 1) := by decide +kernel
theorem dL_law_1130 : decode cL_law 1130 = .ok (.lload 6, 2) := by decide +kernel
theorem dL_law_1132 : decode cL_law 1132 = .ok (.lcmp, 1) := by decide +kernel
theorem dL_law_1133 : decode cL_law 1133 = .ok (.ifCond .eq 5, 3) := by decide +kernel
theorem dL_law_1136 : decode cL_law 1136 = .ok (.iconst 0, 1) := by decide +kernel
theorem dL_law_1137 : decode cL_law 1137 = .ok (.ireturn, 1) := by decide +kernel
theorem dL_law_1138 : decode cL_law 1138 = .ok (.goto 59, 3) := by decide +kernel
theorem dL_law_1141 : decode cL_law 1141 = .ok (.aload_n 1, 1) := by decide +kernel
theorem dL_law_1142 : decode cL_law 1142 = .ok (.aload_n 0, 1) := by decide +kernel
theorem dL_law_1143 : decode cL_law 1143 = .ok (.iload 4, 2) := by decide +kernel
theorem dL_law_1145 : decode cL_law 1145 = .ok (.iconst 1, 1) := by decide +kernel
theorem dL_law_1146 : decode cL_law 1146 = .ok (.iadd, 1) := by decide +kernel
theorem dL_law_1147 : decode cL_law 1147 = .ok (.iaload, 1) := by decide +kernel
theorem dL_law_1148 : decode cL_law 1148 = .ok (.aload_n 3, 1) := by decide +kernel
theorem dL_law_1149 : decode cL_law 1149 = .ok (.invokestatic 130, 3) := by decide +kernel
theorem dL_law_1152 : decode cL_law 1152 = .ok (.istore 5, 2) := by decide +kernel
theorem dL_law_1154 : decode cL_law 1154 = .ok (.aload_n 2, 1) := by decide +kernel
theorem dL_law_1155 : decode cL_law 1155 = .ok (.aload_n 0, 1) := by decide +kernel
theorem dL_law_1156 : decode cL_law 1156 = .ok (.iload 4, 2) := by decide +kernel
theorem dL_law_1158 : decode cL_law 1158 = .ok (.iconst 1, 1) := by decide +kernel
theorem dL_law_1159 : decode cL_law 1159 = .ok (.iadd, 1) := by decide +kernel
theorem dL_law_1160 : decode cL_law 1160 = .ok (.iaload, 1) := by decide +kernel
theorem dL_law_1161 : decode cL_law 1161 = .ok (.invokevirtual 132, 3) := by decide +kernel
theorem dL_law_1164 : decode cL_law 1164 = .ok (.istore 6, 2) := by decide +kernel
theorem dL_law_1166 : decode cL_law 1166 = .ok (.aload_n 2, 1) := by decide +kernel
theorem dL_law_1167 : decode cL_law 1167 = .ok (.invokevirtual 78, 3) := by decide +kernel
theorem dL_law_1170 : decode cL_law 1170 = .ok (.iload 5, 2) := by decide +kernel
theorem dL_law_1172 : decode cL_law 1172 = .ok (.if_icmp .eq 5, 3) := by decide +kernel
theorem dL_law_1175 : decode cL_law 1175 = .ok (.iconst 0, 1) := by decide +kernel
theorem dL_law_1176 : decode cL_law 1176 = .ok (.ireturn, 1) := by decide +kernel
theorem dL_law_1177 : decode cL_law 1177 = .ok (.iload 5, 2) := by decide +kernel
theorem dL_law_1179 : decode cL_law 1179 = .ok (.ifCond .ne 15, 3) := by decide +kernel
theorem dL_law_1182 : decode cL_law 1182 = .ok (.aload_n 3, 1) := by decide +kernel
theorem dL_law_1183 : decode cL_law 1183 = .ok (.iconst 0, 1) := by decide +kernel
theorem dL_law_1184 : decode cL_law 1184 = .ok (.laload, 1) := by decide +kernel
theorem dL_law_1185 : decode cL_law 1185 = .ok (.iload 6, 2) := by decide +kernel
theorem dL_law_1187 : decode cL_law 1187 = .ok (.i2l, 1) := by decide +kernel
theorem dL_law_1188 : decode cL_law 1188 = .ok (.lcmp, 1) := by decide +kernel
theorem dL_law_1189 : decode cL_law 1189 = .ok (.ifCond .eq 5, 3) := by decide +kernel
theorem dL_law_1192 : decode cL_law 1192 = .ok (.iconst 0, 1) := by decide +kernel
theorem dL_law_1193 : decode cL_law 1193 = .ok (.ireturn, 1) := by decide +kernel
theorem dL_law_1194 : decode cL_law 1194 = .ok (.goto 3, 3) := by decide +kernel
theorem dL_law_1197 : decode cL_law 1197 = .ok (.iinc 4 6, 3) := by decide +kernel
theorem dL_law_1200 : decode cL_law 1200 = .ok (.goto (-1177), 3) := by decide +kernel
theorem dL_law_1203 : decode cL_law 1203 = .ok (.iconst 1, 1) := by decide +kernel
theorem dL_law_1204 : decode cL_law 1204 = .ok (.ireturn, 1) := by decide +kernel
end
section
section CB
/-- the string constants of the class, by their entries -/
def cSL : List (Nat × String) := [(48, "no such kind"), (56, "no such number of frames"), (67, "no row to make a twin of"), (84, "neither marks nor hours"), (90, "no such number"), (95, "neither cards nor seals"), (110, "the sheet is full"), (121, "the knife isn't blunt"), (129, "nothing, or a core"), (138, "no such what"), (162, "no such hook"), (166, "no such frame"), (169, "the knife is blunt")]
/-- the fields that a nest mate reads -/
def cNF : List Cond := [.fieldLinkNest RX2 126 "SpliceRoom$Knife" "grindings" "I" "SpliceRoom", .fieldLinkNest RX2 144 "SpliceRoom$Knife" "wentWell" "I" "SpliceRoom", .fieldLinkNest RX2 147 "SpliceRoom$Knife" "laid" "I" "SpliceRoom", .fieldLinkNest RX2 150 "SpliceRoom$Knife" "jams" "I" "SpliceRoom", .fieldLinkNest RX2 153 "SpliceRoom$Knife" "jamsInRow" "I" "SpliceRoom", .fieldLinkNest RX2 156 "SpliceRoom$Knife" "far" "I" "SpliceRoom", .fieldLinkNest RX2 159 "SpliceRoom$Knife" "told" "I" "SpliceRoom", .fieldLinkNest RX2 62 "SpliceRoom$Reel" "kind" "I" "SpliceRoom", .fieldLinkNest RX2 70 "SpliceRoom$Reel" "row" "[J" "SpliceRoom", .fieldLinkNest RX0 47 "SpliceRoom$Reel" "row" "[J" "SpliceRoom"]
abbrev eA : String := "java/lang/IllegalArgumentException"
abbrev eS : String := "java/lang/IllegalStateException"
abbrev eI : String := "java/lang/IndexOutOfBoundsException"
/-- the pairs of exceptions that are no such -/
def cNC : List (String × String) := [(eA, eS), (eA, eI), (eS, eA), (eS, eI), (eI, eA), (eI, eS)]
/-- what a throw asks of the exceptions' classes -/
abbrev iSt (c : String) : MethodName := ⟨c, "<init>", "(Ljava/lang/String;)V"⟩
def cNW : List Cond := [.castable eA eA, .castable eS eS, .castable eI eI, .declares (iSt "java/lang/RuntimeException"), .declares (iSt "java/lang/Exception"), .declares (iSt "java/lang/Throwable")]
theorem cast_moved {a b : String} {u U : State} (hvm : u.vm.Alike U.vm) (h : va_Nw (.castable a b) u) : va_Nw (.castable a b) U := by
  obtain ⟨c3, c4, h1, h2, h3⟩ := Cond.castable_spec h
  simp [va_Nw, Cond.before, Cond.holds, Cond.value, hvm.findClass, h1, h2, hvm.assignable, h3]
theorem decl_moved {x : MethodName} {u U : State} (hvm : u.vm.Alike U.vm) (h : va_Nw (.declares x) u) : va_Nw (.declares x) U := by
  have h1 : (Cond.declares x).before #[] (u.setVm U.vm) = true := by
    rw [Cond.declares_setVm hvm]
    exact h
  have e := Cond.onTables_vm (A := #[]) (A' := #[]) (U := u) (U' := U) U.vm (Cond.declares x) rfl
  have hU : U.setVm U.vm = U := rfl
  rw [hU] at e
  unfold va_Nw
  rw [← e]
  exact h1
theorem cNW_moved {u U : State} (hvm : u.vm.Alike U.vm) (h : ∀ w ∈ cNW, va_Nw w u) : ∀ w ∈ cNW, va_Nw w U := by
  intro w hw
  have h0 := h w hw
  simp only [cNW, List.mem_cons, List.not_mem_nil, or_false] at hw
  rcases hw with rfl | rfl | rfl | rfl | rfl | rfl
  · exact cast_moved hvm h0
  · exact cast_moved hvm h0
  · exact cast_moved hvm h0
  · exact decl_moved hvm h0
  · exact decl_moved hvm h0
  · exact decl_moved hvm h0
theorem cNF_form : ∀ w ∈ cNF, ∃ (a : String) (i : Nat) (b n d h : String), w = .fieldLinkNest a i b n d h := by
  intro w hw
  simp only [cNF, List.mem_cons, List.not_mem_nil, or_false] at hw
  rcases hw with rfl | rfl | rfl | rfl | rfl | rfl | rfl | rfl | rfl | rfl <;> exact ⟨_, _, _, _, _, _, rfl⟩
/-- what every method takes as given of the machine: classes, arrays, links of nest mates, texts, Throwable's two statics; below N0 nothing is ever written -/
def CX (D : va_G) (cI cL cQ : ClassId) (N0 : Nat) (sa : Nat → Nat) (U : State) : Prop :=
  va_K D vwCl [(cI, .int), (cL, .long), (cQ, .object RX1)] U ∧ va_AO RX1 U ∧ (∀ w ∈ cNF, va_Nw w U) ∧ va_Nw (.methodLinkNest RX2 17 yX0_init "SpliceRoom") U ∧ (∀ q ∈ cSL, vk_R RX2 q.1 q.2 (sa q.1) U) ∧ (∀ q ∈ cNC, va_Nc q.1 q.2 U) ∧ (∀ w ∈ cNW, va_Nw w U) ∧
  vx_Zq Bundle.tN "UNASSIGNED_STACK" Bundle.steD (fun q => N0 ≤ q) U U.heap ∧ vx_Zq Bundle.tN "SUPPRESSED_SENTINEL" Bundle.listD (fun q => N0 ≤ q) U U.heap ∧ N0 ≤ U.heap.size
theorem CX.to {D : va_G} {cI cL cQ : ClassId} {N0 : Nat} {sa : Nat → Nat} {s U : State} (h : CX D cI cL cQ N0 sa s) (hW : s.WarmedH U.vm) (hH : ∀ q : Nat, q < N0 → U.heap[q]? = s.heap[q]?) (hz : N0 ≤ U.heap.size) : CX D cI cL cQ N0 sa U := by
  obtain ⟨h1, h2, h3, h4, h5, h6, h10, h7, h8, h9⟩ := h
  have keep : ∀ {n d : String}, vx_Zq Bundle.tN n d (fun q => N0 ≤ q) s s.heap → vx_Zq Bundle.tN n d (fun q => N0 ≤ q) U U.heap := fun h => vx_Zq.kept (vx_Zq.moved hW.alike h) (fun a _ hn => hH a (Nat.lt_of_not_le hn))
  refine ⟨va_K.moved hW.alike h1, va_AO.moved hW.alike h2, ?_, va_Nw.warmM hW h4, fun q hq => vk_R.warm hW (h5 q hq), fun q hq => va_Nc.moved hW.alike (h6 q hq), cNW_moved hW.alike h10, keep h7, keep h8, hz⟩
  intro w hw
  obtain ⟨a, i, b, n, d, h, rfl⟩ := cNF_form w hw
  exact va_Nw.warmF hW (h3 _ hw)
theorem CX.K {D : va_G} {cI cL cQ : ClassId} {N0 : Nat} {sa : Nat → Nat} {s : State} (h : CX D cI cL cQ N0 sa s) : va_K D vwCl [(cI, .int), (cL, .long), (cQ, .object RX1)] s := h.1
theorem CX.nest {D : va_G} {cI cL cQ : ClassId} {N0 : Nat} {sa : Nat → Nat} {s : State} {args : Array Value} (h : CX D cI cL cQ N0 sa s) {a : String} {i : Nat} {b n d hh : String} (hw : Cond.fieldLinkNest a i b n d hh ∈ cNF) : (Cond.fieldLinkNest a i b n d hh).before args s = true := va_Nw.use rfl (h.2.2.1 _ hw)
theorem CX.word {D : va_G} {cI cL cQ : ClassId} {N0 : Nat} {sa : Nat → Nat} {s : State} {args : Array Value} (h : CX D cI cL cQ N0 sa s) {w : Cond} (hw : w ∈ cNW) (ht : w.onTables = true) : w.before args s = true := va_Nw.use ht (h.2.2.2.2.2.2.1 _ hw)
theorem CX.text {D : va_G} {cI cL cQ : ClassId} {N0 : Nat} {sa : Nat → Nat} {s : State} (h : CX D cI cL cQ N0 sa s) {i : Nat} {t : String} (hw : (i, t) ∈ cSL) : vk_R RX2 i t (sa i) s := h.2.2.2.2.1 (i, t) hw
theorem CX.ncast {D : va_G} {cI cL cQ : ClassId} {N0 : Nat} {sa : Nat → Nat} {s : State} (h : CX D cI cL cQ N0 sa s) {a b : String} (hw : (a, b) ∈ cNC) : va_Nc a b s := h.2.2.2.2.2.1 (a, b) hw
theorem CX.ust {D : va_G} {cI cL cQ : ClassId} {N0 : Nat} {sa : Nat → Nat} {s : State} {A : Nat → Prop} (h : CX D cI cL cQ N0 sa s) (hN : ∀ q, A q → N0 ≤ q) : vx_Zq Bundle.tN "UNASSIGNED_STACK" Bundle.steD A s s.heap := vx_Zq.narrow h.2.2.2.2.2.2.2.1 hN
theorem CX.sup {D : va_G} {cI cL cQ : ClassId} {N0 : Nat} {sa : Nat → Nat} {s : State} {A : Nat → Prop} (h : CX D cI cL cQ N0 sa s) (hN : ∀ q, A q → N0 ≤ q) : vx_Zq Bundle.tN "SUPPRESSED_SENTINEL" Bundle.listD A s s.heap := vx_Zq.narrow h.2.2.2.2.2.2.2.2.1 hN
theorem CX.call {D : va_G} {cI cL cQ : ClassId} {N0 : Nat} {sa : Nat → Nat} {U : State} (h : CX D cI cL cQ N0 sa U) (g : JFrame) (mk : MethodId) (a : Array Value) : CX D cI cL cQ N0 sa (U.calling g mk a) :=
  CX.to h (State.WarmedH.refl U) (fun _ _ => rfl) h.2.2.2.2.2.2.2.2.2
/-- where a callee is called: the heap is Hc, the rest as ever -/
def Pq (D : va_G) (cI cL cQ : ClassId) (N0 : Nat) (sa : Nat → Nat) (av : List Value) (Hc : Heap) : Array Value → State → Prop := va_Pc av (fun U => U.heap = Hc ∧ CX D cI cL cQ N0 sa U)
theorem Pq.blind {D : va_G} {cI cL cQ : ClassId} {N0 : Nat} {sa : Nat → Nat} {av : List Value} {Hc : Heap} : FrameBlind (Pq D cI cL cQ N0 sa av Hc) := fun a U g mk q => ⟨q.1, q.2.1, CX.call q.2.2 g mk a⟩
theorem CX.at {D : va_G} {cI cL cQ : ClassId} {N0 : Nat} {sa : Nat → Nat} {s : State} {A : Nat → Prop} {H : Heap} {locs : List Loc} (hC : CX D cI cL cQ N0 sa s) (hS : va_S A s.heap H locs) (hN : ∀ q, A q → N0 ≤ q) {U : State} (hU : U.heap = H) (hW : s.WarmedH U.vm) : CX D cI cL cQ N0 sa U :=
  CX.to hC hW (fun q hq => by rw [hU]; exact hS.2.1 q (Nat.lt_of_lt_of_le hq hC.2.2.2.2.2.2.2.2.2) (fun h => Nat.not_le_of_lt hq (hN q h))) (by rw [hU]; exact Nat.le_trans hC.2.2.2.2.2.2.2.2.2 hS.1)
theorem Pq.S {D : va_G} {cI cL cQ : ClassId} {N0 : Nat} {sa : Nat → Nat} {s : State} {A : Nat → Prop} {H : Heap} {locs : List Loc} (hC : CX D cI cL cQ N0 sa s) (hS : va_S A s.heap H locs) (hN : ∀ q, A q → N0 ≤ q) {As : List Value} : PreS s H (Pq D cI cL cQ N0 sa As H) As :=
  ⟨Pq.blind, fun _ hU hW => ⟨rfl, hU, CX.at hC hS hN hU hW⟩⟩
theorem Pq.V {D : va_G} {cI cL cQ : ClassId} {N0 : Nat} {sa : Nat → Nat} {s : State} {A : Nat → Prop} {H : Heap} {locs : List Loc} {C : String} {b : Nat} (hC : CX D cI cL cQ N0 sa s) (hS : va_S A s.heap H locs) (hN : ∀ q, A q → N0 ≤ q) {As : List Value} (hr : ∃ cellB : Cell, H[b]? = some cellB ∧ cellB.vm.isStatics = false ∧ s.vm.findClass C = some cellB.cls) : PreV s H C b (Pq D cI cL cQ N0 sa (.ref b :: As) H) As :=
  ⟨Pq.blind, hr, fun _ hU hW => ⟨rfl, hU, CX.at hC hS hN hU hW⟩⟩
def nA : Nat → Prop := fun _ => False
theorem nA_N {N0 : Nat} : ∀ q, nA q → N0 ≤ q := fun _ h => h.elim
/-- truth as the machine has it -/
def tB (c : Prop) [Decidable c] : Int32 := if c then 1 else 0
theorem tB_t {c : Prop} [Decidable c] (h : c) : tB c = 1 := if_pos h
theorem tB_f {c : Prop} [Decidable c] (h : ¬ c) : tB c = 0 := if_neg h
theorem tB_0 {c : Prop} [Decidable c] : tB c = 0 ↔ ¬ c := by
  by_cases h : c
  · rw [tB_t h]; exact ⟨fun q => absurd q (by decide), fun q => absurd h q⟩
  · rw [tB_f h]; exact ⟨fun _ => h, fun _ => rfl⟩
theorem tB_n {c : Prop} [Decidable c] : ¬ tB c = 0 ↔ c := by rw [tB_0]; exact Decidable.not_not
theorem tB_nar (c : Prop) [Decidable c] : narrow .boolean (.int (tB c)) = .int (tB c) := by
  by_cases h : c
  · rw [tB_t h]; rfl
  · rw [tB_f h]; rfl
/-- the words of 'throw new E(text)' out of a method's own and the machine's -/
abbrev exN : List String := ["java/lang/RuntimeException", "java/lang/Exception"]
theorem exN_fit : ∀ n ∈ exN, Bundle.fit n = true := by decide +kernel
theorem exA_ng : ∀ w ∈ (vx_atS RX2 50 eA exN).filter (fun w => !goodWord w), w ∈ cNW := by decide +kernel
theorem exS_ng : ∀ w ∈ (vx_atS RX2 69 eS exN).filter (fun w => !goodWord w), w ∈ cNW := by decide +kernel
theorem exI_ng : ∀ w ∈ (vx_atS RX2 168 eI exN).filter (fun w => !goodWord w), w ∈ cNW := by decide +kernel
theorem exA_ot : ∀ w ∈ vx_atS RX2 50 eA exN, vx_ot w = true := by decide +kernel
theorem exS_ot : ∀ w ∈ vx_atS RX2 69 eS exN, vx_ot w = true := by decide +kernel
theorem exI_ot : ∀ w ∈ vx_atS RX2 168 eI exN, vx_ot w = true := by decide +kernel
theorem cNW_ot : ∀ w ∈ cNW, w.onTables = true := by decide +kernel
theorem CX.all {D : va_G} {cI cL cQ : ClassId} {N0 : Nat} {sa : Nat → Nat} {s : State} {args : Array Value} (h : CX D cI cL cQ N0 sa s) : ∀ w ∈ cNW, w.before args s = true := fun w hw => h.word hw (cNW_ot w hw)
theorem good2 {own cls : String} {ik : Nat} {L : List Cond} (h : ∀ w ∈ L, vx_ot w = true) : ∀ w ∈ Cond.classLink own ik cls :: Cond.initialized cls :: L, vx_ot w = true := fun w hw => by
  rcases List.mem_cons.mp hw with rfl | hw
  · rfl
  · rcases List.mem_cons.mp hw with rfl | hw
    · rfl
    · exact h w hw
section RO
variable {p : Program} {l : Launch} {e : Env} {R : Room} {s : State} {m : MethodId} {args : Array Value} {below : List Frame} {meth : Method} {c : Code} {H : Heap} {locs : List Loc} {cells slots : Nat} {Q : State → Prop}
variable {mc ms : Nat} {A0 : Nat → Prop} {H0 : Heap} {a : Array Value} {pc : Nat} {ls : Array Slot} {st0 rest : List Value}
/-- a callee that writes nothing -/
theorem ro_i {post : Int32 → Unit → Prop} (hr : va_Run p l e R s m args below meth c H locs cells slots mc ms (F0 m pc ls st0) rest (va_Qi post (fun _ t => t.heap = H) nA a) nA) (hS : va_S A0 H0 H locs)
    (kk : ∀ (r : Int32) (locs1 : List Loc), post r () → va_S A0 H0 H locs1 → W p l e R s m args below meth c H locs1 (cells + mc) (slots + ms) Q (F0 m (pc + 3) ls (.int r :: rest))) : W p l e R s m args below meth c H locs cells slots Q (F0 m pc ls st0) := by
  refine va_calli hr hS (fun q _ h => h.elim) (fun q h => h.elim) (fun r u t H1 locs1 ht hvm hw hB hz1 hk1 hS1 => ?_)
  have e1 : H1 = H := ht.symm.trans hB
  subst e1
  exact kk r locs1 hw hS1
theorem ro_l {post : Int64 → Unit → Prop} (hr : va_Run p l e R s m args below meth c H locs cells slots mc ms (F0 m pc ls st0) rest (va_Ql post (fun _ t => t.heap = H) nA a) nA) (hS : va_S A0 H0 H locs)
    (kk : ∀ (r : Int64) (locs1 : List Loc), post r () → va_S A0 H0 H locs1 → W p l e R s m args below meth c H locs1 (cells + mc) (slots + ms) Q (F0 m (pc + 3) ls (.long r :: rest))) : W p l e R s m args below meth c H locs cells slots Q (F0 m pc ls st0) := by
  refine va_calll hr hS (fun q _ h => h.elim) (fun q h => h.elim) (fun r u t H1 locs1 ht hvm hw hB hz1 hk1 hS1 => ?_)
  have e1 : H1 = H := ht.symm.trans hB
  subst e1
  exact kk r locs1 hw hS1
theorem ro_v {post : Unit → Prop} (hr : va_Run p l e R s m args below meth c H locs cells slots mc ms (F0 m pc ls st0) rest (va_Qv post (fun _ t => t.heap = H) nA a) nA) (hS : va_S A0 H0 H locs)
    (kk : ∀ (locs1 : List Loc), post () → va_S A0 H0 H locs1 → W p l e R s m args below meth c H locs1 (cells + mc) (slots + ms) Q (F0 m (pc + 3) ls rest)) : W p l e R s m args below meth c H locs cells slots Q (F0 m pc ls st0) := by
  refine va_callv hr hS (fun q _ h => h.elim) (fun q h => h.elim) (fun u t H1 locs1 ht hvm hw hB hz1 hk1 hS1 => ?_)
  have e1 : H1 = H := ht.symm.trans hB
  subst e1
  exact kk locs1 hw hS1
end RO
end CB
end
section
section CReel
/-- kinds of reels -/
def kCards (k : Int32) : Prop := k = 3 ∨ k = 4
def kNums (k : Int32) : Prop := k = 1 ∨ k = 2
theorem kCards_iff (k : Int32) : kCards k ↔ k = 3 ∨ k = 4 := Iff.rfl
theorem kNums_iff (k : Int32) : kNums k ↔ k = 1 ∨ k = 2 := Iff.rfl
theorem iw_X1_holdsCards_X1 : ∀ w ∈ wsX10, w ∈ wsX1_holdsCards := by decide +kernel
theorem lk_X1_holdsCards_Cond_fieldLink_RX1_9_SpliceRoom_Reel_kind_I_ : Cond.fieldLink RX1 9 "SpliceRoom$Reel" "kind" "I" ∈ wsX1_holdsCards := by decide +kernel
set_option maxHeartbeats 4000000 in
set_option maxRecDepth 100000 in
theorem c_X1_holdsCards (l : Launch) {D : va_G} {cI cL cQ : ClassId} {N0 : Nat} {sa : Nat → Nat} {Hc : Heap} {h0 w0 : Nat} {kd : Int32} (hP : va_P D vwCl [(h0, .inr (1, [.int kd, .ref w0]))] Hc) : Met l yX1_holdsCards wsX1_holdsCards ({ frames := 0, cells := 0, slots := 0, locals := 0 }) (Pq D cI cL cQ N0 sa [.ref h0] Hc) (va_Qi (fun (r : Int32) (_ : Unit) => r = tB (kd = 3 ∨ kd = 4)) (fun _ t => t.heap = Hc) nA) 0 0 nA := by
  refine Met.ofW (cc := cX1_holdsCards) (maxL := 1) (ret := (some .boolean)) (by decide) rfl ?_
  intro p e s m args below meth c s₁ B hml hv
  obtain ⟨rfl, hH, hC⟩ := hv
  have hx := B.exec
  have hb := B.bytes
  have hr := B.returns
  have hts := atoms_spec (ws := wsX1_holdsCards) B.pre
  have hown : s.vm.findClass RX1 = some m.cls := findClass_of_methodNamed B.named
  have hlocks := B.notSynchronized
  subst hH
  have hK := hC.K
  have hl := lv_entry ([.ref h0]) (n := 1) (Nat.le_of_ble_eq_true rfl)
  rw [lg_entry_eq]
  generalize (lg_sl ([.ref h0]) ++ List.replicate (1 - (lg_sl ([.ref h0])).length) Slot.unset).toArray = ls at hl ⊢
  have hl : lv_has ls 1 [(0, .ref h0)] := hl
  have hP : va_P D vwCl [(h0, .inr (1, [.int kd, .ref w0]))] s.heap := hP
  have hS : va_S nA s.heap s.heap [] := va_S.rf
  have hN : ∀ q, nA q → N0 ≤ q := nA_N
  refine lv_aload_n hx hb dX1_holdsCards_0 rfl (lv_at hl 0 rfl) ?_
  refine va_get (D := D) (ci := 1) (v := .int kd) (C := RX1) (T := TX1) (N := 2) hx hb hts iw_X1_holdsCards_X1 hown hK hP 0 rfl rfl 0 (by decide) (hts _ lk_X1_holdsCards_Cond_fieldLink_RX1_9_SpliceRoom_Reel_kind_I_) (fun _ h9 => h9) rfl dX1_holdsCards_1 ?_
  refine lv_iconst (v := 3) hx hb dX1_holdsCards_4 (by decide) ?_
  refine lv_icmp_eq (tgt := 16) hx hb dX1_holdsCards_5 (by decide) (fun c_5 => ?_) (fun c_5 => ?_)
  · refine lv_iconst (v := 1) hx hb dX1_holdsCards_16 (by decide) ?_
    refine lv_goto (tgt := 21) hx hb dX1_holdsCards_17 (by decide) ?_
    exact W.zret (v := 1) hx hb hr (rfl) (fun t ht hW => ⟨⟨_, (), rfl, (tB_t (by simp [c_5])).symm, ht⟩, hS.F ht⟩) hS.2.2 dX1_holdsCards_21
  · refine lv_aload_n hx hb dX1_holdsCards_8 rfl (lv_at hl 0 rfl) ?_
    refine va_get (D := D) (ci := 1) (v := .int kd) (C := RX1) (T := TX1) (N := 2) hx hb hts iw_X1_holdsCards_X1 hown hK hP 0 rfl rfl 0 (by decide) (hts _ lk_X1_holdsCards_Cond_fieldLink_RX1_9_SpliceRoom_Reel_kind_I_) (fun _ h9 => h9) rfl dX1_holdsCards_9 ?_
    refine lv_iconst (v := 4) hx hb dX1_holdsCards_12 (by decide) ?_
    refine lv_icmp_ne (tgt := 20) hx hb dX1_holdsCards_13 (by decide) (fun c_13 => ?_) (fun c_13 => ?_)
    · refine lv_iconst (v := 0) hx hb dX1_holdsCards_20 (by decide) ?_
      exact W.zret (v := 0) hx hb hr (rfl) (fun t ht hW => ⟨⟨_, (), rfl, (tB_f (by simp [c_5, c_13])).symm, ht⟩, hS.F ht⟩) hS.2.2 dX1_holdsCards_21
    · refine lv_iconst (v := 1) hx hb dX1_holdsCards_16 (by decide) ?_
      refine lv_goto (tgt := 21) hx hb dX1_holdsCards_17 (by decide) ?_
      exact W.zret (v := 1) hx hb hr (rfl) (fun t ht hW => ⟨⟨_, (), rfl, (tB_t (by simp [c_5, c_13])).symm, ht⟩, hS.F ht⟩) hS.2.2 dX1_holdsCards_21
theorem iw_X1_holdsNumbers_X1 : ∀ w ∈ wsX10, w ∈ wsX1_holdsNumbers := by decide +kernel
theorem lk_X1_holdsNumbers_Cond_fieldLink_RX1_9_SpliceRoom_Reel_kind_I_ : Cond.fieldLink RX1 9 "SpliceRoom$Reel" "kind" "I" ∈ wsX1_holdsNumbers := by decide +kernel
set_option maxHeartbeats 4000000 in
set_option maxRecDepth 100000 in
theorem c_X1_holdsNumbers (l : Launch) {D : va_G} {cI cL cQ : ClassId} {N0 : Nat} {sa : Nat → Nat} {Hc : Heap} {h0 w0 : Nat} {kd : Int32} (hP : va_P D vwCl [(h0, .inr (1, [.int kd, .ref w0]))] Hc) : Met l yX1_holdsNumbers wsX1_holdsNumbers ({ frames := 0, cells := 0, slots := 0, locals := 0 }) (Pq D cI cL cQ N0 sa [.ref h0] Hc) (va_Qi (fun (r : Int32) (_ : Unit) => r = tB (kd = 1 ∨ kd = 2)) (fun _ t => t.heap = Hc) nA) 0 0 nA := by
  refine Met.ofW (cc := cX1_holdsNumbers) (maxL := 1) (ret := (some .boolean)) (by decide) rfl ?_
  intro p e s m args below meth c s₁ B hml hv
  obtain ⟨rfl, hH, hC⟩ := hv
  have hx := B.exec
  have hb := B.bytes
  have hr := B.returns
  have hts := atoms_spec (ws := wsX1_holdsNumbers) B.pre
  have hown : s.vm.findClass RX1 = some m.cls := findClass_of_methodNamed B.named
  have hlocks := B.notSynchronized
  subst hH
  have hK := hC.K
  have hl := lv_entry ([.ref h0]) (n := 1) (Nat.le_of_ble_eq_true rfl)
  rw [lg_entry_eq]
  generalize (lg_sl ([.ref h0]) ++ List.replicate (1 - (lg_sl ([.ref h0])).length) Slot.unset).toArray = ls at hl ⊢
  have hl : lv_has ls 1 [(0, .ref h0)] := hl
  have hP : va_P D vwCl [(h0, .inr (1, [.int kd, .ref w0]))] s.heap := hP
  have hS : va_S nA s.heap s.heap [] := va_S.rf
  have hN : ∀ q, nA q → N0 ≤ q := nA_N
  refine lv_aload_n hx hb dX1_holdsNumbers_0 rfl (lv_at hl 0 rfl) ?_
  refine va_get (D := D) (ci := 1) (v := .int kd) (C := RX1) (T := TX1) (N := 2) hx hb hts iw_X1_holdsNumbers_X1 hown hK hP 0 rfl rfl 0 (by decide) (hts _ lk_X1_holdsNumbers_Cond_fieldLink_RX1_9_SpliceRoom_Reel_kind_I_) (fun _ h9 => h9) rfl dX1_holdsNumbers_1 ?_
  refine lv_iconst (v := 1) hx hb dX1_holdsNumbers_4 (by decide) ?_
  refine lv_icmp_eq (tgt := 16) hx hb dX1_holdsNumbers_5 (by decide) (fun c_5 => ?_) (fun c_5 => ?_)
  · refine lv_iconst (v := 1) hx hb dX1_holdsNumbers_16 (by decide) ?_
    refine lv_goto (tgt := 21) hx hb dX1_holdsNumbers_17 (by decide) ?_
    exact W.zret (v := 1) hx hb hr (rfl) (fun t ht hW => ⟨⟨_, (), rfl, (tB_t (by simp [c_5])).symm, ht⟩, hS.F ht⟩) hS.2.2 dX1_holdsNumbers_21
  · refine lv_aload_n hx hb dX1_holdsNumbers_8 rfl (lv_at hl 0 rfl) ?_
    refine va_get (D := D) (ci := 1) (v := .int kd) (C := RX1) (T := TX1) (N := 2) hx hb hts iw_X1_holdsNumbers_X1 hown hK hP 0 rfl rfl 0 (by decide) (hts _ lk_X1_holdsNumbers_Cond_fieldLink_RX1_9_SpliceRoom_Reel_kind_I_) (fun _ h9 => h9) rfl dX1_holdsNumbers_9 ?_
    refine lv_iconst (v := 2) hx hb dX1_holdsNumbers_12 (by decide) ?_
    refine lv_icmp_ne (tgt := 20) hx hb dX1_holdsNumbers_13 (by decide) (fun c_13 => ?_) (fun c_13 => ?_)
    · refine lv_iconst (v := 0) hx hb dX1_holdsNumbers_20 (by decide) ?_
      exact W.zret (v := 0) hx hb hr (rfl) (fun t ht hW => ⟨⟨_, (), rfl, (tB_f (by simp [c_5, c_13])).symm, ht⟩, hS.F ht⟩) hS.2.2 dX1_holdsNumbers_21
    · refine lv_iconst (v := 1) hx hb dX1_holdsNumbers_16 (by decide) ?_
      refine lv_goto (tgt := 21) hx hb dX1_holdsNumbers_17 (by decide) ?_
      exact W.zret (v := 1) hx hb hr (rfl) (fun t ht hW => ⟨⟨_, (), rfl, (tB_t (by simp [c_5, c_13])).symm, ht⟩, hS.F ht⟩) hS.2.2 dX1_holdsNumbers_21
/-- two reels that a cut may go between -/
abbrev kLike (a b : Int32) : Prop := ((a = 3 ∨ a = 4) ∧ (b = 3 ∨ b = 4)) ∨ ((a = 1 ∨ a = 2) ∧ a = b)
theorem kLike_n {a b : Int32} (h : ¬ (a = 3 ∨ a = 4)) : kLike a b ↔ ((a = 1 ∨ a = 2) ∧ a = b) := ⟨fun q => q.elim (fun z => absurd z.1 h) id, Or.inr⟩
theorem kLike_c {a b : Int32} (h : a = 3 ∨ a = 4) : kLike a b ↔ (b = 3 ∨ b = 4) := ⟨fun q => q.elim (fun z => z.2) (fun z => by rcases h with rfl | rfl <;> rcases z.1 with h9 | h9 <;> exact absurd h9 (by decide)), fun z => Or.inl ⟨h, z⟩⟩
theorem tB_c {c d : Prop} [Decidable c] [Decidable d] (h : c ↔ d) : tB c = tB d := by
  by_cases q : c
  · rw [tB_t q, tB_t (h.mp q)]
  · rw [tB_f q, tB_f (fun z => q (h.mpr z))]
theorem iw_X1_isLike_X1 : ∀ w ∈ wsX10, w ∈ wsX1_isLike := by decide +kernel
theorem lk_X1_isLike_Cond_fieldLink_RX1_9_SpliceRoom_Reel_kind_I_ : Cond.fieldLink RX1 9 "SpliceRoom$Reel" "kind" "I" ∈ wsX1_isLike := by decide +kernel
set_option maxHeartbeats 4000000 in
set_option maxRecDepth 100000 in
theorem c_X1_isLike (l : Launch) {D : va_G} {cI cL cQ : ClassId} {N0 : Nat} {sa : Nat → Nat} {Hc : Heap} {h0 w0 : Nat} {kd : Int32} {h1 w1 : Nat} {ke : Int32} (hP : va_P D vwCl [(h0, .inr (1, [.int kd, .ref w0])), (h1, .inr (1, [.int ke, .ref w1]))] Hc) : Met l yX1_isLike wsX1_isLike ({ frames := 1, cells := 0, slots := 0, locals := 20 }) (Pq D cI cL cQ N0 sa [.ref h0, .ref h1] Hc) (va_Qi (fun (r : Int32) (_ : Unit) => r = tB (kLike kd ke)) (fun _ t => t.heap = Hc) nA) 0 0 nA := by
  refine Met.ofW (cc := cX1_isLike) (maxL := 2) (ret := (some .boolean)) (by decide) rfl ?_
  intro p e s m args below meth c s₁ B hml hv
  obtain ⟨rfl, hH, hC⟩ := hv
  have hx := B.exec
  have hb := B.bytes
  have hr := B.returns
  have hts := atoms_spec (ws := wsX1_isLike) B.pre
  have hown : s.vm.findClass RX1 = some m.cls := findClass_of_methodNamed B.named
  have hlocks := B.notSynchronized
  subst hH
  have hK := hC.K
  have hl := lv_entry ([.ref h0, .ref h1]) (n := 2) (Nat.le_of_ble_eq_true rfl)
  rw [lg_entry_eq]
  generalize (lg_sl ([.ref h0, .ref h1]) ++ List.replicate (2 - (lg_sl ([.ref h0, .ref h1])).length) Slot.unset).toArray = ls at hl ⊢
  have hl : lv_has ls 2 [(0, .ref h0), (1, .ref h1)] := hl
  have hP : va_P D vwCl [(h0, .inr (1, [.int kd, .ref w0])), (h1, .inr (1, [.int ke, .ref w1]))] s.heap := hP
  have hS : va_S nA s.heap s.heap [] := va_S.rf
  have hN : ∀ q, nA q → N0 ≤ q := nA_N
  refine lv_aload_n hx hb dX1_isLike_0 rfl (lv_at hl 0 rfl) ?_
  refine ro_i (va_runV (As := []) (rest := []) ⟨hx, hb, hml, hown, hts⟩ (c_X1_holdsCards l (h0 := h0) (hP.sub [0] rfl)) (cwV 0 hts gX1_isLike_X1_holdsCards rfl rfl rfl (by decide +kernel) ⟨Nat.le_of_ble_eq_true rfl, Nat.le_of_ble_eq_true rfl⟩) (Pq.V hC hS hN (va_recv hK hP (ci := 1) (q0 := 0) rfl rfl)) rfl rfl hl.1 rfl (lv_room (Nat.le_of_ble_eq_true rfl)) dX1_isLike_1 ⟨Nat.le_of_ble_eq_true rfl, Nat.le_of_ble_eq_true rfl⟩) hS (fun r_1 locs hw hS => ?_)
  have hw : r_1 = tB (kd = 3 ∨ kd = 4) := hw
  subst hw
  refine lv_if_eq (tgt := 14) hx hb dX1_isLike_4 (by decide) (fun c_4 => ?_) (fun c_4 => ?_)
  · have c_4 := tB_0.mp c_4
    refine lv_aload_n hx hb dX1_isLike_14 rfl (lv_at hl 0 rfl) ?_
    refine ro_i (va_runV (As := []) (rest := []) ⟨hx, hb, hml, hown, hts⟩ (c_X1_holdsNumbers l (h0 := h0) (hP.sub [0] rfl)) (cwV 0 hts gX1_isLike_X1_holdsNumbers rfl rfl rfl (by decide +kernel) ⟨Nat.le_of_ble_eq_true rfl, Nat.le_of_ble_eq_true rfl⟩) (Pq.V hC hS hN (va_recv hK hP (ci := 1) (q0 := 0) rfl rfl)) rfl rfl hl.1 rfl (lv_room (Nat.le_of_ble_eq_true rfl)) dX1_isLike_15 ⟨Nat.le_of_ble_eq_true rfl, Nat.le_of_ble_eq_true rfl⟩) hS (fun r_2 locs hw hS => ?_)
    have hw : r_2 = tB (kd = 1 ∨ kd = 2) := hw
    subst hw
    refine lv_if_eq (tgt := 36) hx hb dX1_isLike_18 (by decide) (fun c_18 => ?_) (fun c_18 => ?_)
    · have c_18 := tB_0.mp c_18
      refine lv_iconst (v := 0) hx hb dX1_isLike_36 (by decide) ?_
      exact W.zret (v := 0) hx hb hr (rfl) (fun t ht hW => ⟨⟨_, (), rfl, (tB_f (fun h9 => c_18 ((kLike_n c_4).mp h9).1)).symm, ht⟩, hS.F ht⟩) hS.2.2 dX1_isLike_37
    · have c_18 := tB_n.mp c_18
      refine lv_aload_n hx hb dX1_isLike_21 rfl (lv_at hl 0 rfl) ?_
      refine va_get (D := D) (ci := 1) (v := .int kd) (C := RX1) (T := TX1) (N := 2) hx hb hts iw_X1_isLike_X1 hown hK hP 0 rfl rfl 0 (by decide) (hts _ lk_X1_isLike_Cond_fieldLink_RX1_9_SpliceRoom_Reel_kind_I_) (fun _ h9 => h9) rfl dX1_isLike_22 ?_
      refine lv_aload_n hx hb dX1_isLike_25 rfl (lv_at hl 1 rfl) ?_
      refine va_get (D := D) (ci := 1) (v := .int ke) (C := RX1) (T := TX1) (N := 2) hx hb hts iw_X1_isLike_X1 hown hK hP 1 rfl rfl 0 (by decide) (hts _ lk_X1_isLike_Cond_fieldLink_RX1_9_SpliceRoom_Reel_kind_I_) (fun _ h9 => h9) rfl dX1_isLike_26 ?_
      refine lv_icmp_ne (tgt := 36) hx hb dX1_isLike_29 (by decide) (fun c_29 => ?_) (fun c_29 => ?_)
      · refine lv_iconst (v := 0) hx hb dX1_isLike_36 (by decide) ?_
        exact W.zret (v := 0) hx hb hr (rfl) (fun t ht hW => ⟨⟨_, (), rfl, (tB_f (fun h9 => c_29 ((kLike_n c_4).mp h9).2)).symm, ht⟩, hS.F ht⟩) hS.2.2 dX1_isLike_37
      · refine lv_iconst (v := 1) hx hb dX1_isLike_32 (by decide) ?_
        refine lv_goto (tgt := 37) hx hb dX1_isLike_33 (by decide) ?_
        exact W.zret (v := 1) hx hb hr (rfl) (fun t ht hW => ⟨⟨_, (), rfl, (tB_t ((kLike_n c_4).mpr ⟨c_18, c_29⟩)).symm, ht⟩, hS.F ht⟩) hS.2.2 dX1_isLike_37
  · have c_4 := tB_n.mp c_4
    refine lv_aload_n hx hb dX1_isLike_7 rfl (lv_at hl 1 rfl) ?_
    refine ro_i (va_runV (As := []) (rest := []) ⟨hx, hb, hml, hown, hts⟩ (c_X1_holdsCards l (h0 := h1) (hP.sub [1] rfl)) (cwV 0 hts gX1_isLike_X1_holdsCards rfl rfl rfl (by decide +kernel) ⟨Nat.le_of_ble_eq_true rfl, Nat.le_of_ble_eq_true rfl⟩) (Pq.V hC hS hN (va_recv hK hP (ci := 1) (q0 := 1) rfl rfl)) rfl rfl hl.1 rfl (lv_room (Nat.le_of_ble_eq_true rfl)) dX1_isLike_8 ⟨Nat.le_of_ble_eq_true rfl, Nat.le_of_ble_eq_true rfl⟩) hS (fun r_3 locs hw hS => ?_)
    have hw : r_3 = tB (ke = 3 ∨ ke = 4) := hw
    subst hw
    refine lv_goto (tgt := 37) hx hb dX1_isLike_11 (by decide) ?_
    exact W.zret (v := tB (ke = 3 ∨ ke = 4)) hx hb hr (tB_nar _) (fun t ht hW => ⟨⟨_, (), rfl, (tB_c (kLike_c c_4)).symm, ht⟩, hS.F ht⟩) hS.2.2 dX1_isLike_37
set_option maxHeartbeats 4000000 in
set_option maxRecDepth 100000 in
theorem c_X1_isLikeS (l : Launch) {D : va_G} {cI cL cQ : ClassId} {N0 : Nat} {sa : Nat → Nat} {Hc : Heap} {h0 w0 : Nat} {kd : Int32} (hP : va_P D vwCl [(h0, .inr (1, [.int kd, .ref w0]))] Hc) : Met l yX1_isLike wsX1_isLike ({ frames := 1, cells := 0, slots := 0, locals := 20 }) (Pq D cI cL cQ N0 sa [.ref h0, .ref h0] Hc) (va_Qi (fun (r : Int32) (_ : Unit) => r = tB (kLike kd kd)) (fun _ t => t.heap = Hc) nA) 0 0 nA := by
  refine Met.ofW (cc := cX1_isLike) (maxL := 2) (ret := (some .boolean)) (by decide) rfl ?_
  intro p e s m args below meth c s₁ B hml hv
  obtain ⟨rfl, hH, hC⟩ := hv
  have hx := B.exec
  have hb := B.bytes
  have hr := B.returns
  have hts := atoms_spec (ws := wsX1_isLike) B.pre
  have hown : s.vm.findClass RX1 = some m.cls := findClass_of_methodNamed B.named
  have hlocks := B.notSynchronized
  subst hH
  have hK := hC.K
  have hl := lv_entry ([.ref h0, .ref h0]) (n := 2) (Nat.le_of_ble_eq_true rfl)
  rw [lg_entry_eq]
  generalize (lg_sl ([.ref h0, .ref h0]) ++ List.replicate (2 - (lg_sl ([.ref h0, .ref h0])).length) Slot.unset).toArray = ls at hl ⊢
  have hl : lv_has ls 2 [(0, .ref h0), (1, .ref h0)] := hl
  have hP : va_P D vwCl [(h0, .inr (1, [.int kd, .ref w0]))] s.heap := hP
  have hS : va_S nA s.heap s.heap [] := va_S.rf
  have hN : ∀ q, nA q → N0 ≤ q := nA_N
  refine lv_aload_n hx hb dX1_isLike_0 rfl (lv_at hl 0 rfl) ?_
  refine ro_i (va_runV (As := []) (rest := []) ⟨hx, hb, hml, hown, hts⟩ (c_X1_holdsCards l (h0 := h0) (hP.sub [0] rfl)) (cwV 0 hts gX1_isLike_X1_holdsCards rfl rfl rfl (by decide +kernel) ⟨Nat.le_of_ble_eq_true rfl, Nat.le_of_ble_eq_true rfl⟩) (Pq.V hC hS hN (va_recv hK hP (ci := 1) (q0 := 0) rfl rfl)) rfl rfl hl.1 rfl (lv_room (Nat.le_of_ble_eq_true rfl)) dX1_isLike_1 ⟨Nat.le_of_ble_eq_true rfl, Nat.le_of_ble_eq_true rfl⟩) hS (fun r_1 locs hw hS => ?_)
  have hw : r_1 = tB (kd = 3 ∨ kd = 4) := hw
  subst hw
  refine lv_if_eq (tgt := 14) hx hb dX1_isLike_4 (by decide) (fun c_4 => ?_) (fun c_4 => ?_)
  · have c_4 := tB_0.mp c_4
    refine lv_aload_n hx hb dX1_isLike_14 rfl (lv_at hl 0 rfl) ?_
    refine ro_i (va_runV (As := []) (rest := []) ⟨hx, hb, hml, hown, hts⟩ (c_X1_holdsNumbers l (h0 := h0) (hP.sub [0] rfl)) (cwV 0 hts gX1_isLike_X1_holdsNumbers rfl rfl rfl (by decide +kernel) ⟨Nat.le_of_ble_eq_true rfl, Nat.le_of_ble_eq_true rfl⟩) (Pq.V hC hS hN (va_recv hK hP (ci := 1) (q0 := 0) rfl rfl)) rfl rfl hl.1 rfl (lv_room (Nat.le_of_ble_eq_true rfl)) dX1_isLike_15 ⟨Nat.le_of_ble_eq_true rfl, Nat.le_of_ble_eq_true rfl⟩) hS (fun r_2 locs hw hS => ?_)
    have hw : r_2 = tB (kd = 1 ∨ kd = 2) := hw
    subst hw
    refine lv_if_eq (tgt := 36) hx hb dX1_isLike_18 (by decide) (fun c_18 => ?_) (fun c_18 => ?_)
    · have c_18 := tB_0.mp c_18
      refine lv_iconst (v := 0) hx hb dX1_isLike_36 (by decide) ?_
      exact W.zret (v := 0) hx hb hr (rfl) (fun t ht hW => ⟨⟨_, (), rfl, (tB_f (fun h9 => c_18 ((kLike_n c_4).mp h9).1)).symm, ht⟩, hS.F ht⟩) hS.2.2 dX1_isLike_37
    · have c_18 := tB_n.mp c_18
      refine lv_aload_n hx hb dX1_isLike_21 rfl (lv_at hl 0 rfl) ?_
      refine va_get (D := D) (ci := 1) (v := .int kd) (C := RX1) (T := TX1) (N := 2) hx hb hts iw_X1_isLike_X1 hown hK hP 0 rfl rfl 0 (by decide) (hts _ lk_X1_isLike_Cond_fieldLink_RX1_9_SpliceRoom_Reel_kind_I_) (fun _ h9 => h9) rfl dX1_isLike_22 ?_
      refine lv_aload_n hx hb dX1_isLike_25 rfl (lv_at hl 1 rfl) ?_
      refine va_get (D := D) (ci := 1) (v := .int kd) (C := RX1) (T := TX1) (N := 2) hx hb hts iw_X1_isLike_X1 hown hK hP 0 rfl rfl 0 (by decide) (hts _ lk_X1_isLike_Cond_fieldLink_RX1_9_SpliceRoom_Reel_kind_I_) (fun _ h9 => h9) rfl dX1_isLike_26 ?_
      refine lv_icmp_ne (tgt := 36) hx hb dX1_isLike_29 (by decide) (fun c_29 => ?_) (fun c_29 => ?_)
      · refine lv_iconst (v := 0) hx hb dX1_isLike_36 (by decide) ?_
        exact W.zret (v := 0) hx hb hr (rfl) (fun t ht hW => ⟨⟨_, (), rfl, (tB_f (fun h9 => c_29 ((kLike_n c_4).mp h9).2)).symm, ht⟩, hS.F ht⟩) hS.2.2 dX1_isLike_37
      · refine lv_iconst (v := 1) hx hb dX1_isLike_32 (by decide) ?_
        refine lv_goto (tgt := 37) hx hb dX1_isLike_33 (by decide) ?_
        exact W.zret (v := 1) hx hb hr (rfl) (fun t ht hW => ⟨⟨_, (), rfl, (tB_t ((kLike_n c_4).mpr ⟨c_18, c_29⟩)).symm, ht⟩, hS.F ht⟩) hS.2.2 dX1_isLike_37
  · have c_4 := tB_n.mp c_4
    refine lv_aload_n hx hb dX1_isLike_7 rfl (lv_at hl 1 rfl) ?_
    refine ro_i (va_runV (As := []) (rest := []) ⟨hx, hb, hml, hown, hts⟩ (c_X1_holdsCards l (h0 := h0) (hP.sub [0] rfl)) (cwV 0 hts gX1_isLike_X1_holdsCards rfl rfl rfl (by decide +kernel) ⟨Nat.le_of_ble_eq_true rfl, Nat.le_of_ble_eq_true rfl⟩) (Pq.V hC hS hN (va_recv hK hP (ci := 1) (q0 := 0) rfl rfl)) rfl rfl hl.1 rfl (lv_room (Nat.le_of_ble_eq_true rfl)) dX1_isLike_8 ⟨Nat.le_of_ble_eq_true rfl, Nat.le_of_ble_eq_true rfl⟩) hS (fun r_3 locs hw hS => ?_)
    have hw : r_3 = tB (kd = 3 ∨ kd = 4) := hw
    subst hw
    refine lv_goto (tgt := 37) hx hb dX1_isLike_11 (by decide) ?_
    exact W.zret (v := tB (kd = 3 ∨ kd = 4)) hx hb hr (tB_nar _) (fun t ht hW => ⟨⟨_, (), rfl, (tB_c (kLike_c c_4)).symm, ht⟩, hS.F ht⟩) hS.2.2 dX1_isLike_37
/-- n frames from p on are there -/
abbrev inFr (p n : Int32) (z : Nat) : Prop := (0 ≤ p.toInt ∧ 0 ≤ n.toInt) ∧ p.toInt + n.toInt ≤ z
theorem i_nlt {x : Int32} (h : ¬ x < 0) : 0 ≤ x.toInt := by rw [Int32.lt_iff_toInt_lt, Int32.toInt_zero] at h; omega
theorem i_lt {x : Int32} (h : x < 0) : x.toInt < 0 := by rw [Int32.lt_iff_toInt_lt, Int32.toInt_zero] at h; exact h
theorem i_subn {z : Nat} (hz : z ≤ 40) {n : Int32} (h : 0 ≤ n.toInt) : (nI z - n).toInt = (z : Int) - n.toInt := by
  have h1 := n.toInt_lt
  rw [Int32.toInt_sub, nI_toInt (by omega)]
  refine Int.bmod_eq_of_le ?_ ?_ <;> omega
theorem inFr_no {p n : Int32} {z : Nat} (hz : z ≤ 40) (h1 : ¬ p < 0) (h2 : ¬ n < 0) (h3 : nI z - n < p) : ¬ inFr p n z := by
  rw [Int32.lt_iff_toInt_lt, i_subn hz (i_nlt h2)] at h3
  intro q
  have := q.2
  omega
theorem inFr_yes {p n : Int32} {z : Nat} (hz : z ≤ 40) (h1 : ¬ p < 0) (h2 : ¬ n < 0) (h3 : ¬ nI z - n < p) : inFr p n z := by
  rw [Int32.lt_iff_toInt_lt, i_subn hz (i_nlt h2)] at h3
  exact ⟨⟨i_nlt h1, i_nlt h2⟩, by omega⟩
theorem iw_X1_hasFrames_X1 : ∀ w ∈ wsX10, w ∈ wsX1_hasFrames := by decide +kernel
theorem lk_X1_hasFrames_Cond_fieldLink_RX1_15_SpliceRoom_Reel_row_J_ : Cond.fieldLink RX1 15 "SpliceRoom$Reel" "row" "[J" ∈ wsX1_hasFrames := by decide +kernel
set_option maxHeartbeats 4000000 in
set_option maxRecDepth 100000 in
theorem c_X1_hasFrames (l : Launch) {D : va_G} {cI cL cQ : ClassId} {N0 : Nat} {sa : Nat → Nat} {Hc : Heap} {h0 w0 : Nat} {kd : Int32} {z : Nat} {f : Nat → Int64} {p0 n0 : Int32} (hP : va_P D vwCl [(h0, .inr (1, [.int kd, .ref w0])), (w0, .inl (cL, z, .inr (.inl f)))] Hc) (hz : z ≤ 40) : Met l yX1_hasFrames wsX1_hasFrames ({ frames := 0, cells := 0, slots := 0, locals := 0 }) (Pq D cI cL cQ N0 sa [.ref h0, .int p0, .int n0] Hc) (va_Qi (fun (r : Int32) (_ : Unit) => r = tB (inFr p0 n0 z)) (fun _ t => t.heap = Hc) nA) 0 0 nA := by
  refine Met.ofW (cc := cX1_hasFrames) (maxL := 3) (ret := (some .boolean)) (by decide) rfl ?_
  intro p e s m args below meth c s₁ B hml hv
  obtain ⟨rfl, hH, hC⟩ := hv
  have hx := B.exec
  have hb := B.bytes
  have hr := B.returns
  have hts := atoms_spec (ws := wsX1_hasFrames) B.pre
  have hown : s.vm.findClass RX1 = some m.cls := findClass_of_methodNamed B.named
  have hlocks := B.notSynchronized
  subst hH
  have hK := hC.K
  have hl := lv_entry ([.ref h0, .int p0, .int n0]) (n := 3) (Nat.le_of_ble_eq_true rfl)
  rw [lg_entry_eq]
  generalize (lg_sl ([.ref h0, .int p0, .int n0]) ++ List.replicate (3 - (lg_sl ([.ref h0, .int p0, .int n0])).length) Slot.unset).toArray = ls at hl ⊢
  have hl : lv_has ls 3 [(0, .ref h0), (1, .int p0), (2, .int n0)] := hl
  have hP : va_P D vwCl [(h0, .inr (1, [.int kd, .ref w0])), (w0, .inl (cL, z, .inr (.inl f)))] s.heap := hP
  have hS : va_S nA s.heap s.heap [] := va_S.rf
  have hN : ∀ q, nA q → N0 ≤ q := nA_N
  refine lv_iload_n hx hb dX1_hasFrames_0 rfl (lv_at hl 1 rfl) ?_
  refine lv_if_lt (tgt := 23) hx hb dX1_hasFrames_1 (by decide) (fun c_1 => ?_) (fun c_1 => ?_)
  · refine lv_iconst (v := 0) hx hb dX1_hasFrames_23 (by decide) ?_
    exact W.zret (v := 0) hx hb hr (rfl) (fun t ht hW => ⟨⟨_, (), rfl, (tB_f (fun h9 => absurd (i_lt c_1) (Int.not_lt.mpr h9.1.1))).symm, ht⟩, hS.F ht⟩) hS.2.2 dX1_hasFrames_24
  · refine lv_iload_n hx hb dX1_hasFrames_4 rfl (lv_at hl 2 rfl) ?_
    refine lv_if_lt (tgt := 23) hx hb dX1_hasFrames_5 (by decide) (fun c_5 => ?_) (fun c_5 => ?_)
    · refine lv_iconst (v := 0) hx hb dX1_hasFrames_23 (by decide) ?_
      exact W.zret (v := 0) hx hb hr (rfl) (fun t ht hW => ⟨⟨_, (), rfl, (tB_f (fun h9 => absurd (i_lt c_5) (Int.not_lt.mpr h9.1.2))).symm, ht⟩, hS.F ht⟩) hS.2.2 dX1_hasFrames_24
    · refine lv_iload_n hx hb dX1_hasFrames_8 rfl (lv_at hl 1 rfl) ?_
      refine lv_aload_n hx hb dX1_hasFrames_9 rfl (lv_at hl 0 rfl) ?_
      refine va_get (D := D) (ci := 1) (v := .ref w0) (C := RX1) (T := TX1) (N := 2) hx hb hts iw_X1_hasFrames_X1 hown hK hP 0 rfl rfl 1 (by decide) (hts _ lk_X1_hasFrames_Cond_fieldLink_RX1_15_SpliceRoom_Reel_row_J_) (fun _ h9 => h9) rfl dX1_hasFrames_10 ?_
      refine va_alen (D := D) (v := nI z) hx hb hK hP 1 1 rfl rfl rfl dX1_hasFrames_13 ?_
      refine lv_iload_n hx hb dX1_hasFrames_14 rfl (lv_at hl 2 rfl) ?_
      refine lv_isub hx hb dX1_hasFrames_15 ?_
      refine lv_icmp_gt (tgt := 23) hx hb dX1_hasFrames_16 (by decide) (fun c_16 => ?_) (fun c_16 => ?_)
      · refine lv_iconst (v := 0) hx hb dX1_hasFrames_23 (by decide) ?_
        exact W.zret (v := 0) hx hb hr (rfl) (fun t ht hW => ⟨⟨_, (), rfl, (tB_f (inFr_no hz c_1 c_5 c_16)).symm, ht⟩, hS.F ht⟩) hS.2.2 dX1_hasFrames_24
      · refine lv_iconst (v := 1) hx hb dX1_hasFrames_19 (by decide) ?_
        refine lv_goto (tgt := 24) hx hb dX1_hasFrames_20 (by decide) ?_
        exact W.zret (v := 1) hx hb hr (rfl) (fun t ht hW => ⟨⟨_, (), rfl, (tB_t (inFr_yes hz c_1 c_5 c_16)).symm, ht⟩, hS.F ht⟩) hS.2.2 dX1_hasFrames_24
/-- a frame that may come to a reel of that kind -/
abbrev kTake (k : Int32) (v : Int64) : Prop := ¬ k = 4 ∨ v = -1 ∨ 1000 ≤ v
theorem iw_X1_takes_X1 : ∀ w ∈ wsX10, w ∈ wsX1_takes := by decide +kernel
theorem lk_X1_takes_Cond_constantLong_RX1_19_1_ : Cond.constantLong RX1 19 (-1) ∈ wsX1_takes := by decide +kernel
theorem lk_X1_takes_Cond_constantLong_RX1_28_1000 : Cond.constantLong RX1 28 1000 ∈ wsX1_takes := by decide +kernel
theorem lk_X1_takes_Cond_fieldLink_RX1_9_SpliceRoom_Reel_kind_I_ : Cond.fieldLink RX1 9 "SpliceRoom$Reel" "kind" "I" ∈ wsX1_takes := by decide +kernel
set_option maxHeartbeats 4000000 in
set_option maxRecDepth 100000 in
theorem c_X1_takes (l : Launch) {D : va_G} {cI cL cQ : ClassId} {N0 : Nat} {sa : Nat → Nat} {Hc : Heap} {h0 w0 : Nat} {kd : Int32} {v0 : Int64} (hP : va_P D vwCl [(h0, .inr (1, [.int kd, .ref w0]))] Hc) : Met l yX1_takes wsX1_takes ({ frames := 0, cells := 0, slots := 0, locals := 0 }) (Pq D cI cL cQ N0 sa [.ref h0, .long v0] Hc) (va_Qi (fun (r : Int32) (_ : Unit) => r = tB (kTake kd v0)) (fun _ t => t.heap = Hc) nA) 0 0 nA := by
  refine Met.ofW (cc := cX1_takes) (maxL := 3) (ret := (some .boolean)) (by decide) rfl ?_
  intro p e s m args below meth c s₁ B hml hv
  obtain ⟨rfl, hH, hC⟩ := hv
  have hx := B.exec
  have hb := B.bytes
  have hr := B.returns
  have hts := atoms_spec (ws := wsX1_takes) B.pre
  have hown : s.vm.findClass RX1 = some m.cls := findClass_of_methodNamed B.named
  have hlocks := B.notSynchronized
  subst hH
  have hK := hC.K
  have hl := lv_entry ([.ref h0, .long v0]) (n := 3) (Nat.le_of_ble_eq_true rfl)
  rw [lg_entry_eq]
  generalize (lg_sl ([.ref h0, .long v0]) ++ List.replicate (3 - (lg_sl ([.ref h0, .long v0])).length) Slot.unset).toArray = ls at hl ⊢
  have hl : lv_has ls 3 [(0, .ref h0), (1, .long v0)] := hl
  have hP : va_P D vwCl [(h0, .inr (1, [.int kd, .ref w0]))] s.heap := hP
  have hS : va_S nA s.heap s.heap [] := va_S.rf
  have hN : ∀ q, nA q → N0 ≤ q := nA_N
  refine lv_aload_n hx hb dX1_takes_0 rfl (lv_at hl 0 rfl) ?_
  refine va_get (D := D) (ci := 1) (v := .int kd) (C := RX1) (T := TX1) (N := 2) hx hb hts iw_X1_takes_X1 hown hK hP 0 rfl rfl 0 (by decide) (hts _ lk_X1_takes_Cond_fieldLink_RX1_9_SpliceRoom_Reel_kind_I_) (fun _ h9 => h9) rfl dX1_takes_1 ?_
  refine lv_iconst (v := 4) hx hb dX1_takes_4 (by decide) ?_
  refine lv_icmp_ne (tgt := 24) hx hb dX1_takes_5 (by decide) (fun c_5 => ?_) (fun c_5 => ?_)
  · refine lv_iconst (v := 1) hx hb dX1_takes_24 (by decide) ?_
    refine lv_goto (tgt := 29) hx hb dX1_takes_25 (by decide) ?_
    exact W.zret (v := 1) hx hb hr (rfl) (fun t ht hW => ⟨⟨_, (), rfl, (tB_t (Or.inl c_5)).symm, ht⟩, hS.F ht⟩) hS.2.2 dX1_takes_29
  · refine lv_lload_n hx hb dX1_takes_8 rfl (lv_at hl 1 rfl) ?_
    refine lv_ldc2 (v := (-1)) hx hb hown (hts _ lk_X1_takes_Cond_constantLong_RX1_19_1_) dX1_takes_9 ?_
    refine W.lcmp hx hb dX1_takes_12 ?_
    refine lv_if_eq (tgt := 24) hx hb dX1_takes_13 (by decide) (fun c_13 => ?_) (fun c_13 => ?_)
    · have c_13 := (lg_cmp_eq v0 (-1)).mp c_13
      refine lv_iconst (v := 1) hx hb dX1_takes_24 (by decide) ?_
      refine lv_goto (tgt := 29) hx hb dX1_takes_25 (by decide) ?_
      exact W.zret (v := 1) hx hb hr (rfl) (fun t ht hW => ⟨⟨_, (), rfl, (tB_t (Or.inr (Or.inl c_13))).symm, ht⟩, hS.F ht⟩) hS.2.2 dX1_takes_29
    · have c_13 := fun h9 => c_13 ((lg_cmp_eq v0 (-1)).mpr h9)
      refine lv_lload_n hx hb dX1_takes_16 rfl (lv_at hl 1 rfl) ?_
      refine lv_ldc2 (v := 1000) hx hb hown (hts _ lk_X1_takes_Cond_constantLong_RX1_28_1000) dX1_takes_17 ?_
      refine W.lcmp hx hb dX1_takes_20 ?_
      refine lv_if_lt (tgt := 28) hx hb dX1_takes_21 (by decide) (fun c_21 => ?_) (fun c_21 => ?_)
      · have c_21 := (lg_cmp_lt v0 1000).mp c_21
        refine lv_iconst (v := 0) hx hb dX1_takes_28 (by decide) ?_
        exact W.zret (v := 0) hx hb hr (rfl) (fun t ht hW => ⟨⟨_, (), rfl, (tB_f (fun h9 => h9.elim (fun z => z c_5) (fun z => z.elim c_13 (fun z => Int64.not_lt.mpr z c_21)))).symm, ht⟩, hS.F ht⟩) hS.2.2 dX1_takes_29
      · have c_21 := fun h9 => c_21 ((lg_cmp_lt v0 1000).mpr h9)
        refine lv_iconst (v := 1) hx hb dX1_takes_24 (by decide) ?_
        refine lv_goto (tgt := 29) hx hb dX1_takes_25 (by decide) ?_
        exact W.zret (v := 1) hx hb hr (rfl) (fun t ht hW => ⟨⟨_, (), rfl, (tB_t (Or.inr (Or.inr (Int64.not_lt.mp c_21)))).symm, ht⟩, hS.F ht⟩) hS.2.2 dX1_takes_29
theorem iw_X0_isBlunt_X0 : ∀ w ∈ wsX00, w ∈ wsX0_isBlunt := by decide +kernel
theorem lk_X0_isBlunt_Cond_fieldLink_RX0_9_SpliceRoom_Knife_jamsInRow_I_ : Cond.fieldLink RX0 9 "SpliceRoom$Knife" "jamsInRow" "I" ∈ wsX0_isBlunt := by decide +kernel
set_option maxHeartbeats 4000000 in
set_option maxRecDepth 100000 in
theorem c_X0_isBlunt (l : Launch) {D : va_G} {cI cL cQ : ClassId} {N0 : Nat} {sa : Nat → Nat} {Hc : Heap} {h0 : Nat} {f0 f1 f2 f3 f4 f5 f6 : Int32} (hP : va_P D vwCl [(h0, .inr (0, [.int f0, .int f1, .int f2, .int f3, .int f4, .int f5, .int f6]))] Hc) : Met l yX0_isBlunt wsX0_isBlunt ({ frames := 0, cells := 0, slots := 0, locals := 0 }) (Pq D cI cL cQ N0 sa [.ref h0] Hc) (va_Qi (fun (r : Int32) (_ : Unit) => r = tB (3 ≤ f3)) (fun _ t => t.heap = Hc) nA) 0 0 nA := by
  refine Met.ofW (cc := cX0_isBlunt) (maxL := 1) (ret := (some .boolean)) (by decide) rfl ?_
  intro p e s m args below meth c s₁ B hml hv
  obtain ⟨rfl, hH, hC⟩ := hv
  have hx := B.exec
  have hb := B.bytes
  have hr := B.returns
  have hts := atoms_spec (ws := wsX0_isBlunt) B.pre
  have hown : s.vm.findClass RX0 = some m.cls := findClass_of_methodNamed B.named
  have hlocks := B.notSynchronized
  subst hH
  have hK := hC.K
  have hl := lv_entry ([.ref h0]) (n := 1) (Nat.le_of_ble_eq_true rfl)
  rw [lg_entry_eq]
  generalize (lg_sl ([.ref h0]) ++ List.replicate (1 - (lg_sl ([.ref h0])).length) Slot.unset).toArray = ls at hl ⊢
  have hl : lv_has ls 1 [(0, .ref h0)] := hl
  have hP : va_P D vwCl [(h0, .inr (0, [.int f0, .int f1, .int f2, .int f3, .int f4, .int f5, .int f6]))] s.heap := hP
  have hS : va_S nA s.heap s.heap [] := va_S.rf
  have hN : ∀ q, nA q → N0 ≤ q := nA_N
  refine lv_aload_n hx hb dX0_isBlunt_0 rfl (lv_at hl 0 rfl) ?_
  refine va_get (D := D) (ci := 0) (v := .int f3) (C := RX0) (T := TX0) (N := 7) hx hb hts iw_X0_isBlunt_X0 hown hK hP 0 rfl rfl 3 (by decide) (hts _ lk_X0_isBlunt_Cond_fieldLink_RX0_9_SpliceRoom_Knife_jamsInRow_I_) (fun _ h9 => h9) rfl dX0_isBlunt_1 ?_
  refine lv_iconst (v := 3) hx hb dX0_isBlunt_4 (by decide) ?_
  refine lv_icmp_lt (tgt := 12) hx hb dX0_isBlunt_5 (by decide) (fun c_5 => ?_) (fun c_5 => ?_)
  · refine lv_iconst (v := 0) hx hb dX0_isBlunt_12 (by decide) ?_
    exact W.zret (v := 0) hx hb hr (rfl) (fun t ht hW => ⟨⟨_, (), rfl, (tB_f (Int32.not_le.mpr c_5)).symm, ht⟩, hS.F ht⟩) hS.2.2 dX0_isBlunt_13
  · refine lv_iconst (v := 1) hx hb dX0_isBlunt_8 (by decide) ?_
    refine lv_goto (tgt := 13) hx hb dX0_isBlunt_9 (by decide) ?_
    exact W.zret (v := 1) hx hb hr (rfl) (fun t ht hW => ⟨⟨_, (), rfl, (tB_t (Int32.not_lt.mp c_5)).symm, ht⟩, hS.F ht⟩) hS.2.2 dX0_isBlunt_13
end CReel
end
section
section CRoom
theorem Met.cons {l : Launch} {y : MethodName} {ws : List Cond} {rm : Room} {Pc : Array Value → State → Prop} {Qc Qc' : Array Value → State → Outcome → State → Prop} {mc ms : Nat} {free free' : Addr → Prop} (h : Met l y ws rm Pc Qc mc ms free)
    (hq : ∀ a st o t, Pc a st → Qc a st o t → Qc' a st o t) (hf : ∀ q, free q → free' q) : Met l y ws rm Pc Qc' mc ms free' := by
  intro p e ha hc hk s m args below h1 h2 h3 h4
  obtain ⟨n, o, k1, k2, k3, k4, L, k5, k6⟩ := h p e ha hc hk s m args below h1 h2 h3 h4
  exact ⟨n, o, k1, k2, k3, hq _ _ _ _ h3 k4, L, k5, fun q hq => hf _ (k6 q hq)⟩
def nT : Nat → Prop := fun _ => True
/-- cells apart, by their addresses -/
theorem D_of {A : Nat → Prop} {ws : va_W} (hn : (ws.map (·.1)).Nodup) (hA : ∀ q ∈ ws.map (·.1), A q) : va_D A ws := by
  have hm : ∀ {k : Nat} {q : Nat × va_E}, ws[k]? = some q → (ws.map (·.1))[k]? = some q.1 := fun h => by rw [List.getElem?_map, h]; rfl
  refine ⟨fun i j p q hi hj e => ?_, fun k q h => hA q.1 (List.mem_of_getElem? (hm h))⟩
  have h1 := hm hi
  have h2 := hm hj
  exact (List.getElem?_inj (List.getElem?_eq_some_iff.mp h1).1 hn).mp (by rw [h1, h2, e])
theorem P_cons {D : va_G} {cl : List vw_C} {q : Nat × va_E} {ws : va_W} {H : Heap} (h : va_at D cl q H) (hP : va_P D cl ws H) : va_P D cl (q :: ws) H := fun k z hk => by
  cases k with
  | zero => cases hk; exact h
  | succ k => exact hP k z hk
/-- what a reel is: its kind, its row's address, its length, its frames -/
abbrev RE : Type := Int32 × Nat × Nat × (Nat → Int64)
/-- the cells of the reel at r -/
abbrev reW (cL : ClassId) (re : Nat → RE) (r : Nat) : va_W := [(r, .inr (1, [.int (re r).1, .ref (re r).2.1])), ((re r).2.1, .inl (cL, (re r).2.2.1, .inr (.inl (re r).2.2.2)))]
/-- the room's own cells: the object, the hooks, the knife, the five rows of the sheet -/
abbrev w8 (cI cQ : ClassId) (x ah ak b0 b1 b2 b3 b4 : Nat) (hk : Nat → Option Nat) (kn : Nat → Int32) (sh : Nat → Nat → Int32) (k : Int32) : va_W := [(x, .inr (2, [.ref ah, .ref ak, .ref b0, .ref b1, .ref b2, .ref b3, .ref b4, .int k])), (ah, .inl (cQ, 6, .inr (.inr (.inr (.inr hk))))), (ak, .inr (0, [.int (kn 0), .int (kn 1), .int (kn 2), .int (kn 3), .int (kn 4), .int (kn 5), .int (kn 6)])), (b0, .inl (cI, 24, .inl (sh 0))), (b1, .inl (cI, 24, .inl (sh 1))), (b2, .inl (cI, 24, .inl (sh 2))), (b3, .inl (cI, 24, .inl (sh 3))), (b4, .inl (cI, 24, .inl (sh 4)))]
abbrev CS : Type := (Nat → Option Nat) × (Nat → RE) × (Nat → Int32) × (Nat → Nat → Int32) × Int32
def Live (hk : Nat → Option Nat) (r : Nat) : Prop := ∃ j, j < 6 ∧ hk j = some r
/-- the room at x in a heap: hooks hk, reels re, knife kn, sheet sh, steps k; all of it in F -/
def RSB (D : va_G) (cI cL cQ : ClassId) (x ah ak b0 b1 b2 b3 b4 : Nat) (F : Nat → Prop) (c : CS) (H : Heap) : Prop :=
  va_P D vwCl (w8 cI cQ x ah ak b0 b1 b2 b3 b4 c.1 c.2.2.1 c.2.2.2.1 c.2.2.2.2) H ∧ (∀ q ∈ [x, ah, ak, b0, b1, b2, b3, b4], F q) ∧ [x, ah, ak, b0, b1, b2, b3, b4].Nodup ∧
  ∀ r, Live c.1 r → va_P D vwCl (reW cL c.2.1 r) H ∧ (F r ∧ F (c.2.1 r).2.1) ∧ (r ∉ [x, ah, ak, b0, b1, b2, b3, b4] ∧ (c.2.1 r).2.1 ∉ [x, ah, ak, b0, b1, b2, b3, b4]) ∧ (c.2.1 r).2.2.1 ≤ 40 ∧ ∀ r', Live c.1 r' → r ≠ (c.2.1 r').2.1 ∧ ((c.2.1 r).2.1 = (c.2.1 r').2.1 → r = r')
section L
variable {D : va_G} {cI cL cQ : ClassId} {x ah ak b0 b1 b2 b3 b4 : Nat} {F : Nat → Prop} {hk : Nat → Option Nat} {re : Nat → RE} {kn : Nat → Int32} {sh : Nat → Nat → Int32} {k : Int32} {H : Heap}
theorem RSB.P8 (h : RSB D cI cL cQ x ah ak b0 b1 b2 b3 b4 F (hk, re, kn, sh, k) H) : va_P D vwCl (w8 cI cQ x ah ak b0 b1 b2 b3 b4 hk kn sh k) H := h.1
theorem RSB.D8 (h : RSB D cI cL cQ x ah ak b0 b1 b2 b3 b4 F (hk, re, kn, sh, k) H) : va_D nT (w8 cI cQ x ah ak b0 b1 b2 b3 b4 hk kn sh k) := D_of h.2.2.1 (fun _ _ => trivial)
theorem RSB.Pr (h : RSB D cI cL cQ x ah ak b0 b1 b2 b3 b4 F (hk, re, kn, sh, k) H) {r : Nat} (hr : Live hk r) : va_P D vwCl (reW cL re r) H := (h.2.2.2 r hr).1
theorem RSB.P10 (h : RSB D cI cL cQ x ah ak b0 b1 b2 b3 b4 F (hk, re, kn, sh, k) H) {r : Nat} (hr : Live hk r) : va_P D vwCl (w8 cI cQ x ah ak b0 b1 b2 b3 b4 hk kn sh k ++ reW cL re r) H := h.P8.app (h.Pr hr)
theorem nd2 {l : List Nat} {a b : Nat} (h : l.Nodup) (ha : a ∉ l) (hb : b ∉ l) (hab : a ≠ b) : (l ++ [a, b]).Nodup := by
  rw [List.nodup_append]
  refine ⟨h, by simp [hab], fun p hp q hq e => ?_⟩
  simp only [List.mem_cons, List.not_mem_nil, or_false] at hq
  rcases hq with rfl | rfl
  · exact ha (e ▸ hp)
  · exact hb (e ▸ hp)
theorem RSB.D10 (h : RSB D cI cL cQ x ah ak b0 b1 b2 b3 b4 F (hk, re, kn, sh, k) H) {r : Nat} (hr : Live hk r) : va_D nT (w8 cI cQ x ah ak b0 b1 b2 b3 b4 hk kn sh k ++ reW cL re r) := by
  obtain ⟨-, -, ⟨h1, h2⟩, -, h3⟩ := h.2.2.2 r hr
  exact D_of (nd2 h.2.2.1 h1 h2 (h3 r hr).1) (fun _ _ => trivial)
theorem RSB.P12 (h : RSB D cI cL cQ x ah ak b0 b1 b2 b3 b4 F (hk, re, kn, sh, k) H) {r r' : Nat} (hr : Live hk r) (hr' : Live hk r') : va_P D vwCl (w8 cI cQ x ah ak b0 b1 b2 b3 b4 hk kn sh k ++ reW cL re r ++ reW cL re r') H := (h.P10 hr).app (h.Pr hr')
theorem RSB.D12 (h : RSB D cI cL cQ x ah ak b0 b1 b2 b3 b4 F (hk, re, kn, sh, k) H) {r r' : Nat} (hr : Live hk r) (hr' : Live hk r') (hne : r ≠ r') : va_D nT (w8 cI cQ x ah ak b0 b1 b2 b3 b4 hk kn sh k ++ reW cL re r ++ reW cL re r') := by
  obtain ⟨-, -, ⟨h1, h2⟩, -, h3⟩ := h.2.2.2 r hr
  obtain ⟨-, -, ⟨h4, h5⟩, -, h6⟩ := h.2.2.2 r' hr'
  refine D_of (nd2 (nd2 h.2.2.1 h1 h2 (h3 r hr).1) ?_ ?_ (h6 r' hr').1) (fun _ _ => trivial)
  · intro q
    rcases List.mem_append.mp q with q | q
    · exact h4 q
    · simp only [List.mem_cons, List.not_mem_nil, or_false] at q
      rcases q with q | q
      · exact hne q.symm
      · exact (h6 r hr).1 q
  · intro q
    rcases List.mem_append.mp q with q | q
    · exact h5 q
    · simp only [List.mem_cons, List.not_mem_nil, or_false] at q
      rcases q with q | q
      · exact (h3 r' hr').1 q.symm
      · exact hne ((h3 r' hr').2 q.symm)
theorem P_in {D : va_G} {cl : List vw_C} {ws : va_W} {H H1 : Heap} {F : Nat → Prop} (h : va_P D cl ws H) (hF : ∀ q ∈ ws.map (·.1), F q) (hk : ∀ q : Nat, F q → q < H.size → H1[q]? = H[q]?) : va_P D cl ws H1 := fun k q hq =>
  (h k q hq).kept (hk q.1 (hF _ (List.mem_map_of_mem (List.mem_of_getElem? hq))) (h k q hq).lt)
theorem RSB.kept (h : RSB D cI cL cQ x ah ak b0 b1 b2 b3 b4 F (hk, re, kn, sh, k) H) {H1 : Heap} (hq : ∀ q : Nat, F q → q < H.size → H1[q]? = H[q]?) : RSB D cI cL cQ x ah ak b0 b1 b2 b3 b4 F (hk, re, kn, sh, k) H1 := by
  refine ⟨P_in h.1 h.2.1 hq, h.2.1, h.2.2.1, fun r hr => ?_⟩
  obtain ⟨h1, h2, h3⟩ := h.2.2.2 r hr
  refine ⟨P_in h1 (fun q hm => ?_) hq, h2, h3⟩
  simp only [List.map_cons, List.map_nil, List.mem_cons, List.not_mem_nil, or_false] at hm
  rcases hm with rfl | rfl
  · exact h2.1
  · exact h2.2
theorem RSB.mono (h : RSB D cI cL cQ x ah ak b0 b1 b2 b3 b4 F (hk, re, kn, sh, k) H) {F' : Nat → Prop} (hF : ∀ q, F q → F' q) : RSB D cI cL cQ x ah ak b0 b1 b2 b3 b4 F' (hk, re, kn, sh, k) H :=
  ⟨h.1, fun q hq => hF q (h.2.1 q hq), h.2.2.1, fun r hr => by
    obtain ⟨h1, h2, h3⟩ := h.2.2.2 r hr
    exact ⟨h1, ⟨hF _ h2.1, hF _ h2.2⟩, h3⟩⟩
theorem RSB.in8 (h : RSB D cI cL cQ x ah ak b0 b1 b2 b3 b4 F (hk, re, kn, sh, k) H) {sz q : Nat} (hq : va_A (w8 cI cQ x ah ak b0 b1 b2 b3 b4 hk kn sh k) sz q) : F q ∨ sz ≤ q := by
  rcases hq with ⟨i, e, hi⟩ | hq
  · exact Or.inl (h.2.1 q (List.mem_map_of_mem (f := fun z : Nat × va_E => z.1) (List.mem_of_getElem? hi)))
  · exact Or.inr hq
theorem RSB.in10 (h : RSB D cI cL cQ x ah ak b0 b1 b2 b3 b4 F (hk, re, kn, sh, k) H) {r : Nat} (hr : Live hk r) {sz q : Nat} (hq : va_A (w8 cI cQ x ah ak b0 b1 b2 b3 b4 hk kn sh k ++ reW cL re r) sz q) : F q ∨ sz ≤ q := by
  rcases hq with ⟨i, e, hi⟩ | hq
  · have hm := List.mem_of_getElem? hi
    rcases List.mem_append.mp hm with hm | hm
    · exact Or.inl (h.2.1 q (List.mem_map_of_mem (f := fun z : Nat × va_E => z.1) hm))
    · simp only [List.mem_cons, List.not_mem_nil, or_false] at hm
      rcases hm with hm | hm
      · cases hm; exact Or.inl (h.2.2.2 r hr).2.1.1
      · cases hm; exact Or.inl (h.2.2.2 r hr).2.1.2
  · exact Or.inr hq
/-- the room's own cells are new, its reels as before: the hooks hold no others than before -/
theorem RSB.put8 (h : RSB D cI cL cQ x ah ak b0 b1 b2 b3 b4 F (hk, re, kn, sh, k) H) {H1 : Heap} {hk' : Nat → Option Nat} {kn' : Nat → Int32} {sh' : Nat → Nat → Int32} {k' : Int32} (hP : va_P D vwCl (w8 cI cQ x ah ak b0 b1 b2 b3 b4 hk' kn' sh' k') H1) (hl : ∀ r, Live hk' r → Live hk r)
    (hq : ∀ q : Nat, q < H.size → q ∉ [x, ah, ak, b0, b1, b2, b3, b4] → H1[q]? = H[q]?) : RSB D cI cL cQ x ah ak b0 b1 b2 b3 b4 F (hk', re, kn', sh', k') H1 := by
  refine ⟨hP, h.2.1, h.2.2.1, fun r hr => ?_⟩
  obtain ⟨h1, h2, h3, h4, h5⟩ := h.2.2.2 r (hl r hr)
  refine ⟨fun i q hi => (h1 i q hi).kept (hq q.1 (h1 i q hi).lt ?_), h2, h3, h4, fun r' hr' => h5 r' (hl r' hr')⟩
  have hm := List.mem_of_getElem? hi
  simp only [List.mem_cons, List.not_mem_nil, or_false] at hm
  rcases hm with rfl | rfl
  · exact h3.1
  · exact h3.2
/-- the row of one reel is new, and the room's own cells may be -/
theorem RSB.putR (h : RSB D cI cL cQ x ah ak b0 b1 b2 b3 b4 F (hk, re, kn, sh, k) H) {H1 : Heap} {kn' : Nat → Int32} {sh' : Nat → Nat → Int32} {k' : Int32} {r : Nat} {f : Nat → Int64} (hP : va_P D vwCl (w8 cI cQ x ah ak b0 b1 b2 b3 b4 hk kn' sh' k') H1)
    (hPr : va_P D vwCl (reW cL (va_up re r ((re r).1, (re r).2.1, (re r).2.2.1, f)) r) H1) (hq : ∀ r', Live hk r' → r' ≠ r → va_P D vwCl (reW cL re r') H1) :
    RSB D cI cL cQ x ah ak b0 b1 b2 b3 b4 F (hk, va_up re r ((re r).1, (re r).2.1, (re r).2.2.1, f), kn', sh', k') H1 := by
  have hrow : ∀ q, (va_up re r ((re r).1, (re r).2.1, (re r).2.2.1, f) q).2.1 = (re q).2.1 := fun q => by
    by_cases e : q = r
    · rw [e, va_up_self]
    · rw [va_up_ne _ _ e]
  have hlen : ∀ q, (va_up re r ((re r).1, (re r).2.1, (re r).2.2.1, f) q).2.2.1 = (re q).2.2.1 := fun q => by
    by_cases e : q = r
    · rw [e, va_up_self]
    · rw [va_up_ne _ _ e]
  refine ⟨hP, h.2.1, h.2.2.1, fun r' hr' => ?_⟩
  obtain ⟨h1, h2, h3, h4, h5⟩ := h.2.2.2 r' hr'
  refine ⟨?_, by show F r' ∧ F _; rw [hrow]; exact h2, by show r' ∉ _ ∧ _ ∉ _; rw [hrow]; exact h3, by show _ ≤ 40; rw [hlen]; exact h4, fun r2 hr2 => by show r' ≠ _ ∧ (_ = _ → _); rw [hrow, hrow]; exact h5 r2 hr2⟩
  by_cases e : r' = r
  · subst e; exact hPr
  · show va_P D vwCl (reW cL (va_up re r _) r') H1
    have e2 : reW cL (va_up re r ((re r).1, (re r).2.1, (re r).2.2.1, f)) r' = reW cL re r' := by simp only [reW, va_up_ne _ _ e]
    rw [e2]
    exact hq r' hr' e
/-- a reel whose cells aren't among those that may have changed -/
theorem RSB.keepR (h : RSB D cI cL cQ x ah ak b0 b1 b2 b3 b4 F (hk, re, kn, sh, k) H) {H1 : Heap} {r' : Nat} (hr' : Live hk r') {A : Nat → Prop} (hA : ∀ q : Nat, q < H.size → ¬ A q → H1[q]? = H[q]?) (h1 : ¬ A r') (h2 : ¬ A (re r').2.1) : va_P D vwCl (reW cL re r') H1 := by
  have h0 := h.Pr hr'
  intro i q hi
  refine (h0 i q hi).kept (hA q.1 (h0 i q hi).lt ?_)
  have hm := List.mem_of_getElem? hi
  simp only [List.mem_cons, List.not_mem_nil, or_false] at hm
  rcases hm with rfl | rfl
  · exact h1
  · exact h2
/-- a new reel comes to a hook -/
theorem RSB.putN (h : RSB D cI cL cQ x ah ak b0 b1 b2 b3 b4 F (hk, re, kn, sh, k) H) {H1 : Heap} {j r w z : Nat} {kd : Int32} {f : Nat → Int64} (hP : va_P D vwCl (w8 cI cQ x ah ak b0 b1 b2 b3 b4 (va_up hk j (some r)) kn sh k) H1)
    (hPr : va_P D vwCl [(r, .inr (1, [.int kd, .ref w])), (w, .inl (cL, z, .inr (.inl f)))] H1) (hrs : H.size ≤ r) (hws : H.size ≤ w) (hrw : r ≠ w) (hz : z ≤ 40) (hq : ∀ q : Nat, q < H.size → q ∉ [x, ah, ak, b0, b1, b2, b3, b4] → H1[q]? = H[q]?) :
    RSB D cI cL cQ x ah ak b0 b1 b2 b3 b4 (fun q => F q ∨ H.size ≤ q) (va_up hk j (some r), va_up re r (kd, w, z, f), kn, sh, k) H1 := by
  have hfix : ∀ q, H.size ≤ q → q ∉ [x, ah, ak, b0, b1, b2, b3, b4] := by
    intro q hq hm
    obtain ⟨i, hi⟩ := List.mem_iff_getElem?.mp hm
    have hi8 : ((w8 cI cQ x ah ak b0 b1 b2 b3 b4 hk kn sh k).map (·.1))[i]? = some q := hi
    rw [List.getElem?_map] at hi8
    cases hc : (w8 cI cQ x ah ak b0 b1 b2 b3 b4 hk kn sh k)[i]? with
    | none => rw [hc] at hi8; cases hi8
    | some c =>
      rw [hc] at hi8
      have e1 : c.1 = q := Option.some.inj hi8
      have := (h.1 i c hc).lt
      omega
  have hold : ∀ r', Live (va_up hk j (some r)) r' → r' = r ∨ (r' ≠ r ∧ Live hk r') := by
    rintro r' ⟨i, hi, he⟩
    by_cases e : r' = r
    · exact Or.inl e
    · refine Or.inr ⟨e, i, hi, ?_⟩
      by_cases ei : i = j
      · rw [ei, va_up_self] at he; exact absurd (Option.some.inj he).symm e
      · rw [va_up_ne _ _ ei] at he; exact he
  have hlt : ∀ r', Live hk r' → r' < H.size ∧ (re r').2.1 < H.size := fun r' hr' => ⟨((h.2.2.2 r' hr').1 0 _ rfl).lt, ((h.2.2.2 r' hr').1 1 _ rfl).lt⟩
  have hnew : va_up re r (kd, w, z, f) r = (kd, w, z, f) := va_up_self _ _ _
  have hne : ∀ r', r' ≠ r → va_up re r (kd, w, z, f) r' = re r' := fun r' e => va_up_ne _ _ e
  refine ⟨hP, fun q hm => Or.inl (h.2.1 q hm), h.2.2.1, fun r' hr' => ?_⟩
  rcases hold r' hr' with rfl | ⟨e, hl⟩
  · refine ⟨?_, ⟨Or.inr hrs, ?_⟩, ⟨hfix _ hrs, ?_⟩, ?_, fun r2 hr2 => ?_⟩
    · show va_P D vwCl (reW cL (va_up re r' (kd, w, z, f)) r') H1
      simp only [reW, hnew]; exact hPr
    · show F _ ∨ H.size ≤ (va_up re r' (kd, w, z, f) r').2.1; rw [hnew]; exact Or.inr hws
    · show (va_up re r' (kd, w, z, f) r').2.1 ∉ _; rw [hnew]; exact hfix _ hws
    · show (va_up re r' (kd, w, z, f) r').2.2.1 ≤ 40; rw [hnew]; exact hz
    · show r' ≠ (va_up re r' (kd, w, z, f) r2).2.1 ∧ ((va_up re r' (kd, w, z, f) r').2.1 = (va_up re r' (kd, w, z, f) r2).2.1 → r' = r2)
      rcases hold r2 hr2 with rfl | ⟨e2, hl2⟩
      · rw [hnew]; exact ⟨hrw, fun _ => rfl⟩
      · rw [hnew, hne r2 e2]
        have := (hlt r2 hl2).2
        exact ⟨by omega, fun z => absurd z (by show ¬ w = _; omega)⟩
  · obtain ⟨h1, h2, h3, h4, h5⟩ := h.2.2.2 r' hl
    have hl1 := hlt r' hl
    refine ⟨?_, ⟨Or.inl h2.1, ?_⟩, ⟨h3.1, ?_⟩, ?_, fun r2 hr2 => ?_⟩
    · show va_P D vwCl (reW cL (va_up re r (kd, w, z, f)) r') H1
      simp only [reW, hne r' e]
      intro i q hi
      have hm := List.mem_of_getElem? hi
      simp only [List.mem_cons, List.not_mem_nil, or_false] at hm
      refine (h1 i q hi).kept (hq q.1 (h1 i q hi).lt ?_)
      rcases hm with rfl | rfl
      · exact h3.1
      · exact h3.2
    · show F (va_up re r (kd, w, z, f) r').2.1 ∨ _; rw [hne r' e]; exact Or.inl h2.2
    · show (va_up re r (kd, w, z, f) r').2.1 ∉ _; rw [hne r' e]; exact h3.2
    · show (va_up re r (kd, w, z, f) r').2.2.1 ≤ 40; rw [hne r' e]; exact h4
    · show r' ≠ (va_up re r (kd, w, z, f) r2).2.1 ∧ ((va_up re r (kd, w, z, f) r').2.1 = (va_up re r (kd, w, z, f) r2).2.1 → r' = r2)
      rcases hold r2 hr2 with rfl | ⟨e2, hl2⟩
      · rw [hnew, hne r' e]
        exact ⟨by show r' ≠ w; omega, fun z => absurd z (by show ¬ _ = w; omega)⟩
      · rw [hne r' e, hne r2 e2]; exact h5 r2 hl2
end L
end CRoom
end
section
section CKnife
theorem K_idL {D : va_G} {cI cL cQ cA : ClassId} {s : State} (h0 : va_K D vwCl [(cI, .int), (cL, .long), (cQ, .object RX1)] s) (h : va_K D vwCl ([(cI, .int), (cL, .long), (cQ, .object RX1)] ++ [(cA, .long)]) s) : cL = cA := by
  have h1 : s.vm.findClass ("[" ++ FieldType.long.toString) = some cL := (h0.2 1 _ rfl).2
  have h2 : s.vm.findClass ("[" ++ FieldType.long.toString) = some cA := (h.2 3 _ rfl).2
  exact Option.some.inj (h1.symm.trans h2)
theorem K_idI {D : va_G} {cI cL cQ cA : ClassId} {s : State} (h0 : va_K D vwCl [(cI, .int), (cL, .long), (cQ, .object RX1)] s) (h : va_K D vwCl ([(cI, .int), (cL, .long), (cQ, .object RX1)] ++ [(cA, .int)]) s) : cI = cA := by
  have h1 : s.vm.findClass ("[" ++ FieldType.int.toString) = some cI := (h0.2 0 _ rfl).2
  have h2 : s.vm.findClass ("[" ++ FieldType.int.toString) = some cA := (h.2 3 _ rfl).2
  exact Option.some.inj (h1.symm.trans h2)
/-- the first frames of a new reel -/
abbrev fr0 (k : Int32) : Int64 := if k = 3 ∨ k = 4 then -1 else 0
theorem iw_X1_init_X1 : ∀ w ∈ wsX10, w ∈ wsX1_init := by decide +kernel
theorem lk_X1_init_Cond_arrayClass_long : Cond.arrayClass .long ∈ wsX1_init := by decide +kernel
theorem lk_X1_init_Cond_code_objectInit_0xb1_1_none : Cond.code objectInit ⟨#[0xb1]⟩ 1 none ∈ wsX1_init := by decide +kernel
theorem lk_X1_init_Cond_constantLong_RX1_19_1_ : Cond.constantLong RX1 19 (-1) ∈ wsX1_init := by decide +kernel
theorem lk_X1_init_Cond_fieldLink_RX1_15_SpliceRoom_Reel_row_J_ : Cond.fieldLink RX1 15 "SpliceRoom$Reel" "row" "[J" ∈ wsX1_init := by decide +kernel
theorem lk_X1_init_Cond_fieldLink_RX1_9_SpliceRoom_Reel_kind_I_ : Cond.fieldLink RX1 9 "SpliceRoom$Reel" "kind" "I" ∈ wsX1_init := by decide +kernel
theorem lk_X1_init_Cond_instanceMethod_objectInit : Cond.instanceMethod objectInit ∈ wsX1_init := by decide +kernel
theorem lk_X1_init_Cond_methodLink_RX1_3_objectInit : Cond.methodLink RX1 3 objectInit ∈ wsX1_init := by decide +kernel
set_option maxHeartbeats 4000000 in
set_option maxRecDepth 100000 in
theorem c_X1_init (l : Launch) {D : va_G} {cI cL cQ : ClassId} {N0 : Nat} {sa : Nat → Nat} {Hc : Heap} {h0 z : Nat} {kd : Int32} (hP : va_P D vwCl [(h0, .inr (1, [.int 0, .null]))] Hc) (hD0 : va_D nT [(h0, .inr (1, [.int 0, .null]))]) (hN : ∀ q, va_A [(h0, .inr (1, [.int 0, .null]))] Hc.size q → N0 ≤ q) (hz : z ≤ 40) : Met l yX1_init wsX1_init ({ frames := 1, cells := 1, slots := 40, locals := 12 }) (Pq D cI cL cQ N0 sa [.ref h0, .int kd, .int (nI z)] Hc) (va_Qv (fun (u : Nat × (Nat → Int64)) => ∀ j, j < z → u.2 j = fr0 kd) (fun (u : Nat × (Nat → Int64)) (t : State) => va_P D vwCl [(h0, .inr (1, [.int kd, .ref u.1])), (u.1, .inl (cL, z, .inr (.inl u.2)))] t.heap ∧ va_D (va_A [(h0, .inr (1, [.int 0, .null]))] Hc.size) [(h0, .inr (1, [.int kd, .ref u.1])), (u.1, .inl (cL, z, .inr (.inl u.2)))]) (va_A [(h0, .inr (1, [.int 0, .null]))] Hc.size)) 1 40 (va_A [(h0, .inr (1, [.int 0, .null]))] Hc.size) := by
  refine Met.ofW (cc := cX1_init) (maxL := 4) (ret := none) (by decide) rfl ?_
  intro p e s m args below meth c s₁ B hml hv
  obtain ⟨rfl, hH, hC⟩ := hv
  have hx := B.exec
  have hb := B.bytes
  have hr := B.returns
  have hts := atoms_spec (ws := wsX1_init) B.pre
  have hown : s.vm.findClass RX1 = some m.cls := findClass_of_methodNamed B.named
  have hlocks := B.notSynchronized
  have hin : meth.name = "<init>" := (name_of_methodNamed B.named B.method).1
  subst hH
  have hK := hC.K
  have hl := lv_entry ([.ref h0, .int kd, .int (nI z)]) (n := 4) (Nat.le_of_ble_eq_true rfl)
  rw [lg_entry_eq]
  generalize (lg_sl ([.ref h0, .int kd, .int (nI z)]) ++ List.replicate (4 - (lg_sl ([.ref h0, .int kd, .int (nI z)])).length) Slot.unset).toArray = ls at hl ⊢
  have hl : lv_has ls 4 [(0, .ref h0), (1, .int kd), (2, .int (nI z))] := hl
  have hP : va_P D vwCl [(h0, .inr (1, [.int 0, .null]))] s.heap := hP
  have hD := hD0.self (sz := s.heap.size)
  generalize hAe : va_A [(h0, .inr (1, [.int 0, .null]))] s.heap.size = A at hD hN ⊢
  have hA : ∀ q : Nat, s.heap.size ≤ q → A q := fun q h => by rw [← hAe]; exact Or.inr h
  have hS : va_S A s.heap s.heap [] := va_S.rf
  refine lv_aload_n hx hb dX1_init_0 rfl (lv_at hl 0 rfl) ?_
  refine W.objInit hx hb hown (hts _ lk_X1_init_Cond_methodLink_RX1_3_objectInit) (hts _ lk_X1_init_Cond_instanceMethod_objectInit) (hts _ lk_X1_init_Cond_code_objectInit_0xb1_1_none) rfl (by rw [hml]; exact hl.1) rfl dX1_init_1 (Nat.le_of_ble_eq_true rfl) (Nat.le_of_ble_eq_true rfl) ?_
  refine W.eq (g2 := F0 m 4 ls []) rfl ?_
  refine lv_aload_n hx hb dX1_init_4 rfl (lv_at hl 0 rfl) ?_
  refine lv_iload_n hx hb dX1_init_5 rfl (lv_at hl 1 rfl) ?_
  refine va_putF (D := D) (ci := 1) (v := .int kd) (ty := .int) (C := RX1) (T := TX1) (N := 2) hx hb hts iw_X1_init_X1 tyX1 tyX1_ok nmX1 hown hK hP hD hS 0 rfl rfl 0 (by decide) (hts _ lk_X1_init_Cond_fieldLink_RX1_9_SpliceRoom_Reel_kind_I_) (fun _ h9 => h9) rfl hin rfl (by decide +kernel) rfl rfl (Nat.le_of_ble_eq_true rfl) dX1_init_6 (fun H locs hP hD hS => ?_)
  have hP : va_P D vwCl [(h0, .inr (1, [.int kd, .null]))] H := hP
  have hD : va_D A [(h0, .inr (1, [.int kd, .null]))] := hD
  refine lv_aload_n hx hb dX1_init_9 rfl (lv_at hl 0 rfl) ?_
  refine lv_iload_n hx hb dX1_init_10 rfl (lv_at hl 2 rfl) ?_
  refine va_newa (D := D) (atype := .long) hx hb (hts _ lk_X1_init_Cond_arrayClass_long) (ty := .long) rfl hK hP hD hS hA (a0 := (z, .inr (.inl (fun _ => 0)))) (fun cA => rfl) (nI_pos (by omega)) (nI_clamp (by omega)) (show z * 8 ≤ 536870912 by omega) (Nat.le_of_ble_eq_true rfl) (show 0 + z ≤ 40 by omega) dX1_init_11 (fun q cA H hK1 hP hD hS => ?_)
  have eK := K_idL hK hK1
  subst eK
  have hP : va_P D vwCl [(h0, .inr (1, [.int kd, .null])), (q, .inl (cL, z, .inr (.inl (fun _ => 0))))] H := hP
  have hD : va_D A [(h0, .inr (1, [.int kd, .null])), (q, .inl (cL, z, .inr (.inl (fun _ => 0))))] := hD
  refine W.widen (k := 1) (n := 40) (by omega) (by omega) ?_
  refine va_putF (D := D) (ci := 1) (v := .ref q) (ty := .array .long) (C := RX1) (T := TX1) (N := 2) hx hb hts iw_X1_init_X1 tyX1 tyX1_ok nmX1 hown hK hP hD hS 0 rfl rfl 1 (by decide) (hts _ lk_X1_init_Cond_fieldLink_RX1_15_SpliceRoom_Reel_row_J_) (fun _ h9 => h9) rfl hin rfl (by decide +kernel) rfl rfl (Nat.le_of_ble_eq_true rfl) dX1_init_13 (fun H locs hP hD hS => ?_)
  have hP : va_P D vwCl [(h0, .inr (1, [.int kd, .ref q])), (q, .inl (cL, z, .inr (.inl (fun _ => 0))))] H := hP
  have hD : va_D A [(h0, .inr (1, [.int kd, .ref q])), (q, .inl (cL, z, .inr (.inl (fun _ => 0))))] := hD
  refine lv_iload_n hx hb dX1_init_16 rfl (lv_at hl 1 rfl) ?_
  refine lv_iconst (v := 3) hx hb dX1_init_17 (by decide) ?_
  refine lv_icmp_eq (tgt := 26) hx hb dX1_init_18 (by decide) (fun c_18 => ?_) (fun c_18 => ?_)
  · have hcd : kd = 3 ∨ kd = 4 := Or.inl c_18
    refine lv_iconst (v := 0) hx hb dX1_init_26 (by decide) ?_
    refine lv_istore_n (lv' := [(3, .int 0), (0, .ref h0), (1, .int kd), (2, .int (nI z))]) hx hb dX1_init_27 rfl hl (by decide) rfl (fun ls hl => ?_)
    have loop : ∀ (n i : Nat) (f : Nat → Int64) (H : Heap) (locs : List Loc) (ls : Array Slot), i ≤ z → z + 1 ≤ i + n → (∀ j, j < i → f j = -1) → lv_has ls 4 [(3, .int (nI i)), (0, .ref h0), (1, .int kd), (2, .int (nI z))] → va_P D vwCl [(h0, .inr (1, [.int kd, .ref q])), (q, .inl (cL, z, .inr (.inl f)))] H → va_D A [(h0, .inr (1, [.int kd, .ref q])), (q, .inl (cL, z, .inr (.inl f)))] → va_S A s.heap H locs → W p l e (headSpec wsX1_init ({ frames := 1, cells := 1, slots := 40, locals := 12 })).room s m ([.ref h0, .int kd, .int (nI z)] : List Value).toArray below meth c H locs 1 40 (MQ below (va_Qv (fun (u : Nat × (Nat → Int64)) => ∀ j, j < z → u.2 j = fr0 kd) (fun (u : Nat × (Nat → Int64)) (t : State) => va_P D vwCl [(h0, .inr (1, [.int kd, .ref u.1])), (u.1, .inl (cL, z, .inr (.inl u.2)))] t.heap ∧ va_D A [(h0, .inr (1, [.int kd, .ref u.1])), (u.1, .inl (cL, z, .inr (.inl u.2)))]) A) ([.ref h0, .int kd, .int (nI z)] : List Value).toArray s 1 40 A) (F0 m 28 ls []) := by
      intro n
      induction n with
      | zero => intro i f H locs ls h1 h2; exact absurd h2 (by omega)
      | succ n ih =>
        intro i f H locs ls hi hn hf hl hP hD hS
        refine lv_iload_n hx hb dX1_init_28 rfl (lv_at hl 0 rfl) ?_
        refine lv_iload_n hx hb dX1_init_29 rfl (lv_at hl 3 rfl) ?_
        refine lv_icmp_ge (tgt := 48) hx hb dX1_init_30 (by decide) (fun c_30 => ?_) (fun c_30 => ?_)
        · exact W.vret hx hb hr (fun t ht hW => ⟨⟨(q, f), rfl, (fun j hj => by rw [fr0, if_pos hcd]; exact hf j (by have := nI_leI (a := z) (b := i) (by omega) (by omega); have := this.mp c_30; omega)), ⟨by rw [ht]; exact hP, hD⟩⟩, hS.F ht⟩) hS.2.2 dX1_init_48
        · have hlt : i < z := Nat.lt_of_not_le (fun h => c_30 (nI_le h (by omega)))
          refine lv_aload_n hx hb dX1_init_33 rfl (lv_at hl 1 rfl) ?_
          refine va_get (D := D) (ci := 1) (v := .ref q) (C := RX1) (T := TX1) (N := 2) hx hb hts iw_X1_init_X1 hown hK hP 0 rfl rfl 1 (by decide) (hts _ lk_X1_init_Cond_fieldLink_RX1_15_SpliceRoom_Reel_row_J_) (fun _ h9 => h9) rfl dX1_init_34 ?_
          refine lv_iload_n hx hb dX1_init_37 rfl (lv_at hl 0 rfl) ?_
          refine lv_ldc2 (v := (-1)) hx hb hown (hts _ lk_X1_init_Cond_constantLong_RX1_19_1_) dX1_init_38 ?_
          refine va_last (D := D) hx hb hK hP hD hS 1 1 rfl rfl (vp_in_nI hlt (by omega)) dX1_init_41 (fun H locs hP hD hS => ?_)
          have hP : va_P D vwCl [(h0, .inr (1, [.int kd, .ref q])), (q, .inl (cL, z, .inr (.inl (vp_updL f ((nI i).toNatClampNeg) (-1)))))] H := hP
          have hD : va_D A [(h0, .inr (1, [.int kd, .ref q])), (q, .inl (cL, z, .inr (.inl (vp_updL f ((nI i).toNatClampNeg) (-1)))))] := hD
          rw [nI_clamp (show i < 2 ^ 31 by omega)] at hP hD
          refine lv_iinc (v := nI (i + 1)) (lv' := [(3, .int (nI (i + 1))), (0, .ref h0), (1, .int kd), (2, .int (nI z))]) hx hb dX1_init_42 hl (k := 0) rfl (nI_1 i) (by decide) rfl (fun ls hl => ?_)
          refine lv_goto (tgt := 28) hx hb dX1_init_45 (by decide) ?_
          refine ih (i + 1) _ _ _ _ (by omega) (by omega) (fun j hj => ?_) hl hP hD hS
          by_cases e : j = i
          · rw [e]; exact pk_uLs
          · rw [pk_uLn e]; exact hf j (by omega)
    exact loop (z + 1) 0 _ _ _ _ (by omega) (by omega) (fun j hj => absurd hj (by omega)) hl hP hD hS
  · refine lv_iload_n hx hb dX1_init_21 rfl (lv_at hl 1 rfl) ?_
    refine lv_iconst (v := 4) hx hb dX1_init_22 (by decide) ?_
    refine lv_icmp_ne (tgt := 48) hx hb dX1_init_23 (by decide) (fun c_23 => ?_) (fun c_23 => ?_)
    · exact W.vret hx hb hr (fun t ht hW => ⟨⟨(q, fun _ => 0), rfl, (fun j hj => by rw [fr0, if_neg (fun h => h.elim c_18 c_23)]), ⟨by rw [ht]; exact hP, hD⟩⟩, hS.F ht⟩) hS.2.2 dX1_init_48
    · have hcd : kd = 3 ∨ kd = 4 := Or.inr c_23
      refine lv_iconst (v := 0) hx hb dX1_init_26 (by decide) ?_
      refine lv_istore_n (lv' := [(3, .int 0), (0, .ref h0), (1, .int kd), (2, .int (nI z))]) hx hb dX1_init_27 rfl hl (by decide) rfl (fun ls hl => ?_)
      have loop : ∀ (n i : Nat) (f : Nat → Int64) (H : Heap) (locs : List Loc) (ls : Array Slot), i ≤ z → z + 1 ≤ i + n → (∀ j, j < i → f j = -1) → lv_has ls 4 [(3, .int (nI i)), (0, .ref h0), (1, .int kd), (2, .int (nI z))] → va_P D vwCl [(h0, .inr (1, [.int kd, .ref q])), (q, .inl (cL, z, .inr (.inl f)))] H → va_D A [(h0, .inr (1, [.int kd, .ref q])), (q, .inl (cL, z, .inr (.inl f)))] → va_S A s.heap H locs → W p l e (headSpec wsX1_init ({ frames := 1, cells := 1, slots := 40, locals := 12 })).room s m ([.ref h0, .int kd, .int (nI z)] : List Value).toArray below meth c H locs 1 40 (MQ below (va_Qv (fun (u : Nat × (Nat → Int64)) => ∀ j, j < z → u.2 j = fr0 kd) (fun (u : Nat × (Nat → Int64)) (t : State) => va_P D vwCl [(h0, .inr (1, [.int kd, .ref u.1])), (u.1, .inl (cL, z, .inr (.inl u.2)))] t.heap ∧ va_D A [(h0, .inr (1, [.int kd, .ref u.1])), (u.1, .inl (cL, z, .inr (.inl u.2)))]) A) ([.ref h0, .int kd, .int (nI z)] : List Value).toArray s 1 40 A) (F0 m 28 ls []) := by
        intro n
        induction n with
        | zero => intro i f H locs ls h1 h2; exact absurd h2 (by omega)
        | succ n ih =>
          intro i f H locs ls hi hn hf hl hP hD hS
          refine lv_iload_n hx hb dX1_init_28 rfl (lv_at hl 0 rfl) ?_
          refine lv_iload_n hx hb dX1_init_29 rfl (lv_at hl 3 rfl) ?_
          refine lv_icmp_ge (tgt := 48) hx hb dX1_init_30 (by decide) (fun c_30 => ?_) (fun c_30 => ?_)
          · exact W.vret hx hb hr (fun t ht hW => ⟨⟨(q, f), rfl, (fun j hj => by rw [fr0, if_pos hcd]; exact hf j (by have := nI_leI (a := z) (b := i) (by omega) (by omega); have := this.mp c_30; omega)), ⟨by rw [ht]; exact hP, hD⟩⟩, hS.F ht⟩) hS.2.2 dX1_init_48
          · have hlt : i < z := Nat.lt_of_not_le (fun h => c_30 (nI_le h (by omega)))
            refine lv_aload_n hx hb dX1_init_33 rfl (lv_at hl 1 rfl) ?_
            refine va_get (D := D) (ci := 1) (v := .ref q) (C := RX1) (T := TX1) (N := 2) hx hb hts iw_X1_init_X1 hown hK hP 0 rfl rfl 1 (by decide) (hts _ lk_X1_init_Cond_fieldLink_RX1_15_SpliceRoom_Reel_row_J_) (fun _ h9 => h9) rfl dX1_init_34 ?_
            refine lv_iload_n hx hb dX1_init_37 rfl (lv_at hl 0 rfl) ?_
            refine lv_ldc2 (v := (-1)) hx hb hown (hts _ lk_X1_init_Cond_constantLong_RX1_19_1_) dX1_init_38 ?_
            refine va_last (D := D) hx hb hK hP hD hS 1 1 rfl rfl (vp_in_nI hlt (by omega)) dX1_init_41 (fun H locs hP hD hS => ?_)
            have hP : va_P D vwCl [(h0, .inr (1, [.int kd, .ref q])), (q, .inl (cL, z, .inr (.inl (vp_updL f ((nI i).toNatClampNeg) (-1)))))] H := hP
            have hD : va_D A [(h0, .inr (1, [.int kd, .ref q])), (q, .inl (cL, z, .inr (.inl (vp_updL f ((nI i).toNatClampNeg) (-1)))))] := hD
            rw [nI_clamp (show i < 2 ^ 31 by omega)] at hP hD
            refine lv_iinc (v := nI (i + 1)) (lv' := [(3, .int (nI (i + 1))), (0, .ref h0), (1, .int kd), (2, .int (nI z))]) hx hb dX1_init_42 hl (k := 0) rfl (nI_1 i) (by decide) rfl (fun ls hl => ?_)
            refine lv_goto (tgt := 28) hx hb dX1_init_45 (by decide) ?_
            refine ih (i + 1) _ _ _ _ (by omega) (by omega) (fun j hj => ?_) hl hP hD hS
            by_cases e : j = i
            · rw [e]; exact pk_uLs
            · rw [pk_uLn e]; exact hf j (by omega)
      exact loop (z + 1) 0 _ _ _ _ (by omega) (by omega) (fun j hj => absurd hj (by omega)) hl hP hD hS
theorem lk_X0_init_Cond_code_objectInit_0xb1_1_none : Cond.code objectInit ⟨#[0xb1]⟩ 1 none ∈ wsX0_init := by decide +kernel
theorem lk_X0_init_Cond_instanceMethod_objectInit : Cond.instanceMethod objectInit ∈ wsX0_init := by decide +kernel
theorem lk_X0_init_Cond_methodLink_RX0_3_objectInit : Cond.methodLink RX0 3 objectInit ∈ wsX0_init := by decide +kernel
set_option maxHeartbeats 4000000 in
set_option maxRecDepth 100000 in
theorem c_X0_init (l : Launch) {D : va_G} {cI cL cQ : ClassId} {N0 : Nat} {sa : Nat → Nat} {Hc : Heap} {h0 : Nat} : Met l yX0_init wsX0_init ({ frames := 1, cells := 0, slots := 0, locals := 12 }) (Pq D cI cL cQ N0 sa [.ref h0] Hc) (va_Qv (fun (_ : Unit) => True) (fun _ t => t.heap = Hc) nA) 0 0 nA := by
  refine Met.ofW (cc := cX0_init) (maxL := 1) (ret := none) (by decide) rfl ?_
  intro p e s m args below meth c s₁ B hml hv
  obtain ⟨rfl, hH, hC⟩ := hv
  have hx := B.exec
  have hb := B.bytes
  have hr := B.returns
  have hts := atoms_spec (ws := wsX0_init) B.pre
  have hown : s.vm.findClass RX0 = some m.cls := findClass_of_methodNamed B.named
  have hlocks := B.notSynchronized
  subst hH
  have hK := hC.K
  have hl := lv_entry ([.ref h0]) (n := 1) (Nat.le_of_ble_eq_true rfl)
  rw [lg_entry_eq]
  generalize (lg_sl ([.ref h0]) ++ List.replicate (1 - (lg_sl ([.ref h0])).length) Slot.unset).toArray = ls at hl ⊢
  have hl : lv_has ls 1 [(0, .ref h0)] := hl
  have hS : va_S nA s.heap s.heap [] := va_S.rf
  have hN : ∀ q, nA q → N0 ≤ q := nA_N
  refine lv_aload_n hx hb dX0_init_0 rfl (lv_at hl 0 rfl) ?_
  refine W.objInit hx hb hown (hts _ lk_X0_init_Cond_methodLink_RX0_3_objectInit) (hts _ lk_X0_init_Cond_instanceMethod_objectInit) (hts _ lk_X0_init_Cond_code_objectInit_0xb1_1_none) rfl (by rw [hml]; exact hl.1) rfl dX0_init_1 (Nat.le_of_ble_eq_true rfl) (Nat.le_of_ble_eq_true rfl) ?_
  refine W.eq (g2 := F0 m 4 ls []) rfl ?_
  exact W.vret hx hb hr (fun t ht hW => ⟨⟨(), rfl, trivial, ht⟩, hS.F ht⟩) hS.2.2 dX0_init_4
theorem iw_X0_sharpen_X0 : ∀ w ∈ wsX00, w ∈ wsX0_sharpen := by decide +kernel
theorem lk_X0_sharpen_Cond_fieldLink_RX0_15_SpliceRoom_Knife_grindings_I_ : Cond.fieldLink RX0 15 "SpliceRoom$Knife" "grindings" "I" ∈ wsX0_sharpen := by decide +kernel
theorem lk_X0_sharpen_Cond_fieldLink_RX0_9_SpliceRoom_Knife_jamsInRow_I_ : Cond.fieldLink RX0 9 "SpliceRoom$Knife" "jamsInRow" "I" ∈ wsX0_sharpen := by decide +kernel
set_option maxHeartbeats 4000000 in
set_option maxRecDepth 100000 in
theorem c_X0_sharpen (l : Launch) {D : va_G} {cI cL cQ : ClassId} {N0 : Nat} {sa : Nat → Nat} {Hc : Heap} {h0 : Nat} {f0 f1 f2 f3 f4 f5 f6 : Int32} (hP : va_P D vwCl [(h0, .inr (0, [.int f0, .int f1, .int f2, .int f3, .int f4, .int f5, .int f6]))] Hc) (hD0 : va_D nT [(h0, .inr (0, [.int f0, .int f1, .int f2, .int f3, .int f4, .int f5, .int f6]))]) (hN : ∀ q, va_A [(h0, .inr (0, [.int f0, .int f1, .int f2, .int f3, .int f4, .int f5, .int f6]))] Hc.size q → N0 ≤ q) : Met l yX0_sharpen wsX0_sharpen ({ frames := 0, cells := 0, slots := 0, locals := 0 }) (Pq D cI cL cQ N0 sa [.ref h0] Hc) (va_Qv (fun (u : Unit) => True) (fun (u : Unit) (t : State) => va_P D vwCl [(h0, .inr (0, [.int f0, .int f1, .int f2, .int 0, .int f4, .int f5, .int (f6 + 1)]))] t.heap ∧ va_D (va_A [(h0, .inr (0, [.int f0, .int f1, .int f2, .int f3, .int f4, .int f5, .int f6]))] Hc.size) [(h0, .inr (0, [.int f0, .int f1, .int f2, .int 0, .int f4, .int f5, .int (f6 + 1)]))]) (va_A [(h0, .inr (0, [.int f0, .int f1, .int f2, .int f3, .int f4, .int f5, .int f6]))] Hc.size)) 0 0 (va_A [(h0, .inr (0, [.int f0, .int f1, .int f2, .int f3, .int f4, .int f5, .int f6]))] Hc.size) := by
  refine Met.ofW (cc := cX0_sharpen) (maxL := 1) (ret := none) (by decide) rfl ?_
  intro p e s m args below meth c s₁ B hml hv
  obtain ⟨rfl, hH, hC⟩ := hv
  have hx := B.exec
  have hb := B.bytes
  have hr := B.returns
  have hts := atoms_spec (ws := wsX0_sharpen) B.pre
  have hown : s.vm.findClass RX0 = some m.cls := findClass_of_methodNamed B.named
  have hlocks := B.notSynchronized
  subst hH
  have hK := hC.K
  have hl := lv_entry ([.ref h0]) (n := 1) (Nat.le_of_ble_eq_true rfl)
  rw [lg_entry_eq]
  generalize (lg_sl ([.ref h0]) ++ List.replicate (1 - (lg_sl ([.ref h0])).length) Slot.unset).toArray = ls at hl ⊢
  have hl : lv_has ls 1 [(0, .ref h0)] := hl
  have hP : va_P D vwCl [(h0, .inr (0, [.int f0, .int f1, .int f2, .int f3, .int f4, .int f5, .int f6]))] s.heap := hP
  have hD := hD0.self (sz := s.heap.size)
  generalize hAe : va_A [(h0, .inr (0, [.int f0, .int f1, .int f2, .int f3, .int f4, .int f5, .int f6]))] s.heap.size = A at hD hN ⊢
  have hA : ∀ q : Nat, s.heap.size ≤ q → A q := fun q h => by rw [← hAe]; exact Or.inr h
  have hS : va_S A s.heap s.heap [] := va_S.rf
  refine lv_aload_n hx hb dX0_sharpen_0 rfl (lv_at hl 0 rfl) ?_
  refine lv_iconst (v := 0) hx hb dX0_sharpen_1 (by decide) ?_
  refine va_put (D := D) (ci := 0) (v := .int 0) (ty := .int) (C := RX0) (T := TX0) (N := 7) hx hb hts iw_X0_sharpen_X0 tyX0 tyX0_ok nmX0 hown hK hP hD hS 0 rfl rfl 3 (by decide) (hts _ lk_X0_sharpen_Cond_fieldLink_RX0_9_SpliceRoom_Knife_jamsInRow_I_) (fun _ h9 => h9) rfl (by decide +kernel) rfl rfl (Nat.le_of_ble_eq_true rfl) dX0_sharpen_2 (fun H locs hP hD hS => ?_)
  have hP : va_P D vwCl [(h0, .inr (0, [.int f0, .int f1, .int f2, .int 0, .int f4, .int f5, .int f6]))] H := hP
  have hD : va_D A [(h0, .inr (0, [.int f0, .int f1, .int f2, .int 0, .int f4, .int f5, .int f6]))] := hD
  refine lv_aload_n hx hb dX0_sharpen_5 rfl (lv_at hl 0 rfl) ?_
  refine lv_dup hx hb dX0_sharpen_6 rfl ?_
  refine va_get (D := D) (ci := 0) (v := .int f6) (C := RX0) (T := TX0) (N := 7) hx hb hts iw_X0_sharpen_X0 hown hK hP 0 rfl rfl 6 (by decide) (hts _ lk_X0_sharpen_Cond_fieldLink_RX0_15_SpliceRoom_Knife_grindings_I_) (fun _ h9 => h9) rfl dX0_sharpen_7 ?_
  refine lv_iconst (v := 1) hx hb dX0_sharpen_10 (by decide) ?_
  refine lv_iadd hx hb dX0_sharpen_11 ?_
  refine va_put (D := D) (ci := 0) (v := .int (f6 + 1)) (ty := .int) (C := RX0) (T := TX0) (N := 7) hx hb hts iw_X0_sharpen_X0 tyX0 tyX0_ok nmX0 hown hK hP hD hS 0 rfl rfl 6 (by decide) (hts _ lk_X0_sharpen_Cond_fieldLink_RX0_15_SpliceRoom_Knife_grindings_I_) (fun _ h9 => h9) rfl (by decide +kernel) rfl rfl (Nat.le_of_ble_eq_true rfl) dX0_sharpen_12 (fun H locs hP hD hS => ?_)
  have hP : va_P D vwCl [(h0, .inr (0, [.int f0, .int f1, .int f2, .int 0, .int f4, .int f5, .int (f6 + 1)]))] H := hP
  have hD : va_D A [(h0, .inr (0, [.int f0, .int f1, .int f2, .int 0, .int f4, .int f5, .int (f6 + 1)]))] := hD
  exact W.vret hx hb hr (fun t ht hW => ⟨⟨(), rfl, trivial, ⟨by rw [ht]; exact hP, hD⟩⟩, hS.F ht⟩) hS.2.2 dX0_sharpen_15
/-- how many frames are laid: the first k may come, the next one may not -/
def Stp4 (kb : Int32) (f : Nat → Int64) (p n k : Nat) : Prop := k ≤ n ∧ (∀ j, j < k → kTake kb (f (p + j))) ∧ (k < n → ¬ kTake kb (f (p + k)))
def LayRel (ka kb : Int32) (za zb : Nat) (f : Nat → Int64) (p q n : Int32) (k : Nat) (r : Int32) : Prop := (¬ kLike ka kb ∧ k = 0 ∧ r = -2) ∨ (kLike ka kb ∧ ¬ (inFr p n za ∧ inFr q n zb) ∧ k = 0 ∧ r = -3) ∨ (kLike ka kb ∧ (inFr p n za ∧ inFr q n zb) ∧ Stp4 kb f p.toNatClampNeg n.toNatClampNeg k ∧ r = if k < n.toNatClampNeg then -4 else n)
theorem cpy_0 {α : Type} (f g : Nat → α) (a b : Nat) : va_cpy f g a b 0 = g := by
  funext j
  exact pk_cpy_out (by omega)
theorem inFr_n {p n : Int32} {z : Nat} (hz : z ≤ 40) (h : inFr p n z) : ∃ i j : Nat, i + j ≤ z ∧ p = nI i ∧ n = nI j := by
  obtain ⟨i, hi, rfl⟩ := nI_of (x := p) (fun q => by have := i_lt q; have := h.1.1; omega)
  obtain ⟨j, hj, rfl⟩ := nI_of (x := n) (fun q => by have := i_lt q; have := h.1.2; omega)
  have := h.2
  rw [nI_toInt hi, nI_toInt hj] at this
  exact ⟨i, j, by omega, rfl, rfl⟩
theorem iw_X0_lay_X0 : ∀ w ∈ wsX00, w ∈ wsX0_lay := by decide +kernel
theorem iw_X0_lay_X1 : ∀ w ∈ wsX10, w ∈ wsX0_lay := by decide +kernel
theorem lk_X0_lay_Cond_fieldLink_RX0_18_SpliceRoom_Knife_far_I_ : Cond.fieldLink RX0 18 "SpliceRoom$Knife" "far" "I" ∈ wsX0_lay := by decide +kernel
theorem lk_X0_lay_Cond_initialized_java_lang_System_ : Cond.initialized "java/lang/System" ∈ wsX0_lay := by decide +kernel
theorem lk_X0_lay_Cond_methodLink_RX0_55_arraycopyName : Cond.methodLink RX0 55 arraycopyName ∈ wsX0_lay := by decide +kernel
theorem lk_X0_lay_Cond_native_arraycopyName : Cond.native arraycopyName ∈ wsX0_lay := by decide +kernel
theorem lk_X0_lay_Cond_static_arraycopyName : Cond.static arraycopyName ∈ wsX0_lay := by decide +kernel
set_option maxHeartbeats 4000000 in
set_option maxRecDepth 100000 in
theorem c_X0_lay (l : Launch) {D : va_G} {cI cL cQ : ClassId} {N0 : Nat} {sa : Nat → Nat} {Hc : Heap} {h0 a0 wa b0 wb : Nat} {f0 f1 f2 f3 f5 f6 ka kb : Int32} {za zb : Nat} {f g : Nat → Int64} {p0 q0 n0 : Int32} (hP : va_P D vwCl [(h0, .inr (0, [.int f0, .int f1, .int f2, .int f3, .int 0, .int f5, .int f6])), (a0, .inr (1, [.int ka, .ref wa])), (wa, .inl (cL, za, .inr (.inl f))), (b0, .inr (1, [.int kb, .ref wb])), (wb, .inl (cL, zb, .inr (.inl g)))] Hc) (hD0 : va_D nT [(h0, .inr (0, [.int f0, .int f1, .int f2, .int f3, .int 0, .int f5, .int f6])), (a0, .inr (1, [.int ka, .ref wa])), (wa, .inl (cL, za, .inr (.inl f))), (b0, .inr (1, [.int kb, .ref wb])), (wb, .inl (cL, zb, .inr (.inl g)))]) (hN : ∀ q, va_A [(h0, .inr (0, [.int f0, .int f1, .int f2, .int f3, .int 0, .int f5, .int f6])), (a0, .inr (1, [.int ka, .ref wa])), (wa, .inl (cL, za, .inr (.inl f))), (b0, .inr (1, [.int kb, .ref wb])), (wb, .inl (cL, zb, .inr (.inl g)))] Hc.size q → N0 ≤ q) (hza : za ≤ 40) (hzb : zb ≤ 40) : Met l yX0_lay wsX0_lay ({ frames := 2, cells := 0, slots := 0, locals := 60 }) (Pq D cI cL cQ N0 sa [.ref h0, .ref a0, .int p0, .ref b0, .int q0, .int n0] Hc) (va_Qi (fun (r : Int32) (u : Nat) => LayRel ka kb za zb f p0 q0 n0 u r) (fun (u : Nat) (t : State) => va_P D vwCl [(h0, .inr (0, [.int f0, .int f1, .int f2, .int f3, .int (nI u), .int f5, .int f6])), (a0, .inr (1, [.int ka, .ref wa])), (wa, .inl (cL, za, .inr (.inl f))), (b0, .inr (1, [.int kb, .ref wb])), (wb, .inl (cL, zb, .inr (.inl (va_cpy f g p0.toNatClampNeg q0.toNatClampNeg u))))] t.heap ∧ va_D (va_A [(h0, .inr (0, [.int f0, .int f1, .int f2, .int f3, .int 0, .int f5, .int f6])), (a0, .inr (1, [.int ka, .ref wa])), (wa, .inl (cL, za, .inr (.inl f))), (b0, .inr (1, [.int kb, .ref wb])), (wb, .inl (cL, zb, .inr (.inl g)))] Hc.size) [(h0, .inr (0, [.int f0, .int f1, .int f2, .int f3, .int (nI u), .int f5, .int f6])), (a0, .inr (1, [.int ka, .ref wa])), (wa, .inl (cL, za, .inr (.inl f))), (b0, .inr (1, [.int kb, .ref wb])), (wb, .inl (cL, zb, .inr (.inl (va_cpy f g p0.toNatClampNeg q0.toNatClampNeg u))))]) (va_A [(h0, .inr (0, [.int f0, .int f1, .int f2, .int f3, .int 0, .int f5, .int f6])), (a0, .inr (1, [.int ka, .ref wa])), (wa, .inl (cL, za, .inr (.inl f))), (b0, .inr (1, [.int kb, .ref wb])), (wb, .inl (cL, zb, .inr (.inl g)))] Hc.size)) 0 0 (va_A [(h0, .inr (0, [.int f0, .int f1, .int f2, .int f3, .int 0, .int f5, .int f6])), (a0, .inr (1, [.int ka, .ref wa])), (wa, .inl (cL, za, .inr (.inl f))), (b0, .inr (1, [.int kb, .ref wb])), (wb, .inl (cL, zb, .inr (.inl g)))] Hc.size) := by
  refine Met.ofW (cc := cX0_lay) (maxL := 6) (ret := (some .int)) (by decide) rfl ?_
  intro p e s m args below meth c s₁ B hml hv
  obtain ⟨rfl, hH, hC⟩ := hv
  have hx := B.exec
  have hb := B.bytes
  have hr := B.returns
  have hts := atoms_spec (ws := wsX0_lay) B.pre
  have hown : s.vm.findClass RX0 = some m.cls := findClass_of_methodNamed B.named
  have hlocks := B.notSynchronized
  subst hH
  have hK := hC.K
  have hl := lv_entry ([.ref h0, .ref a0, .int p0, .ref b0, .int q0, .int n0]) (n := 6) (Nat.le_of_ble_eq_true rfl)
  rw [lg_entry_eq]
  generalize (lg_sl ([.ref h0, .ref a0, .int p0, .ref b0, .int q0, .int n0]) ++ List.replicate (6 - (lg_sl ([.ref h0, .ref a0, .int p0, .ref b0, .int q0, .int n0])).length) Slot.unset).toArray = ls at hl ⊢
  have hl : lv_has ls 6 [(0, .ref h0), (1, .ref a0), (2, .int p0), (3, .ref b0), (4, .int q0), (5, .int n0)] := hl
  have hP : va_P D vwCl [(h0, .inr (0, [.int f0, .int f1, .int f2, .int f3, .int 0, .int f5, .int f6])), (a0, .inr (1, [.int ka, .ref wa])), (wa, .inl (cL, za, .inr (.inl f))), (b0, .inr (1, [.int kb, .ref wb])), (wb, .inl (cL, zb, .inr (.inl g)))] s.heap := hP
  have hD := hD0.self (sz := s.heap.size)
  generalize hAe : va_A [(h0, .inr (0, [.int f0, .int f1, .int f2, .int f3, .int 0, .int f5, .int f6])), (a0, .inr (1, [.int ka, .ref wa])), (wa, .inl (cL, za, .inr (.inl f))), (b0, .inr (1, [.int kb, .ref wb])), (wb, .inl (cL, zb, .inr (.inl g)))] s.heap.size = A at hD hN ⊢
  have hA : ∀ q : Nat, s.heap.size ≤ q → A q := fun q h => by rw [← hAe]; exact Or.inr h
  have hS : va_S A s.heap s.heap [] := va_S.rf
  refine lv_aload_n hx hb dX0_lay_0 rfl (lv_at hl 1 rfl) ?_
  refine lv_ifnull hx hb dX0_lay_1 ?_
  refine lv_aload_n hx hb dX0_lay_4 rfl (lv_at hl 3 rfl) ?_
  refine lv_ifnonnull (tgt := 10) hx hb dX0_lay_5 (by decide) ?_
  refine lv_aload_n hx hb dX0_lay_10 rfl (lv_at hl 1 rfl) ?_
  refine lv_aload_n hx hb dX0_lay_11 rfl (lv_at hl 3 rfl) ?_
  refine ro_i (va_runV (As := [.ref b0]) (rest := []) ⟨hx, hb, hml, hown, hts⟩ (c_X1_isLike l (h0 := a0) (h1 := b0) (hP.sub [1, 3] rfl)) (cwV 1 hts gX0_lay_X1_isLike rfl rfl rfl (by decide +kernel) ⟨Nat.le_of_ble_eq_true rfl, Nat.le_of_ble_eq_true rfl⟩) (Pq.V hC hS hN (va_recv hK hP (ci := 1) (q0 := 1) rfl rfl)) rfl rfl hl.1 rfl (lv_room (Nat.le_of_ble_eq_true rfl)) dX0_lay_12 ⟨Nat.le_of_ble_eq_true rfl, Nat.le_of_ble_eq_true rfl⟩) hS (fun r_1 locs hw hS => ?_)
  have hw : r_1 = tB (kLike ka kb) := hw
  subst hw
  refine lv_if_ne (tgt := 21) hx hb dX0_lay_15 (by decide) (fun c_15 => ?_) (fun c_15 => ?_)
  · have c_15 := tB_n.mp c_15
    refine lv_aload_n hx hb dX0_lay_21 rfl (lv_at hl 1 rfl) ?_
    refine lv_iload_n hx hb dX0_lay_22 rfl (lv_at hl 2 rfl) ?_
    refine lv_iload hx hb dX0_lay_23 (lv_at hl 5 rfl) ?_
    refine ro_i (va_runV (As := [.int p0, .int n0]) (rest := []) ⟨hx, hb, hml, hown, hts⟩ (c_X1_hasFrames l (h0 := a0) (p0 := p0) (n0 := n0) (hP.sub [1, 2] rfl) hza) (cwV 2 hts gX0_lay_X1_hasFrames rfl rfl rfl (by decide +kernel) ⟨Nat.le_of_ble_eq_true rfl, Nat.le_of_ble_eq_true rfl⟩) (Pq.V hC hS hN (va_recv hK hP (ci := 1) (q0 := 1) rfl rfl)) rfl rfl hl.1 rfl (lv_room (Nat.le_of_ble_eq_true rfl)) dX0_lay_25 ⟨Nat.le_of_ble_eq_true rfl, Nat.le_of_ble_eq_true rfl⟩) hS (fun r_2 locs hw hS => ?_)
    have hw : r_2 = tB (inFr p0 n0 za) := hw
    subst hw
    refine lv_if_eq (tgt := 42) hx hb dX0_lay_28 (by decide) (fun c_28 => ?_) (fun c_28 => ?_)
    · have c_28 := tB_0.mp c_28
      refine lv_bipush (v := (-3)) hx hb dX0_lay_42 (by decide) ?_
      exact W.iret (v := (-3)) hx hb hr (fun t ht hW => ⟨⟨_, 0, rfl, Or.inr (Or.inl ⟨c_15, fun h9 => c_28 h9.1, rfl, rfl⟩), ⟨by rw [ht]; exact by rw [(cpy_0 f g p0.toNatClampNeg q0.toNatClampNeg)]; exact hP, by rw [(cpy_0 f g p0.toNatClampNeg q0.toNatClampNeg)]; exact hD⟩⟩, hS.F ht⟩) hS.2.2 dX0_lay_44
    · have c_28 := tB_n.mp c_28
      refine lv_aload_n hx hb dX0_lay_31 rfl (lv_at hl 3 rfl) ?_
      refine lv_iload hx hb dX0_lay_32 (lv_at hl 4 rfl) ?_
      refine lv_iload hx hb dX0_lay_34 (lv_at hl 5 rfl) ?_
      refine ro_i (va_runV (As := [.int q0, .int n0]) (rest := []) ⟨hx, hb, hml, hown, hts⟩ (c_X1_hasFrames l (h0 := b0) (p0 := q0) (n0 := n0) (hP.sub [3, 4] rfl) hzb) (cwV 2 hts gX0_lay_X1_hasFrames rfl rfl rfl (by decide +kernel) ⟨Nat.le_of_ble_eq_true rfl, Nat.le_of_ble_eq_true rfl⟩) (Pq.V hC hS hN (va_recv hK hP (ci := 1) (q0 := 3) rfl rfl)) rfl rfl hl.1 rfl (lv_room (Nat.le_of_ble_eq_true rfl)) dX0_lay_36 ⟨Nat.le_of_ble_eq_true rfl, Nat.le_of_ble_eq_true rfl⟩) hS (fun r_3 locs hw hS => ?_)
      have hw : r_3 = tB (inFr q0 n0 zb) := hw
      subst hw
      refine lv_if_ne (tgt := 45) hx hb dX0_lay_39 (by decide) (fun c_39 => ?_) (fun c_39 => ?_)
      · have c_39 := tB_n.mp c_39
        obtain ⟨pp, n1, hp1, rfl, rfl⟩ := inFr_n hza c_28
        obtain ⟨qq, n2, hp2, rfl, en⟩ := inFr_n hzb c_39
        have en2 : n1 = n2 := (nI_eq (by omega) (by omega)).mp en
        subst en2
        have hin : inFr (nI pp) (nI n1) za ∧ inFr (nI qq) (nI n1) zb := ⟨c_28, c_39⟩
        have loop : ∀ (n k : Nat) (H : Heap) (locs : List Loc), k ≤ n1 → n1 + 1 ≤ k + n → (∀ j, j < k → kTake kb (f (pp + j))) → va_P D vwCl [(h0, .inr (0, [.int f0, .int f1, .int f2, .int f3, .int (nI k), .int f5, .int f6])), (a0, .inr (1, [.int ka, .ref wa])), (wa, .inl (cL, za, .inr (.inl f))), (b0, .inr (1, [.int kb, .ref wb])), (wb, .inl (cL, zb, .inr (.inl g)))] H → va_D A [(h0, .inr (0, [.int f0, .int f1, .int f2, .int f3, .int (nI k), .int f5, .int f6])), (a0, .inr (1, [.int ka, .ref wa])), (wa, .inl (cL, za, .inr (.inl f))), (b0, .inr (1, [.int kb, .ref wb])), (wb, .inl (cL, zb, .inr (.inl g)))] → va_S A s.heap H locs → W p l e (headSpec wsX0_lay ({ frames := 2, cells := 0, slots := 0, locals := 60 })).room s m ([.ref h0, .ref a0, .int (nI pp), .ref b0, .int (nI qq), .int (nI n1)] : List Value).toArray below meth c H locs 0 0 (MQ below (va_Qi (fun (r : Int32) (u : Nat) => LayRel ka kb za zb f (nI pp) (nI qq) (nI n1) u r) (fun (u : Nat) (t : State) => va_P D vwCl [(h0, .inr (0, [.int f0, .int f1, .int f2, .int f3, .int (nI u), .int f5, .int f6])), (a0, .inr (1, [.int ka, .ref wa])), (wa, .inl (cL, za, .inr (.inl f))), (b0, .inr (1, [.int kb, .ref wb])), (wb, .inl (cL, zb, .inr (.inl (va_cpy f g (nI pp).toNatClampNeg (nI qq).toNatClampNeg u))))] t.heap ∧ va_D A [(h0, .inr (0, [.int f0, .int f1, .int f2, .int f3, .int (nI u), .int f5, .int f6])), (a0, .inr (1, [.int ka, .ref wa])), (wa, .inl (cL, za, .inr (.inl f))), (b0, .inr (1, [.int kb, .ref wb])), (wb, .inl (cL, zb, .inr (.inl (va_cpy f g (nI pp).toNatClampNeg (nI qq).toNatClampNeg u))))]) A) ([.ref h0, .ref a0, .int (nI pp), .ref b0, .int (nI qq), .int (nI n1)] : List Value).toArray s 0 0 A) (F0 m 45 ls []) := by
          intro n
          induction n with
          | zero => intro k H locs h1 h2; exact absurd h2 (by omega)
          | succ n ih =>
            intro k H locs hk hn hf hP hD hS
            refine lv_aload_n hx hb dX0_lay_45 rfl (lv_at hl 0 rfl) ?_
            refine va_get (D := D) (ci := 0) (v := .int (nI k)) (C := RX0) (T := TX0) (N := 7) hx hb hts iw_X0_lay_X0 hown hK hP 0 rfl rfl 4 (by decide) (hts _ lk_X0_lay_Cond_fieldLink_RX0_18_SpliceRoom_Knife_far_I_) (fun _ h9 => h9) rfl dX0_lay_46 ?_
            refine lv_iload hx hb dX0_lay_49 (lv_at hl 5 rfl) ?_
            refine lv_icmp_ge (tgt := 85) hx hb dX0_lay_51 (by decide) (fun c_51 => ?_) (fun c_51 => ?_)
            · have hkn : n1 ≤ k := (nI_leI (by omega) (by omega)).mp c_51
              refine lv_aload_n hx hb dX0_lay_85 rfl (lv_at hl 1 rfl) ?_
              refine va_getN (D := D) (ci := 1) (v := .ref wa) (C := RX1) (T := TX1) (N := 2) hx hb hts iw_X0_lay_X1 hown hK hP 1 rfl rfl 1 (by decide) (hC.nest (a := RX0) (i := 47) (b := "SpliceRoom$Reel") (n := "row") (d := "[J") (hh := "SpliceRoom") (by decide +kernel)) (fun _ h9 => h9) rfl dX0_lay_86 ?_
              refine lv_iload_n hx hb dX0_lay_89 rfl (lv_at hl 2 rfl) ?_
              refine lv_aload_n hx hb dX0_lay_90 rfl (lv_at hl 3 rfl) ?_
              refine va_getN (D := D) (ci := 1) (v := .ref wb) (C := RX1) (T := TX1) (N := 2) hx hb hts iw_X0_lay_X1 hown hK hP 3 rfl rfl 1 (by decide) (hC.nest (a := RX0) (i := 47) (b := "SpliceRoom$Reel") (n := "row") (d := "[J") (hh := "SpliceRoom") (by decide +kernel)) (fun _ h9 => h9) rfl dX0_lay_91 ?_
              refine lv_iload hx hb dX0_lay_94 (lv_at hl 4 rfl) ?_
              refine lv_aload_n hx hb dX0_lay_96 rfl (lv_at hl 0 rfl) ?_
              refine va_get (D := D) (ci := 0) (v := .int (nI k)) (C := RX0) (T := TX0) (N := 7) hx hb hts iw_X0_lay_X0 hown hK hP 0 rfl rfl 4 (by decide) (hts _ lk_X0_lay_Cond_fieldLink_RX0_18_SpliceRoom_Knife_far_I_) (fun _ h9 => h9) rfl dX0_lay_97 ?_
              refine va_copyl (D := D) hx hb (by rw [hml]; exact hl.1.symm) hown (hts _ lk_X0_lay_Cond_methodLink_RX0_55_arraycopyName) (hts _ lk_X0_lay_Cond_native_arraycopyName) (hts _ lk_X0_lay_Cond_static_arraycopyName) (hts _ lk_X0_lay_Cond_initialized_java_lang_System_) hK hP hD hS 2 4 1 1 rfl rfl rfl rfl rfl (nI_pos (by omega)) (nI_pos (by omega)) (nI_pos (by omega)) (by rw [nI_clamp (by omega), nI_clamp (by omega)]; omega) (by rw [nI_clamp (by omega), nI_clamp (by omega)]; omega) (fun _ _ => rfl) (Nat.le_of_ble_eq_true rfl) (Nat.le_of_ble_eq_true rfl) dX0_lay_100 (fun H locs hP hD hS => ?_)
              rw [nI_clamp (show k < 2 ^ 31 by omega)] at hP hD
              have hP : va_P D vwCl [(h0, .inr (0, [.int f0, .int f1, .int f2, .int f3, .int (nI k), .int f5, .int f6])), (a0, .inr (1, [.int ka, .ref wa])), (wa, .inl (cL, za, .inr (.inl f))), (b0, .inr (1, [.int kb, .ref wb])), (wb, .inl (cL, zb, .inr (.inl (va_cpy f g (nI pp).toNatClampNeg (nI qq).toNatClampNeg k))))] H := hP
              have hD : va_D A [(h0, .inr (0, [.int f0, .int f1, .int f2, .int f3, .int (nI k), .int f5, .int f6])), (a0, .inr (1, [.int ka, .ref wa])), (wa, .inl (cL, za, .inr (.inl f))), (b0, .inr (1, [.int kb, .ref wb])), (wb, .inl (cL, zb, .inr (.inl (va_cpy f g (nI pp).toNatClampNeg (nI qq).toNatClampNeg k))))] := hD
              refine lv_aload_n hx hb dX0_lay_103 rfl (lv_at hl 0 rfl) ?_
              refine va_get (D := D) (ci := 0) (v := .int (nI k)) (C := RX0) (T := TX0) (N := 7) hx hb hts iw_X0_lay_X0 hown hK hP 0 rfl rfl 4 (by decide) (hts _ lk_X0_lay_Cond_fieldLink_RX0_18_SpliceRoom_Knife_far_I_) (fun _ h9 => h9) rfl dX0_lay_104 ?_
              refine lv_iload hx hb dX0_lay_107 (lv_at hl 5 rfl) ?_
              refine lv_icmp_ge (tgt := 117) hx hb dX0_lay_109 (by decide) (fun _ => ?_) (fun c9 => absurd (nI_le hkn (by omega)) c9)
              refine lv_iload hx hb dX0_lay_117 (lv_at hl 5 rfl) ?_
              exact W.iret (v := (nI n1)) hx hb hr (fun t ht hW => ⟨⟨_, k, rfl, Or.inr (Or.inr ⟨c_15, hin, ⟨by rw [nI_clamp (by omega)]; omega, by rw [nI_clamp (by omega)]; exact hf, fun h9 => absurd h9 (by rw [nI_clamp (by omega)]; omega)⟩, by rw [nI_clamp (by omega), if_neg (by omega)]⟩), ⟨by rw [ht]; exact hP, hD⟩⟩, hS.F ht⟩) hS.2.2 dX0_lay_119
            · have hlt : k < n1 := Nat.lt_of_not_le (fun h => c_51 (nI_le h (by omega)))
              refine lv_aload_n hx hb dX0_lay_54 rfl (lv_at hl 3 rfl) ?_
              refine lv_aload_n hx hb dX0_lay_55 rfl (lv_at hl 1 rfl) ?_
              refine va_getN (D := D) (ci := 1) (v := .ref wa) (C := RX1) (T := TX1) (N := 2) hx hb hts iw_X0_lay_X1 hown hK hP 1 rfl rfl 1 (by decide) (hC.nest (a := RX0) (i := 47) (b := "SpliceRoom$Reel") (n := "row") (d := "[J") (hh := "SpliceRoom") (by decide +kernel)) (fun _ h9 => h9) rfl dX0_lay_56 ?_
              refine lv_iload_n hx hb dX0_lay_59 rfl (lv_at hl 2 rfl) ?_
              refine lv_aload_n hx hb dX0_lay_60 rfl (lv_at hl 0 rfl) ?_
              refine va_get (D := D) (ci := 0) (v := .int (nI k)) (C := RX0) (T := TX0) (N := 7) hx hb hts iw_X0_lay_X0 hown hK hP 0 rfl rfl 4 (by decide) (hts _ lk_X0_lay_Cond_fieldLink_RX0_18_SpliceRoom_Knife_far_I_) (fun _ h9 => h9) rfl dX0_lay_61 ?_
              refine lv_iadd hx hb dX0_lay_64 ?_
              refine va_lald (D := D) hx hb hK hP 2 1 rfl rfl (by rw [nI_add]; exact vp_in_nI (show pp + k < za by omega) (by omega)) dX0_lay_65 ?_
              refine lv_topl (fun y_4 e9 => ?_)
              have e9 : y_4 = f (pp + k) := e9.trans (by rw [nI_add, nI_clamp (by omega)])
              subst e9
              refine ro_i (va_runV (As := [.long (f (pp + k))]) (rest := []) ⟨hx, hb, hml, hown, hts⟩ (c_X1_takes l (h0 := b0) (v0 := f (pp + k)) (hP.sub [3] rfl)) (cwV 1 hts gX0_lay_X1_takes rfl rfl rfl (by decide +kernel) ⟨Nat.le_of_ble_eq_true rfl, Nat.le_of_ble_eq_true rfl⟩) (Pq.V hC hS hN (va_recv hK hP (ci := 1) (q0 := 3) rfl rfl)) rfl rfl hl.1 rfl (lv_room (Nat.le_of_ble_eq_true rfl)) dX0_lay_66 ⟨Nat.le_of_ble_eq_true rfl, Nat.le_of_ble_eq_true rfl⟩) hS (fun r_5 locs hw hS => ?_)
              have hw : r_5 = tB (kTake kb (f (pp + k))) := hw
              subst hw
              refine lv_if_eq (tgt := 85) hx hb dX0_lay_69 (by decide) (fun c_69 => ?_) (fun c_69 => ?_)
              · have c_69 := tB_0.mp c_69
                refine lv_aload_n hx hb dX0_lay_85 rfl (lv_at hl 1 rfl) ?_
                refine va_getN (D := D) (ci := 1) (v := .ref wa) (C := RX1) (T := TX1) (N := 2) hx hb hts iw_X0_lay_X1 hown hK hP 1 rfl rfl 1 (by decide) (hC.nest (a := RX0) (i := 47) (b := "SpliceRoom$Reel") (n := "row") (d := "[J") (hh := "SpliceRoom") (by decide +kernel)) (fun _ h9 => h9) rfl dX0_lay_86 ?_
                refine lv_iload_n hx hb dX0_lay_89 rfl (lv_at hl 2 rfl) ?_
                refine lv_aload_n hx hb dX0_lay_90 rfl (lv_at hl 3 rfl) ?_
                refine va_getN (D := D) (ci := 1) (v := .ref wb) (C := RX1) (T := TX1) (N := 2) hx hb hts iw_X0_lay_X1 hown hK hP 3 rfl rfl 1 (by decide) (hC.nest (a := RX0) (i := 47) (b := "SpliceRoom$Reel") (n := "row") (d := "[J") (hh := "SpliceRoom") (by decide +kernel)) (fun _ h9 => h9) rfl dX0_lay_91 ?_
                refine lv_iload hx hb dX0_lay_94 (lv_at hl 4 rfl) ?_
                refine lv_aload_n hx hb dX0_lay_96 rfl (lv_at hl 0 rfl) ?_
                refine va_get (D := D) (ci := 0) (v := .int (nI k)) (C := RX0) (T := TX0) (N := 7) hx hb hts iw_X0_lay_X0 hown hK hP 0 rfl rfl 4 (by decide) (hts _ lk_X0_lay_Cond_fieldLink_RX0_18_SpliceRoom_Knife_far_I_) (fun _ h9 => h9) rfl dX0_lay_97 ?_
                refine va_copyl (D := D) hx hb (by rw [hml]; exact hl.1.symm) hown (hts _ lk_X0_lay_Cond_methodLink_RX0_55_arraycopyName) (hts _ lk_X0_lay_Cond_native_arraycopyName) (hts _ lk_X0_lay_Cond_static_arraycopyName) (hts _ lk_X0_lay_Cond_initialized_java_lang_System_) hK hP hD hS 2 4 1 1 rfl rfl rfl rfl rfl (nI_pos (by omega)) (nI_pos (by omega)) (nI_pos (by omega)) (by rw [nI_clamp (by omega), nI_clamp (by omega)]; omega) (by rw [nI_clamp (by omega), nI_clamp (by omega)]; omega) (fun _ _ => rfl) (Nat.le_of_ble_eq_true rfl) (Nat.le_of_ble_eq_true rfl) dX0_lay_100 (fun H locs hP hD hS => ?_)
                rw [nI_clamp (show k < 2 ^ 31 by omega)] at hP hD
                have hP : va_P D vwCl [(h0, .inr (0, [.int f0, .int f1, .int f2, .int f3, .int (nI k), .int f5, .int f6])), (a0, .inr (1, [.int ka, .ref wa])), (wa, .inl (cL, za, .inr (.inl f))), (b0, .inr (1, [.int kb, .ref wb])), (wb, .inl (cL, zb, .inr (.inl (va_cpy f g (nI pp).toNatClampNeg (nI qq).toNatClampNeg k))))] H := hP
                have hD : va_D A [(h0, .inr (0, [.int f0, .int f1, .int f2, .int f3, .int (nI k), .int f5, .int f6])), (a0, .inr (1, [.int ka, .ref wa])), (wa, .inl (cL, za, .inr (.inl f))), (b0, .inr (1, [.int kb, .ref wb])), (wb, .inl (cL, zb, .inr (.inl (va_cpy f g (nI pp).toNatClampNeg (nI qq).toNatClampNeg k))))] := hD
                refine lv_aload_n hx hb dX0_lay_103 rfl (lv_at hl 0 rfl) ?_
                refine va_get (D := D) (ci := 0) (v := .int (nI k)) (C := RX0) (T := TX0) (N := 7) hx hb hts iw_X0_lay_X0 hown hK hP 0 rfl rfl 4 (by decide) (hts _ lk_X0_lay_Cond_fieldLink_RX0_18_SpliceRoom_Knife_far_I_) (fun _ h9 => h9) rfl dX0_lay_104 ?_
                refine lv_iload hx hb dX0_lay_107 (lv_at hl 5 rfl) ?_
                refine lv_icmp_ge (tgt := 117) hx hb dX0_lay_109 (by decide) (fun c9 => absurd c9 ((fun h => absurd ((nI_leI (by omega) (by omega)).mp h) (by omega)))) (fun _ => ?_)
                refine lv_bipush (v := (-4)) hx hb dX0_lay_112 (by decide) ?_
                refine lv_goto (tgt := 119) hx hb dX0_lay_114 (by decide) ?_
                exact W.iret (v := (-4)) hx hb hr (fun t ht hW => ⟨⟨_, k, rfl, Or.inr (Or.inr ⟨c_15, hin, ⟨by rw [nI_clamp (by omega)]; omega, by rw [nI_clamp (by omega)]; exact hf, fun _ => by rw [nI_clamp (by omega)]; exact c_69⟩, by rw [nI_clamp (by omega), if_pos hlt]⟩), ⟨by rw [ht]; exact hP, hD⟩⟩, hS.F ht⟩) hS.2.2 dX0_lay_119
              · have c_69 := tB_n.mp c_69
                refine lv_aload_n hx hb dX0_lay_72 rfl (lv_at hl 0 rfl) ?_
                refine lv_dup hx hb dX0_lay_73 rfl ?_
                refine va_get (D := D) (ci := 0) (v := .int (nI k)) (C := RX0) (T := TX0) (N := 7) hx hb hts iw_X0_lay_X0 hown hK hP 0 rfl rfl 4 (by decide) (hts _ lk_X0_lay_Cond_fieldLink_RX0_18_SpliceRoom_Knife_far_I_) (fun _ h9 => h9) rfl dX0_lay_74 ?_
                refine lv_iconst (v := 1) hx hb dX0_lay_77 (by decide) ?_
                refine lv_iadd hx hb dX0_lay_78 ?_
                refine lv_topi (fun y_6 e9 => ?_)
                have e9 : y_6 = nI (k + 1) := e9.trans (nI_1 k)
                subst e9
                refine va_put (D := D) (ci := 0) (v := .int (nI (k + 1))) (ty := .int) (C := RX0) (T := TX0) (N := 7) hx hb hts iw_X0_lay_X0 tyX0 tyX0_ok nmX0 hown hK hP hD hS 0 rfl rfl 4 (by decide) (hts _ lk_X0_lay_Cond_fieldLink_RX0_18_SpliceRoom_Knife_far_I_) (fun _ h9 => h9) rfl (by decide +kernel) rfl rfl (Nat.le_of_ble_eq_true rfl) dX0_lay_79 (fun H locs hP hD hS => ?_)
                have hP : va_P D vwCl [(h0, .inr (0, [.int f0, .int f1, .int f2, .int f3, .int (nI (k + 1)), .int f5, .int f6])), (a0, .inr (1, [.int ka, .ref wa])), (wa, .inl (cL, za, .inr (.inl f))), (b0, .inr (1, [.int kb, .ref wb])), (wb, .inl (cL, zb, .inr (.inl g)))] H := hP
                have hD : va_D A [(h0, .inr (0, [.int f0, .int f1, .int f2, .int f3, .int (nI (k + 1)), .int f5, .int f6])), (a0, .inr (1, [.int ka, .ref wa])), (wa, .inl (cL, za, .inr (.inl f))), (b0, .inr (1, [.int kb, .ref wb])), (wb, .inl (cL, zb, .inr (.inl g)))] := hD
                refine lv_goto (tgt := 45) hx hb dX0_lay_82 (by decide) ?_
                refine ih (k + 1) _ _ (by omega) (by omega) (fun j hj => ?_) hP hD hS
                by_cases e : j = k
                · rw [e]; exact c_69
                · exact hf j (by omega)
        exact loop (n1 + 1) 0 _ _ (by omega) (by omega) (fun j hj => absurd hj (by omega)) hP hD hS
      · have c_39 := tB_0.mp c_39
        refine lv_bipush (v := (-3)) hx hb dX0_lay_42 (by decide) ?_
        exact W.iret (v := (-3)) hx hb hr (fun t ht hW => ⟨⟨_, 0, rfl, Or.inr (Or.inl ⟨c_15, fun h9 => c_39 h9.2, rfl, rfl⟩), ⟨by rw [ht]; exact by rw [(cpy_0 f g p0.toNatClampNeg q0.toNatClampNeg)]; exact hP, by rw [(cpy_0 f g p0.toNatClampNeg q0.toNatClampNeg)]; exact hD⟩⟩, hS.F ht⟩) hS.2.2 dX0_lay_44
  · have c_15 := tB_0.mp c_15
    refine lv_bipush (v := (-2)) hx hb dX0_lay_18 (by decide) ?_
    exact W.iret (v := (-2)) hx hb hr (fun t ht hW => ⟨⟨_, 0, rfl, Or.inl ⟨c_15, rfl, rfl⟩, ⟨by rw [ht]; exact by rw [(cpy_0 f g p0.toNatClampNeg q0.toNatClampNeg)]; exact hP, by rw [(cpy_0 f g p0.toNatClampNeg q0.toNatClampNeg)]; exact hD⟩⟩, hS.F ht⟩) hS.2.2 dX0_lay_20
set_option maxHeartbeats 4000000 in
set_option maxRecDepth 100000 in
theorem c_X0_layS (l : Launch) {D : va_G} {cI cL cQ : ClassId} {N0 : Nat} {sa : Nat → Nat} {Hc : Heap} {h0 a0 wa : Nat} {f0 f1 f2 f3 f5 f6 ka : Int32} {za : Nat} {f : Nat → Int64} {p0 q0 n0 : Int32} (hP : va_P D vwCl [(h0, .inr (0, [.int f0, .int f1, .int f2, .int f3, .int 0, .int f5, .int f6])), (a0, .inr (1, [.int ka, .ref wa])), (wa, .inl (cL, za, .inr (.inl f)))] Hc) (hD0 : va_D nT [(h0, .inr (0, [.int f0, .int f1, .int f2, .int f3, .int 0, .int f5, .int f6])), (a0, .inr (1, [.int ka, .ref wa])), (wa, .inl (cL, za, .inr (.inl f)))]) (hN : ∀ q, va_A [(h0, .inr (0, [.int f0, .int f1, .int f2, .int f3, .int 0, .int f5, .int f6])), (a0, .inr (1, [.int ka, .ref wa])), (wa, .inl (cL, za, .inr (.inl f)))] Hc.size q → N0 ≤ q) (hza : za ≤ 40) : Met l yX0_lay wsX0_lay ({ frames := 2, cells := 0, slots := 0, locals := 60 }) (Pq D cI cL cQ N0 sa [.ref h0, .ref a0, .int p0, .ref a0, .int q0, .int n0] Hc) (va_Qi (fun (r : Int32) (u : Nat) => LayRel ka ka za za f p0 q0 n0 u r) (fun (u : Nat) (t : State) => va_P D vwCl [(h0, .inr (0, [.int f0, .int f1, .int f2, .int f3, .int (nI u), .int f5, .int f6])), (a0, .inr (1, [.int ka, .ref wa])), (wa, .inl (cL, za, .inr (.inl (va_cpy f f p0.toNatClampNeg q0.toNatClampNeg u))))] t.heap ∧ va_D (va_A [(h0, .inr (0, [.int f0, .int f1, .int f2, .int f3, .int 0, .int f5, .int f6])), (a0, .inr (1, [.int ka, .ref wa])), (wa, .inl (cL, za, .inr (.inl f)))] Hc.size) [(h0, .inr (0, [.int f0, .int f1, .int f2, .int f3, .int (nI u), .int f5, .int f6])), (a0, .inr (1, [.int ka, .ref wa])), (wa, .inl (cL, za, .inr (.inl (va_cpy f f p0.toNatClampNeg q0.toNatClampNeg u))))]) (va_A [(h0, .inr (0, [.int f0, .int f1, .int f2, .int f3, .int 0, .int f5, .int f6])), (a0, .inr (1, [.int ka, .ref wa])), (wa, .inl (cL, za, .inr (.inl f)))] Hc.size)) 0 0 (va_A [(h0, .inr (0, [.int f0, .int f1, .int f2, .int f3, .int 0, .int f5, .int f6])), (a0, .inr (1, [.int ka, .ref wa])), (wa, .inl (cL, za, .inr (.inl f)))] Hc.size) := by
  refine Met.ofW (cc := cX0_lay) (maxL := 6) (ret := (some .int)) (by decide) rfl ?_
  intro p e s m args below meth c s₁ B hml hv
  obtain ⟨rfl, hH, hC⟩ := hv
  have hx := B.exec
  have hb := B.bytes
  have hr := B.returns
  have hts := atoms_spec (ws := wsX0_lay) B.pre
  have hown : s.vm.findClass RX0 = some m.cls := findClass_of_methodNamed B.named
  have hlocks := B.notSynchronized
  subst hH
  have hK := hC.K
  have hl := lv_entry ([.ref h0, .ref a0, .int p0, .ref a0, .int q0, .int n0]) (n := 6) (Nat.le_of_ble_eq_true rfl)
  rw [lg_entry_eq]
  generalize (lg_sl ([.ref h0, .ref a0, .int p0, .ref a0, .int q0, .int n0]) ++ List.replicate (6 - (lg_sl ([.ref h0, .ref a0, .int p0, .ref a0, .int q0, .int n0])).length) Slot.unset).toArray = ls at hl ⊢
  have hl : lv_has ls 6 [(0, .ref h0), (1, .ref a0), (2, .int p0), (3, .ref a0), (4, .int q0), (5, .int n0)] := hl
  have hP : va_P D vwCl [(h0, .inr (0, [.int f0, .int f1, .int f2, .int f3, .int 0, .int f5, .int f6])), (a0, .inr (1, [.int ka, .ref wa])), (wa, .inl (cL, za, .inr (.inl f)))] s.heap := hP
  have hD := hD0.self (sz := s.heap.size)
  generalize hAe : va_A [(h0, .inr (0, [.int f0, .int f1, .int f2, .int f3, .int 0, .int f5, .int f6])), (a0, .inr (1, [.int ka, .ref wa])), (wa, .inl (cL, za, .inr (.inl f)))] s.heap.size = A at hD hN ⊢
  have hA : ∀ q : Nat, s.heap.size ≤ q → A q := fun q h => by rw [← hAe]; exact Or.inr h
  have hS : va_S A s.heap s.heap [] := va_S.rf
  refine lv_aload_n hx hb dX0_lay_0 rfl (lv_at hl 1 rfl) ?_
  refine lv_ifnull hx hb dX0_lay_1 ?_
  refine lv_aload_n hx hb dX0_lay_4 rfl (lv_at hl 3 rfl) ?_
  refine lv_ifnonnull (tgt := 10) hx hb dX0_lay_5 (by decide) ?_
  refine lv_aload_n hx hb dX0_lay_10 rfl (lv_at hl 1 rfl) ?_
  refine lv_aload_n hx hb dX0_lay_11 rfl (lv_at hl 3 rfl) ?_
  refine ro_i (va_runV (As := [.ref a0]) (rest := []) ⟨hx, hb, hml, hown, hts⟩ (c_X1_isLikeS l (h0 := a0) (hP.sub [1] rfl)) (cwV 1 hts gX0_lay_X1_isLike rfl rfl rfl (by decide +kernel) ⟨Nat.le_of_ble_eq_true rfl, Nat.le_of_ble_eq_true rfl⟩) (Pq.V hC hS hN (va_recv hK hP (ci := 1) (q0 := 1) rfl rfl)) rfl rfl hl.1 rfl (lv_room (Nat.le_of_ble_eq_true rfl)) dX0_lay_12 ⟨Nat.le_of_ble_eq_true rfl, Nat.le_of_ble_eq_true rfl⟩) hS (fun r_1 locs hw hS => ?_)
  have hw : r_1 = tB (kLike ka ka) := hw
  subst hw
  refine lv_if_ne (tgt := 21) hx hb dX0_lay_15 (by decide) (fun c_15 => ?_) (fun c_15 => ?_)
  · have c_15 := tB_n.mp c_15
    refine lv_aload_n hx hb dX0_lay_21 rfl (lv_at hl 1 rfl) ?_
    refine lv_iload_n hx hb dX0_lay_22 rfl (lv_at hl 2 rfl) ?_
    refine lv_iload hx hb dX0_lay_23 (lv_at hl 5 rfl) ?_
    refine ro_i (va_runV (As := [.int p0, .int n0]) (rest := []) ⟨hx, hb, hml, hown, hts⟩ (c_X1_hasFrames l (h0 := a0) (p0 := p0) (n0 := n0) (hP.sub [1, 2] rfl) hza) (cwV 2 hts gX0_lay_X1_hasFrames rfl rfl rfl (by decide +kernel) ⟨Nat.le_of_ble_eq_true rfl, Nat.le_of_ble_eq_true rfl⟩) (Pq.V hC hS hN (va_recv hK hP (ci := 1) (q0 := 1) rfl rfl)) rfl rfl hl.1 rfl (lv_room (Nat.le_of_ble_eq_true rfl)) dX0_lay_25 ⟨Nat.le_of_ble_eq_true rfl, Nat.le_of_ble_eq_true rfl⟩) hS (fun r_2 locs hw hS => ?_)
    have hw : r_2 = tB (inFr p0 n0 za) := hw
    subst hw
    refine lv_if_eq (tgt := 42) hx hb dX0_lay_28 (by decide) (fun c_28 => ?_) (fun c_28 => ?_)
    · have c_28 := tB_0.mp c_28
      refine lv_bipush (v := (-3)) hx hb dX0_lay_42 (by decide) ?_
      exact W.iret (v := (-3)) hx hb hr (fun t ht hW => ⟨⟨_, 0, rfl, Or.inr (Or.inl ⟨c_15, fun h9 => c_28 h9.1, rfl, rfl⟩), ⟨by rw [ht]; exact by rw [(cpy_0 f f p0.toNatClampNeg q0.toNatClampNeg)]; exact hP, by rw [(cpy_0 f f p0.toNatClampNeg q0.toNatClampNeg)]; exact hD⟩⟩, hS.F ht⟩) hS.2.2 dX0_lay_44
    · have c_28 := tB_n.mp c_28
      refine lv_aload_n hx hb dX0_lay_31 rfl (lv_at hl 3 rfl) ?_
      refine lv_iload hx hb dX0_lay_32 (lv_at hl 4 rfl) ?_
      refine lv_iload hx hb dX0_lay_34 (lv_at hl 5 rfl) ?_
      refine ro_i (va_runV (As := [.int q0, .int n0]) (rest := []) ⟨hx, hb, hml, hown, hts⟩ (c_X1_hasFrames l (h0 := a0) (p0 := q0) (n0 := n0) (hP.sub [1, 2] rfl) hza) (cwV 2 hts gX0_lay_X1_hasFrames rfl rfl rfl (by decide +kernel) ⟨Nat.le_of_ble_eq_true rfl, Nat.le_of_ble_eq_true rfl⟩) (Pq.V hC hS hN (va_recv hK hP (ci := 1) (q0 := 1) rfl rfl)) rfl rfl hl.1 rfl (lv_room (Nat.le_of_ble_eq_true rfl)) dX0_lay_36 ⟨Nat.le_of_ble_eq_true rfl, Nat.le_of_ble_eq_true rfl⟩) hS (fun r_3 locs hw hS => ?_)
      have hw : r_3 = tB (inFr q0 n0 za) := hw
      subst hw
      refine lv_if_ne (tgt := 45) hx hb dX0_lay_39 (by decide) (fun c_39 => ?_) (fun c_39 => ?_)
      · have c_39 := tB_n.mp c_39
        obtain ⟨pp, n1, hp1, rfl, rfl⟩ := inFr_n hza c_28
        obtain ⟨qq, n2, hp2, rfl, en⟩ := inFr_n hza c_39
        have en2 : n1 = n2 := (nI_eq (by omega) (by omega)).mp en
        subst en2
        have hin : inFr (nI pp) (nI n1) za ∧ inFr (nI qq) (nI n1) za := ⟨c_28, c_39⟩
        have loop : ∀ (n k : Nat) (H : Heap) (locs : List Loc), k ≤ n1 → n1 + 1 ≤ k + n → (∀ j, j < k → kTake ka (f (pp + j))) → va_P D vwCl [(h0, .inr (0, [.int f0, .int f1, .int f2, .int f3, .int (nI k), .int f5, .int f6])), (a0, .inr (1, [.int ka, .ref wa])), (wa, .inl (cL, za, .inr (.inl f)))] H → va_D A [(h0, .inr (0, [.int f0, .int f1, .int f2, .int f3, .int (nI k), .int f5, .int f6])), (a0, .inr (1, [.int ka, .ref wa])), (wa, .inl (cL, za, .inr (.inl f)))] → va_S A s.heap H locs → W p l e (headSpec wsX0_lay ({ frames := 2, cells := 0, slots := 0, locals := 60 })).room s m ([.ref h0, .ref a0, .int (nI pp), .ref a0, .int (nI qq), .int (nI n1)] : List Value).toArray below meth c H locs 0 0 (MQ below (va_Qi (fun (r : Int32) (u : Nat) => LayRel ka ka za za f (nI pp) (nI qq) (nI n1) u r) (fun (u : Nat) (t : State) => va_P D vwCl [(h0, .inr (0, [.int f0, .int f1, .int f2, .int f3, .int (nI u), .int f5, .int f6])), (a0, .inr (1, [.int ka, .ref wa])), (wa, .inl (cL, za, .inr (.inl (va_cpy f f (nI pp).toNatClampNeg (nI qq).toNatClampNeg u))))] t.heap ∧ va_D A [(h0, .inr (0, [.int f0, .int f1, .int f2, .int f3, .int (nI u), .int f5, .int f6])), (a0, .inr (1, [.int ka, .ref wa])), (wa, .inl (cL, za, .inr (.inl (va_cpy f f (nI pp).toNatClampNeg (nI qq).toNatClampNeg u))))]) A) ([.ref h0, .ref a0, .int (nI pp), .ref a0, .int (nI qq), .int (nI n1)] : List Value).toArray s 0 0 A) (F0 m 45 ls []) := by
          intro n
          induction n with
          | zero => intro k H locs h1 h2; exact absurd h2 (by omega)
          | succ n ih =>
            intro k H locs hk hn hf hP hD hS
            refine lv_aload_n hx hb dX0_lay_45 rfl (lv_at hl 0 rfl) ?_
            refine va_get (D := D) (ci := 0) (v := .int (nI k)) (C := RX0) (T := TX0) (N := 7) hx hb hts iw_X0_lay_X0 hown hK hP 0 rfl rfl 4 (by decide) (hts _ lk_X0_lay_Cond_fieldLink_RX0_18_SpliceRoom_Knife_far_I_) (fun _ h9 => h9) rfl dX0_lay_46 ?_
            refine lv_iload hx hb dX0_lay_49 (lv_at hl 5 rfl) ?_
            refine lv_icmp_ge (tgt := 85) hx hb dX0_lay_51 (by decide) (fun c_51 => ?_) (fun c_51 => ?_)
            · have hkn : n1 ≤ k := (nI_leI (by omega) (by omega)).mp c_51
              refine lv_aload_n hx hb dX0_lay_85 rfl (lv_at hl 1 rfl) ?_
              refine va_getN (D := D) (ci := 1) (v := .ref wa) (C := RX1) (T := TX1) (N := 2) hx hb hts iw_X0_lay_X1 hown hK hP 1 rfl rfl 1 (by decide) (hC.nest (a := RX0) (i := 47) (b := "SpliceRoom$Reel") (n := "row") (d := "[J") (hh := "SpliceRoom") (by decide +kernel)) (fun _ h9 => h9) rfl dX0_lay_86 ?_
              refine lv_iload_n hx hb dX0_lay_89 rfl (lv_at hl 2 rfl) ?_
              refine lv_aload_n hx hb dX0_lay_90 rfl (lv_at hl 3 rfl) ?_
              refine va_getN (D := D) (ci := 1) (v := .ref wa) (C := RX1) (T := TX1) (N := 2) hx hb hts iw_X0_lay_X1 hown hK hP 1 rfl rfl 1 (by decide) (hC.nest (a := RX0) (i := 47) (b := "SpliceRoom$Reel") (n := "row") (d := "[J") (hh := "SpliceRoom") (by decide +kernel)) (fun _ h9 => h9) rfl dX0_lay_91 ?_
              refine lv_iload hx hb dX0_lay_94 (lv_at hl 4 rfl) ?_
              refine lv_aload_n hx hb dX0_lay_96 rfl (lv_at hl 0 rfl) ?_
              refine va_get (D := D) (ci := 0) (v := .int (nI k)) (C := RX0) (T := TX0) (N := 7) hx hb hts iw_X0_lay_X0 hown hK hP 0 rfl rfl 4 (by decide) (hts _ lk_X0_lay_Cond_fieldLink_RX0_18_SpliceRoom_Knife_far_I_) (fun _ h9 => h9) rfl dX0_lay_97 ?_
              refine va_copyl (D := D) hx hb (by rw [hml]; exact hl.1.symm) hown (hts _ lk_X0_lay_Cond_methodLink_RX0_55_arraycopyName) (hts _ lk_X0_lay_Cond_native_arraycopyName) (hts _ lk_X0_lay_Cond_static_arraycopyName) (hts _ lk_X0_lay_Cond_initialized_java_lang_System_) hK hP hD hS 2 2 1 1 rfl rfl rfl rfl rfl (nI_pos (by omega)) (nI_pos (by omega)) (nI_pos (by omega)) (by rw [nI_clamp (by omega), nI_clamp (by omega)]; omega) (by rw [nI_clamp (by omega), nI_clamp (by omega)]; omega) (fun _ _ => rfl) (Nat.le_of_ble_eq_true rfl) (Nat.le_of_ble_eq_true rfl) dX0_lay_100 (fun H locs hP hD hS => ?_)
              rw [nI_clamp (show k < 2 ^ 31 by omega)] at hP hD
              have hP : va_P D vwCl [(h0, .inr (0, [.int f0, .int f1, .int f2, .int f3, .int (nI k), .int f5, .int f6])), (a0, .inr (1, [.int ka, .ref wa])), (wa, .inl (cL, za, .inr (.inl (va_cpy f f (nI pp).toNatClampNeg (nI qq).toNatClampNeg k))))] H := hP
              have hD : va_D A [(h0, .inr (0, [.int f0, .int f1, .int f2, .int f3, .int (nI k), .int f5, .int f6])), (a0, .inr (1, [.int ka, .ref wa])), (wa, .inl (cL, za, .inr (.inl (va_cpy f f (nI pp).toNatClampNeg (nI qq).toNatClampNeg k))))] := hD
              refine lv_aload_n hx hb dX0_lay_103 rfl (lv_at hl 0 rfl) ?_
              refine va_get (D := D) (ci := 0) (v := .int (nI k)) (C := RX0) (T := TX0) (N := 7) hx hb hts iw_X0_lay_X0 hown hK hP 0 rfl rfl 4 (by decide) (hts _ lk_X0_lay_Cond_fieldLink_RX0_18_SpliceRoom_Knife_far_I_) (fun _ h9 => h9) rfl dX0_lay_104 ?_
              refine lv_iload hx hb dX0_lay_107 (lv_at hl 5 rfl) ?_
              refine lv_icmp_ge (tgt := 117) hx hb dX0_lay_109 (by decide) (fun _ => ?_) (fun c9 => absurd (nI_le hkn (by omega)) c9)
              refine lv_iload hx hb dX0_lay_117 (lv_at hl 5 rfl) ?_
              exact W.iret (v := (nI n1)) hx hb hr (fun t ht hW => ⟨⟨_, k, rfl, Or.inr (Or.inr ⟨c_15, hin, ⟨by rw [nI_clamp (by omega)]; omega, by rw [nI_clamp (by omega)]; exact hf, fun h9 => absurd h9 (by rw [nI_clamp (by omega)]; omega)⟩, by rw [nI_clamp (by omega), if_neg (by omega)]⟩), ⟨by rw [ht]; exact hP, hD⟩⟩, hS.F ht⟩) hS.2.2 dX0_lay_119
            · have hlt : k < n1 := Nat.lt_of_not_le (fun h => c_51 (nI_le h (by omega)))
              refine lv_aload_n hx hb dX0_lay_54 rfl (lv_at hl 3 rfl) ?_
              refine lv_aload_n hx hb dX0_lay_55 rfl (lv_at hl 1 rfl) ?_
              refine va_getN (D := D) (ci := 1) (v := .ref wa) (C := RX1) (T := TX1) (N := 2) hx hb hts iw_X0_lay_X1 hown hK hP 1 rfl rfl 1 (by decide) (hC.nest (a := RX0) (i := 47) (b := "SpliceRoom$Reel") (n := "row") (d := "[J") (hh := "SpliceRoom") (by decide +kernel)) (fun _ h9 => h9) rfl dX0_lay_56 ?_
              refine lv_iload_n hx hb dX0_lay_59 rfl (lv_at hl 2 rfl) ?_
              refine lv_aload_n hx hb dX0_lay_60 rfl (lv_at hl 0 rfl) ?_
              refine va_get (D := D) (ci := 0) (v := .int (nI k)) (C := RX0) (T := TX0) (N := 7) hx hb hts iw_X0_lay_X0 hown hK hP 0 rfl rfl 4 (by decide) (hts _ lk_X0_lay_Cond_fieldLink_RX0_18_SpliceRoom_Knife_far_I_) (fun _ h9 => h9) rfl dX0_lay_61 ?_
              refine lv_iadd hx hb dX0_lay_64 ?_
              refine va_lald (D := D) hx hb hK hP 2 1 rfl rfl (by rw [nI_add]; exact vp_in_nI (show pp + k < za by omega) (by omega)) dX0_lay_65 ?_
              refine lv_topl (fun y_4 e9 => ?_)
              have e9 : y_4 = f (pp + k) := e9.trans (by rw [nI_add, nI_clamp (by omega)])
              subst e9
              refine ro_i (va_runV (As := [.long (f (pp + k))]) (rest := []) ⟨hx, hb, hml, hown, hts⟩ (c_X1_takes l (h0 := a0) (v0 := f (pp + k)) (hP.sub [1] rfl)) (cwV 1 hts gX0_lay_X1_takes rfl rfl rfl (by decide +kernel) ⟨Nat.le_of_ble_eq_true rfl, Nat.le_of_ble_eq_true rfl⟩) (Pq.V hC hS hN (va_recv hK hP (ci := 1) (q0 := 1) rfl rfl)) rfl rfl hl.1 rfl (lv_room (Nat.le_of_ble_eq_true rfl)) dX0_lay_66 ⟨Nat.le_of_ble_eq_true rfl, Nat.le_of_ble_eq_true rfl⟩) hS (fun r_5 locs hw hS => ?_)
              have hw : r_5 = tB (kTake ka (f (pp + k))) := hw
              subst hw
              refine lv_if_eq (tgt := 85) hx hb dX0_lay_69 (by decide) (fun c_69 => ?_) (fun c_69 => ?_)
              · have c_69 := tB_0.mp c_69
                refine lv_aload_n hx hb dX0_lay_85 rfl (lv_at hl 1 rfl) ?_
                refine va_getN (D := D) (ci := 1) (v := .ref wa) (C := RX1) (T := TX1) (N := 2) hx hb hts iw_X0_lay_X1 hown hK hP 1 rfl rfl 1 (by decide) (hC.nest (a := RX0) (i := 47) (b := "SpliceRoom$Reel") (n := "row") (d := "[J") (hh := "SpliceRoom") (by decide +kernel)) (fun _ h9 => h9) rfl dX0_lay_86 ?_
                refine lv_iload_n hx hb dX0_lay_89 rfl (lv_at hl 2 rfl) ?_
                refine lv_aload_n hx hb dX0_lay_90 rfl (lv_at hl 3 rfl) ?_
                refine va_getN (D := D) (ci := 1) (v := .ref wa) (C := RX1) (T := TX1) (N := 2) hx hb hts iw_X0_lay_X1 hown hK hP 1 rfl rfl 1 (by decide) (hC.nest (a := RX0) (i := 47) (b := "SpliceRoom$Reel") (n := "row") (d := "[J") (hh := "SpliceRoom") (by decide +kernel)) (fun _ h9 => h9) rfl dX0_lay_91 ?_
                refine lv_iload hx hb dX0_lay_94 (lv_at hl 4 rfl) ?_
                refine lv_aload_n hx hb dX0_lay_96 rfl (lv_at hl 0 rfl) ?_
                refine va_get (D := D) (ci := 0) (v := .int (nI k)) (C := RX0) (T := TX0) (N := 7) hx hb hts iw_X0_lay_X0 hown hK hP 0 rfl rfl 4 (by decide) (hts _ lk_X0_lay_Cond_fieldLink_RX0_18_SpliceRoom_Knife_far_I_) (fun _ h9 => h9) rfl dX0_lay_97 ?_
                refine va_copyl (D := D) hx hb (by rw [hml]; exact hl.1.symm) hown (hts _ lk_X0_lay_Cond_methodLink_RX0_55_arraycopyName) (hts _ lk_X0_lay_Cond_native_arraycopyName) (hts _ lk_X0_lay_Cond_static_arraycopyName) (hts _ lk_X0_lay_Cond_initialized_java_lang_System_) hK hP hD hS 2 2 1 1 rfl rfl rfl rfl rfl (nI_pos (by omega)) (nI_pos (by omega)) (nI_pos (by omega)) (by rw [nI_clamp (by omega), nI_clamp (by omega)]; omega) (by rw [nI_clamp (by omega), nI_clamp (by omega)]; omega) (fun _ _ => rfl) (Nat.le_of_ble_eq_true rfl) (Nat.le_of_ble_eq_true rfl) dX0_lay_100 (fun H locs hP hD hS => ?_)
                rw [nI_clamp (show k < 2 ^ 31 by omega)] at hP hD
                have hP : va_P D vwCl [(h0, .inr (0, [.int f0, .int f1, .int f2, .int f3, .int (nI k), .int f5, .int f6])), (a0, .inr (1, [.int ka, .ref wa])), (wa, .inl (cL, za, .inr (.inl (va_cpy f f (nI pp).toNatClampNeg (nI qq).toNatClampNeg k))))] H := hP
                have hD : va_D A [(h0, .inr (0, [.int f0, .int f1, .int f2, .int f3, .int (nI k), .int f5, .int f6])), (a0, .inr (1, [.int ka, .ref wa])), (wa, .inl (cL, za, .inr (.inl (va_cpy f f (nI pp).toNatClampNeg (nI qq).toNatClampNeg k))))] := hD
                refine lv_aload_n hx hb dX0_lay_103 rfl (lv_at hl 0 rfl) ?_
                refine va_get (D := D) (ci := 0) (v := .int (nI k)) (C := RX0) (T := TX0) (N := 7) hx hb hts iw_X0_lay_X0 hown hK hP 0 rfl rfl 4 (by decide) (hts _ lk_X0_lay_Cond_fieldLink_RX0_18_SpliceRoom_Knife_far_I_) (fun _ h9 => h9) rfl dX0_lay_104 ?_
                refine lv_iload hx hb dX0_lay_107 (lv_at hl 5 rfl) ?_
                refine lv_icmp_ge (tgt := 117) hx hb dX0_lay_109 (by decide) (fun c9 => absurd c9 ((fun h => absurd ((nI_leI (by omega) (by omega)).mp h) (by omega)))) (fun _ => ?_)
                refine lv_bipush (v := (-4)) hx hb dX0_lay_112 (by decide) ?_
                refine lv_goto (tgt := 119) hx hb dX0_lay_114 (by decide) ?_
                exact W.iret (v := (-4)) hx hb hr (fun t ht hW => ⟨⟨_, k, rfl, Or.inr (Or.inr ⟨c_15, hin, ⟨by rw [nI_clamp (by omega)]; omega, by rw [nI_clamp (by omega)]; exact hf, fun _ => by rw [nI_clamp (by omega)]; exact c_69⟩, by rw [nI_clamp (by omega), if_pos hlt]⟩), ⟨by rw [ht]; exact hP, hD⟩⟩, hS.F ht⟩) hS.2.2 dX0_lay_119
              · have c_69 := tB_n.mp c_69
                refine lv_aload_n hx hb dX0_lay_72 rfl (lv_at hl 0 rfl) ?_
                refine lv_dup hx hb dX0_lay_73 rfl ?_
                refine va_get (D := D) (ci := 0) (v := .int (nI k)) (C := RX0) (T := TX0) (N := 7) hx hb hts iw_X0_lay_X0 hown hK hP 0 rfl rfl 4 (by decide) (hts _ lk_X0_lay_Cond_fieldLink_RX0_18_SpliceRoom_Knife_far_I_) (fun _ h9 => h9) rfl dX0_lay_74 ?_
                refine lv_iconst (v := 1) hx hb dX0_lay_77 (by decide) ?_
                refine lv_iadd hx hb dX0_lay_78 ?_
                refine lv_topi (fun y_6 e9 => ?_)
                have e9 : y_6 = nI (k + 1) := e9.trans (nI_1 k)
                subst e9
                refine va_put (D := D) (ci := 0) (v := .int (nI (k + 1))) (ty := .int) (C := RX0) (T := TX0) (N := 7) hx hb hts iw_X0_lay_X0 tyX0 tyX0_ok nmX0 hown hK hP hD hS 0 rfl rfl 4 (by decide) (hts _ lk_X0_lay_Cond_fieldLink_RX0_18_SpliceRoom_Knife_far_I_) (fun _ h9 => h9) rfl (by decide +kernel) rfl rfl (Nat.le_of_ble_eq_true rfl) dX0_lay_79 (fun H locs hP hD hS => ?_)
                have hP : va_P D vwCl [(h0, .inr (0, [.int f0, .int f1, .int f2, .int f3, .int (nI (k + 1)), .int f5, .int f6])), (a0, .inr (1, [.int ka, .ref wa])), (wa, .inl (cL, za, .inr (.inl f)))] H := hP
                have hD : va_D A [(h0, .inr (0, [.int f0, .int f1, .int f2, .int f3, .int (nI (k + 1)), .int f5, .int f6])), (a0, .inr (1, [.int ka, .ref wa])), (wa, .inl (cL, za, .inr (.inl f)))] := hD
                refine lv_goto (tgt := 45) hx hb dX0_lay_82 (by decide) ?_
                refine ih (k + 1) _ _ (by omega) (by omega) (fun j hj => ?_) hP hD hS
                by_cases e : j = k
                · rw [e]; exact c_69
                · exact hf j (by omega)
        exact loop (n1 + 1) 0 _ _ (by omega) (by omega) (fun j hj => absurd hj (by omega)) hP hD hS
      · have c_39 := tB_0.mp c_39
        refine lv_bipush (v := (-3)) hx hb dX0_lay_42 (by decide) ?_
        exact W.iret (v := (-3)) hx hb hr (fun t ht hW => ⟨⟨_, 0, rfl, Or.inr (Or.inl ⟨c_15, fun h9 => c_39 h9.2, rfl, rfl⟩), ⟨by rw [ht]; exact by rw [(cpy_0 f f p0.toNatClampNeg q0.toNatClampNeg)]; exact hP, by rw [(cpy_0 f f p0.toNatClampNeg q0.toNatClampNeg)]; exact hD⟩⟩, hS.F ht⟩) hS.2.2 dX0_lay_44
  · have c_15 := tB_0.mp c_15
    refine lv_bipush (v := (-2)) hx hb dX0_lay_18 (by decide) ?_
    exact W.iret (v := (-2)) hx hb hr (fun t ht hW => ⟨⟨_, 0, rfl, Or.inl ⟨c_15, rfl, rfl⟩, ⟨by rw [ht]; exact by rw [(cpy_0 f f p0.toNatClampNeg q0.toNatClampNeg)]; exact hP, by rw [(cpy_0 f f p0.toNatClampNeg q0.toNatClampNeg)]; exact hD⟩⟩, hS.F ht⟩) hS.2.2 dX0_lay_20
set_option maxHeartbeats 4000000 in
set_option maxRecDepth 100000 in
theorem c_X0_layNN (l : Launch) {D : va_G} {cI cL cQ : ClassId} {N0 : Nat} {sa : Nat → Nat} {Hc : Heap} {h0 : Nat} {p0 q0 n0 : Int32} : Met l yX0_lay wsX0_lay ({ frames := 0, cells := 0, slots := 0, locals := 0 }) (Pq D cI cL cQ N0 sa [.ref h0, .null, .int p0, .null, .int q0, .int n0] Hc) (va_Qi (fun (r : Int32) (_ : Unit) => r = -1) (fun _ t => t.heap = Hc) nA) 0 0 nA := by
  refine Met.ofW (cc := cX0_lay) (maxL := 6) (ret := (some .int)) (by decide) rfl ?_
  intro p e s m args below meth c s₁ B hml hv
  obtain ⟨rfl, hH, hC⟩ := hv
  have hx := B.exec
  have hb := B.bytes
  have hr := B.returns
  have hts := atoms_spec (ws := wsX0_lay) B.pre
  have hown : s.vm.findClass RX0 = some m.cls := findClass_of_methodNamed B.named
  have hlocks := B.notSynchronized
  subst hH
  have hK := hC.K
  have hl := lv_entry ([.ref h0, .null, .int p0, .null, .int q0, .int n0]) (n := 6) (Nat.le_of_ble_eq_true rfl)
  rw [lg_entry_eq]
  generalize (lg_sl ([.ref h0, .null, .int p0, .null, .int q0, .int n0]) ++ List.replicate (6 - (lg_sl ([.ref h0, .null, .int p0, .null, .int q0, .int n0])).length) Slot.unset).toArray = ls at hl ⊢
  have hl : lv_has ls 6 [(0, .ref h0), (1, .null), (2, .int p0), (3, .null), (4, .int q0), (5, .int n0)] := hl
  have hS : va_S nA s.heap s.heap [] := va_S.rf
  have hN : ∀ q, nA q → N0 ≤ q := nA_N
  refine lv_aload_nN hx hb dX0_lay_0 rfl (lv_at hl 1 rfl) ?_
  refine lv_ifnullN (tgt := 8) hx hb dX0_lay_1 (by decide) ?_
  refine lv_iconst (v := (-1)) hx hb dX0_lay_8 (by decide) ?_
  exact W.iret (v := (-1)) hx hb hr (fun t ht hW => ⟨⟨_, (), rfl, rfl, ht⟩, hS.F ht⟩) hS.2.2 dX0_lay_9
set_option maxHeartbeats 4000000 in
set_option maxRecDepth 100000 in
theorem c_X0_layNR (l : Launch) {D : va_G} {cI cL cQ : ClassId} {N0 : Nat} {sa : Nat → Nat} {Hc : Heap} {h0 b0 : Nat} {p0 q0 n0 : Int32} : Met l yX0_lay wsX0_lay ({ frames := 0, cells := 0, slots := 0, locals := 0 }) (Pq D cI cL cQ N0 sa [.ref h0, .null, .int p0, .ref b0, .int q0, .int n0] Hc) (va_Qi (fun (r : Int32) (_ : Unit) => r = -1) (fun _ t => t.heap = Hc) nA) 0 0 nA := by
  refine Met.ofW (cc := cX0_lay) (maxL := 6) (ret := (some .int)) (by decide) rfl ?_
  intro p e s m args below meth c s₁ B hml hv
  obtain ⟨rfl, hH, hC⟩ := hv
  have hx := B.exec
  have hb := B.bytes
  have hr := B.returns
  have hts := atoms_spec (ws := wsX0_lay) B.pre
  have hown : s.vm.findClass RX0 = some m.cls := findClass_of_methodNamed B.named
  have hlocks := B.notSynchronized
  subst hH
  have hK := hC.K
  have hl := lv_entry ([.ref h0, .null, .int p0, .ref b0, .int q0, .int n0]) (n := 6) (Nat.le_of_ble_eq_true rfl)
  rw [lg_entry_eq]
  generalize (lg_sl ([.ref h0, .null, .int p0, .ref b0, .int q0, .int n0]) ++ List.replicate (6 - (lg_sl ([.ref h0, .null, .int p0, .ref b0, .int q0, .int n0])).length) Slot.unset).toArray = ls at hl ⊢
  have hl : lv_has ls 6 [(0, .ref h0), (1, .null), (2, .int p0), (3, .ref b0), (4, .int q0), (5, .int n0)] := hl
  have hS : va_S nA s.heap s.heap [] := va_S.rf
  have hN : ∀ q, nA q → N0 ≤ q := nA_N
  refine lv_aload_nN hx hb dX0_lay_0 rfl (lv_at hl 1 rfl) ?_
  refine lv_ifnullN (tgt := 8) hx hb dX0_lay_1 (by decide) ?_
  refine lv_iconst (v := (-1)) hx hb dX0_lay_8 (by decide) ?_
  exact W.iret (v := (-1)) hx hb hr (fun t ht hW => ⟨⟨_, (), rfl, rfl, ht⟩, hS.F ht⟩) hS.2.2 dX0_lay_9
set_option maxHeartbeats 4000000 in
set_option maxRecDepth 100000 in
theorem c_X0_layRN (l : Launch) {D : va_G} {cI cL cQ : ClassId} {N0 : Nat} {sa : Nat → Nat} {Hc : Heap} {h0 a0 : Nat} {p0 q0 n0 : Int32} : Met l yX0_lay wsX0_lay ({ frames := 0, cells := 0, slots := 0, locals := 0 }) (Pq D cI cL cQ N0 sa [.ref h0, .ref a0, .int p0, .null, .int q0, .int n0] Hc) (va_Qi (fun (r : Int32) (_ : Unit) => r = -1) (fun _ t => t.heap = Hc) nA) 0 0 nA := by
  refine Met.ofW (cc := cX0_lay) (maxL := 6) (ret := (some .int)) (by decide) rfl ?_
  intro p e s m args below meth c s₁ B hml hv
  obtain ⟨rfl, hH, hC⟩ := hv
  have hx := B.exec
  have hb := B.bytes
  have hr := B.returns
  have hts := atoms_spec (ws := wsX0_lay) B.pre
  have hown : s.vm.findClass RX0 = some m.cls := findClass_of_methodNamed B.named
  have hlocks := B.notSynchronized
  subst hH
  have hK := hC.K
  have hl := lv_entry ([.ref h0, .ref a0, .int p0, .null, .int q0, .int n0]) (n := 6) (Nat.le_of_ble_eq_true rfl)
  rw [lg_entry_eq]
  generalize (lg_sl ([.ref h0, .ref a0, .int p0, .null, .int q0, .int n0]) ++ List.replicate (6 - (lg_sl ([.ref h0, .ref a0, .int p0, .null, .int q0, .int n0])).length) Slot.unset).toArray = ls at hl ⊢
  have hl : lv_has ls 6 [(0, .ref h0), (1, .ref a0), (2, .int p0), (3, .null), (4, .int q0), (5, .int n0)] := hl
  have hS : va_S nA s.heap s.heap [] := va_S.rf
  have hN : ∀ q, nA q → N0 ≤ q := nA_N
  refine lv_aload_n hx hb dX0_lay_0 rfl (lv_at hl 1 rfl) ?_
  refine lv_ifnull hx hb dX0_lay_1 ?_
  refine lv_aload_nN hx hb dX0_lay_4 rfl (lv_at hl 3 rfl) ?_
  refine lv_ifnonnullN hx hb dX0_lay_5 ?_
  refine lv_iconst (v := (-1)) hx hb dX0_lay_8 (by decide) ?_
  exact W.iret (v := (-1)) hx hb hr (fun t ht hW => ⟨⟨_, (), rfl, rfl, ht⟩, hS.F ht⟩) hS.2.2 dX0_lay_9
end CKnife
end
section
section CCut
theorem iw_X0_cut_X0 : ∀ w ∈ wsX00, w ∈ wsX0_cut := by decide +kernel
theorem lk_X0_cut_Cond_fieldLink_RX0_18_SpliceRoom_Knife_far_I_ : Cond.fieldLink RX0 18 "SpliceRoom$Knife" "far" "I" ∈ wsX0_cut := by decide +kernel
theorem lk_X0_cut_Cond_fieldLink_RX0_25_SpliceRoom_Knife_told_I_ : Cond.fieldLink RX0 25 "SpliceRoom$Knife" "told" "I" ∈ wsX0_cut := by decide +kernel
theorem lk_X0_cut_Cond_fieldLink_RX0_28_SpliceRoom_Knife_laid_I_ : Cond.fieldLink RX0 28 "SpliceRoom$Knife" "laid" "I" ∈ wsX0_cut := by decide +kernel
theorem lk_X0_cut_Cond_fieldLink_RX0_31_SpliceRoom_Knife_jams_I_ : Cond.fieldLink RX0 31 "SpliceRoom$Knife" "jams" "I" ∈ wsX0_cut := by decide +kernel
theorem lk_X0_cut_Cond_fieldLink_RX0_9_SpliceRoom_Knife_jamsInRow_I_ : Cond.fieldLink RX0 9 "SpliceRoom$Knife" "jamsInRow" "I" ∈ wsX0_cut := by decide +kernel
set_option maxHeartbeats 4000000 in
set_option maxRecDepth 100000 in
theorem c_X0_cutNN (l : Launch) {D : va_G} {cI cL cQ : ClassId} {N0 : Nat} {sa : Nat → Nat} {Hc : Heap} {h0 : Nat} {f0 f1 f2 f3 f4 f5 f6 : Int32} {p0 q0 n0 : Int32} (hP : va_P D vwCl [(h0, .inr (0, [.int f0, .int f1, .int f2, .int f3, .int f4, .int f5, .int f6]))] Hc) (hD0 : va_D nT [(h0, .inr (0, [.int f0, .int f1, .int f2, .int f3, .int f4, .int f5, .int f6]))]) (hN : ∀ q, va_A [(h0, .inr (0, [.int f0, .int f1, .int f2, .int f3, .int f4, .int f5, .int f6]))] Hc.size q → N0 ≤ q) : Met l yX0_cut wsX0_cut ({ frames := 3, cells := 0, slots := 0, locals := 90 }) (Pq D cI cL cQ N0 sa [.ref h0, .null, .int p0, .null, .int q0, .int n0] Hc) (va_Qi (fun (r : Int32) (u : Unit) => r = -1) (fun (u : Unit) (t : State) => va_P D vwCl [(h0, .inr (0, [.int f0, .int (f1 + 0), .int (f2 + 1), .int (f3 + 1), .int 0, .int (-1), .int f6]))] t.heap ∧ va_D (va_A [(h0, .inr (0, [.int f0, .int f1, .int f2, .int f3, .int f4, .int f5, .int f6]))] Hc.size) [(h0, .inr (0, [.int f0, .int (f1 + 0), .int (f2 + 1), .int (f3 + 1), .int 0, .int (-1), .int f6]))]) (va_A [(h0, .inr (0, [.int f0, .int f1, .int f2, .int f3, .int f4, .int f5, .int f6]))] Hc.size)) 0 0 (va_A [(h0, .inr (0, [.int f0, .int f1, .int f2, .int f3, .int f4, .int f5, .int f6]))] Hc.size) := by
  refine Met.ofW (cc := cX0_cut) (maxL := 6) (ret := (some .int)) (by decide) rfl ?_
  intro p e s m args below meth c s₁ B hml hv
  obtain ⟨rfl, hH, hC⟩ := hv
  have hx := B.exec
  have hb := B.bytes
  have hr := B.returns
  have hts := atoms_spec (ws := wsX0_cut) B.pre
  have hown : s.vm.findClass RX0 = some m.cls := findClass_of_methodNamed B.named
  have hlocks := B.notSynchronized
  subst hH
  have hK := hC.K
  have hl := lv_entry ([.ref h0, .null, .int p0, .null, .int q0, .int n0]) (n := 6) (Nat.le_of_ble_eq_true rfl)
  rw [lg_entry_eq]
  generalize (lg_sl ([.ref h0, .null, .int p0, .null, .int q0, .int n0]) ++ List.replicate (6 - (lg_sl ([.ref h0, .null, .int p0, .null, .int q0, .int n0])).length) Slot.unset).toArray = ls at hl ⊢
  have hl : lv_has ls 6 [(0, .ref h0), (1, .null), (2, .int p0), (3, .null), (4, .int q0), (5, .int n0)] := hl
  have hP : va_P D vwCl [(h0, .inr (0, [.int f0, .int f1, .int f2, .int f3, .int f4, .int f5, .int f6]))] s.heap := hP
  have hD := hD0.self (sz := s.heap.size)
  generalize hAe : va_A [(h0, .inr (0, [.int f0, .int f1, .int f2, .int f3, .int f4, .int f5, .int f6]))] s.heap.size = A at hD hN ⊢
  have hA : ∀ q : Nat, s.heap.size ≤ q → A q := fun q h => by rw [← hAe]; exact Or.inr h
  have hS : va_S A s.heap s.heap [] := va_S.rf
  refine lv_aload_n hx hb dX0_cut_0 rfl (lv_at hl 0 rfl) ?_
  refine lv_iconst (v := 0) hx hb dX0_cut_1 (by decide) ?_
  refine va_put (D := D) (ci := 0) (v := .int 0) (ty := .int) (C := RX0) (T := TX0) (N := 7) hx hb hts iw_X0_cut_X0 tyX0 tyX0_ok nmX0 hown hK hP hD hS 0 rfl rfl 4 (by decide) (hts _ lk_X0_cut_Cond_fieldLink_RX0_18_SpliceRoom_Knife_far_I_) (fun _ h9 => h9) rfl (by decide +kernel) rfl rfl (Nat.le_of_ble_eq_true rfl) dX0_cut_2 (fun H locs hP hD hS => ?_)
  have hP : va_P D vwCl [(h0, .inr (0, [.int f0, .int f1, .int f2, .int f3, .int 0, .int f5, .int f6]))] H := hP
  have hD : va_D A [(h0, .inr (0, [.int f0, .int f1, .int f2, .int f3, .int 0, .int f5, .int f6]))] := hD
  refine lv_aload_n hx hb dX0_cut_5 rfl (lv_at hl 0 rfl) ?_
  refine lv_aload_n hx hb dX0_cut_6 rfl (lv_at hl 0 rfl) ?_
  refine lv_aload_nN hx hb dX0_cut_7 rfl (lv_at hl 1 rfl) ?_
  refine lv_iload_n hx hb dX0_cut_8 rfl (lv_at hl 2 rfl) ?_
  refine lv_aload_nN hx hb dX0_cut_9 rfl (lv_at hl 3 rfl) ?_
  refine lv_iload hx hb dX0_cut_10 (lv_at hl 4 rfl) ?_
  refine lv_iload hx hb dX0_cut_12 (lv_at hl 5 rfl) ?_
  refine ro_i (va_runV (As := [.null, .int p0, .null, .int q0, .int n0]) (rest := [.ref h0]) ⟨hx, hb, hml, hown, hts⟩ (c_X0_layNN l (h0 := h0) (p0 := p0) (q0 := q0) (n0 := n0)) (cwV 5 hts gX0_cut_X0_lay rfl rfl rfl (by decide +kernel) ⟨Nat.le_of_ble_eq_true rfl, Nat.le_of_ble_eq_true rfl⟩) (Pq.V hC hS hN (va_recv hK hP (ci := 0) (q0 := 0) rfl rfl)) rfl rfl hl.1 rfl (lv_room (Nat.le_of_ble_eq_true rfl)) dX0_cut_14 ⟨Nat.le_of_ble_eq_true rfl, Nat.le_of_ble_eq_true rfl⟩) hS (fun r_1 locs hw hS => ?_)
  have hw : r_1 = -1 := hw
  subst hw
  refine va_put (D := D) (ci := 0) (v := .int (-1)) (ty := .int) (C := RX0) (T := TX0) (N := 7) hx hb hts iw_X0_cut_X0 tyX0 tyX0_ok nmX0 hown hK hP hD hS 0 rfl rfl 5 (by decide) (hts _ lk_X0_cut_Cond_fieldLink_RX0_25_SpliceRoom_Knife_told_I_) (fun _ h9 => h9) rfl (by decide +kernel) rfl rfl (Nat.le_of_ble_eq_true rfl) dX0_cut_17 (fun H locs hP hD hS => ?_)
  have hP : va_P D vwCl [(h0, .inr (0, [.int f0, .int f1, .int f2, .int f3, .int 0, .int (-1), .int f6]))] H := hP
  have hD : va_D A [(h0, .inr (0, [.int f0, .int f1, .int f2, .int f3, .int 0, .int (-1), .int f6]))] := hD
  refine lv_aload_n hx hb dX0_cut_20 rfl (lv_at hl 0 rfl) ?_
  refine lv_dup hx hb dX0_cut_21 rfl ?_
  refine va_get (D := D) (ci := 0) (v := .int f1) (C := RX0) (T := TX0) (N := 7) hx hb hts iw_X0_cut_X0 hown hK hP 0 rfl rfl 1 (by decide) (hts _ lk_X0_cut_Cond_fieldLink_RX0_28_SpliceRoom_Knife_laid_I_) (fun _ h9 => h9) rfl dX0_cut_22 ?_
  refine lv_aload_n hx hb dX0_cut_25 rfl (lv_at hl 0 rfl) ?_
  refine va_get (D := D) (ci := 0) (v := .int 0) (C := RX0) (T := TX0) (N := 7) hx hb hts iw_X0_cut_X0 hown hK hP 0 rfl rfl 4 (by decide) (hts _ lk_X0_cut_Cond_fieldLink_RX0_18_SpliceRoom_Knife_far_I_) (fun _ h9 => h9) rfl dX0_cut_26 ?_
  refine lv_iadd hx hb dX0_cut_29 ?_
  refine va_put (D := D) (ci := 0) (v := .int (f1 + 0)) (ty := .int) (C := RX0) (T := TX0) (N := 7) hx hb hts iw_X0_cut_X0 tyX0 tyX0_ok nmX0 hown hK hP hD hS 0 rfl rfl 1 (by decide) (hts _ lk_X0_cut_Cond_fieldLink_RX0_28_SpliceRoom_Knife_laid_I_) (fun _ h9 => h9) rfl (by decide +kernel) rfl rfl (Nat.le_of_ble_eq_true rfl) dX0_cut_30 (fun H locs hP hD hS => ?_)
  have hP : va_P D vwCl [(h0, .inr (0, [.int f0, .int (f1 + 0), .int f2, .int f3, .int 0, .int (-1), .int f6]))] H := hP
  have hD : va_D A [(h0, .inr (0, [.int f0, .int (f1 + 0), .int f2, .int f3, .int 0, .int (-1), .int f6]))] := hD
  refine lv_aload_n hx hb dX0_cut_33 rfl (lv_at hl 0 rfl) ?_
  refine va_get (D := D) (ci := 0) (v := .int (-1)) (C := RX0) (T := TX0) (N := 7) hx hb hts iw_X0_cut_X0 hown hK hP 0 rfl rfl 5 (by decide) (hts _ lk_X0_cut_Cond_fieldLink_RX0_25_SpliceRoom_Knife_told_I_) (fun _ h9 => h9) rfl dX0_cut_34 ?_
  refine lv_if_ge (tgt := 63) hx hb dX0_cut_37 (by decide) (fun c9 => absurd c9 (by decide)) (fun _ => ?_)
  refine lv_aload_n hx hb dX0_cut_40 rfl (lv_at hl 0 rfl) ?_
  refine lv_dup hx hb dX0_cut_41 rfl ?_
  refine va_get (D := D) (ci := 0) (v := .int f2) (C := RX0) (T := TX0) (N := 7) hx hb hts iw_X0_cut_X0 hown hK hP 0 rfl rfl 2 (by decide) (hts _ lk_X0_cut_Cond_fieldLink_RX0_31_SpliceRoom_Knife_jams_I_) (fun _ h9 => h9) rfl dX0_cut_42 ?_
  refine lv_iconst (v := 1) hx hb dX0_cut_45 (by decide) ?_
  refine lv_iadd hx hb dX0_cut_46 ?_
  refine va_put (D := D) (ci := 0) (v := .int (f2 + 1)) (ty := .int) (C := RX0) (T := TX0) (N := 7) hx hb hts iw_X0_cut_X0 tyX0 tyX0_ok nmX0 hown hK hP hD hS 0 rfl rfl 2 (by decide) (hts _ lk_X0_cut_Cond_fieldLink_RX0_31_SpliceRoom_Knife_jams_I_) (fun _ h9 => h9) rfl (by decide +kernel) rfl rfl (Nat.le_of_ble_eq_true rfl) dX0_cut_47 (fun H locs hP hD hS => ?_)
  have hP : va_P D vwCl [(h0, .inr (0, [.int f0, .int (f1 + 0), .int (f2 + 1), .int f3, .int 0, .int (-1), .int f6]))] H := hP
  have hD : va_D A [(h0, .inr (0, [.int f0, .int (f1 + 0), .int (f2 + 1), .int f3, .int 0, .int (-1), .int f6]))] := hD
  refine lv_aload_n hx hb dX0_cut_50 rfl (lv_at hl 0 rfl) ?_
  refine lv_dup hx hb dX0_cut_51 rfl ?_
  refine va_get (D := D) (ci := 0) (v := .int f3) (C := RX0) (T := TX0) (N := 7) hx hb hts iw_X0_cut_X0 hown hK hP 0 rfl rfl 3 (by decide) (hts _ lk_X0_cut_Cond_fieldLink_RX0_9_SpliceRoom_Knife_jamsInRow_I_) (fun _ h9 => h9) rfl dX0_cut_52 ?_
  refine lv_iconst (v := 1) hx hb dX0_cut_55 (by decide) ?_
  refine lv_iadd hx hb dX0_cut_56 ?_
  refine va_put (D := D) (ci := 0) (v := .int (f3 + 1)) (ty := .int) (C := RX0) (T := TX0) (N := 7) hx hb hts iw_X0_cut_X0 tyX0 tyX0_ok nmX0 hown hK hP hD hS 0 rfl rfl 3 (by decide) (hts _ lk_X0_cut_Cond_fieldLink_RX0_9_SpliceRoom_Knife_jamsInRow_I_) (fun _ h9 => h9) rfl (by decide +kernel) rfl rfl (Nat.le_of_ble_eq_true rfl) dX0_cut_57 (fun H locs hP hD hS => ?_)
  have hP : va_P D vwCl [(h0, .inr (0, [.int f0, .int (f1 + 0), .int (f2 + 1), .int (f3 + 1), .int 0, .int (-1), .int f6]))] H := hP
  have hD : va_D A [(h0, .inr (0, [.int f0, .int (f1 + 0), .int (f2 + 1), .int (f3 + 1), .int 0, .int (-1), .int f6]))] := hD
  refine lv_goto (tgt := 78) hx hb dX0_cut_60 (by decide) ?_
  refine lv_aload_n hx hb dX0_cut_78 rfl (lv_at hl 0 rfl) ?_
  refine va_get (D := D) (ci := 0) (v := .int (-1)) (C := RX0) (T := TX0) (N := 7) hx hb hts iw_X0_cut_X0 hown hK hP 0 rfl rfl 5 (by decide) (hts _ lk_X0_cut_Cond_fieldLink_RX0_25_SpliceRoom_Knife_told_I_) (fun _ h9 => h9) rfl dX0_cut_79 ?_
  exact W.iret (v := -1) hx hb hr (fun t ht hW => ⟨⟨_, (), rfl, rfl, ⟨by rw [ht]; exact hP, hD⟩⟩, hS.F ht⟩) hS.2.2 dX0_cut_82
set_option maxHeartbeats 4000000 in
set_option maxRecDepth 100000 in
theorem c_X0_cutNR (l : Launch) {D : va_G} {cI cL cQ : ClassId} {N0 : Nat} {sa : Nat → Nat} {Hc : Heap} {h0 b0 : Nat} {f0 f1 f2 f3 f4 f5 f6 : Int32} {p0 q0 n0 : Int32} (hP : va_P D vwCl [(h0, .inr (0, [.int f0, .int f1, .int f2, .int f3, .int f4, .int f5, .int f6]))] Hc) (hD0 : va_D nT [(h0, .inr (0, [.int f0, .int f1, .int f2, .int f3, .int f4, .int f5, .int f6]))]) (hN : ∀ q, va_A [(h0, .inr (0, [.int f0, .int f1, .int f2, .int f3, .int f4, .int f5, .int f6]))] Hc.size q → N0 ≤ q) : Met l yX0_cut wsX0_cut ({ frames := 3, cells := 0, slots := 0, locals := 90 }) (Pq D cI cL cQ N0 sa [.ref h0, .null, .int p0, .ref b0, .int q0, .int n0] Hc) (va_Qi (fun (r : Int32) (u : Unit) => r = -1) (fun (u : Unit) (t : State) => va_P D vwCl [(h0, .inr (0, [.int f0, .int (f1 + 0), .int (f2 + 1), .int (f3 + 1), .int 0, .int (-1), .int f6]))] t.heap ∧ va_D (va_A [(h0, .inr (0, [.int f0, .int f1, .int f2, .int f3, .int f4, .int f5, .int f6]))] Hc.size) [(h0, .inr (0, [.int f0, .int (f1 + 0), .int (f2 + 1), .int (f3 + 1), .int 0, .int (-1), .int f6]))]) (va_A [(h0, .inr (0, [.int f0, .int f1, .int f2, .int f3, .int f4, .int f5, .int f6]))] Hc.size)) 0 0 (va_A [(h0, .inr (0, [.int f0, .int f1, .int f2, .int f3, .int f4, .int f5, .int f6]))] Hc.size) := by
  refine Met.ofW (cc := cX0_cut) (maxL := 6) (ret := (some .int)) (by decide) rfl ?_
  intro p e s m args below meth c s₁ B hml hv
  obtain ⟨rfl, hH, hC⟩ := hv
  have hx := B.exec
  have hb := B.bytes
  have hr := B.returns
  have hts := atoms_spec (ws := wsX0_cut) B.pre
  have hown : s.vm.findClass RX0 = some m.cls := findClass_of_methodNamed B.named
  have hlocks := B.notSynchronized
  subst hH
  have hK := hC.K
  have hl := lv_entry ([.ref h0, .null, .int p0, .ref b0, .int q0, .int n0]) (n := 6) (Nat.le_of_ble_eq_true rfl)
  rw [lg_entry_eq]
  generalize (lg_sl ([.ref h0, .null, .int p0, .ref b0, .int q0, .int n0]) ++ List.replicate (6 - (lg_sl ([.ref h0, .null, .int p0, .ref b0, .int q0, .int n0])).length) Slot.unset).toArray = ls at hl ⊢
  have hl : lv_has ls 6 [(0, .ref h0), (1, .null), (2, .int p0), (3, .ref b0), (4, .int q0), (5, .int n0)] := hl
  have hP : va_P D vwCl [(h0, .inr (0, [.int f0, .int f1, .int f2, .int f3, .int f4, .int f5, .int f6]))] s.heap := hP
  have hD := hD0.self (sz := s.heap.size)
  generalize hAe : va_A [(h0, .inr (0, [.int f0, .int f1, .int f2, .int f3, .int f4, .int f5, .int f6]))] s.heap.size = A at hD hN ⊢
  have hA : ∀ q : Nat, s.heap.size ≤ q → A q := fun q h => by rw [← hAe]; exact Or.inr h
  have hS : va_S A s.heap s.heap [] := va_S.rf
  refine lv_aload_n hx hb dX0_cut_0 rfl (lv_at hl 0 rfl) ?_
  refine lv_iconst (v := 0) hx hb dX0_cut_1 (by decide) ?_
  refine va_put (D := D) (ci := 0) (v := .int 0) (ty := .int) (C := RX0) (T := TX0) (N := 7) hx hb hts iw_X0_cut_X0 tyX0 tyX0_ok nmX0 hown hK hP hD hS 0 rfl rfl 4 (by decide) (hts _ lk_X0_cut_Cond_fieldLink_RX0_18_SpliceRoom_Knife_far_I_) (fun _ h9 => h9) rfl (by decide +kernel) rfl rfl (Nat.le_of_ble_eq_true rfl) dX0_cut_2 (fun H locs hP hD hS => ?_)
  have hP : va_P D vwCl [(h0, .inr (0, [.int f0, .int f1, .int f2, .int f3, .int 0, .int f5, .int f6]))] H := hP
  have hD : va_D A [(h0, .inr (0, [.int f0, .int f1, .int f2, .int f3, .int 0, .int f5, .int f6]))] := hD
  refine lv_aload_n hx hb dX0_cut_5 rfl (lv_at hl 0 rfl) ?_
  refine lv_aload_n hx hb dX0_cut_6 rfl (lv_at hl 0 rfl) ?_
  refine lv_aload_nN hx hb dX0_cut_7 rfl (lv_at hl 1 rfl) ?_
  refine lv_iload_n hx hb dX0_cut_8 rfl (lv_at hl 2 rfl) ?_
  refine lv_aload_n hx hb dX0_cut_9 rfl (lv_at hl 3 rfl) ?_
  refine lv_iload hx hb dX0_cut_10 (lv_at hl 4 rfl) ?_
  refine lv_iload hx hb dX0_cut_12 (lv_at hl 5 rfl) ?_
  refine ro_i (va_runV (As := [.null, .int p0, .ref b0, .int q0, .int n0]) (rest := [.ref h0]) ⟨hx, hb, hml, hown, hts⟩ (c_X0_layNR l (h0 := h0) (b0 := b0) (p0 := p0) (q0 := q0) (n0 := n0)) (cwV 5 hts gX0_cut_X0_lay rfl rfl rfl (by decide +kernel) ⟨Nat.le_of_ble_eq_true rfl, Nat.le_of_ble_eq_true rfl⟩) (Pq.V hC hS hN (va_recv hK hP (ci := 0) (q0 := 0) rfl rfl)) rfl rfl hl.1 rfl (lv_room (Nat.le_of_ble_eq_true rfl)) dX0_cut_14 ⟨Nat.le_of_ble_eq_true rfl, Nat.le_of_ble_eq_true rfl⟩) hS (fun r_1 locs hw hS => ?_)
  have hw : r_1 = -1 := hw
  subst hw
  refine va_put (D := D) (ci := 0) (v := .int (-1)) (ty := .int) (C := RX0) (T := TX0) (N := 7) hx hb hts iw_X0_cut_X0 tyX0 tyX0_ok nmX0 hown hK hP hD hS 0 rfl rfl 5 (by decide) (hts _ lk_X0_cut_Cond_fieldLink_RX0_25_SpliceRoom_Knife_told_I_) (fun _ h9 => h9) rfl (by decide +kernel) rfl rfl (Nat.le_of_ble_eq_true rfl) dX0_cut_17 (fun H locs hP hD hS => ?_)
  have hP : va_P D vwCl [(h0, .inr (0, [.int f0, .int f1, .int f2, .int f3, .int 0, .int (-1), .int f6]))] H := hP
  have hD : va_D A [(h0, .inr (0, [.int f0, .int f1, .int f2, .int f3, .int 0, .int (-1), .int f6]))] := hD
  refine lv_aload_n hx hb dX0_cut_20 rfl (lv_at hl 0 rfl) ?_
  refine lv_dup hx hb dX0_cut_21 rfl ?_
  refine va_get (D := D) (ci := 0) (v := .int f1) (C := RX0) (T := TX0) (N := 7) hx hb hts iw_X0_cut_X0 hown hK hP 0 rfl rfl 1 (by decide) (hts _ lk_X0_cut_Cond_fieldLink_RX0_28_SpliceRoom_Knife_laid_I_) (fun _ h9 => h9) rfl dX0_cut_22 ?_
  refine lv_aload_n hx hb dX0_cut_25 rfl (lv_at hl 0 rfl) ?_
  refine va_get (D := D) (ci := 0) (v := .int 0) (C := RX0) (T := TX0) (N := 7) hx hb hts iw_X0_cut_X0 hown hK hP 0 rfl rfl 4 (by decide) (hts _ lk_X0_cut_Cond_fieldLink_RX0_18_SpliceRoom_Knife_far_I_) (fun _ h9 => h9) rfl dX0_cut_26 ?_
  refine lv_iadd hx hb dX0_cut_29 ?_
  refine va_put (D := D) (ci := 0) (v := .int (f1 + 0)) (ty := .int) (C := RX0) (T := TX0) (N := 7) hx hb hts iw_X0_cut_X0 tyX0 tyX0_ok nmX0 hown hK hP hD hS 0 rfl rfl 1 (by decide) (hts _ lk_X0_cut_Cond_fieldLink_RX0_28_SpliceRoom_Knife_laid_I_) (fun _ h9 => h9) rfl (by decide +kernel) rfl rfl (Nat.le_of_ble_eq_true rfl) dX0_cut_30 (fun H locs hP hD hS => ?_)
  have hP : va_P D vwCl [(h0, .inr (0, [.int f0, .int (f1 + 0), .int f2, .int f3, .int 0, .int (-1), .int f6]))] H := hP
  have hD : va_D A [(h0, .inr (0, [.int f0, .int (f1 + 0), .int f2, .int f3, .int 0, .int (-1), .int f6]))] := hD
  refine lv_aload_n hx hb dX0_cut_33 rfl (lv_at hl 0 rfl) ?_
  refine va_get (D := D) (ci := 0) (v := .int (-1)) (C := RX0) (T := TX0) (N := 7) hx hb hts iw_X0_cut_X0 hown hK hP 0 rfl rfl 5 (by decide) (hts _ lk_X0_cut_Cond_fieldLink_RX0_25_SpliceRoom_Knife_told_I_) (fun _ h9 => h9) rfl dX0_cut_34 ?_
  refine lv_if_ge (tgt := 63) hx hb dX0_cut_37 (by decide) (fun c9 => absurd c9 (by decide)) (fun _ => ?_)
  refine lv_aload_n hx hb dX0_cut_40 rfl (lv_at hl 0 rfl) ?_
  refine lv_dup hx hb dX0_cut_41 rfl ?_
  refine va_get (D := D) (ci := 0) (v := .int f2) (C := RX0) (T := TX0) (N := 7) hx hb hts iw_X0_cut_X0 hown hK hP 0 rfl rfl 2 (by decide) (hts _ lk_X0_cut_Cond_fieldLink_RX0_31_SpliceRoom_Knife_jams_I_) (fun _ h9 => h9) rfl dX0_cut_42 ?_
  refine lv_iconst (v := 1) hx hb dX0_cut_45 (by decide) ?_
  refine lv_iadd hx hb dX0_cut_46 ?_
  refine va_put (D := D) (ci := 0) (v := .int (f2 + 1)) (ty := .int) (C := RX0) (T := TX0) (N := 7) hx hb hts iw_X0_cut_X0 tyX0 tyX0_ok nmX0 hown hK hP hD hS 0 rfl rfl 2 (by decide) (hts _ lk_X0_cut_Cond_fieldLink_RX0_31_SpliceRoom_Knife_jams_I_) (fun _ h9 => h9) rfl (by decide +kernel) rfl rfl (Nat.le_of_ble_eq_true rfl) dX0_cut_47 (fun H locs hP hD hS => ?_)
  have hP : va_P D vwCl [(h0, .inr (0, [.int f0, .int (f1 + 0), .int (f2 + 1), .int f3, .int 0, .int (-1), .int f6]))] H := hP
  have hD : va_D A [(h0, .inr (0, [.int f0, .int (f1 + 0), .int (f2 + 1), .int f3, .int 0, .int (-1), .int f6]))] := hD
  refine lv_aload_n hx hb dX0_cut_50 rfl (lv_at hl 0 rfl) ?_
  refine lv_dup hx hb dX0_cut_51 rfl ?_
  refine va_get (D := D) (ci := 0) (v := .int f3) (C := RX0) (T := TX0) (N := 7) hx hb hts iw_X0_cut_X0 hown hK hP 0 rfl rfl 3 (by decide) (hts _ lk_X0_cut_Cond_fieldLink_RX0_9_SpliceRoom_Knife_jamsInRow_I_) (fun _ h9 => h9) rfl dX0_cut_52 ?_
  refine lv_iconst (v := 1) hx hb dX0_cut_55 (by decide) ?_
  refine lv_iadd hx hb dX0_cut_56 ?_
  refine va_put (D := D) (ci := 0) (v := .int (f3 + 1)) (ty := .int) (C := RX0) (T := TX0) (N := 7) hx hb hts iw_X0_cut_X0 tyX0 tyX0_ok nmX0 hown hK hP hD hS 0 rfl rfl 3 (by decide) (hts _ lk_X0_cut_Cond_fieldLink_RX0_9_SpliceRoom_Knife_jamsInRow_I_) (fun _ h9 => h9) rfl (by decide +kernel) rfl rfl (Nat.le_of_ble_eq_true rfl) dX0_cut_57 (fun H locs hP hD hS => ?_)
  have hP : va_P D vwCl [(h0, .inr (0, [.int f0, .int (f1 + 0), .int (f2 + 1), .int (f3 + 1), .int 0, .int (-1), .int f6]))] H := hP
  have hD : va_D A [(h0, .inr (0, [.int f0, .int (f1 + 0), .int (f2 + 1), .int (f3 + 1), .int 0, .int (-1), .int f6]))] := hD
  refine lv_goto (tgt := 78) hx hb dX0_cut_60 (by decide) ?_
  refine lv_aload_n hx hb dX0_cut_78 rfl (lv_at hl 0 rfl) ?_
  refine va_get (D := D) (ci := 0) (v := .int (-1)) (C := RX0) (T := TX0) (N := 7) hx hb hts iw_X0_cut_X0 hown hK hP 0 rfl rfl 5 (by decide) (hts _ lk_X0_cut_Cond_fieldLink_RX0_25_SpliceRoom_Knife_told_I_) (fun _ h9 => h9) rfl dX0_cut_79 ?_
  exact W.iret (v := -1) hx hb hr (fun t ht hW => ⟨⟨_, (), rfl, rfl, ⟨by rw [ht]; exact hP, hD⟩⟩, hS.F ht⟩) hS.2.2 dX0_cut_82
set_option maxHeartbeats 4000000 in
set_option maxRecDepth 100000 in
theorem c_X0_cutRN (l : Launch) {D : va_G} {cI cL cQ : ClassId} {N0 : Nat} {sa : Nat → Nat} {Hc : Heap} {h0 a0 : Nat} {f0 f1 f2 f3 f4 f5 f6 : Int32} {p0 q0 n0 : Int32} (hP : va_P D vwCl [(h0, .inr (0, [.int f0, .int f1, .int f2, .int f3, .int f4, .int f5, .int f6]))] Hc) (hD0 : va_D nT [(h0, .inr (0, [.int f0, .int f1, .int f2, .int f3, .int f4, .int f5, .int f6]))]) (hN : ∀ q, va_A [(h0, .inr (0, [.int f0, .int f1, .int f2, .int f3, .int f4, .int f5, .int f6]))] Hc.size q → N0 ≤ q) : Met l yX0_cut wsX0_cut ({ frames := 3, cells := 0, slots := 0, locals := 90 }) (Pq D cI cL cQ N0 sa [.ref h0, .ref a0, .int p0, .null, .int q0, .int n0] Hc) (va_Qi (fun (r : Int32) (u : Unit) => r = -1) (fun (u : Unit) (t : State) => va_P D vwCl [(h0, .inr (0, [.int f0, .int (f1 + 0), .int (f2 + 1), .int (f3 + 1), .int 0, .int (-1), .int f6]))] t.heap ∧ va_D (va_A [(h0, .inr (0, [.int f0, .int f1, .int f2, .int f3, .int f4, .int f5, .int f6]))] Hc.size) [(h0, .inr (0, [.int f0, .int (f1 + 0), .int (f2 + 1), .int (f3 + 1), .int 0, .int (-1), .int f6]))]) (va_A [(h0, .inr (0, [.int f0, .int f1, .int f2, .int f3, .int f4, .int f5, .int f6]))] Hc.size)) 0 0 (va_A [(h0, .inr (0, [.int f0, .int f1, .int f2, .int f3, .int f4, .int f5, .int f6]))] Hc.size) := by
  refine Met.ofW (cc := cX0_cut) (maxL := 6) (ret := (some .int)) (by decide) rfl ?_
  intro p e s m args below meth c s₁ B hml hv
  obtain ⟨rfl, hH, hC⟩ := hv
  have hx := B.exec
  have hb := B.bytes
  have hr := B.returns
  have hts := atoms_spec (ws := wsX0_cut) B.pre
  have hown : s.vm.findClass RX0 = some m.cls := findClass_of_methodNamed B.named
  have hlocks := B.notSynchronized
  subst hH
  have hK := hC.K
  have hl := lv_entry ([.ref h0, .ref a0, .int p0, .null, .int q0, .int n0]) (n := 6) (Nat.le_of_ble_eq_true rfl)
  rw [lg_entry_eq]
  generalize (lg_sl ([.ref h0, .ref a0, .int p0, .null, .int q0, .int n0]) ++ List.replicate (6 - (lg_sl ([.ref h0, .ref a0, .int p0, .null, .int q0, .int n0])).length) Slot.unset).toArray = ls at hl ⊢
  have hl : lv_has ls 6 [(0, .ref h0), (1, .ref a0), (2, .int p0), (3, .null), (4, .int q0), (5, .int n0)] := hl
  have hP : va_P D vwCl [(h0, .inr (0, [.int f0, .int f1, .int f2, .int f3, .int f4, .int f5, .int f6]))] s.heap := hP
  have hD := hD0.self (sz := s.heap.size)
  generalize hAe : va_A [(h0, .inr (0, [.int f0, .int f1, .int f2, .int f3, .int f4, .int f5, .int f6]))] s.heap.size = A at hD hN ⊢
  have hA : ∀ q : Nat, s.heap.size ≤ q → A q := fun q h => by rw [← hAe]; exact Or.inr h
  have hS : va_S A s.heap s.heap [] := va_S.rf
  refine lv_aload_n hx hb dX0_cut_0 rfl (lv_at hl 0 rfl) ?_
  refine lv_iconst (v := 0) hx hb dX0_cut_1 (by decide) ?_
  refine va_put (D := D) (ci := 0) (v := .int 0) (ty := .int) (C := RX0) (T := TX0) (N := 7) hx hb hts iw_X0_cut_X0 tyX0 tyX0_ok nmX0 hown hK hP hD hS 0 rfl rfl 4 (by decide) (hts _ lk_X0_cut_Cond_fieldLink_RX0_18_SpliceRoom_Knife_far_I_) (fun _ h9 => h9) rfl (by decide +kernel) rfl rfl (Nat.le_of_ble_eq_true rfl) dX0_cut_2 (fun H locs hP hD hS => ?_)
  have hP : va_P D vwCl [(h0, .inr (0, [.int f0, .int f1, .int f2, .int f3, .int 0, .int f5, .int f6]))] H := hP
  have hD : va_D A [(h0, .inr (0, [.int f0, .int f1, .int f2, .int f3, .int 0, .int f5, .int f6]))] := hD
  refine lv_aload_n hx hb dX0_cut_5 rfl (lv_at hl 0 rfl) ?_
  refine lv_aload_n hx hb dX0_cut_6 rfl (lv_at hl 0 rfl) ?_
  refine lv_aload_n hx hb dX0_cut_7 rfl (lv_at hl 1 rfl) ?_
  refine lv_iload_n hx hb dX0_cut_8 rfl (lv_at hl 2 rfl) ?_
  refine lv_aload_nN hx hb dX0_cut_9 rfl (lv_at hl 3 rfl) ?_
  refine lv_iload hx hb dX0_cut_10 (lv_at hl 4 rfl) ?_
  refine lv_iload hx hb dX0_cut_12 (lv_at hl 5 rfl) ?_
  refine ro_i (va_runV (As := [.ref a0, .int p0, .null, .int q0, .int n0]) (rest := [.ref h0]) ⟨hx, hb, hml, hown, hts⟩ (c_X0_layRN l (h0 := h0) (a0 := a0) (p0 := p0) (q0 := q0) (n0 := n0)) (cwV 5 hts gX0_cut_X0_lay rfl rfl rfl (by decide +kernel) ⟨Nat.le_of_ble_eq_true rfl, Nat.le_of_ble_eq_true rfl⟩) (Pq.V hC hS hN (va_recv hK hP (ci := 0) (q0 := 0) rfl rfl)) rfl rfl hl.1 rfl (lv_room (Nat.le_of_ble_eq_true rfl)) dX0_cut_14 ⟨Nat.le_of_ble_eq_true rfl, Nat.le_of_ble_eq_true rfl⟩) hS (fun r_1 locs hw hS => ?_)
  have hw : r_1 = -1 := hw
  subst hw
  refine va_put (D := D) (ci := 0) (v := .int (-1)) (ty := .int) (C := RX0) (T := TX0) (N := 7) hx hb hts iw_X0_cut_X0 tyX0 tyX0_ok nmX0 hown hK hP hD hS 0 rfl rfl 5 (by decide) (hts _ lk_X0_cut_Cond_fieldLink_RX0_25_SpliceRoom_Knife_told_I_) (fun _ h9 => h9) rfl (by decide +kernel) rfl rfl (Nat.le_of_ble_eq_true rfl) dX0_cut_17 (fun H locs hP hD hS => ?_)
  have hP : va_P D vwCl [(h0, .inr (0, [.int f0, .int f1, .int f2, .int f3, .int 0, .int (-1), .int f6]))] H := hP
  have hD : va_D A [(h0, .inr (0, [.int f0, .int f1, .int f2, .int f3, .int 0, .int (-1), .int f6]))] := hD
  refine lv_aload_n hx hb dX0_cut_20 rfl (lv_at hl 0 rfl) ?_
  refine lv_dup hx hb dX0_cut_21 rfl ?_
  refine va_get (D := D) (ci := 0) (v := .int f1) (C := RX0) (T := TX0) (N := 7) hx hb hts iw_X0_cut_X0 hown hK hP 0 rfl rfl 1 (by decide) (hts _ lk_X0_cut_Cond_fieldLink_RX0_28_SpliceRoom_Knife_laid_I_) (fun _ h9 => h9) rfl dX0_cut_22 ?_
  refine lv_aload_n hx hb dX0_cut_25 rfl (lv_at hl 0 rfl) ?_
  refine va_get (D := D) (ci := 0) (v := .int 0) (C := RX0) (T := TX0) (N := 7) hx hb hts iw_X0_cut_X0 hown hK hP 0 rfl rfl 4 (by decide) (hts _ lk_X0_cut_Cond_fieldLink_RX0_18_SpliceRoom_Knife_far_I_) (fun _ h9 => h9) rfl dX0_cut_26 ?_
  refine lv_iadd hx hb dX0_cut_29 ?_
  refine va_put (D := D) (ci := 0) (v := .int (f1 + 0)) (ty := .int) (C := RX0) (T := TX0) (N := 7) hx hb hts iw_X0_cut_X0 tyX0 tyX0_ok nmX0 hown hK hP hD hS 0 rfl rfl 1 (by decide) (hts _ lk_X0_cut_Cond_fieldLink_RX0_28_SpliceRoom_Knife_laid_I_) (fun _ h9 => h9) rfl (by decide +kernel) rfl rfl (Nat.le_of_ble_eq_true rfl) dX0_cut_30 (fun H locs hP hD hS => ?_)
  have hP : va_P D vwCl [(h0, .inr (0, [.int f0, .int (f1 + 0), .int f2, .int f3, .int 0, .int (-1), .int f6]))] H := hP
  have hD : va_D A [(h0, .inr (0, [.int f0, .int (f1 + 0), .int f2, .int f3, .int 0, .int (-1), .int f6]))] := hD
  refine lv_aload_n hx hb dX0_cut_33 rfl (lv_at hl 0 rfl) ?_
  refine va_get (D := D) (ci := 0) (v := .int (-1)) (C := RX0) (T := TX0) (N := 7) hx hb hts iw_X0_cut_X0 hown hK hP 0 rfl rfl 5 (by decide) (hts _ lk_X0_cut_Cond_fieldLink_RX0_25_SpliceRoom_Knife_told_I_) (fun _ h9 => h9) rfl dX0_cut_34 ?_
  refine lv_if_ge (tgt := 63) hx hb dX0_cut_37 (by decide) (fun c9 => absurd c9 (by decide)) (fun _ => ?_)
  refine lv_aload_n hx hb dX0_cut_40 rfl (lv_at hl 0 rfl) ?_
  refine lv_dup hx hb dX0_cut_41 rfl ?_
  refine va_get (D := D) (ci := 0) (v := .int f2) (C := RX0) (T := TX0) (N := 7) hx hb hts iw_X0_cut_X0 hown hK hP 0 rfl rfl 2 (by decide) (hts _ lk_X0_cut_Cond_fieldLink_RX0_31_SpliceRoom_Knife_jams_I_) (fun _ h9 => h9) rfl dX0_cut_42 ?_
  refine lv_iconst (v := 1) hx hb dX0_cut_45 (by decide) ?_
  refine lv_iadd hx hb dX0_cut_46 ?_
  refine va_put (D := D) (ci := 0) (v := .int (f2 + 1)) (ty := .int) (C := RX0) (T := TX0) (N := 7) hx hb hts iw_X0_cut_X0 tyX0 tyX0_ok nmX0 hown hK hP hD hS 0 rfl rfl 2 (by decide) (hts _ lk_X0_cut_Cond_fieldLink_RX0_31_SpliceRoom_Knife_jams_I_) (fun _ h9 => h9) rfl (by decide +kernel) rfl rfl (Nat.le_of_ble_eq_true rfl) dX0_cut_47 (fun H locs hP hD hS => ?_)
  have hP : va_P D vwCl [(h0, .inr (0, [.int f0, .int (f1 + 0), .int (f2 + 1), .int f3, .int 0, .int (-1), .int f6]))] H := hP
  have hD : va_D A [(h0, .inr (0, [.int f0, .int (f1 + 0), .int (f2 + 1), .int f3, .int 0, .int (-1), .int f6]))] := hD
  refine lv_aload_n hx hb dX0_cut_50 rfl (lv_at hl 0 rfl) ?_
  refine lv_dup hx hb dX0_cut_51 rfl ?_
  refine va_get (D := D) (ci := 0) (v := .int f3) (C := RX0) (T := TX0) (N := 7) hx hb hts iw_X0_cut_X0 hown hK hP 0 rfl rfl 3 (by decide) (hts _ lk_X0_cut_Cond_fieldLink_RX0_9_SpliceRoom_Knife_jamsInRow_I_) (fun _ h9 => h9) rfl dX0_cut_52 ?_
  refine lv_iconst (v := 1) hx hb dX0_cut_55 (by decide) ?_
  refine lv_iadd hx hb dX0_cut_56 ?_
  refine va_put (D := D) (ci := 0) (v := .int (f3 + 1)) (ty := .int) (C := RX0) (T := TX0) (N := 7) hx hb hts iw_X0_cut_X0 tyX0 tyX0_ok nmX0 hown hK hP hD hS 0 rfl rfl 3 (by decide) (hts _ lk_X0_cut_Cond_fieldLink_RX0_9_SpliceRoom_Knife_jamsInRow_I_) (fun _ h9 => h9) rfl (by decide +kernel) rfl rfl (Nat.le_of_ble_eq_true rfl) dX0_cut_57 (fun H locs hP hD hS => ?_)
  have hP : va_P D vwCl [(h0, .inr (0, [.int f0, .int (f1 + 0), .int (f2 + 1), .int (f3 + 1), .int 0, .int (-1), .int f6]))] H := hP
  have hD : va_D A [(h0, .inr (0, [.int f0, .int (f1 + 0), .int (f2 + 1), .int (f3 + 1), .int 0, .int (-1), .int f6]))] := hD
  refine lv_goto (tgt := 78) hx hb dX0_cut_60 (by decide) ?_
  refine lv_aload_n hx hb dX0_cut_78 rfl (lv_at hl 0 rfl) ?_
  refine va_get (D := D) (ci := 0) (v := .int (-1)) (C := RX0) (T := TX0) (N := 7) hx hb hts iw_X0_cut_X0 hown hK hP 0 rfl rfl 5 (by decide) (hts _ lk_X0_cut_Cond_fieldLink_RX0_25_SpliceRoom_Knife_told_I_) (fun _ h9 => h9) rfl dX0_cut_79 ?_
  exact W.iret (v := -1) hx hb hr (fun t ht hW => ⟨⟨_, (), rfl, rfl, ⟨by rw [ht]; exact hP, hD⟩⟩, hS.F ht⟩) hS.2.2 dX0_cut_82
theorem lk_X0_cut_Cond_fieldLink_RX0_34_SpliceRoom_Knife_wentWell_I_ : Cond.fieldLink RX0 34 "SpliceRoom$Knife" "wentWell" "I" ∈ wsX0_cut := by decide +kernel
set_option maxHeartbeats 4000000 in
set_option maxRecDepth 100000 in
theorem c_X0_cutD (l : Launch) {D : va_G} {cI cL cQ : ClassId} {N0 : Nat} {sa : Nat → Nat} {Hc : Heap} {h0 a0 wa b0 wb : Nat} {f0 f1 f2 f3 f4 f5 f6 ka kb : Int32} {za zb : Nat} {f g : Nat → Int64} {p0 q0 n0 : Int32} (hP : va_P D vwCl [(h0, .inr (0, [.int f0, .int f1, .int f2, .int f3, .int f4, .int f5, .int f6])), (a0, .inr (1, [.int ka, .ref wa])), (wa, .inl (cL, za, .inr (.inl f))), (b0, .inr (1, [.int kb, .ref wb])), (wb, .inl (cL, zb, .inr (.inl g)))] Hc) (hD0 : va_D nT [(h0, .inr (0, [.int f0, .int f1, .int f2, .int f3, .int f4, .int f5, .int f6])), (a0, .inr (1, [.int ka, .ref wa])), (wa, .inl (cL, za, .inr (.inl f))), (b0, .inr (1, [.int kb, .ref wb])), (wb, .inl (cL, zb, .inr (.inl g)))]) (hN : ∀ q, va_A [(h0, .inr (0, [.int f0, .int f1, .int f2, .int f3, .int f4, .int f5, .int f6])), (a0, .inr (1, [.int ka, .ref wa])), (wa, .inl (cL, za, .inr (.inl f))), (b0, .inr (1, [.int kb, .ref wb])), (wb, .inl (cL, zb, .inr (.inl g)))] Hc.size q → N0 ≤ q) (hza : za ≤ 40) (hzb : zb ≤ 40) : Met l yX0_cut wsX0_cut ({ frames := 3, cells := 0, slots := 0, locals := 90 }) (Pq D cI cL cQ N0 sa [.ref h0, .ref a0, .int p0, .ref b0, .int q0, .int n0] Hc) (va_Qi (fun (r : Int32) (u : Nat × Int32) => r = u.2 ∧ LayRel ka kb za zb f p0 q0 n0 u.1 u.2) (fun (u : Nat × Int32) (t : State) => va_P D vwCl [(h0, .inr (0, [.int (if u.2 < 0 then f0 else f0 + 1), .int (f1 + nI u.1), .int (if u.2 < 0 then f2 + 1 else f2), .int (if u.2 < 0 then f3 + 1 else 0), .int (nI u.1), .int u.2, .int f6])), (a0, .inr (1, [.int ka, .ref wa])), (wa, .inl (cL, za, .inr (.inl f))), (b0, .inr (1, [.int kb, .ref wb])), (wb, .inl (cL, zb, .inr (.inl (va_cpy f g p0.toNatClampNeg q0.toNatClampNeg u.1))))] t.heap ∧ va_D (va_A [(h0, .inr (0, [.int f0, .int f1, .int f2, .int f3, .int f4, .int f5, .int f6])), (a0, .inr (1, [.int ka, .ref wa])), (wa, .inl (cL, za, .inr (.inl f))), (b0, .inr (1, [.int kb, .ref wb])), (wb, .inl (cL, zb, .inr (.inl g)))] Hc.size) [(h0, .inr (0, [.int (if u.2 < 0 then f0 else f0 + 1), .int (f1 + nI u.1), .int (if u.2 < 0 then f2 + 1 else f2), .int (if u.2 < 0 then f3 + 1 else 0), .int (nI u.1), .int u.2, .int f6])), (a0, .inr (1, [.int ka, .ref wa])), (wa, .inl (cL, za, .inr (.inl f))), (b0, .inr (1, [.int kb, .ref wb])), (wb, .inl (cL, zb, .inr (.inl (va_cpy f g p0.toNatClampNeg q0.toNatClampNeg u.1))))]) (va_A [(h0, .inr (0, [.int f0, .int f1, .int f2, .int f3, .int f4, .int f5, .int f6])), (a0, .inr (1, [.int ka, .ref wa])), (wa, .inl (cL, za, .inr (.inl f))), (b0, .inr (1, [.int kb, .ref wb])), (wb, .inl (cL, zb, .inr (.inl g)))] Hc.size)) 0 0 (va_A [(h0, .inr (0, [.int f0, .int f1, .int f2, .int f3, .int f4, .int f5, .int f6])), (a0, .inr (1, [.int ka, .ref wa])), (wa, .inl (cL, za, .inr (.inl f))), (b0, .inr (1, [.int kb, .ref wb])), (wb, .inl (cL, zb, .inr (.inl g)))] Hc.size) := by
  refine Met.ofW (cc := cX0_cut) (maxL := 6) (ret := (some .int)) (by decide) rfl ?_
  intro p e s m args below meth c s₁ B hml hv
  obtain ⟨rfl, hH, hC⟩ := hv
  have hx := B.exec
  have hb := B.bytes
  have hr := B.returns
  have hts := atoms_spec (ws := wsX0_cut) B.pre
  have hown : s.vm.findClass RX0 = some m.cls := findClass_of_methodNamed B.named
  have hlocks := B.notSynchronized
  subst hH
  have hK := hC.K
  have hl := lv_entry ([.ref h0, .ref a0, .int p0, .ref b0, .int q0, .int n0]) (n := 6) (Nat.le_of_ble_eq_true rfl)
  rw [lg_entry_eq]
  generalize (lg_sl ([.ref h0, .ref a0, .int p0, .ref b0, .int q0, .int n0]) ++ List.replicate (6 - (lg_sl ([.ref h0, .ref a0, .int p0, .ref b0, .int q0, .int n0])).length) Slot.unset).toArray = ls at hl ⊢
  have hl : lv_has ls 6 [(0, .ref h0), (1, .ref a0), (2, .int p0), (3, .ref b0), (4, .int q0), (5, .int n0)] := hl
  have hP : va_P D vwCl [(h0, .inr (0, [.int f0, .int f1, .int f2, .int f3, .int f4, .int f5, .int f6])), (a0, .inr (1, [.int ka, .ref wa])), (wa, .inl (cL, za, .inr (.inl f))), (b0, .inr (1, [.int kb, .ref wb])), (wb, .inl (cL, zb, .inr (.inl g)))] s.heap := hP
  have hD := hD0.self (sz := s.heap.size)
  generalize hAe : va_A [(h0, .inr (0, [.int f0, .int f1, .int f2, .int f3, .int f4, .int f5, .int f6])), (a0, .inr (1, [.int ka, .ref wa])), (wa, .inl (cL, za, .inr (.inl f))), (b0, .inr (1, [.int kb, .ref wb])), (wb, .inl (cL, zb, .inr (.inl g)))] s.heap.size = A at hD hN ⊢
  have hA : ∀ q : Nat, s.heap.size ≤ q → A q := fun q h => by rw [← hAe]; exact Or.inr h
  have hS : va_S A s.heap s.heap [] := va_S.rf
  refine lv_aload_n hx hb dX0_cut_0 rfl (lv_at hl 0 rfl) ?_
  refine lv_iconst (v := 0) hx hb dX0_cut_1 (by decide) ?_
  refine va_put (D := D) (ci := 0) (v := .int 0) (ty := .int) (C := RX0) (T := TX0) (N := 7) hx hb hts iw_X0_cut_X0 tyX0 tyX0_ok nmX0 hown hK hP hD hS 0 rfl rfl 4 (by decide) (hts _ lk_X0_cut_Cond_fieldLink_RX0_18_SpliceRoom_Knife_far_I_) (fun _ h9 => h9) rfl (by decide +kernel) rfl rfl (Nat.le_of_ble_eq_true rfl) dX0_cut_2 (fun H locs hP hD hS => ?_)
  have hP : va_P D vwCl [(h0, .inr (0, [.int f0, .int f1, .int f2, .int f3, .int 0, .int f5, .int f6])), (a0, .inr (1, [.int ka, .ref wa])), (wa, .inl (cL, za, .inr (.inl f))), (b0, .inr (1, [.int kb, .ref wb])), (wb, .inl (cL, zb, .inr (.inl g)))] H := hP
  have hD : va_D A [(h0, .inr (0, [.int f0, .int f1, .int f2, .int f3, .int 0, .int f5, .int f6])), (a0, .inr (1, [.int ka, .ref wa])), (wa, .inl (cL, za, .inr (.inl f))), (b0, .inr (1, [.int kb, .ref wb])), (wb, .inl (cL, zb, .inr (.inl g)))] := hD
  refine lv_aload_n hx hb dX0_cut_5 rfl (lv_at hl 0 rfl) ?_
  refine lv_aload_n hx hb dX0_cut_6 rfl (lv_at hl 0 rfl) ?_
  refine lv_aload_n hx hb dX0_cut_7 rfl (lv_at hl 1 rfl) ?_
  refine lv_iload_n hx hb dX0_cut_8 rfl (lv_at hl 2 rfl) ?_
  refine lv_aload_n hx hb dX0_cut_9 rfl (lv_at hl 3 rfl) ?_
  refine lv_iload hx hb dX0_cut_10 (lv_at hl 4 rfl) ?_
  refine lv_iload hx hb dX0_cut_12 (lv_at hl 5 rfl) ?_
  have hFc := va_free (wc := [(h0, .inr (0, [.int f0, .int f1, .int f2, .int f3, .int 0, .int f5, .int f6])), (a0, .inr (1, [.int ka, .ref wa])), (wa, .inl (cL, za, .inr (.inl f))), (b0, .inr (1, [.int kb, .ref wb])), (wb, .inl (cL, zb, .inr (.inl g)))]) hD hS hA [0, 1, 2, 3, 4] rfl
  refine va_calli (va_runV (As := [.ref a0, .int p0, .ref b0, .int q0, .int n0]) (rest := [.ref h0]) ⟨hx, hb, hml, hown, hts⟩ (c_X0_lay l (hP.sub (ws' := [(h0, .inr (0, [.int f0, .int f1, .int f2, .int f3, .int 0, .int f5, .int f6])), (a0, .inr (1, [.int ka, .ref wa])), (wa, .inl (cL, za, .inr (.inl f))), (b0, .inr (1, [.int kb, .ref wb])), (wb, .inl (cL, zb, .inr (.inl g)))]) [0, 1, 2, 3, 4] rfl) ((hD.sub (ws' := [(h0, .inr (0, [.int f0, .int f1, .int f2, .int f3, .int 0, .int f5, .int f6])), (a0, .inr (1, [.int ka, .ref wa])), (wa, .inl (cL, za, .inr (.inl f))), (b0, .inr (1, [.int kb, .ref wb])), (wb, .inl (cL, zb, .inr (.inl g)))]) [0, 1, 2, 3, 4] (by decide) rfl).weaken (fun _ _ _ _ => trivial)) (fun q h => hN q (hFc q h)) hza hzb) (cwV 5 hts gX0_cut_X0_lay rfl rfl rfl (by decide +kernel) ⟨Nat.le_of_ble_eq_true rfl, Nat.le_of_ble_eq_true rfl⟩) (Pq.V hC hS hN (va_recv hK hP (ci := 0) (q0 := 0) rfl rfl)) rfl rfl hl.1 rfl (lv_room (Nat.le_of_ble_eq_true rfl)) dX0_cut_14 ⟨Nat.le_of_ble_eq_true rfl, Nat.le_of_ble_eq_true rfl⟩) hS (fun q _ h => hFc q h) hFc (fun r_1 u t H1 locs ht hvm hw hB hz1 hk1 hS => ?_)
  obtain ⟨k1, rfl⟩ : ∃ z : Nat, z = u := ⟨u, rfl⟩
  obtain ⟨hP1, hD1⟩ := hB
  rw [ht] at hP1
  have hw : LayRel ka kb za zb f p0 q0 n0 k1 r_1 := hw
  obtain ⟨hP, hD⟩ := va_join (wr := []) (w1 := [(h0, .inr (0, [.int f0, .int f1, .int f2, .int f3, .int (nI k1), .int f5, .int f6])), (a0, .inr (1, [.int ka, .ref wa])), (wa, .inl (cL, za, .inr (.inl f))), (b0, .inr (1, [.int kb, .ref wb])), (wb, .inl (cL, zb, .inr (.inl (va_cpy f g p0.toNatClampNeg q0.toNatClampNeg k1))))]) hP hD [0, 1, 2, 3, 4] [] rfl rfl (by decide) (by decide) hk1 hFc hP1 hD1
  generalize H1 = H at hP hS ⊢
  have hP : va_P D vwCl [(h0, .inr (0, [.int f0, .int f1, .int f2, .int f3, .int (nI k1), .int f5, .int f6])), (a0, .inr (1, [.int ka, .ref wa])), (wa, .inl (cL, za, .inr (.inl f))), (b0, .inr (1, [.int kb, .ref wb])), (wb, .inl (cL, zb, .inr (.inl (va_cpy f g p0.toNatClampNeg q0.toNatClampNeg k1))))] H := hP.sub [0, 1, 2, 3, 4] rfl
  have hD : va_D A [(h0, .inr (0, [.int f0, .int f1, .int f2, .int f3, .int (nI k1), .int f5, .int f6])), (a0, .inr (1, [.int ka, .ref wa])), (wa, .inl (cL, za, .inr (.inl f))), (b0, .inr (1, [.int kb, .ref wb])), (wb, .inl (cL, zb, .inr (.inl (va_cpy f g p0.toNatClampNeg q0.toNatClampNeg k1))))] := hD.sub [0, 1, 2, 3, 4] (by decide) rfl
  refine va_put (D := D) (ci := 0) (v := .int r_1) (ty := .int) (C := RX0) (T := TX0) (N := 7) hx hb hts iw_X0_cut_X0 tyX0 tyX0_ok nmX0 hown hK hP hD hS 0 rfl rfl 5 (by decide) (hts _ lk_X0_cut_Cond_fieldLink_RX0_25_SpliceRoom_Knife_told_I_) (fun _ h9 => h9) rfl (by decide +kernel) rfl rfl (Nat.le_of_ble_eq_true rfl) dX0_cut_17 (fun H locs hP hD hS => ?_)
  have hP : va_P D vwCl [(h0, .inr (0, [.int f0, .int f1, .int f2, .int f3, .int (nI k1), .int r_1, .int f6])), (a0, .inr (1, [.int ka, .ref wa])), (wa, .inl (cL, za, .inr (.inl f))), (b0, .inr (1, [.int kb, .ref wb])), (wb, .inl (cL, zb, .inr (.inl (va_cpy f g p0.toNatClampNeg q0.toNatClampNeg k1))))] H := hP
  have hD : va_D A [(h0, .inr (0, [.int f0, .int f1, .int f2, .int f3, .int (nI k1), .int r_1, .int f6])), (a0, .inr (1, [.int ka, .ref wa])), (wa, .inl (cL, za, .inr (.inl f))), (b0, .inr (1, [.int kb, .ref wb])), (wb, .inl (cL, zb, .inr (.inl (va_cpy f g p0.toNatClampNeg q0.toNatClampNeg k1))))] := hD
  refine lv_aload_n hx hb dX0_cut_20 rfl (lv_at hl 0 rfl) ?_
  refine lv_dup hx hb dX0_cut_21 rfl ?_
  refine va_get (D := D) (ci := 0) (v := .int f1) (C := RX0) (T := TX0) (N := 7) hx hb hts iw_X0_cut_X0 hown hK hP 0 rfl rfl 1 (by decide) (hts _ lk_X0_cut_Cond_fieldLink_RX0_28_SpliceRoom_Knife_laid_I_) (fun _ h9 => h9) rfl dX0_cut_22 ?_
  refine lv_aload_n hx hb dX0_cut_25 rfl (lv_at hl 0 rfl) ?_
  refine va_get (D := D) (ci := 0) (v := .int (nI k1)) (C := RX0) (T := TX0) (N := 7) hx hb hts iw_X0_cut_X0 hown hK hP 0 rfl rfl 4 (by decide) (hts _ lk_X0_cut_Cond_fieldLink_RX0_18_SpliceRoom_Knife_far_I_) (fun _ h9 => h9) rfl dX0_cut_26 ?_
  refine lv_iadd hx hb dX0_cut_29 ?_
  refine va_put (D := D) (ci := 0) (v := .int (f1 + (nI k1))) (ty := .int) (C := RX0) (T := TX0) (N := 7) hx hb hts iw_X0_cut_X0 tyX0 tyX0_ok nmX0 hown hK hP hD hS 0 rfl rfl 1 (by decide) (hts _ lk_X0_cut_Cond_fieldLink_RX0_28_SpliceRoom_Knife_laid_I_) (fun _ h9 => h9) rfl (by decide +kernel) rfl rfl (Nat.le_of_ble_eq_true rfl) dX0_cut_30 (fun H locs hP hD hS => ?_)
  have hP : va_P D vwCl [(h0, .inr (0, [.int f0, .int (f1 + (nI k1)), .int f2, .int f3, .int (nI k1), .int r_1, .int f6])), (a0, .inr (1, [.int ka, .ref wa])), (wa, .inl (cL, za, .inr (.inl f))), (b0, .inr (1, [.int kb, .ref wb])), (wb, .inl (cL, zb, .inr (.inl (va_cpy f g p0.toNatClampNeg q0.toNatClampNeg k1))))] H := hP
  have hD : va_D A [(h0, .inr (0, [.int f0, .int (f1 + (nI k1)), .int f2, .int f3, .int (nI k1), .int r_1, .int f6])), (a0, .inr (1, [.int ka, .ref wa])), (wa, .inl (cL, za, .inr (.inl f))), (b0, .inr (1, [.int kb, .ref wb])), (wb, .inl (cL, zb, .inr (.inl (va_cpy f g p0.toNatClampNeg q0.toNatClampNeg k1))))] := hD
  refine lv_aload_n hx hb dX0_cut_33 rfl (lv_at hl 0 rfl) ?_
  refine va_get (D := D) (ci := 0) (v := .int r_1) (C := RX0) (T := TX0) (N := 7) hx hb hts iw_X0_cut_X0 hown hK hP 0 rfl rfl 5 (by decide) (hts _ lk_X0_cut_Cond_fieldLink_RX0_25_SpliceRoom_Knife_told_I_) (fun _ h9 => h9) rfl dX0_cut_34 ?_
  refine lv_if_ge (tgt := 63) hx hb dX0_cut_37 (by decide) (fun c_37 => ?_) (fun c_37 => ?_)
  · have hr0 : ¬ r_1 < 0 := Int32.not_lt.mpr c_37
    refine lv_aload_n hx hb dX0_cut_63 rfl (lv_at hl 0 rfl) ?_
    refine lv_dup hx hb dX0_cut_64 rfl ?_
    refine va_get (D := D) (ci := 0) (v := .int f0) (C := RX0) (T := TX0) (N := 7) hx hb hts iw_X0_cut_X0 hown hK hP 0 rfl rfl 0 (by decide) (hts _ lk_X0_cut_Cond_fieldLink_RX0_34_SpliceRoom_Knife_wentWell_I_) (fun _ h9 => h9) rfl dX0_cut_65 ?_
    refine lv_iconst (v := 1) hx hb dX0_cut_68 (by decide) ?_
    refine lv_iadd hx hb dX0_cut_69 ?_
    refine va_put (D := D) (ci := 0) (v := .int (f0 + 1)) (ty := .int) (C := RX0) (T := TX0) (N := 7) hx hb hts iw_X0_cut_X0 tyX0 tyX0_ok nmX0 hown hK hP hD hS 0 rfl rfl 0 (by decide) (hts _ lk_X0_cut_Cond_fieldLink_RX0_34_SpliceRoom_Knife_wentWell_I_) (fun _ h9 => h9) rfl (by decide +kernel) rfl rfl (Nat.le_of_ble_eq_true rfl) dX0_cut_70 (fun H locs hP hD hS => ?_)
    have hP : va_P D vwCl [(h0, .inr (0, [.int (f0 + 1), .int (f1 + (nI k1)), .int f2, .int f3, .int (nI k1), .int r_1, .int f6])), (a0, .inr (1, [.int ka, .ref wa])), (wa, .inl (cL, za, .inr (.inl f))), (b0, .inr (1, [.int kb, .ref wb])), (wb, .inl (cL, zb, .inr (.inl (va_cpy f g p0.toNatClampNeg q0.toNatClampNeg k1))))] H := hP
    have hD : va_D A [(h0, .inr (0, [.int (f0 + 1), .int (f1 + (nI k1)), .int f2, .int f3, .int (nI k1), .int r_1, .int f6])), (a0, .inr (1, [.int ka, .ref wa])), (wa, .inl (cL, za, .inr (.inl f))), (b0, .inr (1, [.int kb, .ref wb])), (wb, .inl (cL, zb, .inr (.inl (va_cpy f g p0.toNatClampNeg q0.toNatClampNeg k1))))] := hD
    refine lv_aload_n hx hb dX0_cut_73 rfl (lv_at hl 0 rfl) ?_
    refine lv_iconst (v := 0) hx hb dX0_cut_74 (by decide) ?_
    refine va_put (D := D) (ci := 0) (v := .int 0) (ty := .int) (C := RX0) (T := TX0) (N := 7) hx hb hts iw_X0_cut_X0 tyX0 tyX0_ok nmX0 hown hK hP hD hS 0 rfl rfl 3 (by decide) (hts _ lk_X0_cut_Cond_fieldLink_RX0_9_SpliceRoom_Knife_jamsInRow_I_) (fun _ h9 => h9) rfl (by decide +kernel) rfl rfl (Nat.le_of_ble_eq_true rfl) dX0_cut_75 (fun H locs hP hD hS => ?_)
    have hP : va_P D vwCl [(h0, .inr (0, [.int (f0 + 1), .int (f1 + (nI k1)), .int f2, .int 0, .int (nI k1), .int r_1, .int f6])), (a0, .inr (1, [.int ka, .ref wa])), (wa, .inl (cL, za, .inr (.inl f))), (b0, .inr (1, [.int kb, .ref wb])), (wb, .inl (cL, zb, .inr (.inl (va_cpy f g p0.toNatClampNeg q0.toNatClampNeg k1))))] H := hP
    have hD : va_D A [(h0, .inr (0, [.int (f0 + 1), .int (f1 + (nI k1)), .int f2, .int 0, .int (nI k1), .int r_1, .int f6])), (a0, .inr (1, [.int ka, .ref wa])), (wa, .inl (cL, za, .inr (.inl f))), (b0, .inr (1, [.int kb, .ref wb])), (wb, .inl (cL, zb, .inr (.inl (va_cpy f g p0.toNatClampNeg q0.toNatClampNeg k1))))] := hD
    refine lv_aload_n hx hb dX0_cut_78 rfl (lv_at hl 0 rfl) ?_
    refine va_get (D := D) (ci := 0) (v := .int r_1) (C := RX0) (T := TX0) (N := 7) hx hb hts iw_X0_cut_X0 hown hK hP 0 rfl rfl 5 (by decide) (hts _ lk_X0_cut_Cond_fieldLink_RX0_25_SpliceRoom_Knife_told_I_) (fun _ h9 => h9) rfl dX0_cut_79 ?_
    exact W.iret (v := r_1) hx hb hr (fun t ht hW => ⟨⟨_, (k1, r_1), rfl, ⟨rfl, hw⟩, ⟨by rw [ht]; exact by simp only [if_neg hr0]; exact hP, by simp only [if_neg hr0]; exact hD⟩⟩, hS.F ht⟩) hS.2.2 dX0_cut_82
  · have hr0 : r_1 < 0 := Int32.not_le.mp c_37
    refine lv_aload_n hx hb dX0_cut_40 rfl (lv_at hl 0 rfl) ?_
    refine lv_dup hx hb dX0_cut_41 rfl ?_
    refine va_get (D := D) (ci := 0) (v := .int f2) (C := RX0) (T := TX0) (N := 7) hx hb hts iw_X0_cut_X0 hown hK hP 0 rfl rfl 2 (by decide) (hts _ lk_X0_cut_Cond_fieldLink_RX0_31_SpliceRoom_Knife_jams_I_) (fun _ h9 => h9) rfl dX0_cut_42 ?_
    refine lv_iconst (v := 1) hx hb dX0_cut_45 (by decide) ?_
    refine lv_iadd hx hb dX0_cut_46 ?_
    refine va_put (D := D) (ci := 0) (v := .int (f2 + 1)) (ty := .int) (C := RX0) (T := TX0) (N := 7) hx hb hts iw_X0_cut_X0 tyX0 tyX0_ok nmX0 hown hK hP hD hS 0 rfl rfl 2 (by decide) (hts _ lk_X0_cut_Cond_fieldLink_RX0_31_SpliceRoom_Knife_jams_I_) (fun _ h9 => h9) rfl (by decide +kernel) rfl rfl (Nat.le_of_ble_eq_true rfl) dX0_cut_47 (fun H locs hP hD hS => ?_)
    have hP : va_P D vwCl [(h0, .inr (0, [.int f0, .int (f1 + (nI k1)), .int (f2 + 1), .int f3, .int (nI k1), .int r_1, .int f6])), (a0, .inr (1, [.int ka, .ref wa])), (wa, .inl (cL, za, .inr (.inl f))), (b0, .inr (1, [.int kb, .ref wb])), (wb, .inl (cL, zb, .inr (.inl (va_cpy f g p0.toNatClampNeg q0.toNatClampNeg k1))))] H := hP
    have hD : va_D A [(h0, .inr (0, [.int f0, .int (f1 + (nI k1)), .int (f2 + 1), .int f3, .int (nI k1), .int r_1, .int f6])), (a0, .inr (1, [.int ka, .ref wa])), (wa, .inl (cL, za, .inr (.inl f))), (b0, .inr (1, [.int kb, .ref wb])), (wb, .inl (cL, zb, .inr (.inl (va_cpy f g p0.toNatClampNeg q0.toNatClampNeg k1))))] := hD
    refine lv_aload_n hx hb dX0_cut_50 rfl (lv_at hl 0 rfl) ?_
    refine lv_dup hx hb dX0_cut_51 rfl ?_
    refine va_get (D := D) (ci := 0) (v := .int f3) (C := RX0) (T := TX0) (N := 7) hx hb hts iw_X0_cut_X0 hown hK hP 0 rfl rfl 3 (by decide) (hts _ lk_X0_cut_Cond_fieldLink_RX0_9_SpliceRoom_Knife_jamsInRow_I_) (fun _ h9 => h9) rfl dX0_cut_52 ?_
    refine lv_iconst (v := 1) hx hb dX0_cut_55 (by decide) ?_
    refine lv_iadd hx hb dX0_cut_56 ?_
    refine va_put (D := D) (ci := 0) (v := .int (f3 + 1)) (ty := .int) (C := RX0) (T := TX0) (N := 7) hx hb hts iw_X0_cut_X0 tyX0 tyX0_ok nmX0 hown hK hP hD hS 0 rfl rfl 3 (by decide) (hts _ lk_X0_cut_Cond_fieldLink_RX0_9_SpliceRoom_Knife_jamsInRow_I_) (fun _ h9 => h9) rfl (by decide +kernel) rfl rfl (Nat.le_of_ble_eq_true rfl) dX0_cut_57 (fun H locs hP hD hS => ?_)
    have hP : va_P D vwCl [(h0, .inr (0, [.int f0, .int (f1 + (nI k1)), .int (f2 + 1), .int (f3 + 1), .int (nI k1), .int r_1, .int f6])), (a0, .inr (1, [.int ka, .ref wa])), (wa, .inl (cL, za, .inr (.inl f))), (b0, .inr (1, [.int kb, .ref wb])), (wb, .inl (cL, zb, .inr (.inl (va_cpy f g p0.toNatClampNeg q0.toNatClampNeg k1))))] H := hP
    have hD : va_D A [(h0, .inr (0, [.int f0, .int (f1 + (nI k1)), .int (f2 + 1), .int (f3 + 1), .int (nI k1), .int r_1, .int f6])), (a0, .inr (1, [.int ka, .ref wa])), (wa, .inl (cL, za, .inr (.inl f))), (b0, .inr (1, [.int kb, .ref wb])), (wb, .inl (cL, zb, .inr (.inl (va_cpy f g p0.toNatClampNeg q0.toNatClampNeg k1))))] := hD
    refine lv_goto (tgt := 78) hx hb dX0_cut_60 (by decide) ?_
    refine lv_aload_n hx hb dX0_cut_78 rfl (lv_at hl 0 rfl) ?_
    refine va_get (D := D) (ci := 0) (v := .int r_1) (C := RX0) (T := TX0) (N := 7) hx hb hts iw_X0_cut_X0 hown hK hP 0 rfl rfl 5 (by decide) (hts _ lk_X0_cut_Cond_fieldLink_RX0_25_SpliceRoom_Knife_told_I_) (fun _ h9 => h9) rfl dX0_cut_79 ?_
    exact W.iret (v := r_1) hx hb hr (fun t ht hW => ⟨⟨_, (k1, r_1), rfl, ⟨rfl, hw⟩, ⟨by rw [ht]; exact by simp only [if_pos hr0]; exact hP, by simp only [if_pos hr0]; exact hD⟩⟩, hS.F ht⟩) hS.2.2 dX0_cut_82
set_option maxHeartbeats 4000000 in
set_option maxRecDepth 100000 in
theorem c_X0_cutS (l : Launch) {D : va_G} {cI cL cQ : ClassId} {N0 : Nat} {sa : Nat → Nat} {Hc : Heap} {h0 a0 wa : Nat} {f0 f1 f2 f3 f4 f5 f6 ka : Int32} {za : Nat} {f : Nat → Int64} {p0 q0 n0 : Int32} (hP : va_P D vwCl [(h0, .inr (0, [.int f0, .int f1, .int f2, .int f3, .int f4, .int f5, .int f6])), (a0, .inr (1, [.int ka, .ref wa])), (wa, .inl (cL, za, .inr (.inl f)))] Hc) (hD0 : va_D nT [(h0, .inr (0, [.int f0, .int f1, .int f2, .int f3, .int f4, .int f5, .int f6])), (a0, .inr (1, [.int ka, .ref wa])), (wa, .inl (cL, za, .inr (.inl f)))]) (hN : ∀ q, va_A [(h0, .inr (0, [.int f0, .int f1, .int f2, .int f3, .int f4, .int f5, .int f6])), (a0, .inr (1, [.int ka, .ref wa])), (wa, .inl (cL, za, .inr (.inl f)))] Hc.size q → N0 ≤ q) (hza : za ≤ 40) : Met l yX0_cut wsX0_cut ({ frames := 3, cells := 0, slots := 0, locals := 90 }) (Pq D cI cL cQ N0 sa [.ref h0, .ref a0, .int p0, .ref a0, .int q0, .int n0] Hc) (va_Qi (fun (r : Int32) (u : Nat × Int32) => r = u.2 ∧ LayRel ka ka za za f p0 q0 n0 u.1 u.2) (fun (u : Nat × Int32) (t : State) => va_P D vwCl [(h0, .inr (0, [.int (if u.2 < 0 then f0 else f0 + 1), .int (f1 + nI u.1), .int (if u.2 < 0 then f2 + 1 else f2), .int (if u.2 < 0 then f3 + 1 else 0), .int (nI u.1), .int u.2, .int f6])), (a0, .inr (1, [.int ka, .ref wa])), (wa, .inl (cL, za, .inr (.inl (va_cpy f f p0.toNatClampNeg q0.toNatClampNeg u.1))))] t.heap ∧ va_D (va_A [(h0, .inr (0, [.int f0, .int f1, .int f2, .int f3, .int f4, .int f5, .int f6])), (a0, .inr (1, [.int ka, .ref wa])), (wa, .inl (cL, za, .inr (.inl f)))] Hc.size) [(h0, .inr (0, [.int (if u.2 < 0 then f0 else f0 + 1), .int (f1 + nI u.1), .int (if u.2 < 0 then f2 + 1 else f2), .int (if u.2 < 0 then f3 + 1 else 0), .int (nI u.1), .int u.2, .int f6])), (a0, .inr (1, [.int ka, .ref wa])), (wa, .inl (cL, za, .inr (.inl (va_cpy f f p0.toNatClampNeg q0.toNatClampNeg u.1))))]) (va_A [(h0, .inr (0, [.int f0, .int f1, .int f2, .int f3, .int f4, .int f5, .int f6])), (a0, .inr (1, [.int ka, .ref wa])), (wa, .inl (cL, za, .inr (.inl f)))] Hc.size)) 0 0 (va_A [(h0, .inr (0, [.int f0, .int f1, .int f2, .int f3, .int f4, .int f5, .int f6])), (a0, .inr (1, [.int ka, .ref wa])), (wa, .inl (cL, za, .inr (.inl f)))] Hc.size) := by
  refine Met.ofW (cc := cX0_cut) (maxL := 6) (ret := (some .int)) (by decide) rfl ?_
  intro p e s m args below meth c s₁ B hml hv
  obtain ⟨rfl, hH, hC⟩ := hv
  have hx := B.exec
  have hb := B.bytes
  have hr := B.returns
  have hts := atoms_spec (ws := wsX0_cut) B.pre
  have hown : s.vm.findClass RX0 = some m.cls := findClass_of_methodNamed B.named
  have hlocks := B.notSynchronized
  subst hH
  have hK := hC.K
  have hl := lv_entry ([.ref h0, .ref a0, .int p0, .ref a0, .int q0, .int n0]) (n := 6) (Nat.le_of_ble_eq_true rfl)
  rw [lg_entry_eq]
  generalize (lg_sl ([.ref h0, .ref a0, .int p0, .ref a0, .int q0, .int n0]) ++ List.replicate (6 - (lg_sl ([.ref h0, .ref a0, .int p0, .ref a0, .int q0, .int n0])).length) Slot.unset).toArray = ls at hl ⊢
  have hl : lv_has ls 6 [(0, .ref h0), (1, .ref a0), (2, .int p0), (3, .ref a0), (4, .int q0), (5, .int n0)] := hl
  have hP : va_P D vwCl [(h0, .inr (0, [.int f0, .int f1, .int f2, .int f3, .int f4, .int f5, .int f6])), (a0, .inr (1, [.int ka, .ref wa])), (wa, .inl (cL, za, .inr (.inl f)))] s.heap := hP
  have hD := hD0.self (sz := s.heap.size)
  generalize hAe : va_A [(h0, .inr (0, [.int f0, .int f1, .int f2, .int f3, .int f4, .int f5, .int f6])), (a0, .inr (1, [.int ka, .ref wa])), (wa, .inl (cL, za, .inr (.inl f)))] s.heap.size = A at hD hN ⊢
  have hA : ∀ q : Nat, s.heap.size ≤ q → A q := fun q h => by rw [← hAe]; exact Or.inr h
  have hS : va_S A s.heap s.heap [] := va_S.rf
  refine lv_aload_n hx hb dX0_cut_0 rfl (lv_at hl 0 rfl) ?_
  refine lv_iconst (v := 0) hx hb dX0_cut_1 (by decide) ?_
  refine va_put (D := D) (ci := 0) (v := .int 0) (ty := .int) (C := RX0) (T := TX0) (N := 7) hx hb hts iw_X0_cut_X0 tyX0 tyX0_ok nmX0 hown hK hP hD hS 0 rfl rfl 4 (by decide) (hts _ lk_X0_cut_Cond_fieldLink_RX0_18_SpliceRoom_Knife_far_I_) (fun _ h9 => h9) rfl (by decide +kernel) rfl rfl (Nat.le_of_ble_eq_true rfl) dX0_cut_2 (fun H locs hP hD hS => ?_)
  have hP : va_P D vwCl [(h0, .inr (0, [.int f0, .int f1, .int f2, .int f3, .int 0, .int f5, .int f6])), (a0, .inr (1, [.int ka, .ref wa])), (wa, .inl (cL, za, .inr (.inl f)))] H := hP
  have hD : va_D A [(h0, .inr (0, [.int f0, .int f1, .int f2, .int f3, .int 0, .int f5, .int f6])), (a0, .inr (1, [.int ka, .ref wa])), (wa, .inl (cL, za, .inr (.inl f)))] := hD
  refine lv_aload_n hx hb dX0_cut_5 rfl (lv_at hl 0 rfl) ?_
  refine lv_aload_n hx hb dX0_cut_6 rfl (lv_at hl 0 rfl) ?_
  refine lv_aload_n hx hb dX0_cut_7 rfl (lv_at hl 1 rfl) ?_
  refine lv_iload_n hx hb dX0_cut_8 rfl (lv_at hl 2 rfl) ?_
  refine lv_aload_n hx hb dX0_cut_9 rfl (lv_at hl 3 rfl) ?_
  refine lv_iload hx hb dX0_cut_10 (lv_at hl 4 rfl) ?_
  refine lv_iload hx hb dX0_cut_12 (lv_at hl 5 rfl) ?_
  have hFc := va_free (wc := [(h0, .inr (0, [.int f0, .int f1, .int f2, .int f3, .int 0, .int f5, .int f6])), (a0, .inr (1, [.int ka, .ref wa])), (wa, .inl (cL, za, .inr (.inl f)))]) hD hS hA [0, 1, 2] rfl
  refine va_calli (va_runV (As := [.ref a0, .int p0, .ref a0, .int q0, .int n0]) (rest := [.ref h0]) ⟨hx, hb, hml, hown, hts⟩ (c_X0_layS l (hP.sub (ws' := [(h0, .inr (0, [.int f0, .int f1, .int f2, .int f3, .int 0, .int f5, .int f6])), (a0, .inr (1, [.int ka, .ref wa])), (wa, .inl (cL, za, .inr (.inl f)))]) [0, 1, 2] rfl) ((hD.sub (ws' := [(h0, .inr (0, [.int f0, .int f1, .int f2, .int f3, .int 0, .int f5, .int f6])), (a0, .inr (1, [.int ka, .ref wa])), (wa, .inl (cL, za, .inr (.inl f)))]) [0, 1, 2] (by decide) rfl).weaken (fun _ _ _ _ => trivial)) (fun q h => hN q (hFc q h)) hza) (cwV 5 hts gX0_cut_X0_lay rfl rfl rfl (by decide +kernel) ⟨Nat.le_of_ble_eq_true rfl, Nat.le_of_ble_eq_true rfl⟩) (Pq.V hC hS hN (va_recv hK hP (ci := 0) (q0 := 0) rfl rfl)) rfl rfl hl.1 rfl (lv_room (Nat.le_of_ble_eq_true rfl)) dX0_cut_14 ⟨Nat.le_of_ble_eq_true rfl, Nat.le_of_ble_eq_true rfl⟩) hS (fun q _ h => hFc q h) hFc (fun r_1 u t H1 locs ht hvm hw hB hz1 hk1 hS => ?_)
  obtain ⟨k1, rfl⟩ : ∃ z : Nat, z = u := ⟨u, rfl⟩
  obtain ⟨hP1, hD1⟩ := hB
  rw [ht] at hP1
  have hw : LayRel ka ka za za f p0 q0 n0 k1 r_1 := hw
  obtain ⟨hP, hD⟩ := va_join (wr := []) (w1 := [(h0, .inr (0, [.int f0, .int f1, .int f2, .int f3, .int (nI k1), .int f5, .int f6])), (a0, .inr (1, [.int ka, .ref wa])), (wa, .inl (cL, za, .inr (.inl (va_cpy f f p0.toNatClampNeg q0.toNatClampNeg k1))))]) hP hD [0, 1, 2] [] rfl rfl (by decide) (by decide) hk1 hFc hP1 hD1
  generalize H1 = H at hP hS ⊢
  have hP : va_P D vwCl [(h0, .inr (0, [.int f0, .int f1, .int f2, .int f3, .int (nI k1), .int f5, .int f6])), (a0, .inr (1, [.int ka, .ref wa])), (wa, .inl (cL, za, .inr (.inl (va_cpy f f p0.toNatClampNeg q0.toNatClampNeg k1))))] H := hP.sub [0, 1, 2] rfl
  have hD : va_D A [(h0, .inr (0, [.int f0, .int f1, .int f2, .int f3, .int (nI k1), .int f5, .int f6])), (a0, .inr (1, [.int ka, .ref wa])), (wa, .inl (cL, za, .inr (.inl (va_cpy f f p0.toNatClampNeg q0.toNatClampNeg k1))))] := hD.sub [0, 1, 2] (by decide) rfl
  refine va_put (D := D) (ci := 0) (v := .int r_1) (ty := .int) (C := RX0) (T := TX0) (N := 7) hx hb hts iw_X0_cut_X0 tyX0 tyX0_ok nmX0 hown hK hP hD hS 0 rfl rfl 5 (by decide) (hts _ lk_X0_cut_Cond_fieldLink_RX0_25_SpliceRoom_Knife_told_I_) (fun _ h9 => h9) rfl (by decide +kernel) rfl rfl (Nat.le_of_ble_eq_true rfl) dX0_cut_17 (fun H locs hP hD hS => ?_)
  have hP : va_P D vwCl [(h0, .inr (0, [.int f0, .int f1, .int f2, .int f3, .int (nI k1), .int r_1, .int f6])), (a0, .inr (1, [.int ka, .ref wa])), (wa, .inl (cL, za, .inr (.inl (va_cpy f f p0.toNatClampNeg q0.toNatClampNeg k1))))] H := hP
  have hD : va_D A [(h0, .inr (0, [.int f0, .int f1, .int f2, .int f3, .int (nI k1), .int r_1, .int f6])), (a0, .inr (1, [.int ka, .ref wa])), (wa, .inl (cL, za, .inr (.inl (va_cpy f f p0.toNatClampNeg q0.toNatClampNeg k1))))] := hD
  refine lv_aload_n hx hb dX0_cut_20 rfl (lv_at hl 0 rfl) ?_
  refine lv_dup hx hb dX0_cut_21 rfl ?_
  refine va_get (D := D) (ci := 0) (v := .int f1) (C := RX0) (T := TX0) (N := 7) hx hb hts iw_X0_cut_X0 hown hK hP 0 rfl rfl 1 (by decide) (hts _ lk_X0_cut_Cond_fieldLink_RX0_28_SpliceRoom_Knife_laid_I_) (fun _ h9 => h9) rfl dX0_cut_22 ?_
  refine lv_aload_n hx hb dX0_cut_25 rfl (lv_at hl 0 rfl) ?_
  refine va_get (D := D) (ci := 0) (v := .int (nI k1)) (C := RX0) (T := TX0) (N := 7) hx hb hts iw_X0_cut_X0 hown hK hP 0 rfl rfl 4 (by decide) (hts _ lk_X0_cut_Cond_fieldLink_RX0_18_SpliceRoom_Knife_far_I_) (fun _ h9 => h9) rfl dX0_cut_26 ?_
  refine lv_iadd hx hb dX0_cut_29 ?_
  refine va_put (D := D) (ci := 0) (v := .int (f1 + (nI k1))) (ty := .int) (C := RX0) (T := TX0) (N := 7) hx hb hts iw_X0_cut_X0 tyX0 tyX0_ok nmX0 hown hK hP hD hS 0 rfl rfl 1 (by decide) (hts _ lk_X0_cut_Cond_fieldLink_RX0_28_SpliceRoom_Knife_laid_I_) (fun _ h9 => h9) rfl (by decide +kernel) rfl rfl (Nat.le_of_ble_eq_true rfl) dX0_cut_30 (fun H locs hP hD hS => ?_)
  have hP : va_P D vwCl [(h0, .inr (0, [.int f0, .int (f1 + (nI k1)), .int f2, .int f3, .int (nI k1), .int r_1, .int f6])), (a0, .inr (1, [.int ka, .ref wa])), (wa, .inl (cL, za, .inr (.inl (va_cpy f f p0.toNatClampNeg q0.toNatClampNeg k1))))] H := hP
  have hD : va_D A [(h0, .inr (0, [.int f0, .int (f1 + (nI k1)), .int f2, .int f3, .int (nI k1), .int r_1, .int f6])), (a0, .inr (1, [.int ka, .ref wa])), (wa, .inl (cL, za, .inr (.inl (va_cpy f f p0.toNatClampNeg q0.toNatClampNeg k1))))] := hD
  refine lv_aload_n hx hb dX0_cut_33 rfl (lv_at hl 0 rfl) ?_
  refine va_get (D := D) (ci := 0) (v := .int r_1) (C := RX0) (T := TX0) (N := 7) hx hb hts iw_X0_cut_X0 hown hK hP 0 rfl rfl 5 (by decide) (hts _ lk_X0_cut_Cond_fieldLink_RX0_25_SpliceRoom_Knife_told_I_) (fun _ h9 => h9) rfl dX0_cut_34 ?_
  refine lv_if_ge (tgt := 63) hx hb dX0_cut_37 (by decide) (fun c_37 => ?_) (fun c_37 => ?_)
  · have hr0 : ¬ r_1 < 0 := Int32.not_lt.mpr c_37
    refine lv_aload_n hx hb dX0_cut_63 rfl (lv_at hl 0 rfl) ?_
    refine lv_dup hx hb dX0_cut_64 rfl ?_
    refine va_get (D := D) (ci := 0) (v := .int f0) (C := RX0) (T := TX0) (N := 7) hx hb hts iw_X0_cut_X0 hown hK hP 0 rfl rfl 0 (by decide) (hts _ lk_X0_cut_Cond_fieldLink_RX0_34_SpliceRoom_Knife_wentWell_I_) (fun _ h9 => h9) rfl dX0_cut_65 ?_
    refine lv_iconst (v := 1) hx hb dX0_cut_68 (by decide) ?_
    refine lv_iadd hx hb dX0_cut_69 ?_
    refine va_put (D := D) (ci := 0) (v := .int (f0 + 1)) (ty := .int) (C := RX0) (T := TX0) (N := 7) hx hb hts iw_X0_cut_X0 tyX0 tyX0_ok nmX0 hown hK hP hD hS 0 rfl rfl 0 (by decide) (hts _ lk_X0_cut_Cond_fieldLink_RX0_34_SpliceRoom_Knife_wentWell_I_) (fun _ h9 => h9) rfl (by decide +kernel) rfl rfl (Nat.le_of_ble_eq_true rfl) dX0_cut_70 (fun H locs hP hD hS => ?_)
    have hP : va_P D vwCl [(h0, .inr (0, [.int (f0 + 1), .int (f1 + (nI k1)), .int f2, .int f3, .int (nI k1), .int r_1, .int f6])), (a0, .inr (1, [.int ka, .ref wa])), (wa, .inl (cL, za, .inr (.inl (va_cpy f f p0.toNatClampNeg q0.toNatClampNeg k1))))] H := hP
    have hD : va_D A [(h0, .inr (0, [.int (f0 + 1), .int (f1 + (nI k1)), .int f2, .int f3, .int (nI k1), .int r_1, .int f6])), (a0, .inr (1, [.int ka, .ref wa])), (wa, .inl (cL, za, .inr (.inl (va_cpy f f p0.toNatClampNeg q0.toNatClampNeg k1))))] := hD
    refine lv_aload_n hx hb dX0_cut_73 rfl (lv_at hl 0 rfl) ?_
    refine lv_iconst (v := 0) hx hb dX0_cut_74 (by decide) ?_
    refine va_put (D := D) (ci := 0) (v := .int 0) (ty := .int) (C := RX0) (T := TX0) (N := 7) hx hb hts iw_X0_cut_X0 tyX0 tyX0_ok nmX0 hown hK hP hD hS 0 rfl rfl 3 (by decide) (hts _ lk_X0_cut_Cond_fieldLink_RX0_9_SpliceRoom_Knife_jamsInRow_I_) (fun _ h9 => h9) rfl (by decide +kernel) rfl rfl (Nat.le_of_ble_eq_true rfl) dX0_cut_75 (fun H locs hP hD hS => ?_)
    have hP : va_P D vwCl [(h0, .inr (0, [.int (f0 + 1), .int (f1 + (nI k1)), .int f2, .int 0, .int (nI k1), .int r_1, .int f6])), (a0, .inr (1, [.int ka, .ref wa])), (wa, .inl (cL, za, .inr (.inl (va_cpy f f p0.toNatClampNeg q0.toNatClampNeg k1))))] H := hP
    have hD : va_D A [(h0, .inr (0, [.int (f0 + 1), .int (f1 + (nI k1)), .int f2, .int 0, .int (nI k1), .int r_1, .int f6])), (a0, .inr (1, [.int ka, .ref wa])), (wa, .inl (cL, za, .inr (.inl (va_cpy f f p0.toNatClampNeg q0.toNatClampNeg k1))))] := hD
    refine lv_aload_n hx hb dX0_cut_78 rfl (lv_at hl 0 rfl) ?_
    refine va_get (D := D) (ci := 0) (v := .int r_1) (C := RX0) (T := TX0) (N := 7) hx hb hts iw_X0_cut_X0 hown hK hP 0 rfl rfl 5 (by decide) (hts _ lk_X0_cut_Cond_fieldLink_RX0_25_SpliceRoom_Knife_told_I_) (fun _ h9 => h9) rfl dX0_cut_79 ?_
    exact W.iret (v := r_1) hx hb hr (fun t ht hW => ⟨⟨_, (k1, r_1), rfl, ⟨rfl, hw⟩, ⟨by rw [ht]; exact by simp only [if_neg hr0]; exact hP, by simp only [if_neg hr0]; exact hD⟩⟩, hS.F ht⟩) hS.2.2 dX0_cut_82
  · have hr0 : r_1 < 0 := Int32.not_le.mp c_37
    refine lv_aload_n hx hb dX0_cut_40 rfl (lv_at hl 0 rfl) ?_
    refine lv_dup hx hb dX0_cut_41 rfl ?_
    refine va_get (D := D) (ci := 0) (v := .int f2) (C := RX0) (T := TX0) (N := 7) hx hb hts iw_X0_cut_X0 hown hK hP 0 rfl rfl 2 (by decide) (hts _ lk_X0_cut_Cond_fieldLink_RX0_31_SpliceRoom_Knife_jams_I_) (fun _ h9 => h9) rfl dX0_cut_42 ?_
    refine lv_iconst (v := 1) hx hb dX0_cut_45 (by decide) ?_
    refine lv_iadd hx hb dX0_cut_46 ?_
    refine va_put (D := D) (ci := 0) (v := .int (f2 + 1)) (ty := .int) (C := RX0) (T := TX0) (N := 7) hx hb hts iw_X0_cut_X0 tyX0 tyX0_ok nmX0 hown hK hP hD hS 0 rfl rfl 2 (by decide) (hts _ lk_X0_cut_Cond_fieldLink_RX0_31_SpliceRoom_Knife_jams_I_) (fun _ h9 => h9) rfl (by decide +kernel) rfl rfl (Nat.le_of_ble_eq_true rfl) dX0_cut_47 (fun H locs hP hD hS => ?_)
    have hP : va_P D vwCl [(h0, .inr (0, [.int f0, .int (f1 + (nI k1)), .int (f2 + 1), .int f3, .int (nI k1), .int r_1, .int f6])), (a0, .inr (1, [.int ka, .ref wa])), (wa, .inl (cL, za, .inr (.inl (va_cpy f f p0.toNatClampNeg q0.toNatClampNeg k1))))] H := hP
    have hD : va_D A [(h0, .inr (0, [.int f0, .int (f1 + (nI k1)), .int (f2 + 1), .int f3, .int (nI k1), .int r_1, .int f6])), (a0, .inr (1, [.int ka, .ref wa])), (wa, .inl (cL, za, .inr (.inl (va_cpy f f p0.toNatClampNeg q0.toNatClampNeg k1))))] := hD
    refine lv_aload_n hx hb dX0_cut_50 rfl (lv_at hl 0 rfl) ?_
    refine lv_dup hx hb dX0_cut_51 rfl ?_
    refine va_get (D := D) (ci := 0) (v := .int f3) (C := RX0) (T := TX0) (N := 7) hx hb hts iw_X0_cut_X0 hown hK hP 0 rfl rfl 3 (by decide) (hts _ lk_X0_cut_Cond_fieldLink_RX0_9_SpliceRoom_Knife_jamsInRow_I_) (fun _ h9 => h9) rfl dX0_cut_52 ?_
    refine lv_iconst (v := 1) hx hb dX0_cut_55 (by decide) ?_
    refine lv_iadd hx hb dX0_cut_56 ?_
    refine va_put (D := D) (ci := 0) (v := .int (f3 + 1)) (ty := .int) (C := RX0) (T := TX0) (N := 7) hx hb hts iw_X0_cut_X0 tyX0 tyX0_ok nmX0 hown hK hP hD hS 0 rfl rfl 3 (by decide) (hts _ lk_X0_cut_Cond_fieldLink_RX0_9_SpliceRoom_Knife_jamsInRow_I_) (fun _ h9 => h9) rfl (by decide +kernel) rfl rfl (Nat.le_of_ble_eq_true rfl) dX0_cut_57 (fun H locs hP hD hS => ?_)
    have hP : va_P D vwCl [(h0, .inr (0, [.int f0, .int (f1 + (nI k1)), .int (f2 + 1), .int (f3 + 1), .int (nI k1), .int r_1, .int f6])), (a0, .inr (1, [.int ka, .ref wa])), (wa, .inl (cL, za, .inr (.inl (va_cpy f f p0.toNatClampNeg q0.toNatClampNeg k1))))] H := hP
    have hD : va_D A [(h0, .inr (0, [.int f0, .int (f1 + (nI k1)), .int (f2 + 1), .int (f3 + 1), .int (nI k1), .int r_1, .int f6])), (a0, .inr (1, [.int ka, .ref wa])), (wa, .inl (cL, za, .inr (.inl (va_cpy f f p0.toNatClampNeg q0.toNatClampNeg k1))))] := hD
    refine lv_goto (tgt := 78) hx hb dX0_cut_60 (by decide) ?_
    refine lv_aload_n hx hb dX0_cut_78 rfl (lv_at hl 0 rfl) ?_
    refine va_get (D := D) (ci := 0) (v := .int r_1) (C := RX0) (T := TX0) (N := 7) hx hb hts iw_X0_cut_X0 hown hK hP 0 rfl rfl 5 (by decide) (hts _ lk_X0_cut_Cond_fieldLink_RX0_25_SpliceRoom_Knife_told_I_) (fun _ h9 => h9) rfl dX0_cut_79 ?_
    exact W.iret (v := r_1) hx hb hr (fun t ht hW => ⟨⟨_, (k1, r_1), rfl, ⟨rfl, hw⟩, ⟨by rw [ht]; exact by simp only [if_pos hr0]; exact hP, by simp only [if_pos hr0]; exact hD⟩⟩, hS.F ht⟩) hS.2.2 dX0_cut_82
/-- the knife behind a cut that laid k frames and told r -/
def knUp (kn : Nat → Int32) (k : Nat) (r : Int32) : Nat → Int32 := fun i => match i with
  | 0 => if r < 0 then kn 0 else kn 0 + 1
  | 1 => kn 1 + nI k
  | 2 => if r < 0 then kn 2 + 1 else kn 2
  | 3 => if r < 0 then kn 3 + 1 else 0
  | 4 => nI k
  | 5 => r
  | _ => kn 6
/-- a cut between two hooks' reels: k frames are laid, r is told -/
def CutRel (re : Nat → RE) (o1 o2 : Option Nat) (p q n : Int32) (k : Nat) (r : Int32) : Prop := match o1, o2 with
  | some a, some b => LayRel (re a).1 (re b).1 (re a).2.2.1 (re b).2.2.1 (re a).2.2.2 p q n k r
  | _, _ => k = 0 ∧ r = -1
def cutRe (re : Nat → RE) (o1 o2 : Option Nat) (p q : Int32) (k : Nat) : Nat → RE := match o1, o2 with
  | some a, some b => va_up re b ((re b).1, (re b).2.1, (re b).2.2.1, va_cpy (re a).2.2.2 (re b).2.2.2 p.toNatClampNeg q.toNatClampNeg k)
  | _, _ => re
theorem nd_k {x ah ak b0 b1 b2 b3 b4 : Nat} (h : [x, ah, ak, b0, b1, b2, b3, b4].Nodup) {q : Nat} (hq : q ∈ [x, ah, b0, b1, b2, b3, b4]) : q ≠ ak := by
  simp only [List.nodup_cons, List.mem_cons, List.not_mem_nil, or_false, not_or] at h hq
  rintro rfl
  rcases hq with e | e | e | e | e | e | e <;> simp_all
section L
variable {D : va_G} {cI cL cQ : ClassId} {x ah ak b0 b1 b2 b3 b4 : Nat} {F : Nat → Prop} {hk : Nat → Option Nat} {re : Nat → RE} {kn : Nat → Int32} {sh : Nat → Nat → Int32} {k : Int32} {H : Heap}
theorem RSB.P8k (h : RSB D cI cL cQ x ah ak b0 b1 b2 b3 b4 F (hk, re, kn, sh, k) H) {H1 : Heap} {kn' : Nat → Int32} (hPk : va_P D vwCl [(ak, .inr (0, [.int (kn' 0), .int (kn' 1), .int (kn' 2), .int (kn' 3), .int (kn' 4), .int (kn' 5), .int (kn' 6)]))] H1)
    (hq : ∀ q : Nat, q < H.size → q ∈ [x, ah, b0, b1, b2, b3, b4] → H1[q]? = H[q]?) : va_P D vwCl (w8 cI cQ x ah ak b0 b1 b2 b3 b4 hk kn' sh k) H1 := by
  have kp : ∀ (i : Nat) (z : Nat × va_E), (w8 cI cQ x ah ak b0 b1 b2 b3 b4 hk kn sh k)[i]? = some z → z.1 ∈ [x, ah, b0, b1, b2, b3, b4] → va_at D vwCl z H1 := fun i z hi hm => (h.1 i z hi).kept (hq z.1 (h.1 i z hi).lt hm)
  intro i z hi
  match i, hi with
  | 0, hi => cases hi; exact kp 0 _ rfl (by simp)
  | 1, hi => cases hi; exact kp 1 _ rfl (by simp)
  | 2, hi => cases hi; exact hPk 0 _ rfl
  | 3, hi => cases hi; exact kp 3 _ rfl (by simp)
  | 4, hi => cases hi; exact kp 4 _ rfl (by simp)
  | 5, hi => cases hi; exact kp 5 _ rfl (by simp)
  | 6, hi => cases hi; exact kp 6 _ rfl (by simp)
  | 7, hi => cases hi; exact kp 7 _ rfl (by simp)
  | i + 8, hi => simp [w8] at hi
theorem RSB.Fak (h : RSB D cI cL cQ x ah ak b0 b1 b2 b3 b4 F (hk, re, kn, sh, k) H) : F ak := h.2.1 ak (by simp)
theorem in1 {ws : va_W} {sz q : Nat} (h : va_A ws sz q) : q ∈ ws.map (·.1) ∨ sz ≤ q := by
  rcases h with ⟨i, e, hi⟩ | h
  · exact Or.inl (List.mem_map_of_mem (f := fun z : Nat × va_E => z.1) (List.mem_of_getElem? hi))
  · exact Or.inr h
theorem out1 {ws : va_W} {sz q : Nat} (h : q < sz) (hn : q ∉ ws.map (·.1)) : ¬ va_A ws sz q := fun z => (in1 z).elim hn (fun z => by omega)
theorem RSB.PK (h : RSB D cI cL cQ x ah ak b0 b1 b2 b3 b4 F (hk, re, kn, sh, k) H) : va_P D vwCl [(ak, .inr (0, [.int (kn 0), .int (kn 1), .int (kn 2), .int (kn 3), .int (kn 4), .int (kn 5), .int (kn 6)]))] H := h.1.sub [2] rfl
/-- only the knife is new -/
theorem RSB.putK (h : RSB D cI cL cQ x ah ak b0 b1 b2 b3 b4 F (hk, re, kn, sh, k) H) {H1 : Heap} {kn' : Nat → Int32} (hPk : va_P D vwCl [(ak, .inr (0, [.int (kn' 0), .int (kn' 1), .int (kn' 2), .int (kn' 3), .int (kn' 4), .int (kn' 5), .int (kn' 6)]))] H1)
    (hq : ∀ q : Nat, q < H.size → q ≠ ak → H1[q]? = H[q]?) : RSB D cI cL cQ x ah ak b0 b1 b2 b3 b4 F (hk, re, kn', sh, k) H1 :=
  h.put8 (h.P8k hPk (fun q hs hm => hq q hs (nd_k h.2.2.1 hm))) (fun _ z => z) (fun q hs hm => hq q hs (fun e => hm (by rw [e]; simp)))
end L
set_option maxHeartbeats 4000000 in
/-- Knife.cut, between two hooks of the room -/
theorem c_X0_cut (l : Launch) {D : va_G} {cI cL cQ : ClassId} {N0 : Nat} {sa : Nat → Nat} {Hc : Heap} {x ah ak b0 b1 b2 b3 b4 : Nat} {F : Nat → Prop} {hk : Nat → Option Nat} {re : Nat → RE} {kn : Nat → Int32} {sh : Nat → Nat → Int32} {k : Int32} (h : RSB D cI cL cQ x ah ak b0 b1 b2 b3 b4 F (hk, re, kn, sh, k) Hc) (hN : ∀ q, F q ∨ Hc.size ≤ q → N0 ≤ q) {i1 i2 : Nat} (h1 : i1 < 6) (h2 : i2 < 6) {p0 q0 n0 : Int32} :
    Met l yX0_cut wsX0_cut ({ frames := 3, cells := 0, slots := 0, locals := 90 }) (Pq D cI cL cQ N0 sa [.ref ak, va_rf (hk i1), .int p0, va_rf (hk i2), .int q0, .int n0] Hc) (va_Qi (fun (r : Int32) (u : Nat × Int32) => r = u.2 ∧ CutRel re (hk i1) (hk i2) p0 q0 n0 u.1 u.2) (fun u t => RSB D cI cL cQ x ah ak b0 b1 b2 b3 b4 F (hk, cutRe re (hk i1) (hk i2) p0 q0 u.1, knUp kn u.1 u.2, sh, k) t.heap) (fun q => F q ∨ Hc.size ≤ q)) 0 0 (fun q => F q ∨ Hc.size ≤ q) := by
  have l1 : ∀ r, hk i1 = some r → Live hk r := fun r e => ⟨i1, h1, e⟩
  have l2 : ∀ r, hk i2 = some r → Live hk r := fun r e => ⟨i2, h2, e⟩
  have nul : ∀ {st t : State}, st.heap = Hc → va_P D vwCl [(ak, .inr (0, [.int (kn 0), .int (kn 1 + 0), .int (kn 2 + 1), .int (kn 3 + 1), .int 0, .int (-1), .int (kn 6)]))] t.heap → va_F (va_A [(ak, .inr (0, [.int (kn 0), .int (kn 1), .int (kn 2), .int (kn 3), .int (kn 4), .int (kn 5), .int (kn 6)]))] Hc.size) st t → RSB D cI cL cQ x ah ak b0 b1 b2 b3 b4 F (hk, re, knUp kn 0 (-1), sh, k) t.heap := by
    intro st t e hP hF
    refine h.putK (kn' := knUp kn 0 (-1)) ?_ (fun q hs hne => ?_)
    · have e1 : knUp kn 0 (-1) 0 = kn 0 := by simp only [knUp]; exact if_pos (by decide)
      have e2 : knUp kn 0 (-1) 2 = kn 2 + 1 := by simp only [knUp]; exact if_pos (by decide)
      have e3 : knUp kn 0 (-1) 3 = kn 3 + 1 := by simp only [knUp]; exact if_pos (by decide)
      rw [e1, e2, e3]
      exact hP
    · rw [hF.2 q (by rw [e]; exact hs) (out1 hs (by simpa using hne)), e]
  have nF : ∀ q, va_A [(ak, .inr (0, [.int (kn 0), .int (kn 1), .int (kn 2), .int (kn 3), .int (kn 4), .int (kn 5), .int (kn 6)]))] Hc.size q → F q ∨ Hc.size ≤ q := fun q z => (in1 z).elim (fun z => Or.inl (by have z : q = ak := (by simpa using z); exact z ▸ h.Fak)) Or.inr
  have wF : ∀ {A : Nat → Prop} {st t : State}, (∀ q, A q → F q ∨ Hc.size ≤ q) → va_F A st t → va_F (fun q => F q ∨ Hc.size ≤ q) st t := fun hA hF => ⟨hF.1, fun q hs hn => hF.2 q hs (fun z => hn (hA q z))⟩
  have hDk : va_D nT [(ak, .inr (0, [.int (kn 0), .int (kn 1), .int (kn 2), .int (kn 3), .int (kn 4), .int (kn 5), .int (kn 6)]))] := D_of (by simp) (fun _ _ => trivial)
  cases e1 : hk i1 with
  | none =>
    cases e2 : hk i2 with
    | none =>
      refine Met.cons (c_X0_cutNN l (p0 := p0) (q0 := q0) (n0 := n0) h.PK hDk (fun q z => hN q (nF q z))) (fun a st o t hPc hq => ?_) nF
      obtain ⟨⟨r, u, eo, hr, hP, -⟩, hF⟩ := hq
      exact ⟨⟨r, (0, -1), eo, ⟨hr, rfl, rfl⟩, nul hPc.2.1 hP hF⟩, wF nF hF⟩
    | some b =>
      refine Met.cons (c_X0_cutNR l (p0 := p0) (q0 := q0) (n0 := n0) h.PK hDk (fun q z => hN q (nF q z))) (fun a st o t hPc hq => ?_) nF
      obtain ⟨⟨r, u, eo, hr, hP, -⟩, hF⟩ := hq
      exact ⟨⟨r, (0, -1), eo, ⟨hr, rfl, rfl⟩, nul hPc.2.1 hP hF⟩, wF nF hF⟩
  | some a =>
    have la := l1 a e1
    cases e2 : hk i2 with
    | none =>
      refine Met.cons (c_X0_cutRN l (p0 := p0) (q0 := q0) (n0 := n0) h.PK hDk (fun q z => hN q (nF q z))) (fun a st o t hPc hq => ?_) nF
      obtain ⟨⟨r, u, eo, hr, hP, -⟩, hF⟩ := hq
      exact ⟨⟨r, (0, -1), eo, ⟨hr, rfl, rfl⟩, nul hPc.2.1 hP hF⟩, wF nF hF⟩
    | some b =>
      have lb := l2 b e2
      obtain ⟨pa, fa, xa, za, ya⟩ := h.2.2.2 a la
      obtain ⟨pb, fb, xb, zb, yb⟩ := h.2.2.2 b lb
      by_cases hab : a = b
      · subst hab
        have hsub : va_P D vwCl ([(ak, .inr (0, [.int (kn 0), .int (kn 1), .int (kn 2), .int (kn 3), .int (kn 4), .int (kn 5), .int (kn 6)]))] ++ reW cL re a) Hc := (h.P10 la).sub [2, 8, 9] rfl
        have hsd : va_D nT ([(ak, .inr (0, [.int (kn 0), .int (kn 1), .int (kn 2), .int (kn 3), .int (kn 4), .int (kn 5), .int (kn 6)]))] ++ reW cL re a) := (h.D10 la).sub [2, 8, 9] (by decide) rfl
        have nF2 : ∀ q, va_A ([(ak, .inr (0, [.int (kn 0), .int (kn 1), .int (kn 2), .int (kn 3), .int (kn 4), .int (kn 5), .int (kn 6)]))] ++ reW cL re a) Hc.size q → F q ∨ Hc.size ≤ q := fun q z => (in1 z).elim (fun z => Or.inl (by
          have z : q = ak ∨ q = a ∨ q = (re a).2.1 := by simpa using z
          rcases z with z | z | z
          · exact z ▸ h.Fak
          · exact z ▸ fa.1
          · exact z ▸ fa.2)) Or.inr
        refine Met.cons (c_X0_cutS l (p0 := p0) (q0 := q0) (n0 := n0) hsub hsd (fun q z => hN q (nF2 q z)) za) (fun a' st o t hPc hq => ?_) nF2
        obtain ⟨⟨r, ⟨k1, r1⟩, eo, ⟨hr, hL⟩, hP, -⟩, hF⟩ := hq
        have hs0 : st.heap = Hc := hPc.2.1
        refine ⟨⟨r, (k1, r1), eo, ⟨hr, hL⟩, ?_⟩, wF nF2 hF⟩
        have hPk : va_P D vwCl [(ak, .inr (0, [.int (knUp kn k1 r1 0), .int (knUp kn k1 r1 1), .int (knUp kn k1 r1 2), .int (knUp kn k1 r1 3), .int (knUp kn k1 r1 4), .int (knUp kn k1 r1 5), .int (knUp kn k1 r1 6)]))] t.heap := hP.sub [0] rfl
        have hkp : ∀ q : Nat, q < Hc.size → ¬ (q = ak ∨ q = a ∨ q = (re a).2.1) → t.heap[q]? = Hc[q]? := fun q hs n1 => by rw [hF.2 q (by rw [hs0]; exact hs) (out1 hs (by simpa using n1)), hs0]
        have fx7 : ∀ q, q ∈ [x, ah, b0, b1, b2, b3, b4] → q ∈ [x, ah, ak, b0, b1, b2, b3, b4] := fun q hm => by simp only [List.mem_cons, List.not_mem_nil, or_false] at hm ⊢; rcases hm with hm | hm | hm | hm | hm | hm | hm <;> simp [hm]
        refine h.putR (h.P8k hPk (fun q hs hm => hkp q hs (fun z => ?_))) ?_ (fun r' hr' hne => h.keepR hr' hkp (fun z => ?_) (fun z => ?_))
        · rcases z with z | z | z
          · exact nd_k h.2.2.1 hm z
          · exact xa.1 (z ▸ fx7 q hm)
          · exact xa.2 (z ▸ fx7 q hm)
        · simp only [reW, va_up_self]
          exact hP.sub [1, 2] rfl
        · obtain ⟨-, -, x1, -, y1⟩ := h.2.2.2 r' hr'
          rcases z with z | z | z
          · exact x1.1 (by rw [z]; simp)
          · exact hne z
          · exact (y1 a la).1 z
        · obtain ⟨-, -, x1, -, y1⟩ := h.2.2.2 r' hr'
          rcases z with z | z | z
          · exact x1.2 (by rw [z]; simp)
          · exact (ya r' hr').1 z.symm
          · exact hne ((y1 a la).2 z)
      · have hsub : va_P D vwCl ([(ak, .inr (0, [.int (kn 0), .int (kn 1), .int (kn 2), .int (kn 3), .int (kn 4), .int (kn 5), .int (kn 6)]))] ++ reW cL re a ++ reW cL re b) Hc := (h.P12 la lb).sub [2, 8, 9, 10, 11] rfl
        have hsd : va_D nT ([(ak, .inr (0, [.int (kn 0), .int (kn 1), .int (kn 2), .int (kn 3), .int (kn 4), .int (kn 5), .int (kn 6)]))] ++ reW cL re a ++ reW cL re b) := (h.D12 la lb hab).sub [2, 8, 9, 10, 11] (by decide) rfl
        have nF2 : ∀ q, va_A ([(ak, .inr (0, [.int (kn 0), .int (kn 1), .int (kn 2), .int (kn 3), .int (kn 4), .int (kn 5), .int (kn 6)]))] ++ reW cL re a ++ reW cL re b) Hc.size q → F q ∨ Hc.size ≤ q := fun q z => (in1 z).elim (fun z => Or.inl (by
          have z : q = ak ∨ q = a ∨ q = (re a).2.1 ∨ q = b ∨ q = (re b).2.1 := by simpa using z
          rcases z with z | z | z | z | z
          · exact z ▸ h.Fak
          · exact z ▸ fa.1
          · exact z ▸ fa.2
          · exact z ▸ fb.1
          · exact z ▸ fb.2)) Or.inr
        refine Met.cons (c_X0_cutD l (p0 := p0) (q0 := q0) (n0 := n0) hsub hsd (fun q z => hN q (nF2 q z)) za zb) (fun a' st o t hPc hq => ?_) nF2
        obtain ⟨⟨r, ⟨k1, r1⟩, eo, ⟨hr, hL⟩, hP, -⟩, hF⟩ := hq
        have hs0 : st.heap = Hc := hPc.2.1
        refine ⟨⟨r, (k1, r1), eo, ⟨hr, hL⟩, ?_⟩, wF nF2 hF⟩
        have hPk : va_P D vwCl [(ak, .inr (0, [.int (knUp kn k1 r1 0), .int (knUp kn k1 r1 1), .int (knUp kn k1 r1 2), .int (knUp kn k1 r1 3), .int (knUp kn k1 r1 4), .int (knUp kn k1 r1 5), .int (knUp kn k1 r1 6)]))] t.heap := hP.sub [0] rfl
        have hkp : ∀ q : Nat, q < Hc.size → ¬ (q = ak ∨ q = a ∨ q = (re a).2.1 ∨ q = b ∨ q = (re b).2.1) → t.heap[q]? = Hc[q]? := fun q hs n1 => by rw [hF.2 q (by rw [hs0]; exact hs) (out1 hs (by simpa using n1)), hs0]
        have fx7 : ∀ q, q ∈ [x, ah, b0, b1, b2, b3, b4] → q ∈ [x, ah, ak, b0, b1, b2, b3, b4] := fun q hm => by simp only [List.mem_cons, List.not_mem_nil, or_false] at hm ⊢; rcases hm with hm | hm | hm | hm | hm | hm | hm <;> simp [hm]
        refine h.putR (r := b) (h.P8k hPk (fun q hs hm => hkp q hs (fun z => ?_))) ?_ (fun r' hr' hne => ?_)
        · rcases z with z | z | z | z | z
          · exact nd_k h.2.2.1 hm z
          · exact xa.1 (z ▸ fx7 q hm)
          · exact xa.2 (z ▸ fx7 q hm)
          · exact xb.1 (z ▸ fx7 q hm)
          · exact xb.2 (z ▸ fx7 q hm)
        · simp only [reW, va_up_self]
          exact hP.sub [3, 4] rfl
        · by_cases e3 : r' = a
          · subst e3; exact hP.sub [1, 2] rfl
          · obtain ⟨-, -, x1, -, y1⟩ := h.2.2.2 r' hr'
            refine h.keepR hr' hkp (fun z => ?_) (fun z => ?_)
            · rcases z with z | z | z | z | z
              · exact x1.1 (by rw [z]; simp)
              · exact e3 z
              · exact (y1 a la).1 z
              · exact hne z
              · exact (y1 b lb).1 z
            · rcases z with z | z | z | z | z
              · exact x1.2 (by rw [z]; simp)
              · exact (ya r' hr').1 z.symm
              · exact e3 ((y1 a la).2 z)
              · exact (yb r' hr').1 z.symm
              · exact hne ((y1 b lb).2 z)
end CCut
end
section
section CReq
theorem S_mono {A B : Nat → Prop} {H0 H : Heap} {locs : List Loc} (h : va_S A H0 H locs) (hAB : ∀ q, A q → B q) : va_S B H0 H locs := ⟨h.1, fun q hs hn => h.2.1 q hs (fun z => hn (hAB q z)), fun z hz => hAB _ (h.2.2 z hz)⟩
theorem RSB.xo {D : va_G} {cI cL cQ : ClassId} {x ah ak b0 b1 b2 b3 b4 : Nat} {F : Nat → Prop} {hk : Nat → Option Nat} {re : Nat → RE} {kn : Nat → Int32} {sh : Nat → Nat → Int32} {k : Int32} {H H1 : Heap} (h : RSB D cI cL cQ x ah ak b0 b1 b2 b3 b4 F (hk, re, kn, sh, k) H) (hq : ∀ q : Nat, q < H.size → H1[q]? = H[q]?) : RSB D cI cL cQ x ah ak b0 b1 b2 b3 b4 (fun q => F q ∨ H.size ≤ q) (hk, re, kn, sh, k) H1 := (h.kept (fun q _ hs => hq q hs)).mono (fun _ z => Or.inl z)
/-- a hook's number -/
def okH (h : Int32) : Prop := ∃ j : Nat, j < 6 ∧ h = nI j
theorem okH_n {h : Int32} (h1 : ¬ h < 0) (h2 : h < 6) : okH h := by
  obtain ⟨j, hj, rfl⟩ := nI_of h1
  exact ⟨j, (nI_ltI hj (by decide)).mp h2, rfl⟩
theorem okH_b1 {h : Int32} (h1 : h < 0) : ¬ okH h := fun ⟨j, hj, e⟩ => by rw [e] at h1; exact nI_pos (by omega) h1
theorem okH_b2 {h : Int32} (h1 : ¬ h < 6) : ¬ okH h := fun ⟨j, hj, e⟩ => by rw [e] at h1; exact h1 (nI_lt (b := 6) hj (by decide))
section RX
variable {p : Program} {l : Launch} {e : Env} {R : Room} {s : State} {m : MethodId} {args : Array Value} {below : List Frame} {meth : Method} {c : Code} {H : Heap} {locs : List Loc} {cells slots : Nat} {Q : State → Prop}
variable {mc ms : Nat} {A0 : Nat → Prop} {H0 : Heap} {a : Array Value} {pc : Nat} {ls : Array Slot} {st0 rest : List Value}
/-- a helper that returns and has written nothing, or throws an E0 -/
theorem rx_v {E0 : String} {post : Unit → Prop} {px : Prop} (hr : vx_Run p l e R s m args below meth c H locs cells slots mc ms (F0 m pc ls st0) rest (va_Qv post (fun _ t => t.heap = H) nA a) (vx_X (fun (_ : Unit) => px) (fun E _ _ => E = E0) nA) nA) (hS : va_S A0 H0 H locs)
    (kx : ∀ (ce : Cell) (q9 : Addr) (H1 : Heap) (locs1 : List Loc), px → H.size ≤ H1.size → (∀ q : Nat, q < H.size → H1[q]? = H[q]?) → va_S A0 H0 H1 locs1 → H1[q9]? = some ce → ce.vm = .none → s.vm.findClass E0 = some ce.cls → vx_W p l e R s m args below meth c H1 locs1 (cells + mc) (slots + ms) Q (F0 m pc ls rest) q9)
    (kk : ∀ (locs1 : List Loc), post () → va_S A0 H0 H locs1 → W p l e R s m args below meth c H locs1 (cells + mc) (slots + ms) Q (F0 m (pc + 3) ls rest)) : W p l e R s m args below meth c H locs cells slots Q (F0 m pc ls st0) := by
  refine vx_callv hr hS (fun q _ h => h.elim) (fun q h => h.elim) (fun q _ h => h.elim) (fun E ce q9 u t H1 locs1 ht hvm hp hB hz hk hS1 hc hv hcl => ?_) (fun u t H1 locs1 ht hvm hw hB hz1 hk1 hS1 => ?_)
  · have hB : E = E0 := hB
    subst hB
    exact kx ce q9 H1 locs1 hp hz (fun q hs => hk q hs (fun z => z)) hS1 hc hv hcl
  · have e1 : H1 = H := ht.symm.trans hB
    subst e1
    exact kk locs1 hw hS1
end RX
theorem xw_X2_requireHook_eA : ∀ w ∈ (vx_atS RX2 50 eA exN).filter goodWord, w ∈ wsX2_requireHook := by decide +kernel
theorem lk_X2_requireHook_Cond_classLink_RX2_46_eA : Cond.classLink RX2 46 eA ∈ wsX2_requireHook := by decide +kernel
theorem lk_X2_requireHook_Cond_initialized_eA : Cond.initialized eA ∈ wsX2_requireHook := by decide +kernel
set_option maxHeartbeats 4000000 in
set_option maxRecDepth 100000 in
theorem c_X2_requireHook (l : Launch) {D : va_G} {cI cL cQ : ClassId} {N0 : Nat} {sa : Nat → Nat} {Hc : Heap} (hl0 : l.stackTraces = false) {h0 : Int32} : vx_Met l yX2_requireHook wsX2_requireHook ({ frames := 6, cells := 1, slots := 6, locals := 82 }) (Pq D cI cL cQ N0 sa [.int h0] Hc) (va_Qv (fun (_ : Unit) => okH h0) (fun _ t => t.heap = Hc) nA) (vx_X (fun (_ : Unit) => ¬ okH h0) (fun E _ _ => E = eA) nA) 1 6 nA := by
  refine vx_ofW (cc := cX2_requireHook) (maxL := 1) (ret := none) (by decide) rfl ?_
  intro p e s m args below meth c s₁ B hml hxt hv
  obtain ⟨rfl, hH, hC⟩ := hv
  have hx := B.exec
  have hb := B.bytes
  have hr := B.returns
  have hts := atoms_spec (ws := wsX2_requireHook) B.pre
  have hown : s.vm.findClass RX2 = some m.cls := findClass_of_methodNamed B.named
  have hlocks := B.notSynchronized
  subst hH
  have hK := hC.K
  have hl := lv_entry ([.int h0]) (n := 1) (Nat.le_of_ble_eq_true rfl)
  rw [lg_entry_eq]
  generalize (lg_sl ([.int h0]) ++ List.replicate (1 - (lg_sl ([.int h0])).length) Slot.unset).toArray = ls at hl ⊢
  have hl : lv_has ls 1 [(0, .int h0)] := hl
  have hS : va_S nA s.heap s.heap [] := va_S.rf
  have hN : ∀ q, nA q → N0 ≤ q := nA_N
  refine lv_iload_n hx hb dX2_requireHook_0 rfl (lv_at hl 0 rfl) ?_
  refine lv_if_lt (tgt := 10) hx hb dX2_requireHook_1 (by decide) (fun c_1 => ?_) (fun c_1 => ?_)
  · exact vx_throwS (cls := eA) (text := "no such hook") (names := exN) (sa := sa 162) (A := nA) hx hb hl0 hown (by decide +kernel) exN_fit (hts _ lk_X2_requireHook_Cond_classLink_RX2_46_eA) (hts _ lk_X2_requireHook_Cond_initialized_eA) (hC.text (by decide +kernel)) (vx_hat (fun w hw => hts w (xw_X2_requireHook_eA w hw)) exA_ng hC.all) (good2 exA_ot) (hC.ust nA_N) (hC.sup nA_N) hS (by rw [hml]; exact hl.1) dX2_requireHook_10 dX2_requireHook_13 dX2_requireHook_14 dX2_requireHook_16 dX2_requireHook_19 (fun x9 h9 => (hxt x9 h9).elim) (by decide) (Nat.le_of_ble_eq_true rfl) (Nat.le_of_ble_eq_true rfl) (Nat.le_of_ble_eq_true rfl) hlocks (fun t hvm hz9 hk9 => ⟨(), okH_b1 c_1, rfl, hz9, fun q hs _ => hk9 q hs⟩) (fun z9 h9 => (hS.2.2 z9 h9).elim) (Nat.le_of_ble_eq_true rfl) (Nat.le_of_ble_eq_true rfl)
  · refine lv_iload_n hx hb dX2_requireHook_4 rfl (lv_at hl 0 rfl) ?_
    refine lv_bipush (v := 6) hx hb dX2_requireHook_5 (by decide) ?_
    refine lv_icmp_lt (tgt := 20) hx hb dX2_requireHook_7 (by decide) (fun c_7 => ?_) (fun c_7 => ?_)
    · refine W.widen (k := 1) (n := 6) (by omega) (by omega) ?_
      exact vx_ret (W.vret hx hb hr (fun t ht hW => ⟨⟨(), rfl, okH_n c_1 c_7, ht⟩, hS.F ht⟩) hS.2.2 dX2_requireHook_20)
    · exact vx_throwS (cls := eA) (text := "no such hook") (names := exN) (sa := sa 162) (A := nA) hx hb hl0 hown (by decide +kernel) exN_fit (hts _ lk_X2_requireHook_Cond_classLink_RX2_46_eA) (hts _ lk_X2_requireHook_Cond_initialized_eA) (hC.text (by decide +kernel)) (vx_hat (fun w hw => hts w (xw_X2_requireHook_eA w hw)) exA_ng hC.all) (good2 exA_ot) (hC.ust nA_N) (hC.sup nA_N) hS (by rw [hml]; exact hl.1) dX2_requireHook_10 dX2_requireHook_13 dX2_requireHook_14 dX2_requireHook_16 dX2_requireHook_19 (fun x9 h9 => (hxt x9 h9).elim) (by decide) (Nat.le_of_ble_eq_true rfl) (Nat.le_of_ble_eq_true rfl) (Nat.le_of_ble_eq_true rfl) hlocks (fun t hvm hz9 hk9 => ⟨(), okH_b2 c_7, rfl, hz9, fun q hs _ => hk9 q hs⟩) (fun z9 h9 => (hS.2.2 z9 h9).elim) (Nat.le_of_ble_eq_true rfl) (Nat.le_of_ble_eq_true rfl)
/-- a frame of a row of z -/
def okF (i : Int32) (z : Nat) : Prop := ∃ j : Nat, j < z ∧ i = nI j
theorem okF_n {i : Int32} {z : Nat} (hz : z ≤ 40) (h1 : ¬ i < 0) (h2 : i < nI z) : okF i z := by
  obtain ⟨j, hj, rfl⟩ := nI_of h1
  exact ⟨j, (nI_ltI hj (by omega)).mp h2, rfl⟩
theorem okF_b1 {i : Int32} {z : Nat} (hz : z ≤ 40) (h1 : i < 0) : ¬ okF i z := fun ⟨j, hj, e⟩ => by rw [e] at h1; exact nI_pos (by omega) h1
theorem okF_b2 {i : Int32} {z : Nat} (hz : z ≤ 40) (h1 : ¬ i < nI z) : ¬ okF i z := fun ⟨j, hj, e⟩ => by rw [e] at h1; exact h1 (nI_lt hj (by omega))
theorem xw_X2_requireFrame_eI : ∀ w ∈ (vx_atS RX2 168 eI exN).filter goodWord, w ∈ wsX2_requireFrame := by decide +kernel
theorem iw_X2_requireFrame_X1 : ∀ w ∈ wsX10, w ∈ wsX2_requireFrame := by decide +kernel
theorem lk_X2_requireFrame_Cond_classLink_RX2_164_eI : Cond.classLink RX2 164 eI ∈ wsX2_requireFrame := by decide +kernel
theorem lk_X2_requireFrame_Cond_initialized_eI : Cond.initialized eI ∈ wsX2_requireFrame := by decide +kernel
set_option maxHeartbeats 4000000 in
set_option maxRecDepth 100000 in
theorem c_X2_requireFrame (l : Launch) {D : va_G} {cI cL cQ : ClassId} {N0 : Nat} {sa : Nat → Nat} {Hc : Heap} (hl0 : l.stackTraces = false) {r0 w0 z : Nat} {kd i0 : Int32} {f : Nat → Int64} (hP : va_P D vwCl [(r0, .inr (1, [.int kd, .ref w0])), (w0, .inl (cL, z, .inr (.inl f)))] Hc) (hz : z ≤ 40) : vx_Met l yX2_requireFrame wsX2_requireFrame ({ frames := 6, cells := 1, slots := 6, locals := 82 }) (Pq D cI cL cQ N0 sa [.ref r0, .int i0] Hc) (va_Qv (fun (_ : Unit) => okF i0 z) (fun _ t => t.heap = Hc) nA) (vx_X (fun (_ : Unit) => ¬ okF i0 z) (fun E _ _ => E = eI) nA) 1 6 nA := by
  refine vx_ofW (cc := cX2_requireFrame) (maxL := 2) (ret := none) (by decide) rfl ?_
  intro p e s m args below meth c s₁ B hml hxt hv
  obtain ⟨rfl, hH, hC⟩ := hv
  have hx := B.exec
  have hb := B.bytes
  have hr := B.returns
  have hts := atoms_spec (ws := wsX2_requireFrame) B.pre
  have hown : s.vm.findClass RX2 = some m.cls := findClass_of_methodNamed B.named
  have hlocks := B.notSynchronized
  subst hH
  have hK := hC.K
  have hl := lv_entry ([.ref r0, .int i0]) (n := 2) (Nat.le_of_ble_eq_true rfl)
  rw [lg_entry_eq]
  generalize (lg_sl ([.ref r0, .int i0]) ++ List.replicate (2 - (lg_sl ([.ref r0, .int i0])).length) Slot.unset).toArray = ls at hl ⊢
  have hl : lv_has ls 2 [(0, .ref r0), (1, .int i0)] := hl
  have hP : va_P D vwCl [(r0, .inr (1, [.int kd, .ref w0])), (w0, .inl (cL, z, .inr (.inl f)))] s.heap := hP
  have hS : va_S nA s.heap s.heap [] := va_S.rf
  have hN : ∀ q, nA q → N0 ≤ q := nA_N
  refine lv_iload_n hx hb dX2_requireFrame_0 rfl (lv_at hl 1 rfl) ?_
  refine lv_if_lt (tgt := 13) hx hb dX2_requireFrame_1 (by decide) (fun c_1 => ?_) (fun c_1 => ?_)
  · exact vx_throwS (cls := eI) (text := "no such frame") (names := exN) (sa := sa 166) (A := nA) hx hb hl0 hown (by decide +kernel) exN_fit (hts _ lk_X2_requireFrame_Cond_classLink_RX2_164_eI) (hts _ lk_X2_requireFrame_Cond_initialized_eI) (hC.text (by decide +kernel)) (vx_hat (fun w hw => hts w (xw_X2_requireFrame_eI w hw)) exI_ng hC.all) (good2 exI_ot) (hC.ust nA_N) (hC.sup nA_N) hS (by rw [hml]; exact hl.1) dX2_requireFrame_13 dX2_requireFrame_16 dX2_requireFrame_17 dX2_requireFrame_19 dX2_requireFrame_22 (fun x9 h9 => (hxt x9 h9).elim) (by decide) (Nat.le_of_ble_eq_true rfl) (Nat.le_of_ble_eq_true rfl) (Nat.le_of_ble_eq_true rfl) hlocks (fun t hvm hz9 hk9 => ⟨(), okF_b1 hz c_1, rfl, hz9, fun q hs _ => hk9 q hs⟩) (fun z9 h9 => (hS.2.2 z9 h9).elim) (Nat.le_of_ble_eq_true rfl) (Nat.le_of_ble_eq_true rfl)
  · refine lv_iload_n hx hb dX2_requireFrame_4 rfl (lv_at hl 1 rfl) ?_
    refine lv_aload_n hx hb dX2_requireFrame_5 rfl (lv_at hl 0 rfl) ?_
    refine va_getN (D := D) (ci := 1) (v := .ref w0) (C := RX1) (T := TX1) (N := 2) hx hb hts iw_X2_requireFrame_X1 hown hK hP 0 rfl rfl 1 (by decide) (hC.nest (a := RX2) (i := 70) (b := "SpliceRoom$Reel") (n := "row") (d := "[J") (hh := "SpliceRoom") (by decide +kernel)) (fun _ h9 => h9) rfl dX2_requireFrame_6 ?_
    refine va_alen (D := D) (v := nI z) hx hb hK hP 1 1 rfl rfl rfl dX2_requireFrame_9 ?_
    refine lv_icmp_lt (tgt := 23) hx hb dX2_requireFrame_10 (by decide) (fun c_10 => ?_) (fun c_10 => ?_)
    · refine W.widen (k := 1) (n := 6) (by omega) (by omega) ?_
      exact vx_ret (W.vret hx hb hr (fun t ht hW => ⟨⟨(), rfl, okF_n hz c_1 c_10, ht⟩, hS.F ht⟩) hS.2.2 dX2_requireFrame_23)
    · exact vx_throwS (cls := eI) (text := "no such frame") (names := exN) (sa := sa 166) (A := nA) hx hb hl0 hown (by decide +kernel) exN_fit (hts _ lk_X2_requireFrame_Cond_classLink_RX2_164_eI) (hts _ lk_X2_requireFrame_Cond_initialized_eI) (hC.text (by decide +kernel)) (vx_hat (fun w hw => hts w (xw_X2_requireFrame_eI w hw)) exI_ng hC.all) (good2 exI_ot) (hC.ust nA_N) (hC.sup nA_N) hS (by rw [hml]; exact hl.1) dX2_requireFrame_13 dX2_requireFrame_16 dX2_requireFrame_17 dX2_requireFrame_19 dX2_requireFrame_22 (fun x9 h9 => (hxt x9 h9).elim) (by decide) (Nat.le_of_ble_eq_true rfl) (Nat.le_of_ble_eq_true rfl) (Nat.le_of_ble_eq_true rfl) hlocks (fun t hvm hz9 hk9 => ⟨(), okF_b2 hz c_10, rfl, hz9, fun q hs _ => hk9 q hs⟩) (fun z9 h9 => (hS.2.2 z9 h9).elim) (Nat.le_of_ble_eq_true rfl) (Nat.le_of_ble_eq_true rfl)
theorem xw_X2_requireSharpKnife_eS : ∀ w ∈ (vx_atS RX2 69 eS exN).filter goodWord, w ∈ wsX2_requireSharpKnife := by decide +kernel
theorem iw_X2_requireSharpKnife_X2 : ∀ w ∈ wsX20, w ∈ wsX2_requireSharpKnife := by decide +kernel
theorem lk_X2_requireSharpKnife_Cond_classLink_RX2_65_eS : Cond.classLink RX2 65 eS ∈ wsX2_requireSharpKnife := by decide +kernel
theorem lk_X2_requireSharpKnife_Cond_fieldLink_RX2_18_SpliceRoom_knife_LSpliceRoom_Knife_ : Cond.fieldLink RX2 18 "SpliceRoom" "knife" "LSpliceRoom$Knife;" ∈ wsX2_requireSharpKnife := by decide +kernel
theorem lk_X2_requireSharpKnife_Cond_initialized_eS : Cond.initialized eS ∈ wsX2_requireSharpKnife := by decide +kernel
set_option maxHeartbeats 4000000 in
set_option maxRecDepth 100000 in
theorem c_X2_requireSharpKnife (l : Launch) {D : va_G} {cI cL cQ : ClassId} {N0 : Nat} {sa : Nat → Nat} {Hc : Heap} (hl0 : l.stackTraces = false) {x ah ak b0 b1 b2 b3 b4 : Nat} {k f0 f1 f2 f3 f4 f5 f6 : Int32} (hP : va_P D vwCl [(x, .inr (2, [.ref ah, .ref ak, .ref b0, .ref b1, .ref b2, .ref b3, .ref b4, .int k])), (ak, .inr (0, [.int f0, .int f1, .int f2, .int f3, .int f4, .int f5, .int f6]))] Hc) : vx_Met l yX2_requireSharpKnife wsX2_requireSharpKnife ({ frames := 6, cells := 1, slots := 6, locals := 82 }) (Pq D cI cL cQ N0 sa [.ref x] Hc) (va_Qv (fun (_ : Unit) => ¬ 3 ≤ f3) (fun _ t => t.heap = Hc) nA) (vx_X (fun (_ : Unit) => 3 ≤ f3) (fun E _ _ => E = eS) nA) 1 6 nA := by
  refine vx_ofW (cc := cX2_requireSharpKnife) (maxL := 1) (ret := none) (by decide) rfl ?_
  intro p e s m args below meth c s₁ B hml hxt hv
  obtain ⟨rfl, hH, hC⟩ := hv
  have hx := B.exec
  have hb := B.bytes
  have hr := B.returns
  have hts := atoms_spec (ws := wsX2_requireSharpKnife) B.pre
  have hown : s.vm.findClass RX2 = some m.cls := findClass_of_methodNamed B.named
  have hlocks := B.notSynchronized
  subst hH
  have hK := hC.K
  have hl := lv_entry ([.ref x]) (n := 1) (Nat.le_of_ble_eq_true rfl)
  rw [lg_entry_eq]
  generalize (lg_sl ([.ref x]) ++ List.replicate (1 - (lg_sl ([.ref x])).length) Slot.unset).toArray = ls at hl ⊢
  have hl : lv_has ls 1 [(0, .ref x)] := hl
  have hP : va_P D vwCl [(x, .inr (2, [.ref ah, .ref ak, .ref b0, .ref b1, .ref b2, .ref b3, .ref b4, .int k])), (ak, .inr (0, [.int f0, .int f1, .int f2, .int f3, .int f4, .int f5, .int f6]))] s.heap := hP
  have hS : va_S nA s.heap s.heap [] := va_S.rf
  have hN : ∀ q, nA q → N0 ≤ q := nA_N
  refine lv_aload_n hx hb dX2_requireSharpKnife_0 rfl (lv_at hl 0 rfl) ?_
  refine va_get (D := D) (ci := 2) (v := .ref ak) (C := RX2) (T := TX2) (N := 8) hx hb hts iw_X2_requireSharpKnife_X2 hown hK hP 0 rfl rfl 1 (by decide) (hts _ lk_X2_requireSharpKnife_Cond_fieldLink_RX2_18_SpliceRoom_knife_LSpliceRoom_Knife_) (fun _ h9 => h9) rfl dX2_requireSharpKnife_1 ?_
  refine ro_i (va_runV (As := []) (rest := []) ⟨hx, hb, hml, hown, hts⟩ (c_X0_isBlunt l (h0 := ak) (hP.sub [1] rfl)) (cwV 0 hts gX2_requireSharpKnife_X0_isBlunt rfl rfl rfl (by decide +kernel) ⟨Nat.le_of_ble_eq_true rfl, Nat.le_of_ble_eq_true rfl⟩) (Pq.V hC hS hN (va_recv hK hP (ci := 0) (q0 := 1) rfl rfl)) rfl rfl hl.1 rfl (lv_room (Nat.le_of_ble_eq_true rfl)) dX2_requireSharpKnife_4 ⟨Nat.le_of_ble_eq_true rfl, Nat.le_of_ble_eq_true rfl⟩) hS (fun r_1 locs hw hS => ?_)
  have hw : r_1 = tB (3 ≤ f3) := hw
  subst hw
  refine lv_if_eq (tgt := 20) hx hb dX2_requireSharpKnife_7 (by decide) (fun c_7 => ?_) (fun c_7 => ?_)
  · have c_7 := tB_0.mp c_7
    refine W.widen (k := 1) (n := 6) (by omega) (by omega) ?_
    exact vx_ret (W.vret hx hb hr (fun t ht hW => ⟨⟨(), rfl, c_7, ht⟩, hS.F ht⟩) hS.2.2 dX2_requireSharpKnife_20)
  · have c_7 := tB_n.mp c_7
    exact vx_throwS (cls := eS) (text := "the knife is blunt") (names := exN) (sa := sa 169) (A := nA) hx hb hl0 hown (by decide +kernel) exN_fit (hts _ lk_X2_requireSharpKnife_Cond_classLink_RX2_65_eS) (hts _ lk_X2_requireSharpKnife_Cond_initialized_eS) (hC.text (by decide +kernel)) (vx_hat (fun w hw => hts w (xw_X2_requireSharpKnife_eS w hw)) exS_ng hC.all) (good2 exS_ot) (hC.ust nA_N) (hC.sup nA_N) hS (by rw [hml]; exact hl.1) dX2_requireSharpKnife_10 dX2_requireSharpKnife_13 dX2_requireSharpKnife_14 dX2_requireSharpKnife_16 dX2_requireSharpKnife_19 (fun x9 h9 => (hxt x9 h9).elim) (by decide) (Nat.le_of_ble_eq_true rfl) (Nat.le_of_ble_eq_true rfl) (Nat.le_of_ble_eq_true rfl) hlocks (fun t hvm hz9 hk9 => ⟨(), c_7, rfl, hz9, fun q hs _ => hk9 q hs⟩) (fun z9 h9 => (hS.2.2 z9 h9).elim) (Nat.le_of_ble_eq_true rfl) (Nat.le_of_ble_eq_true rfl)
end CReq
end
section
section CRead
/-- the kind of what a hook holds -/
def kOf (re : Nat → RE) (o : Option Nat) : Int32 := match o with
  | none => 0
  | some r => (re r).1
/-- how many frames it has -/
def zOf (re : Nat → RE) (o : Option Nat) : Int32 := match o with
  | none => -1
  | some r => if (re r).1 = 5 then -1 else nI (re r).2.2.1
theorem iw_X2_kindOn_X1 : ∀ w ∈ wsX10, w ∈ wsX2_kindOn := by decide +kernel
theorem iw_X2_kindOn_X2 : ∀ w ∈ wsX20, w ∈ wsX2_kindOn := by decide +kernel
theorem lk_X2_kindOn_Cond_fieldLink_RX2_11_SpliceRoom_hooks_LSpliceRoom_Reel_ : Cond.fieldLink RX2 11 "SpliceRoom" "hooks" "[LSpliceRoom$Reel;" ∈ wsX2_kindOn := by decide +kernel
set_option maxHeartbeats 4000000 in
set_option maxRecDepth 100000 in
theorem c_X2_kindOn (l : Launch) {D : va_G} {cI cL cQ : ClassId} {N0 : Nat} {sa : Nat → Nat} {Hc : Heap} {x ah ak b0 b1 b2 b3 b4 : Nat} {F : Nat → Prop} {hk : Nat → Option Nat} {re : Nat → RE} {kn : Nat → Int32} {sh : Nat → Nat → Int32} {k : Int32} (h : RSB D cI cL cQ x ah ak b0 b1 b2 b3 b4 F (hk, re, kn, sh, k) Hc) {j : Nat} (hj : j < 6) : Met l yX2_kindOn wsX2_kindOn ({ frames := 0, cells := 0, slots := 0, locals := 0 }) (Pq D cI cL cQ N0 sa [.ref x, .int (nI j)] Hc) (va_Qi (fun (r : Int32) (_ : Unit) => r = kOf re (hk j)) (fun _ t => t.heap = Hc) nA) 0 0 nA := by
  refine Met.ofW (cc := cX2_kindOn) (maxL := 3) (ret := (some .int)) (by decide) rfl ?_
  intro p e s m args below meth c s₁ B hml hv
  obtain ⟨rfl, hH, hC⟩ := hv
  have hx := B.exec
  have hb := B.bytes
  have hr := B.returns
  have hts := atoms_spec (ws := wsX2_kindOn) B.pre
  have hown : s.vm.findClass RX2 = some m.cls := findClass_of_methodNamed B.named
  have hlocks := B.notSynchronized
  subst hH
  have hK := hC.K
  have hl := lv_entry ([.ref x, .int (nI j)]) (n := 3) (Nat.le_of_ble_eq_true rfl)
  rw [lg_entry_eq]
  generalize (lg_sl ([.ref x, .int (nI j)]) ++ List.replicate (3 - (lg_sl ([.ref x, .int (nI j)])).length) Slot.unset).toArray = ls at hl ⊢
  have hl : lv_has ls 3 [(0, .ref x), (1, .int (nI j))] := hl
  have hP : va_P D vwCl [(x, .inr (2, [.ref ah, .ref ak, .ref b0, .ref b1, .ref b2, .ref b3, .ref b4, .int k])), (ah, .inl (cQ, 6, .inr (.inr (.inr (.inr hk))))), (ak, .inr (0, [.int (kn 0), .int (kn 1), .int (kn 2), .int (kn 3), .int (kn 4), .int (kn 5), .int (kn 6)])), (b0, .inl (cI, 24, .inl (sh 0))), (b1, .inl (cI, 24, .inl (sh 1))), (b2, .inl (cI, 24, .inl (sh 2))), (b3, .inl (cI, 24, .inl (sh 3))), (b4, .inl (cI, 24, .inl (sh 4)))] s.heap := h.P8
  have hS : va_S nA s.heap s.heap [] := va_S.rf
  have hN : ∀ q, nA q → N0 ≤ q := nA_N
  refine lv_aload_n hx hb dX2_kindOn_0 rfl (lv_at hl 0 rfl) ?_
  refine va_get (D := D) (ci := 2) (v := .ref ah) (C := RX2) (T := TX2) (N := 8) hx hb hts iw_X2_kindOn_X2 hown hK hP 0 rfl rfl 0 (by decide) (hts _ lk_X2_kindOn_Cond_fieldLink_RX2_11_SpliceRoom_hooks_LSpliceRoom_Reel_) (fun _ h9 => h9) rfl dX2_kindOn_1 ?_
  refine lv_iload_n hx hb dX2_kindOn_4 rfl (lv_at hl 1 rfl) ?_
  refine va_aldq (D := D) hx hb hK hP 1 2 rfl rfl (vp_in_nI hj (by decide)) dX2_kindOn_5 ?_
  refine W.eq (g2 := F0 m 6 ls (va_rf (hk j) :: [])) (by rw [nI_clamp (by omega)]) ?_
  cases eh : hk j with
  | none =>
    refine lv_astore_nN (lv' := [(2, .null), (0, .ref x), (1, .int (nI j))]) hx hb dX2_kindOn_6 rfl hl (by decide) rfl (fun ls hl => ?_)
    refine lv_aload_nN hx hb dX2_kindOn_7 rfl (lv_at hl 0 rfl) ?_
    refine lv_ifnonnullN hx hb dX2_kindOn_8 ?_
    refine lv_iconst (v := 0) hx hb dX2_kindOn_11 (by decide) ?_
    refine lv_goto (tgt := 19) hx hb dX2_kindOn_12 (by decide) ?_
    exact W.iret (v := 0) hx hb hr (fun t ht hW => ⟨⟨_, (), rfl, rfl, ht⟩, hS.F ht⟩) hS.2.2 dX2_kindOn_19
  | some r =>
    have lr : Live hk r := ⟨j, hj, eh⟩
    have hP : va_P D vwCl [(x, .inr (2, [.ref ah, .ref ak, .ref b0, .ref b1, .ref b2, .ref b3, .ref b4, .int k])), (ah, .inl (cQ, 6, .inr (.inr (.inr (.inr hk))))), (ak, .inr (0, [.int (kn 0), .int (kn 1), .int (kn 2), .int (kn 3), .int (kn 4), .int (kn 5), .int (kn 6)])), (b0, .inl (cI, 24, .inl (sh 0))), (b1, .inl (cI, 24, .inl (sh 1))), (b2, .inl (cI, 24, .inl (sh 2))), (b3, .inl (cI, 24, .inl (sh 3))), (b4, .inl (cI, 24, .inl (sh 4))), (r, .inr (1, [.int ((re r).1), .ref ((re r).2.1)])), ((re r).2.1, .inl (cL, (re r).2.2.1, .inr (.inl ((re r).2.2.2))))] s.heap := h.P10 lr
    have hzr : (re r).2.2.1 ≤ 40 := (h.2.2.2 r lr).2.2.2.1
    refine lv_astore_n (lv' := [(2, .ref r), (0, .ref x), (1, .int (nI j))]) hx hb dX2_kindOn_6 rfl hl (by decide) rfl (fun ls hl => ?_)
    refine lv_aload_n hx hb dX2_kindOn_7 rfl (lv_at hl 0 rfl) ?_
    refine lv_ifnonnull (tgt := 15) hx hb dX2_kindOn_8 (by decide) ?_
    refine lv_aload_n hx hb dX2_kindOn_15 rfl (lv_at hl 0 rfl) ?_
    refine va_getN (D := D) (ci := 1) (v := .int ((re r).1)) (C := RX1) (T := TX1) (N := 2) hx hb hts iw_X2_kindOn_X1 hown hK hP 8 rfl rfl 0 (by decide) (hC.nest (a := RX2) (i := 62) (b := "SpliceRoom$Reel") (n := "kind") (d := "I") (hh := "SpliceRoom") (by decide +kernel)) (fun _ h9 => h9) rfl dX2_kindOn_16 ?_
    exact W.iret (v := (re r).1) hx hb hr (fun t ht hW => ⟨⟨_, (), rfl, rfl, ht⟩, hS.F ht⟩) hS.2.2 dX2_kindOn_19
theorem iw_X2_framesOn_X1 : ∀ w ∈ wsX10, w ∈ wsX2_framesOn := by decide +kernel
theorem iw_X2_framesOn_X2 : ∀ w ∈ wsX20, w ∈ wsX2_framesOn := by decide +kernel
theorem lk_X2_framesOn_Cond_fieldLink_RX2_11_SpliceRoom_hooks_LSpliceRoom_Reel_ : Cond.fieldLink RX2 11 "SpliceRoom" "hooks" "[LSpliceRoom$Reel;" ∈ wsX2_framesOn := by decide +kernel
set_option maxHeartbeats 4000000 in
set_option maxRecDepth 100000 in
theorem c_X2_framesOn (l : Launch) {D : va_G} {cI cL cQ : ClassId} {N0 : Nat} {sa : Nat → Nat} {Hc : Heap} {x ah ak b0 b1 b2 b3 b4 : Nat} {F : Nat → Prop} {hk : Nat → Option Nat} {re : Nat → RE} {kn : Nat → Int32} {sh : Nat → Nat → Int32} {k : Int32} (h : RSB D cI cL cQ x ah ak b0 b1 b2 b3 b4 F (hk, re, kn, sh, k) Hc) {j : Nat} (hj : j < 6) : Met l yX2_framesOn wsX2_framesOn ({ frames := 0, cells := 0, slots := 0, locals := 0 }) (Pq D cI cL cQ N0 sa [.ref x, .int (nI j)] Hc) (va_Qi (fun (r : Int32) (_ : Unit) => r = zOf re (hk j)) (fun _ t => t.heap = Hc) nA) 0 0 nA := by
  refine Met.ofW (cc := cX2_framesOn) (maxL := 3) (ret := (some .int)) (by decide) rfl ?_
  intro p e s m args below meth c s₁ B hml hv
  obtain ⟨rfl, hH, hC⟩ := hv
  have hx := B.exec
  have hb := B.bytes
  have hr := B.returns
  have hts := atoms_spec (ws := wsX2_framesOn) B.pre
  have hown : s.vm.findClass RX2 = some m.cls := findClass_of_methodNamed B.named
  have hlocks := B.notSynchronized
  subst hH
  have hK := hC.K
  have hl := lv_entry ([.ref x, .int (nI j)]) (n := 3) (Nat.le_of_ble_eq_true rfl)
  rw [lg_entry_eq]
  generalize (lg_sl ([.ref x, .int (nI j)]) ++ List.replicate (3 - (lg_sl ([.ref x, .int (nI j)])).length) Slot.unset).toArray = ls at hl ⊢
  have hl : lv_has ls 3 [(0, .ref x), (1, .int (nI j))] := hl
  have hP : va_P D vwCl [(x, .inr (2, [.ref ah, .ref ak, .ref b0, .ref b1, .ref b2, .ref b3, .ref b4, .int k])), (ah, .inl (cQ, 6, .inr (.inr (.inr (.inr hk))))), (ak, .inr (0, [.int (kn 0), .int (kn 1), .int (kn 2), .int (kn 3), .int (kn 4), .int (kn 5), .int (kn 6)])), (b0, .inl (cI, 24, .inl (sh 0))), (b1, .inl (cI, 24, .inl (sh 1))), (b2, .inl (cI, 24, .inl (sh 2))), (b3, .inl (cI, 24, .inl (sh 3))), (b4, .inl (cI, 24, .inl (sh 4)))] s.heap := h.P8
  have hS : va_S nA s.heap s.heap [] := va_S.rf
  have hN : ∀ q, nA q → N0 ≤ q := nA_N
  refine lv_aload_n hx hb dX2_framesOn_0 rfl (lv_at hl 0 rfl) ?_
  refine va_get (D := D) (ci := 2) (v := .ref ah) (C := RX2) (T := TX2) (N := 8) hx hb hts iw_X2_framesOn_X2 hown hK hP 0 rfl rfl 0 (by decide) (hts _ lk_X2_framesOn_Cond_fieldLink_RX2_11_SpliceRoom_hooks_LSpliceRoom_Reel_) (fun _ h9 => h9) rfl dX2_framesOn_1 ?_
  refine lv_iload_n hx hb dX2_framesOn_4 rfl (lv_at hl 1 rfl) ?_
  refine va_aldq (D := D) hx hb hK hP 1 2 rfl rfl (vp_in_nI hj (by decide)) dX2_framesOn_5 ?_
  refine W.eq (g2 := F0 m 6 ls (va_rf (hk j) :: [])) (by rw [nI_clamp (by omega)]) ?_
  cases eh : hk j with
  | none =>
    refine lv_astore_nN (lv' := [(2, .null), (0, .ref x), (1, .int (nI j))]) hx hb dX2_framesOn_6 rfl hl (by decide) rfl (fun ls hl => ?_)
    refine lv_aload_nN hx hb dX2_framesOn_7 rfl (lv_at hl 0 rfl) ?_
    refine lv_ifnullN (tgt := 19) hx hb dX2_framesOn_8 (by decide) ?_
    refine lv_iconst (v := (-1)) hx hb dX2_framesOn_19 (by decide) ?_
    refine lv_goto (tgt := 28) hx hb dX2_framesOn_20 (by decide) ?_
    exact W.iret (v := (-1)) hx hb hr (fun t ht hW => ⟨⟨_, (), rfl, rfl, ht⟩, hS.F ht⟩) hS.2.2 dX2_framesOn_28
  | some r =>
    have lr : Live hk r := ⟨j, hj, eh⟩
    have hP : va_P D vwCl [(x, .inr (2, [.ref ah, .ref ak, .ref b0, .ref b1, .ref b2, .ref b3, .ref b4, .int k])), (ah, .inl (cQ, 6, .inr (.inr (.inr (.inr hk))))), (ak, .inr (0, [.int (kn 0), .int (kn 1), .int (kn 2), .int (kn 3), .int (kn 4), .int (kn 5), .int (kn 6)])), (b0, .inl (cI, 24, .inl (sh 0))), (b1, .inl (cI, 24, .inl (sh 1))), (b2, .inl (cI, 24, .inl (sh 2))), (b3, .inl (cI, 24, .inl (sh 3))), (b4, .inl (cI, 24, .inl (sh 4))), (r, .inr (1, [.int ((re r).1), .ref ((re r).2.1)])), ((re r).2.1, .inl (cL, (re r).2.2.1, .inr (.inl ((re r).2.2.2))))] s.heap := h.P10 lr
    have hzr : (re r).2.2.1 ≤ 40 := (h.2.2.2 r lr).2.2.2.1
    refine lv_astore_n (lv' := [(2, .ref r), (0, .ref x), (1, .int (nI j))]) hx hb dX2_framesOn_6 rfl hl (by decide) rfl (fun ls hl => ?_)
    refine lv_aload_n hx hb dX2_framesOn_7 rfl (lv_at hl 0 rfl) ?_
    refine lv_ifnull hx hb dX2_framesOn_8 ?_
    refine lv_aload_n hx hb dX2_framesOn_11 rfl (lv_at hl 0 rfl) ?_
    refine va_getN (D := D) (ci := 1) (v := .int ((re r).1)) (C := RX1) (T := TX1) (N := 2) hx hb hts iw_X2_framesOn_X1 hown hK hP 8 rfl rfl 0 (by decide) (hC.nest (a := RX2) (i := 62) (b := "SpliceRoom$Reel") (n := "kind") (d := "I") (hh := "SpliceRoom") (by decide +kernel)) (fun _ h9 => h9) rfl dX2_framesOn_12 ?_
    refine lv_iconst (v := 5) hx hb dX2_framesOn_15 (by decide) ?_
    refine lv_icmp_ne (tgt := 23) hx hb dX2_framesOn_16 (by decide) (fun c_16 => ?_) (fun c_16 => ?_)
    · refine lv_aload_n hx hb dX2_framesOn_23 rfl (lv_at hl 0 rfl) ?_
      refine va_getN (D := D) (ci := 1) (v := .ref ((re r).2.1)) (C := RX1) (T := TX1) (N := 2) hx hb hts iw_X2_framesOn_X1 hown hK hP 8 rfl rfl 1 (by decide) (hC.nest (a := RX2) (i := 70) (b := "SpliceRoom$Reel") (n := "row") (d := "[J") (hh := "SpliceRoom") (by decide +kernel)) (fun _ h9 => h9) rfl dX2_framesOn_24 ?_
      refine va_alen (D := D) (v := nI ((re r).2.2.1)) hx hb hK hP 9 1 rfl rfl rfl dX2_framesOn_27 ?_
      exact W.iret (v := nI ((re r).2.2.1)) hx hb hr (fun t ht hW => ⟨⟨_, (), rfl, (show _ = (if _ then _ else _) from (if_neg c_16).symm), ht⟩, hS.F ht⟩) hS.2.2 dX2_framesOn_28
    · refine lv_iconst (v := (-1)) hx hb dX2_framesOn_19 (by decide) ?_
      refine lv_goto (tgt := 28) hx hb dX2_framesOn_20 (by decide) ?_
      exact W.iret (v := (-1)) hx hb hr (fun t ht hW => ⟨⟨_, (), rfl, (show _ = (if _ then _ else _) from (if_pos c_16).symm), ht⟩, hS.F ht⟩) hS.2.2 dX2_framesOn_28
/-- how many of the first n hooks hold r -/
def cntH (hk : Nat → Option Nat) (r : Nat) : Nat → Nat
  | 0 => 0
  | n + 1 => cntH hk r n + if hk n = some r then 1 else 0
theorem cntH_le (hk : Nat → Option Nat) (r : Nat) : ∀ n, cntH hk r n ≤ n
  | 0 => Nat.le_refl 0
  | n + 1 => by
    have := cntH_le hk r n
    show cntH hk r n + _ ≤ n + 1
    split <;> omega
theorem iw_X2_holdersOf_X2 : ∀ w ∈ wsX20, w ∈ wsX2_holdersOf := by decide +kernel
theorem lk_X2_holdersOf_Cond_fieldLink_RX2_11_SpliceRoom_hooks_LSpliceRoom_Reel_ : Cond.fieldLink RX2 11 "SpliceRoom" "hooks" "[LSpliceRoom$Reel;" ∈ wsX2_holdersOf := by decide +kernel
set_option maxHeartbeats 4000000 in
set_option maxRecDepth 100000 in
theorem c_X2_holdersOfS (l : Launch) {D : va_G} {cI cL cQ : ClassId} {N0 : Nat} {sa : Nat → Nat} {Hc : Heap} {x ah ak b0 b1 b2 b3 b4 : Nat} {F : Nat → Prop} {hk : Nat → Option Nat} {re : Nat → RE} {kn : Nat → Int32} {sh : Nat → Nat → Int32} {k : Int32} (h : RSB D cI cL cQ x ah ak b0 b1 b2 b3 b4 F (hk, re, kn, sh, k) Hc) {r0 : Nat} : Met l yX2_holdersOf wsX2_holdersOf ({ frames := 0, cells := 0, slots := 0, locals := 0 }) (Pq D cI cL cQ N0 sa [.ref x, .ref r0] Hc) (va_Qi (fun (r : Int32) (_ : Unit) => r = nI (cntH hk r0 6)) (fun _ t => t.heap = Hc) nA) 0 0 nA := by
  refine Met.ofW (cc := cX2_holdersOf) (maxL := 4) (ret := (some .int)) (by decide) rfl ?_
  intro p e s m args below meth c s₁ B hml hv
  obtain ⟨rfl, hH, hC⟩ := hv
  have hx := B.exec
  have hb := B.bytes
  have hr := B.returns
  have hts := atoms_spec (ws := wsX2_holdersOf) B.pre
  have hown : s.vm.findClass RX2 = some m.cls := findClass_of_methodNamed B.named
  have hlocks := B.notSynchronized
  subst hH
  have hK := hC.K
  have hl := lv_entry ([.ref x, .ref r0]) (n := 4) (Nat.le_of_ble_eq_true rfl)
  rw [lg_entry_eq]
  generalize (lg_sl ([.ref x, .ref r0]) ++ List.replicate (4 - (lg_sl ([.ref x, .ref r0])).length) Slot.unset).toArray = ls at hl ⊢
  have hl : lv_has ls 4 [(0, .ref x), (1, .ref r0)] := hl
  have hP : va_P D vwCl [(x, .inr (2, [.ref ah, .ref ak, .ref b0, .ref b1, .ref b2, .ref b3, .ref b4, .int k])), (ah, .inl (cQ, 6, .inr (.inr (.inr (.inr hk))))), (ak, .inr (0, [.int (kn 0), .int (kn 1), .int (kn 2), .int (kn 3), .int (kn 4), .int (kn 5), .int (kn 6)])), (b0, .inl (cI, 24, .inl (sh 0))), (b1, .inl (cI, 24, .inl (sh 1))), (b2, .inl (cI, 24, .inl (sh 2))), (b3, .inl (cI, 24, .inl (sh 3))), (b4, .inl (cI, 24, .inl (sh 4)))] s.heap := h.P8
  have hS : va_S nA s.heap s.heap [] := va_S.rf
  have hN : ∀ q, nA q → N0 ≤ q := nA_N
  refine lv_iconst (v := 0) hx hb dX2_holdersOf_0 (by decide) ?_
  refine lv_istore_n (lv' := [(2, .int 0), (0, .ref x), (1, .ref r0)]) hx hb dX2_holdersOf_1 rfl hl (by decide) rfl (fun ls hl => ?_)
  refine lv_iconst (v := 0) hx hb dX2_holdersOf_2 (by decide) ?_
  refine lv_istore_n (lv' := [(3, .int 0), (2, .int 0), (0, .ref x), (1, .ref r0)]) hx hb dX2_holdersOf_3 rfl hl (by decide) rfl (fun ls hl => ?_)
  have loop : ∀ (n i : Nat) (locs : List Loc) (ls : Array Slot), i ≤ 6 → 7 ≤ i + n → lv_has ls 4 [(3, .int (nI i)), (2, .int (nI (cntH hk r0 i))), (0, .ref x), (1, .ref r0)] → va_S nA s.heap s.heap locs → W p l e (headSpec wsX2_holdersOf ({ frames := 0, cells := 0, slots := 0, locals := 0 })).room s m ([.ref x, .ref r0] : List Value).toArray below meth c s.heap locs 0 0 (MQ below (va_Qi (fun (r : Int32) (_ : Unit) => r = nI (cntH hk r0 6)) (fun _ t => t.heap = s.heap) nA) ([.ref x, .ref r0] : List Value).toArray s 0 0 nA) (F0 m 4 ls []) := by
    intro n
    induction n with
    | zero => intro i locs ls h1 h2; exact absurd h2 (by omega)
    | succ n ih =>
      intro i locs ls hi hn hl hS
      refine lv_iload_n hx hb dX2_holdersOf_4 rfl (lv_at hl 0 rfl) ?_
      refine lv_bipush (v := 6) hx hb dX2_holdersOf_5 (by decide) ?_
      refine lv_icmp_ge (tgt := 33) hx hb dX2_holdersOf_7 (by decide) (fun c_7 => ?_) (fun c_7 => ?_)
      · have e6 : i = 6 := by have := (nI_leI (a := 6) (b := i) (by decide) (by omega)).mp c_7; omega
        subst e6
        refine lv_iload_n hx hb dX2_holdersOf_33 rfl (lv_at hl 1 rfl) ?_
        exact W.iret (v := nI (cntH hk r0 6)) hx hb hr (fun t ht hW => ⟨⟨_, (), rfl, rfl, ht⟩, hS.F ht⟩) hS.2.2 dX2_holdersOf_34
      · have hlt : i < 6 := Nat.lt_of_not_le (fun h => c_7 (nI_le h (by omega)))
        refine lv_aload_n hx hb dX2_holdersOf_10 rfl (lv_at hl 3 rfl) ?_
        refine lv_ifnull hx hb dX2_holdersOf_11 ?_
        refine lv_aload_n hx hb dX2_holdersOf_14 rfl (lv_at hl 2 rfl) ?_
        refine va_get (D := D) (ci := 2) (v := .ref ah) (C := RX2) (T := TX2) (N := 8) hx hb hts iw_X2_holdersOf_X2 hown hK hP 0 rfl rfl 0 (by decide) (hts _ lk_X2_holdersOf_Cond_fieldLink_RX2_11_SpliceRoom_hooks_LSpliceRoom_Reel_) (fun _ h9 => h9) rfl dX2_holdersOf_15 ?_
        refine lv_iload_n hx hb dX2_holdersOf_18 rfl (lv_at hl 0 rfl) ?_
        refine va_aldq (D := D) hx hb hK hP 1 2 rfl rfl (vp_in_nI hlt (by decide)) dX2_holdersOf_19 ?_
        refine W.eq (g2 := F0 m 20 ls (va_rf (hk i) :: [])) (by rw [nI_clamp (by omega)]) ?_
        refine lv_aload_n hx hb dX2_holdersOf_20 rfl (lv_at hl 3 rfl) ?_
        refine lv_acmp_ne (rx := hk i) (ry := some r0) (tgt := 27) hx hb dX2_holdersOf_21 (by decide) (fun c_21 => ?_) (fun c_21 => ?_)
        · have ec : cntH hk r0 (i + 1) = cntH hk r0 i := by show cntH hk r0 i + _ = _; rw [if_neg c_21]; rfl
          refine lv_iinc (v := nI (i + 1)) (lv' := [(3, .int (nI (i + 1))), (2, .int (nI (cntH hk r0 i))), (0, .ref x), (1, .ref r0)]) hx hb dX2_holdersOf_27 hl (k := 0) rfl (nI_1 i) (by decide) rfl (fun ls hl => ?_)
          refine lv_goto (tgt := 4) hx hb dX2_holdersOf_30 (by decide) ?_
          rw [← ec] at hl
          exact ih (i + 1) _ _ (by omega) (by omega) (lv_sub hl [0, 1, 2, 3] rfl) hS
        · have ec : cntH hk r0 (i + 1) = cntH hk r0 i + 1 := by show cntH hk r0 i + _ = _; rw [if_pos c_21]
          refine lv_iinc (v := nI (cntH hk r0 (i + 1))) (lv' := [(2, .int (nI (cntH hk r0 (i + 1)))), (3, .int (nI i)), (0, .ref x), (1, .ref r0)]) hx hb dX2_holdersOf_24 hl (k := 1) rfl (by rw [ec]; exact nI_1 _) (by decide) rfl (fun ls hl => ?_)
          refine lv_iinc (v := nI (i + 1)) (lv' := [(3, .int (nI (i + 1))), (2, .int (nI (cntH hk r0 (i + 1)))), (0, .ref x), (1, .ref r0)]) hx hb dX2_holdersOf_27 hl (k := 1) rfl (nI_1 i) (by decide) rfl (fun ls hl => ?_)
          refine lv_goto (tgt := 4) hx hb dX2_holdersOf_30 (by decide) ?_
          exact ih (i + 1) _ _ (by omega) (by omega) (lv_sub hl [0, 1, 2, 3] rfl) hS
  exact loop 7 0 _ _ (by omega) (by omega) (lv_sub hl [0, 1, 2, 3] rfl) hS
set_option maxHeartbeats 4000000 in
set_option maxRecDepth 100000 in
theorem c_X2_holdersOfN (l : Launch) {D : va_G} {cI cL cQ : ClassId} {N0 : Nat} {sa : Nat → Nat} {Hc : Heap} {x ah ak b0 b1 b2 b3 b4 : Nat} {F : Nat → Prop} {hk : Nat → Option Nat} {re : Nat → RE} {kn : Nat → Int32} {sh : Nat → Nat → Int32} {k : Int32} (h : RSB D cI cL cQ x ah ak b0 b1 b2 b3 b4 F (hk, re, kn, sh, k) Hc)  : Met l yX2_holdersOf wsX2_holdersOf ({ frames := 0, cells := 0, slots := 0, locals := 0 }) (Pq D cI cL cQ N0 sa [.ref x, .null] Hc) (va_Qi (fun (r : Int32) (_ : Unit) => r = 0) (fun _ t => t.heap = Hc) nA) 0 0 nA := by
  refine Met.ofW (cc := cX2_holdersOf) (maxL := 4) (ret := (some .int)) (by decide) rfl ?_
  intro p e s m args below meth c s₁ B hml hv
  obtain ⟨rfl, hH, hC⟩ := hv
  have hx := B.exec
  have hb := B.bytes
  have hr := B.returns
  have hts := atoms_spec (ws := wsX2_holdersOf) B.pre
  have hown : s.vm.findClass RX2 = some m.cls := findClass_of_methodNamed B.named
  have hlocks := B.notSynchronized
  subst hH
  have hK := hC.K
  have hl := lv_entry ([.ref x, .null]) (n := 4) (Nat.le_of_ble_eq_true rfl)
  rw [lg_entry_eq]
  generalize (lg_sl ([.ref x, .null]) ++ List.replicate (4 - (lg_sl ([.ref x, .null])).length) Slot.unset).toArray = ls at hl ⊢
  have hl : lv_has ls 4 [(0, .ref x), (1, .null)] := hl
  have hP : va_P D vwCl [(x, .inr (2, [.ref ah, .ref ak, .ref b0, .ref b1, .ref b2, .ref b3, .ref b4, .int k])), (ah, .inl (cQ, 6, .inr (.inr (.inr (.inr hk))))), (ak, .inr (0, [.int (kn 0), .int (kn 1), .int (kn 2), .int (kn 3), .int (kn 4), .int (kn 5), .int (kn 6)])), (b0, .inl (cI, 24, .inl (sh 0))), (b1, .inl (cI, 24, .inl (sh 1))), (b2, .inl (cI, 24, .inl (sh 2))), (b3, .inl (cI, 24, .inl (sh 3))), (b4, .inl (cI, 24, .inl (sh 4)))] s.heap := h.P8
  have hS : va_S nA s.heap s.heap [] := va_S.rf
  have hN : ∀ q, nA q → N0 ≤ q := nA_N
  refine lv_iconst (v := 0) hx hb dX2_holdersOf_0 (by decide) ?_
  refine lv_istore_n (lv' := [(2, .int 0), (0, .ref x), (1, .null)]) hx hb dX2_holdersOf_1 rfl hl (by decide) rfl (fun ls hl => ?_)
  refine lv_iconst (v := 0) hx hb dX2_holdersOf_2 (by decide) ?_
  refine lv_istore_n (lv' := [(3, .int 0), (2, .int 0), (0, .ref x), (1, .null)]) hx hb dX2_holdersOf_3 rfl hl (by decide) rfl (fun ls hl => ?_)
  have loop : ∀ (n i : Nat) (locs : List Loc) (ls : Array Slot), i ≤ 6 → 7 ≤ i + n → lv_has ls 4 [(3, .int (nI i)), (2, .int (0)), (0, .ref x), (1, .null)] → va_S nA s.heap s.heap locs → W p l e (headSpec wsX2_holdersOf ({ frames := 0, cells := 0, slots := 0, locals := 0 })).room s m ([.ref x, .null] : List Value).toArray below meth c s.heap locs 0 0 (MQ below (va_Qi (fun (r : Int32) (_ : Unit) => r = 0) (fun _ t => t.heap = s.heap) nA) ([.ref x, .null] : List Value).toArray s 0 0 nA) (F0 m 4 ls []) := by
    intro n
    induction n with
    | zero => intro i locs ls h1 h2; exact absurd h2 (by omega)
    | succ n ih =>
      intro i locs ls hi hn hl hS
      refine lv_iload_n hx hb dX2_holdersOf_4 rfl (lv_at hl 0 rfl) ?_
      refine lv_bipush (v := 6) hx hb dX2_holdersOf_5 (by decide) ?_
      refine lv_icmp_ge (tgt := 33) hx hb dX2_holdersOf_7 (by decide) (fun c_7 => ?_) (fun c_7 => ?_)
      · have e6 : i = 6 := by have := (nI_leI (a := 6) (b := i) (by decide) (by omega)).mp c_7; omega
        subst e6
        refine lv_iload_n hx hb dX2_holdersOf_33 rfl (lv_at hl 1 rfl) ?_
        exact W.iret (v := 0) hx hb hr (fun t ht hW => ⟨⟨_, (), rfl, rfl, ht⟩, hS.F ht⟩) hS.2.2 dX2_holdersOf_34
      · have hlt : i < 6 := Nat.lt_of_not_le (fun h => c_7 (nI_le h (by omega)))
        refine lv_aload_nN hx hb dX2_holdersOf_10 rfl (lv_at hl 3 rfl) ?_
        refine lv_ifnullN (tgt := 27) hx hb dX2_holdersOf_11 (by decide) ?_
        refine lv_iinc (v := nI (i + 1)) (lv' := [(3, .int (nI (i + 1))), (2, .int 0), (0, .ref x), (1, .null)]) hx hb dX2_holdersOf_27 hl (k := 0) rfl (nI_1 i) (by decide) rfl (fun ls hl => ?_)
        refine lv_goto (tgt := 4) hx hb dX2_holdersOf_30 (by decide) ?_
        exact ih (i + 1) _ _ (by omega) (by omega) (lv_sub hl [0, 1, 2, 3] rfl) hS
  exact loop 7 0 _ _ (by omega) (by omega) (lv_sub hl [0, 1, 2, 3] rfl) hS
/-- how many hooks hold what the hook holds -/
def hOf (hk : Nat → Option Nat) (o : Option Nat) : Int32 := match o with
  | none => 0
  | some r => nI (cntH hk r 6)
theorem c_X2_holdersOf (l : Launch) {D : va_G} {cI cL cQ : ClassId} {N0 : Nat} {sa : Nat → Nat} {Hc : Heap} {x ah ak b0 b1 b2 b3 b4 : Nat} {F : Nat → Prop} {hk : Nat → Option Nat} {re : Nat → RE} {kn : Nat → Int32} {sh : Nat → Nat → Int32} {k : Int32} (h : RSB D cI cL cQ x ah ak b0 b1 b2 b3 b4 F (hk, re, kn, sh, k) Hc) {o : Option Nat} : Met l yX2_holdersOf wsX2_holdersOf ({ frames := 0, cells := 0, slots := 0, locals := 0 }) (Pq D cI cL cQ N0 sa [.ref x, va_rf o] Hc) (va_Qi (fun (r : Int32) (_ : Unit) => r = hOf hk o) (fun _ t => t.heap = Hc) nA) 0 0 nA := by
  cases o with
  | none => exact c_X2_holdersOfN l h
  | some r => exact c_X2_holdersOfS l h
theorem xw_X2_frame_eS : ∀ w ∈ (vx_atS RX2 69 eS exN).filter goodWord, w ∈ wsX2_frame := by decide +kernel
theorem iw_X2_frame_X1 : ∀ w ∈ wsX10, w ∈ wsX2_frame := by decide +kernel
theorem iw_X2_frame_X2 : ∀ w ∈ wsX20, w ∈ wsX2_frame := by decide +kernel
theorem lk_X2_frame_Cond_classLink_RX2_65_eS : Cond.classLink RX2 65 eS ∈ wsX2_frame := by decide +kernel
theorem lk_X2_frame_Cond_fieldLink_RX2_11_SpliceRoom_hooks_LSpliceRoom_Reel_ : Cond.fieldLink RX2 11 "SpliceRoom" "hooks" "[LSpliceRoom$Reel;" ∈ wsX2_frame := by decide +kernel
theorem lk_X2_frame_Cond_initialized_eS : Cond.initialized eS ∈ wsX2_frame := by decide +kernel
set_option maxHeartbeats 4000000 in
set_option maxRecDepth 100000 in
theorem c_X2_frame (l : Launch) {D : va_G} {cI cL cQ : ClassId} {N0 : Nat} {sa : Nat → Nat} {Hc : Heap} (hl0 : l.stackTraces = false) {x ah ak b0 b1 b2 b3 b4 : Nat} {F : Nat → Prop} {hk : Nat → Option Nat} {re : Nat → RE} {kn : Nat → Int32} {sh : Nat → Nat → Int32} {k : Int32} (h : RSB D cI cL cQ x ah ak b0 b1 b2 b3 b4 F (hk, re, kn, sh, k) Hc) (hNF : ∀ q, F q ∨ Hc.size ≤ q → N0 ≤ q) {h0 i0 : Int32} : vx_Met l yX2_frame wsX2_frame ({ frames := 7, cells := 3, slots := 18, locals := 110 }) (Pq D cI cL cQ N0 sa [.ref x, .int h0, .int i0] Hc) (va_Ql (fun (rr : Int64) (u : CS) => ∃ j1 r1 i1 : Nat, j1 < 6 ∧ h0 = nI j1 ∧ hk j1 = some r1 ∧ ¬ (re r1).1 = 5 ∧ i1 < (re r1).2.2.1 ∧ i0 = nI i1 ∧ rr = (re r1).2.2.2 i1 ∧ u = (hk, re, kn, sh, k)) (fun u t => RSB D cI cL cQ x ah ak b0 b1 b2 b3 b4 (fun q => F q ∨ Hc.size ≤ q) u t.heap) (fun q => F q ∨ Hc.size ≤ q)) (vx_X (fun (_ : Unit) => True) (fun E _ t => ((E = eA ∧ ¬ okH h0) ∨ (∃ j1 : Nat, j1 < 6 ∧ h0 = nI j1 ∧ ((E = eS ∧ (hk j1 = none ∨ ∃ r1 : Nat, hk j1 = some r1 ∧ (re r1).1 = 5)) ∨ (E = eI ∧ ∃ r1 : Nat, hk j1 = some r1 ∧ ¬ (re r1).1 = 5 ∧ ¬ okF i0 (re r1).2.2.1)))) ∧ RSB D cI cL cQ x ah ak b0 b1 b2 b3 b4 (fun q => F q ∨ Hc.size ≤ q) (hk, re, kn, sh, k) t.heap) (fun q => F q ∨ Hc.size ≤ q)) 3 18 (fun q => F q ∨ Hc.size ≤ q) := by
  refine vx_ofW (cc := cX2_frame) (maxL := 4) (ret := (some .long)) (by decide) rfl ?_
  intro p e s m args below meth c s₁ B hml hxt hv
  obtain ⟨rfl, hH, hC⟩ := hv
  have hx := B.exec
  have hb := B.bytes
  have hr := B.returns
  have hts := atoms_spec (ws := wsX2_frame) B.pre
  have hown : s.vm.findClass RX2 = some m.cls := findClass_of_methodNamed B.named
  have hlocks := B.notSynchronized
  subst hH
  have hK := hC.K
  have hl := lv_entry ([.ref x, .int h0, .int i0]) (n := 4) (Nat.le_of_ble_eq_true rfl)
  rw [lg_entry_eq]
  generalize (lg_sl ([.ref x, .int h0, .int i0]) ++ List.replicate (4 - (lg_sl ([.ref x, .int h0, .int i0])).length) Slot.unset).toArray = ls at hl ⊢
  have hl : lv_has ls 4 [(0, .ref x), (1, .int h0), (2, .int i0)] := hl
  have hP : va_P D vwCl [(x, .inr (2, [.ref ah, .ref ak, .ref b0, .ref b1, .ref b2, .ref b3, .ref b4, .int k])), (ah, .inl (cQ, 6, .inr (.inr (.inr (.inr hk))))), (ak, .inr (0, [.int (kn 0), .int (kn 1), .int (kn 2), .int (kn 3), .int (kn 4), .int (kn 5), .int (kn 6)])), (b0, .inl (cI, 24, .inl (sh 0))), (b1, .inl (cI, 24, .inl (sh 1))), (b2, .inl (cI, 24, .inl (sh 2))), (b3, .inl (cI, 24, .inl (sh 3))), (b4, .inl (cI, 24, .inl (sh 4)))] s.heap := h.P8
  have hS : va_S nA s.heap s.heap [] := va_S.rf
  have hN : ∀ q, nA q → N0 ≤ q := nA_N
  refine lv_iload_n hx hb dX2_frame_0 rfl (lv_at hl 1 rfl) ?_
  refine rx_v (vx_runS (As := [.int h0]) (rest := []) ⟨hx, hb, hml, hown, hts⟩ (c_X2_requireHook l hl0 (h0 := h0)) (va_cwS 1 hts gX2_frame_X2_requireHook rfl rfl rfl (by decide +kernel) ⟨Nat.le_of_ble_eq_true rfl, Nat.le_of_ble_eq_true rfl⟩) (Pq.S hC hS hN) rfl rfl hl.1 rfl (lv_room (Nat.le_of_ble_eq_true rfl)) dX2_frame_1 ⟨Nat.le_of_ble_eq_true rfl, Nat.le_of_ble_eq_true rfl⟩) hS (fun ce q9 H9 locs hx9 hz9 hk9 hS hcell hv9 hcl => ?_) (fun locs hw hS => ?_)
  · have hx9 : ¬ okH h0 := hx9
    refine vx_widen (k := 3) (n := 18) (by omega) (by omega) ?_
    exact vx_out (fun x9 h9 => (hxt x9 h9).elim) hlocks hcell hv9 hcl (fun t ht hvm => ⟨(), trivial, ⟨Or.inl ⟨rfl, hx9⟩, by rw [ht]; exact h.xo hk9⟩, by rw [ht]; exact hz9, fun q hs _ => by rw [ht]; exact hk9 q hs⟩) (fun z9 h9 => (hS.2.2 z9 h9).elim) (Nat.le_refl _) (Nat.le_refl _)
  · have hw : okH h0 := hw
    obtain ⟨j, hj, rfl⟩ := hw
    refine lv_aload_n hx hb dX2_frame_4 rfl (lv_at hl 0 rfl) ?_
    refine va_get (D := D) (ci := 2) (v := .ref ah) (C := RX2) (T := TX2) (N := 8) hx hb hts iw_X2_frame_X2 hown hK hP 0 rfl rfl 0 (by decide) (hts _ lk_X2_frame_Cond_fieldLink_RX2_11_SpliceRoom_hooks_LSpliceRoom_Reel_) (fun _ h9 => h9) rfl dX2_frame_5 ?_
    refine lv_iload_n hx hb dX2_frame_8 rfl (lv_at hl 1 rfl) ?_
    refine va_aldq (D := D) hx hb hK hP 1 2 rfl rfl (vp_in_nI hj (by decide)) dX2_frame_9 ?_
    refine W.eq (g2 := F0 m 10 ls (va_rf (hk j) :: [])) (by rw [nI_clamp (by omega)]) ?_
    cases eh : hk j with
    | none =>
      refine lv_astore_nN (lv' := [(3, .null), (0, .ref x), (1, .int (nI j)), (2, .int i0)]) hx hb dX2_frame_10 rfl hl (by decide) rfl (fun ls hl => ?_)
      refine lv_aload_nN hx hb dX2_frame_11 rfl (lv_at hl 0 rfl) ?_
      refine lv_ifnullN (tgt := 23) hx hb dX2_frame_12 (by decide) ?_
      exact vx_throwS (cls := eS) (text := "nothing, or a core") (names := exN) (sa := sa 129) (A := nA) hx hb hl0 hown (by decide +kernel) exN_fit (hts _ lk_X2_frame_Cond_classLink_RX2_65_eS) (hts _ lk_X2_frame_Cond_initialized_eS) (hC.text (by decide +kernel)) (vx_hat (fun w hw => hts w (xw_X2_frame_eS w hw)) exS_ng hC.all) (good2 exS_ot) (hC.ust nA_N) (hC.sup nA_N) hS (by rw [hml]; exact hl.1) dX2_frame_23 dX2_frame_26 dX2_frame_27 dX2_frame_29 dX2_frame_32 (fun x9 h9 => (hxt x9 h9).elim) (by decide) (Nat.le_of_ble_eq_true rfl) (Nat.le_of_ble_eq_true rfl) (Nat.le_of_ble_eq_true rfl) hlocks (fun t hvm hz9 hk9 => ⟨(), trivial, ⟨Or.inr ⟨j, hj, rfl, Or.inl ⟨rfl, Or.inl eh⟩⟩, h.xo hk9⟩, hz9, fun q hs _ => hk9 q hs⟩) (fun z9 h9 => (hS.2.2 z9 h9).elim) (Nat.le_of_ble_eq_true rfl) (Nat.le_of_ble_eq_true rfl)
    | some r =>
      have lr : Live hk r := ⟨j, hj, eh⟩
      have hP : va_P D vwCl [(x, .inr (2, [.ref ah, .ref ak, .ref b0, .ref b1, .ref b2, .ref b3, .ref b4, .int k])), (ah, .inl (cQ, 6, .inr (.inr (.inr (.inr hk))))), (ak, .inr (0, [.int (kn 0), .int (kn 1), .int (kn 2), .int (kn 3), .int (kn 4), .int (kn 5), .int (kn 6)])), (b0, .inl (cI, 24, .inl (sh 0))), (b1, .inl (cI, 24, .inl (sh 1))), (b2, .inl (cI, 24, .inl (sh 2))), (b3, .inl (cI, 24, .inl (sh 3))), (b4, .inl (cI, 24, .inl (sh 4))), (r, .inr (1, [.int ((re r).1), .ref ((re r).2.1)])), ((re r).2.1, .inl (cL, (re r).2.2.1, .inr (.inl ((re r).2.2.2))))] s.heap := h.P10 lr
      have hzr : (re r).2.2.1 ≤ 40 := (h.2.2.2 r lr).2.2.2.1
      refine lv_astore_n (lv' := [(3, .ref r), (0, .ref x), (1, .int (nI j)), (2, .int i0)]) hx hb dX2_frame_10 rfl hl (by decide) rfl (fun ls hl => ?_)
      refine lv_aload_n hx hb dX2_frame_11 rfl (lv_at hl 0 rfl) ?_
      refine lv_ifnull hx hb dX2_frame_12 ?_
      refine lv_aload_n hx hb dX2_frame_15 rfl (lv_at hl 0 rfl) ?_
      refine va_getN (D := D) (ci := 1) (v := .int ((re r).1)) (C := RX1) (T := TX1) (N := 2) hx hb hts iw_X2_frame_X1 hown hK hP 8 rfl rfl 0 (by decide) (hC.nest (a := RX2) (i := 62) (b := "SpliceRoom$Reel") (n := "kind") (d := "I") (hh := "SpliceRoom") (by decide +kernel)) (fun _ h9 => h9) rfl dX2_frame_16 ?_
      refine lv_iconst (v := 5) hx hb dX2_frame_19 (by decide) ?_
      refine lv_icmp_ne (tgt := 33) hx hb dX2_frame_20 (by decide) (fun c_20 => ?_) (fun c_20 => ?_)
      · refine lv_aload_n hx hb dX2_frame_33 rfl (lv_at hl 0 rfl) ?_
        refine lv_iload_n hx hb dX2_frame_34 rfl (lv_at hl 3 rfl) ?_
        refine rx_v (vx_runS (As := [.ref r, .int i0]) (rest := []) ⟨hx, hb, hml, hown, hts⟩ (c_X2_requireFrame l hl0 (i0 := i0) (hP.sub [8, 9] rfl) hzr) (va_cwS 2 hts gX2_frame_X2_requireFrame rfl rfl rfl (by decide +kernel) ⟨Nat.le_of_ble_eq_true rfl, Nat.le_of_ble_eq_true rfl⟩) (Pq.S hC hS hN) rfl rfl hl.1 rfl (lv_room (Nat.le_of_ble_eq_true rfl)) dX2_frame_35 ⟨Nat.le_of_ble_eq_true rfl, Nat.le_of_ble_eq_true rfl⟩) hS (fun ce q9 H9 locs hx9 hz9 hk9 hS hcell hv9 hcl => ?_) (fun locs hw hS => ?_)
        · have hx9 : ¬ okF i0 ((re r).2.2.1) := hx9
          refine vx_widen (k := 3) (n := 18) (by omega) (by omega) ?_
          exact vx_out (fun x9 h9 => (hxt x9 h9).elim) hlocks hcell hv9 hcl (fun t ht hvm => ⟨(), trivial, ⟨Or.inr ⟨j, hj, rfl, Or.inr ⟨rfl, r, eh, c_20, hx9⟩⟩, by rw [ht]; exact h.xo hk9⟩, by rw [ht]; exact hz9, fun q hs _ => by rw [ht]; exact hk9 q hs⟩) (fun z9 h9 => (hS.2.2 z9 h9).elim) (Nat.le_refl _) (Nat.le_refl _)
        · have hw : okF i0 ((re r).2.2.1) := hw
          obtain ⟨i, hi, rfl⟩ := hw
          refine lv_aload_n hx hb dX2_frame_38 rfl (lv_at hl 0 rfl) ?_
          refine va_getN (D := D) (ci := 1) (v := .ref ((re r).2.1)) (C := RX1) (T := TX1) (N := 2) hx hb hts iw_X2_frame_X1 hown hK hP 8 rfl rfl 1 (by decide) (hC.nest (a := RX2) (i := 70) (b := "SpliceRoom$Reel") (n := "row") (d := "[J") (hh := "SpliceRoom") (by decide +kernel)) (fun _ h9 => h9) rfl dX2_frame_39 ?_
          refine lv_iload_n hx hb dX2_frame_42 rfl (lv_at hl 3 rfl) ?_
          refine va_lald (D := D) hx hb hK hP 9 1 rfl rfl (vp_in_nI hi (by omega)) dX2_frame_43 ?_
          refine lv_topl (fun y_1 e9 => ?_)
          have e9 : y_1 = (re r).2.2.2 i := e9.trans (by rw [nI_clamp (by omega)])
          subst e9
          refine W.widen (k := 3) (n := 18) (by omega) (by omega) ?_
          exact vx_ret (W.lret (v := (re r).2.2.2 i) hx hb hr (fun t ht hW => ⟨⟨_, (hk, re, kn, sh, k), rfl, ⟨j, r, i, hj, rfl, eh, c_20, hi, rfl, rfl, rfl⟩, by dsimp only; rw [ht]; exact h.xo (fun _ _ => rfl)⟩, (S_mono hS (fun _ z => z.elim)).F ht⟩) (fun z9 h9 => (hS.2.2 z9 h9).elim) dX2_frame_44)
      · exact vx_throwS (cls := eS) (text := "nothing, or a core") (names := exN) (sa := sa 129) (A := nA) hx hb hl0 hown (by decide +kernel) exN_fit (hts _ lk_X2_frame_Cond_classLink_RX2_65_eS) (hts _ lk_X2_frame_Cond_initialized_eS) (hC.text (by decide +kernel)) (vx_hat (fun w hw => hts w (xw_X2_frame_eS w hw)) exS_ng hC.all) (good2 exS_ot) (hC.ust nA_N) (hC.sup nA_N) hS (by rw [hml]; exact hl.1) dX2_frame_23 dX2_frame_26 dX2_frame_27 dX2_frame_29 dX2_frame_32 (fun x9 h9 => (hxt x9 h9).elim) (by decide) (Nat.le_of_ble_eq_true rfl) (Nat.le_of_ble_eq_true rfl) (Nat.le_of_ble_eq_true rfl) hlocks (fun t hvm hz9 hk9 => ⟨(), trivial, ⟨Or.inr ⟨j, hj, rfl, Or.inl ⟨rfl, Or.inr ⟨r, eh, c_20⟩⟩⟩, h.xo hk9⟩, hz9, fun q hs _ => hk9 q hs⟩) (fun z9 h9 => (hS.2.2 z9 h9).elim) (Nat.le_of_ble_eq_true rfl) (Nat.le_of_ble_eq_true rfl)
theorem xw_X2_look_eA : ∀ w ∈ (vx_atS RX2 50 eA exN).filter goodWord, w ∈ wsX2_look := by decide +kernel
theorem iw_X2_look_X2 : ∀ w ∈ wsX20, w ∈ wsX2_look := by decide +kernel
theorem lk_X2_look_Cond_classLink_RX2_46_eA : Cond.classLink RX2 46 eA ∈ wsX2_look := by decide +kernel
theorem lk_X2_look_Cond_fieldLink_RX2_11_SpliceRoom_hooks_LSpliceRoom_Reel_ : Cond.fieldLink RX2 11 "SpliceRoom" "hooks" "[LSpliceRoom$Reel;" ∈ wsX2_look := by decide +kernel
theorem lk_X2_look_Cond_initialized_eA : Cond.initialized eA ∈ wsX2_look := by decide +kernel
set_option maxHeartbeats 4000000 in
set_option maxRecDepth 100000 in
theorem c_X2_look (l : Launch) {D : va_G} {cI cL cQ : ClassId} {N0 : Nat} {sa : Nat → Nat} {Hc : Heap} (hl0 : l.stackTraces = false) {x ah ak b0 b1 b2 b3 b4 : Nat} {F : Nat → Prop} {hk : Nat → Option Nat} {re : Nat → RE} {kn : Nat → Int32} {sh : Nat → Nat → Int32} {k : Int32} (h : RSB D cI cL cQ x ah ak b0 b1 b2 b3 b4 F (hk, re, kn, sh, k) Hc) (hNF : ∀ q, F q ∨ Hc.size ≤ q → N0 ≤ q) {h0 w0 : Int32} : vx_Met l yX2_look wsX2_look ({ frames := 7, cells := 2, slots := 12, locals := 110 }) (Pq D cI cL cQ N0 sa [.ref x, .int h0, .int w0] Hc) (va_Qi (fun (rr : Int32) (u : CS) => ∃ j1 : Nat, j1 < 6 ∧ h0 = nI j1 ∧ ((w0 = 0 ∧ rr = kOf re (hk j1)) ∨ (w0 = 1 ∧ rr = zOf re (hk j1)) ∨ (w0 = 2 ∧ rr = hOf hk (hk j1))) ∧ u = (hk, re, kn, sh, k)) (fun u t => RSB D cI cL cQ x ah ak b0 b1 b2 b3 b4 (fun q => F q ∨ Hc.size ≤ q) u t.heap) (fun q => F q ∨ Hc.size ≤ q)) (vx_X (fun (_ : Unit) => True) (fun E _ t => (E = eA ∧ ¬ (okH h0 ∧ (w0 = 0 ∨ w0 = 1 ∨ w0 = 2))) ∧ RSB D cI cL cQ x ah ak b0 b1 b2 b3 b4 (fun q => F q ∨ Hc.size ≤ q) (hk, re, kn, sh, k) t.heap) (fun q => F q ∨ Hc.size ≤ q)) 2 12 (fun q => F q ∨ Hc.size ≤ q) := by
  refine vx_ofW (cc := cX2_look) (maxL := 3) (ret := (some .int)) (by decide) rfl ?_
  intro p e s m args below meth c s₁ B hml hxt hv
  obtain ⟨rfl, hH, hC⟩ := hv
  have hx := B.exec
  have hb := B.bytes
  have hr := B.returns
  have hts := atoms_spec (ws := wsX2_look) B.pre
  have hown : s.vm.findClass RX2 = some m.cls := findClass_of_methodNamed B.named
  have hlocks := B.notSynchronized
  subst hH
  have hK := hC.K
  have hl := lv_entry ([.ref x, .int h0, .int w0]) (n := 3) (Nat.le_of_ble_eq_true rfl)
  rw [lg_entry_eq]
  generalize (lg_sl ([.ref x, .int h0, .int w0]) ++ List.replicate (3 - (lg_sl ([.ref x, .int h0, .int w0])).length) Slot.unset).toArray = ls at hl ⊢
  have hl : lv_has ls 3 [(0, .ref x), (1, .int h0), (2, .int w0)] := hl
  have hP : va_P D vwCl [(x, .inr (2, [.ref ah, .ref ak, .ref b0, .ref b1, .ref b2, .ref b3, .ref b4, .int k])), (ah, .inl (cQ, 6, .inr (.inr (.inr (.inr hk))))), (ak, .inr (0, [.int (kn 0), .int (kn 1), .int (kn 2), .int (kn 3), .int (kn 4), .int (kn 5), .int (kn 6)])), (b0, .inl (cI, 24, .inl (sh 0))), (b1, .inl (cI, 24, .inl (sh 1))), (b2, .inl (cI, 24, .inl (sh 2))), (b3, .inl (cI, 24, .inl (sh 3))), (b4, .inl (cI, 24, .inl (sh 4)))] s.heap := h.P8
  have hS : va_S nA s.heap s.heap [] := va_S.rf
  have hN : ∀ q, nA q → N0 ≤ q := nA_N
  refine lv_iload_n hx hb dX2_look_0 rfl (lv_at hl 1 rfl) ?_
  refine rx_v (vx_runS (As := [.int h0]) (rest := []) ⟨hx, hb, hml, hown, hts⟩ (c_X2_requireHook l hl0 (h0 := h0)) (va_cwS 1 hts gX2_look_X2_requireHook rfl rfl rfl (by decide +kernel) ⟨Nat.le_of_ble_eq_true rfl, Nat.le_of_ble_eq_true rfl⟩) (Pq.S hC hS hN) rfl rfl hl.1 rfl (lv_room (Nat.le_of_ble_eq_true rfl)) dX2_look_1 ⟨Nat.le_of_ble_eq_true rfl, Nat.le_of_ble_eq_true rfl⟩) hS (fun ce q9 H9 locs hx9 hz9 hk9 hS hcell hv9 hcl => ?_) (fun locs hw hS => ?_)
  · have hx9 : ¬ okH h0 := hx9
    refine vx_widen (k := 2) (n := 12) (by omega) (by omega) ?_
    exact vx_out (fun x9 h9 => (hxt x9 h9).elim) hlocks hcell hv9 hcl (fun t ht hvm => ⟨(), trivial, ⟨⟨rfl, fun h9 => hx9 h9.1⟩, by rw [ht]; exact h.xo hk9⟩, by rw [ht]; exact hz9, fun q hs _ => by rw [ht]; exact hk9 q hs⟩) (fun z9 h9 => (hS.2.2 z9 h9).elim) (Nat.le_refl _) (Nat.le_refl _)
  · have hw : okH h0 := hw
    obtain ⟨j, hj, rfl⟩ := hw
    refine lv_iload_n hx hb dX2_look_4 rfl (lv_at hl 2 rfl) ?_
    by_cases c_w0 : w0 = 0
    · subst c_w0
      refine lv_tableIn (x := 0) (off := 27) (tgt := 32) hx hb dX2_look_5 (by decide) (by decide) (by decide) (by decide) ?_
      refine lv_aload_n hx hb dX2_look_32 rfl (lv_at hl 0 rfl) ?_
      refine lv_iload_n hx hb dX2_look_33 rfl (lv_at hl 1 rfl) ?_
      refine ro_i (va_runV (As := [.int (nI j)]) (rest := []) ⟨hx, hb, hml, hown, hts⟩ (c_X2_kindOn l (j := j) h hj) (cwV 1 hts gX2_look_X2_kindOn rfl rfl rfl (by decide +kernel) ⟨Nat.le_of_ble_eq_true rfl, Nat.le_of_ble_eq_true rfl⟩) (Pq.V hC hS hN (va_recv hK hP (ci := 2) (q0 := 0) rfl rfl)) rfl rfl hl.1 rfl (lv_room (Nat.le_of_ble_eq_true rfl)) dX2_look_34 ⟨Nat.le_of_ble_eq_true rfl, Nat.le_of_ble_eq_true rfl⟩) hS (fun r_1 locs hw hS => ?_)
      have hw : r_1 = kOf re (hk j) := hw
      subst hw
      refine W.widen (k := 2) (n := 12) (by omega) (by omega) ?_
      exact vx_ret (W.iret (v := kOf re (hk j)) hx hb hr (fun t ht hW => ⟨⟨_, (hk, re, kn, sh, k), rfl, ⟨j, hj, rfl, Or.inl ⟨rfl, rfl⟩, rfl⟩, by dsimp only; rw [ht]; exact h.xo (fun _ _ => rfl)⟩, (S_mono hS (fun _ z => z.elim)).F ht⟩) (fun z9 h9 => (hS.2.2 z9 h9).elim) dX2_look_37)
    by_cases c_w1 : w0 = 1
    · subst c_w1
      refine lv_tableIn (x := 1) (off := 33) (tgt := 38) hx hb dX2_look_5 (by decide) (by decide) (by decide) (by decide) ?_
      refine lv_aload_n hx hb dX2_look_38 rfl (lv_at hl 0 rfl) ?_
      refine lv_iload_n hx hb dX2_look_39 rfl (lv_at hl 1 rfl) ?_
      refine ro_i (va_runV (As := [.int (nI j)]) (rest := []) ⟨hx, hb, hml, hown, hts⟩ (c_X2_framesOn l (j := j) h hj) (cwV 1 hts gX2_look_X2_framesOn rfl rfl rfl (by decide +kernel) ⟨Nat.le_of_ble_eq_true rfl, Nat.le_of_ble_eq_true rfl⟩) (Pq.V hC hS hN (va_recv hK hP (ci := 2) (q0 := 0) rfl rfl)) rfl rfl hl.1 rfl (lv_room (Nat.le_of_ble_eq_true rfl)) dX2_look_40 ⟨Nat.le_of_ble_eq_true rfl, Nat.le_of_ble_eq_true rfl⟩) hS (fun r_2 locs hw hS => ?_)
      have hw : r_2 = zOf re (hk j) := hw
      subst hw
      refine W.widen (k := 2) (n := 12) (by omega) (by omega) ?_
      exact vx_ret (W.iret (v := zOf re (hk j)) hx hb hr (fun t ht hW => ⟨⟨_, (hk, re, kn, sh, k), rfl, ⟨j, hj, rfl, Or.inr (Or.inl ⟨rfl, rfl⟩), rfl⟩, by dsimp only; rw [ht]; exact h.xo (fun _ _ => rfl)⟩, (S_mono hS (fun _ z => z.elim)).F ht⟩) (fun z9 h9 => (hS.2.2 z9 h9).elim) dX2_look_43)
    by_cases c_w2 : w0 = 2
    · subst c_w2
      refine lv_tableIn (x := 2) (off := 39) (tgt := 44) hx hb dX2_look_5 (by decide) (by decide) (by decide) (by decide) ?_
      refine lv_aload_n hx hb dX2_look_44 rfl (lv_at hl 0 rfl) ?_
      refine lv_aload_n hx hb dX2_look_45 rfl (lv_at hl 0 rfl) ?_
      refine va_get (D := D) (ci := 2) (v := .ref ah) (C := RX2) (T := TX2) (N := 8) hx hb hts iw_X2_look_X2 hown hK hP 0 rfl rfl 0 (by decide) (hts _ lk_X2_look_Cond_fieldLink_RX2_11_SpliceRoom_hooks_LSpliceRoom_Reel_) (fun _ h9 => h9) rfl dX2_look_46 ?_
      refine lv_iload_n hx hb dX2_look_49 rfl (lv_at hl 1 rfl) ?_
      refine va_aldq (D := D) hx hb hK hP 1 2 rfl rfl (vp_in_nI hj (by decide)) dX2_look_50 ?_
      refine W.eq (g2 := F0 m 51 ls (va_rf (hk j) :: [.ref x])) (by rw [nI_clamp (by omega)]) ?_
      refine ro_i (va_runV (As := [va_rf (hk j)]) (rest := []) ⟨hx, hb, hml, hown, hts⟩ (c_X2_holdersOf l (o := hk j) h) (cwV 1 hts gX2_look_X2_holdersOf rfl rfl rfl (by decide +kernel) ⟨Nat.le_of_ble_eq_true rfl, Nat.le_of_ble_eq_true rfl⟩) (Pq.V hC hS hN (va_recv hK hP (ci := 2) (q0 := 0) rfl rfl)) rfl rfl hl.1 rfl (lv_room (Nat.le_of_ble_eq_true rfl)) dX2_look_51 ⟨Nat.le_of_ble_eq_true rfl, Nat.le_of_ble_eq_true rfl⟩) hS (fun r_3 locs hw hS => ?_)
      have hw : r_3 = hOf hk (hk j) := hw
      subst hw
      refine W.widen (k := 2) (n := 12) (by omega) (by omega) ?_
      exact vx_ret (W.iret (v := hOf hk (hk j)) hx hb hr (fun t ht hW => ⟨⟨_, (hk, re, kn, sh, k), rfl, ⟨j, hj, rfl, Or.inr (Or.inr ⟨rfl, rfl⟩), rfl⟩, by dsimp only; rw [ht]; exact h.xo (fun _ _ => rfl)⟩, (S_mono hS (fun _ z => z.elim)).F ht⟩) (fun z9 h9 => (hS.2.2 z9 h9).elim) dX2_look_54)
    refine lv_tableOut (tgt := 55) hx hb dX2_look_5 (by have := lv_neT c_w0 (a := 0) (by decide) ; have := lv_neT c_w1 (a := 1) (by decide) ; have := lv_neT c_w2 (a := 2) (by decide); omega) (by decide) ?_
    exact vx_throwS (cls := eA) (text := "no such what") (names := exN) (sa := sa 138) (A := nA) hx hb hl0 hown (by decide +kernel) exN_fit (hts _ lk_X2_look_Cond_classLink_RX2_46_eA) (hts _ lk_X2_look_Cond_initialized_eA) (hC.text (by decide +kernel)) (vx_hat (fun w hw => hts w (xw_X2_look_eA w hw)) exA_ng hC.all) (good2 exA_ot) (hC.ust nA_N) (hC.sup nA_N) hS (by rw [hml]; exact hl.1) dX2_look_55 dX2_look_58 dX2_look_59 dX2_look_61 dX2_look_64 (fun x9 h9 => (hxt x9 h9).elim) (by decide) (Nat.le_of_ble_eq_true rfl) (Nat.le_of_ble_eq_true rfl) (Nat.le_of_ble_eq_true rfl) hlocks (fun t hvm hz9 hk9 => ⟨(), trivial, ⟨⟨rfl, fun h9 => h9.2.elim c_w0 (fun z => z.elim c_w1 c_w2)⟩, h.xo hk9⟩, hz9, fun q hs _ => hk9 q hs⟩) (fun z9 h9 => (hS.2.2 z9 h9).elim) (Nat.le_of_ble_eq_true rfl) (Nat.le_of_ble_eq_true rfl)
theorem xw_X2_count_eA : ∀ w ∈ (vx_atS RX2 50 eA exN).filter goodWord, w ∈ wsX2_count := by decide +kernel
theorem iw_X2_count_X0 : ∀ w ∈ wsX00, w ∈ wsX2_count := by decide +kernel
theorem iw_X2_count_X2 : ∀ w ∈ wsX20, w ∈ wsX2_count := by decide +kernel
theorem lk_X2_count_Cond_classLink_RX2_46_eA : Cond.classLink RX2 46 eA ∈ wsX2_count := by decide +kernel
theorem lk_X2_count_Cond_fieldLink_RX2_18_SpliceRoom_knife_LSpliceRoom_Knife_ : Cond.fieldLink RX2 18 "SpliceRoom" "knife" "LSpliceRoom$Knife;" ∈ wsX2_count := by decide +kernel
theorem lk_X2_count_Cond_fieldLink_RX2_38_SpliceRoom_steps_I_ : Cond.fieldLink RX2 38 "SpliceRoom" "steps" "I" ∈ wsX2_count := by decide +kernel
theorem lk_X2_count_Cond_initialized_eA : Cond.initialized eA ∈ wsX2_count := by decide +kernel
set_option maxHeartbeats 4000000 in
set_option maxRecDepth 100000 in
theorem c_X2_count (l : Launch) {D : va_G} {cI cL cQ : ClassId} {N0 : Nat} {sa : Nat → Nat} {Hc : Heap} (hl0 : l.stackTraces = false) {x ah ak b0 b1 b2 b3 b4 : Nat} {F : Nat → Prop} {hk : Nat → Option Nat} {re : Nat → RE} {kn : Nat → Int32} {sh : Nat → Nat → Int32} {k : Int32} (h : RSB D cI cL cQ x ah ak b0 b1 b2 b3 b4 F (hk, re, kn, sh, k) Hc) (hNF : ∀ q, F q ∨ Hc.size ≤ q → N0 ≤ q) {w0 : Int32} : vx_Met l yX2_count wsX2_count ({ frames := 6, cells := 1, slots := 6, locals := 82 }) (Pq D cI cL cQ N0 sa [.ref x, .int w0] Hc) (va_Qi (fun (rr : Int32) (u : CS) => ((w0 = 0 ∧ rr = kn 0) ∨ (w0 = 1 ∧ rr = kn 1) ∨ (w0 = 2 ∧ rr = kn 2) ∨ (w0 = 3 ∧ rr = kn 3) ∨ (w0 = 4 ∧ rr = k) ∨ (w0 = 5 ∧ rr = kn 4) ∨ (w0 = 6 ∧ rr = kn 5) ∨ (w0 = 7 ∧ rr = kn 6)) ∧ u = (hk, re, kn, sh, k)) (fun u t => RSB D cI cL cQ x ah ak b0 b1 b2 b3 b4 (fun q => F q ∨ Hc.size ≤ q) u t.heap) (fun q => F q ∨ Hc.size ≤ q)) (vx_X (fun (_ : Unit) => True) (fun E _ t => (E = eA ∧ ¬ w0 = 0 ∧ ¬ w0 = 1 ∧ ¬ w0 = 2 ∧ ¬ w0 = 3 ∧ ¬ w0 = 4 ∧ ¬ w0 = 5 ∧ ¬ w0 = 6 ∧ ¬ w0 = 7) ∧ RSB D cI cL cQ x ah ak b0 b1 b2 b3 b4 (fun q => F q ∨ Hc.size ≤ q) (hk, re, kn, sh, k) t.heap) (fun q => F q ∨ Hc.size ≤ q)) 1 6 (fun q => F q ∨ Hc.size ≤ q) := by
  refine vx_ofW (cc := cX2_count) (maxL := 2) (ret := (some .int)) (by decide) rfl ?_
  intro p e s m args below meth c s₁ B hml hxt hv
  obtain ⟨rfl, hH, hC⟩ := hv
  have hx := B.exec
  have hb := B.bytes
  have hr := B.returns
  have hts := atoms_spec (ws := wsX2_count) B.pre
  have hown : s.vm.findClass RX2 = some m.cls := findClass_of_methodNamed B.named
  have hlocks := B.notSynchronized
  subst hH
  have hK := hC.K
  have hl := lv_entry ([.ref x, .int w0]) (n := 2) (Nat.le_of_ble_eq_true rfl)
  rw [lg_entry_eq]
  generalize (lg_sl ([.ref x, .int w0]) ++ List.replicate (2 - (lg_sl ([.ref x, .int w0])).length) Slot.unset).toArray = ls at hl ⊢
  have hl : lv_has ls 2 [(0, .ref x), (1, .int w0)] := hl
  have hP : va_P D vwCl [(x, .inr (2, [.ref ah, .ref ak, .ref b0, .ref b1, .ref b2, .ref b3, .ref b4, .int k])), (ah, .inl (cQ, 6, .inr (.inr (.inr (.inr hk))))), (ak, .inr (0, [.int (kn 0), .int (kn 1), .int (kn 2), .int (kn 3), .int (kn 4), .int (kn 5), .int (kn 6)])), (b0, .inl (cI, 24, .inl (sh 0))), (b1, .inl (cI, 24, .inl (sh 1))), (b2, .inl (cI, 24, .inl (sh 2))), (b3, .inl (cI, 24, .inl (sh 3))), (b4, .inl (cI, 24, .inl (sh 4)))] s.heap := h.P8
  have hS : va_S nA s.heap s.heap [] := va_S.rf
  have hN : ∀ q, nA q → N0 ≤ q := nA_N
  refine lv_iload_n hx hb dX2_count_0 rfl (lv_at hl 1 rfl) ?_
  by_cases c_w0 : w0 = 0
  · subst c_w0
    refine lv_tableIn (x := 0) (off := 47) (tgt := 48) hx hb dX2_count_1 (by decide) (by decide) (by decide) (by decide) ?_
    refine lv_aload_n hx hb dX2_count_48 rfl (lv_at hl 0 rfl) ?_
    refine va_get (D := D) (ci := 2) (v := .ref ak) (C := RX2) (T := TX2) (N := 8) hx hb hts iw_X2_count_X2 hown hK hP 0 rfl rfl 1 (by decide) (hts _ lk_X2_count_Cond_fieldLink_RX2_18_SpliceRoom_knife_LSpliceRoom_Knife_) (fun _ h9 => h9) rfl dX2_count_49 ?_
    refine va_getN (D := D) (ci := 0) (v := .int (kn 0)) (C := RX0) (T := TX0) (N := 7) hx hb hts iw_X2_count_X0 hown hK hP 2 rfl rfl 0 (by decide) (hC.nest (a := RX2) (i := 144) (b := "SpliceRoom$Knife") (n := "wentWell") (d := "I") (hh := "SpliceRoom") (by decide +kernel)) (fun _ h9 => h9) rfl dX2_count_52 ?_
    refine W.widen (k := 1) (n := 6) (by omega) (by omega) ?_
    exact vx_ret (W.iret (v := kn 0) hx hb hr (fun t ht hW => ⟨⟨_, (hk, re, kn, sh, k), rfl, ⟨Or.inl ⟨rfl, rfl⟩, rfl⟩, by dsimp only; rw [ht]; exact h.xo (fun _ _ => rfl)⟩, (S_mono hS (fun _ z => z.elim)).F ht⟩) (fun z9 h9 => (hS.2.2 z9 h9).elim) dX2_count_55)
  by_cases c_w1 : w0 = 1
  · subst c_w1
    refine lv_tableIn (x := 1) (off := 55) (tgt := 56) hx hb dX2_count_1 (by decide) (by decide) (by decide) (by decide) ?_
    refine lv_aload_n hx hb dX2_count_56 rfl (lv_at hl 0 rfl) ?_
    refine va_get (D := D) (ci := 2) (v := .ref ak) (C := RX2) (T := TX2) (N := 8) hx hb hts iw_X2_count_X2 hown hK hP 0 rfl rfl 1 (by decide) (hts _ lk_X2_count_Cond_fieldLink_RX2_18_SpliceRoom_knife_LSpliceRoom_Knife_) (fun _ h9 => h9) rfl dX2_count_57 ?_
    refine va_getN (D := D) (ci := 0) (v := .int (kn 1)) (C := RX0) (T := TX0) (N := 7) hx hb hts iw_X2_count_X0 hown hK hP 2 rfl rfl 1 (by decide) (hC.nest (a := RX2) (i := 147) (b := "SpliceRoom$Knife") (n := "laid") (d := "I") (hh := "SpliceRoom") (by decide +kernel)) (fun _ h9 => h9) rfl dX2_count_60 ?_
    refine W.widen (k := 1) (n := 6) (by omega) (by omega) ?_
    exact vx_ret (W.iret (v := kn 1) hx hb hr (fun t ht hW => ⟨⟨_, (hk, re, kn, sh, k), rfl, ⟨Or.inr (Or.inl ⟨rfl, rfl⟩), rfl⟩, by dsimp only; rw [ht]; exact h.xo (fun _ _ => rfl)⟩, (S_mono hS (fun _ z => z.elim)).F ht⟩) (fun z9 h9 => (hS.2.2 z9 h9).elim) dX2_count_63)
  by_cases c_w2 : w0 = 2
  · subst c_w2
    refine lv_tableIn (x := 2) (off := 63) (tgt := 64) hx hb dX2_count_1 (by decide) (by decide) (by decide) (by decide) ?_
    refine lv_aload_n hx hb dX2_count_64 rfl (lv_at hl 0 rfl) ?_
    refine va_get (D := D) (ci := 2) (v := .ref ak) (C := RX2) (T := TX2) (N := 8) hx hb hts iw_X2_count_X2 hown hK hP 0 rfl rfl 1 (by decide) (hts _ lk_X2_count_Cond_fieldLink_RX2_18_SpliceRoom_knife_LSpliceRoom_Knife_) (fun _ h9 => h9) rfl dX2_count_65 ?_
    refine va_getN (D := D) (ci := 0) (v := .int (kn 2)) (C := RX0) (T := TX0) (N := 7) hx hb hts iw_X2_count_X0 hown hK hP 2 rfl rfl 2 (by decide) (hC.nest (a := RX2) (i := 150) (b := "SpliceRoom$Knife") (n := "jams") (d := "I") (hh := "SpliceRoom") (by decide +kernel)) (fun _ h9 => h9) rfl dX2_count_68 ?_
    refine W.widen (k := 1) (n := 6) (by omega) (by omega) ?_
    exact vx_ret (W.iret (v := kn 2) hx hb hr (fun t ht hW => ⟨⟨_, (hk, re, kn, sh, k), rfl, ⟨Or.inr (Or.inr (Or.inl ⟨rfl, rfl⟩)), rfl⟩, by dsimp only; rw [ht]; exact h.xo (fun _ _ => rfl)⟩, (S_mono hS (fun _ z => z.elim)).F ht⟩) (fun z9 h9 => (hS.2.2 z9 h9).elim) dX2_count_71)
  by_cases c_w3 : w0 = 3
  · subst c_w3
    refine lv_tableIn (x := 3) (off := 71) (tgt := 72) hx hb dX2_count_1 (by decide) (by decide) (by decide) (by decide) ?_
    refine lv_aload_n hx hb dX2_count_72 rfl (lv_at hl 0 rfl) ?_
    refine va_get (D := D) (ci := 2) (v := .ref ak) (C := RX2) (T := TX2) (N := 8) hx hb hts iw_X2_count_X2 hown hK hP 0 rfl rfl 1 (by decide) (hts _ lk_X2_count_Cond_fieldLink_RX2_18_SpliceRoom_knife_LSpliceRoom_Knife_) (fun _ h9 => h9) rfl dX2_count_73 ?_
    refine va_getN (D := D) (ci := 0) (v := .int (kn 3)) (C := RX0) (T := TX0) (N := 7) hx hb hts iw_X2_count_X0 hown hK hP 2 rfl rfl 3 (by decide) (hC.nest (a := RX2) (i := 153) (b := "SpliceRoom$Knife") (n := "jamsInRow") (d := "I") (hh := "SpliceRoom") (by decide +kernel)) (fun _ h9 => h9) rfl dX2_count_76 ?_
    refine W.widen (k := 1) (n := 6) (by omega) (by omega) ?_
    exact vx_ret (W.iret (v := kn 3) hx hb hr (fun t ht hW => ⟨⟨_, (hk, re, kn, sh, k), rfl, ⟨Or.inr (Or.inr (Or.inr (Or.inl ⟨rfl, rfl⟩))), rfl⟩, by dsimp only; rw [ht]; exact h.xo (fun _ _ => rfl)⟩, (S_mono hS (fun _ z => z.elim)).F ht⟩) (fun z9 h9 => (hS.2.2 z9 h9).elim) dX2_count_79)
  by_cases c_w4 : w0 = 4
  · subst c_w4
    refine lv_tableIn (x := 4) (off := 79) (tgt := 80) hx hb dX2_count_1 (by decide) (by decide) (by decide) (by decide) ?_
    refine lv_aload_n hx hb dX2_count_80 rfl (lv_at hl 0 rfl) ?_
    refine va_get (D := D) (ci := 2) (v := .int k) (C := RX2) (T := TX2) (N := 8) hx hb hts iw_X2_count_X2 hown hK hP 0 rfl rfl 7 (by decide) (hts _ lk_X2_count_Cond_fieldLink_RX2_38_SpliceRoom_steps_I_) (fun _ h9 => h9) rfl dX2_count_81 ?_
    refine W.widen (k := 1) (n := 6) (by omega) (by omega) ?_
    exact vx_ret (W.iret (v := k) hx hb hr (fun t ht hW => ⟨⟨_, (hk, re, kn, sh, k), rfl, ⟨Or.inr (Or.inr (Or.inr (Or.inr (Or.inl ⟨rfl, rfl⟩)))), rfl⟩, by dsimp only; rw [ht]; exact h.xo (fun _ _ => rfl)⟩, (S_mono hS (fun _ z => z.elim)).F ht⟩) (fun z9 h9 => (hS.2.2 z9 h9).elim) dX2_count_84)
  by_cases c_w5 : w0 = 5
  · subst c_w5
    refine lv_tableIn (x := 5) (off := 84) (tgt := 85) hx hb dX2_count_1 (by decide) (by decide) (by decide) (by decide) ?_
    refine lv_aload_n hx hb dX2_count_85 rfl (lv_at hl 0 rfl) ?_
    refine va_get (D := D) (ci := 2) (v := .ref ak) (C := RX2) (T := TX2) (N := 8) hx hb hts iw_X2_count_X2 hown hK hP 0 rfl rfl 1 (by decide) (hts _ lk_X2_count_Cond_fieldLink_RX2_18_SpliceRoom_knife_LSpliceRoom_Knife_) (fun _ h9 => h9) rfl dX2_count_86 ?_
    refine va_getN (D := D) (ci := 0) (v := .int (kn 4)) (C := RX0) (T := TX0) (N := 7) hx hb hts iw_X2_count_X0 hown hK hP 2 rfl rfl 4 (by decide) (hC.nest (a := RX2) (i := 156) (b := "SpliceRoom$Knife") (n := "far") (d := "I") (hh := "SpliceRoom") (by decide +kernel)) (fun _ h9 => h9) rfl dX2_count_89 ?_
    refine W.widen (k := 1) (n := 6) (by omega) (by omega) ?_
    exact vx_ret (W.iret (v := kn 4) hx hb hr (fun t ht hW => ⟨⟨_, (hk, re, kn, sh, k), rfl, ⟨Or.inr (Or.inr (Or.inr (Or.inr (Or.inr (Or.inl ⟨rfl, rfl⟩))))), rfl⟩, by dsimp only; rw [ht]; exact h.xo (fun _ _ => rfl)⟩, (S_mono hS (fun _ z => z.elim)).F ht⟩) (fun z9 h9 => (hS.2.2 z9 h9).elim) dX2_count_92)
  by_cases c_w6 : w0 = 6
  · subst c_w6
    refine lv_tableIn (x := 6) (off := 92) (tgt := 93) hx hb dX2_count_1 (by decide) (by decide) (by decide) (by decide) ?_
    refine lv_aload_n hx hb dX2_count_93 rfl (lv_at hl 0 rfl) ?_
    refine va_get (D := D) (ci := 2) (v := .ref ak) (C := RX2) (T := TX2) (N := 8) hx hb hts iw_X2_count_X2 hown hK hP 0 rfl rfl 1 (by decide) (hts _ lk_X2_count_Cond_fieldLink_RX2_18_SpliceRoom_knife_LSpliceRoom_Knife_) (fun _ h9 => h9) rfl dX2_count_94 ?_
    refine va_getN (D := D) (ci := 0) (v := .int (kn 5)) (C := RX0) (T := TX0) (N := 7) hx hb hts iw_X2_count_X0 hown hK hP 2 rfl rfl 5 (by decide) (hC.nest (a := RX2) (i := 159) (b := "SpliceRoom$Knife") (n := "told") (d := "I") (hh := "SpliceRoom") (by decide +kernel)) (fun _ h9 => h9) rfl dX2_count_97 ?_
    refine W.widen (k := 1) (n := 6) (by omega) (by omega) ?_
    exact vx_ret (W.iret (v := kn 5) hx hb hr (fun t ht hW => ⟨⟨_, (hk, re, kn, sh, k), rfl, ⟨Or.inr (Or.inr (Or.inr (Or.inr (Or.inr (Or.inr (Or.inl ⟨rfl, rfl⟩)))))), rfl⟩, by dsimp only; rw [ht]; exact h.xo (fun _ _ => rfl)⟩, (S_mono hS (fun _ z => z.elim)).F ht⟩) (fun z9 h9 => (hS.2.2 z9 h9).elim) dX2_count_100)
  by_cases c_w7 : w0 = 7
  · subst c_w7
    refine lv_tableIn (x := 7) (off := 100) (tgt := 101) hx hb dX2_count_1 (by decide) (by decide) (by decide) (by decide) ?_
    refine lv_aload_n hx hb dX2_count_101 rfl (lv_at hl 0 rfl) ?_
    refine va_get (D := D) (ci := 2) (v := .ref ak) (C := RX2) (T := TX2) (N := 8) hx hb hts iw_X2_count_X2 hown hK hP 0 rfl rfl 1 (by decide) (hts _ lk_X2_count_Cond_fieldLink_RX2_18_SpliceRoom_knife_LSpliceRoom_Knife_) (fun _ h9 => h9) rfl dX2_count_102 ?_
    refine va_getN (D := D) (ci := 0) (v := .int (kn 6)) (C := RX0) (T := TX0) (N := 7) hx hb hts iw_X2_count_X0 hown hK hP 2 rfl rfl 6 (by decide) (hC.nest (a := RX2) (i := 126) (b := "SpliceRoom$Knife") (n := "grindings") (d := "I") (hh := "SpliceRoom") (by decide +kernel)) (fun _ h9 => h9) rfl dX2_count_105 ?_
    refine W.widen (k := 1) (n := 6) (by omega) (by omega) ?_
    exact vx_ret (W.iret (v := kn 6) hx hb hr (fun t ht hW => ⟨⟨_, (hk, re, kn, sh, k), rfl, ⟨Or.inr (Or.inr (Or.inr (Or.inr (Or.inr (Or.inr (Or.inr (⟨rfl, rfl⟩))))))), rfl⟩, by dsimp only; rw [ht]; exact h.xo (fun _ _ => rfl)⟩, (S_mono hS (fun _ z => z.elim)).F ht⟩) (fun z9 h9 => (hS.2.2 z9 h9).elim) dX2_count_108)
  refine lv_tableOut (tgt := 109) hx hb dX2_count_1 (by have := lv_neT c_w0 (a := 0) (by decide) ; have := lv_neT c_w1 (a := 1) (by decide) ; have := lv_neT c_w2 (a := 2) (by decide) ; have := lv_neT c_w3 (a := 3) (by decide) ; have := lv_neT c_w4 (a := 4) (by decide) ; have := lv_neT c_w5 (a := 5) (by decide) ; have := lv_neT c_w6 (a := 6) (by decide) ; have := lv_neT c_w7 (a := 7) (by decide); omega) (by decide) ?_
  exact vx_throwS (cls := eA) (text := "no such what") (names := exN) (sa := sa 138) (A := nA) hx hb hl0 hown (by decide +kernel) exN_fit (hts _ lk_X2_count_Cond_classLink_RX2_46_eA) (hts _ lk_X2_count_Cond_initialized_eA) (hC.text (by decide +kernel)) (vx_hat (fun w hw => hts w (xw_X2_count_eA w hw)) exA_ng hC.all) (good2 exA_ot) (hC.ust nA_N) (hC.sup nA_N) hS (by rw [hml]; exact hl.1) dX2_count_109 dX2_count_112 dX2_count_113 dX2_count_115 dX2_count_118 (fun x9 h9 => (hxt x9 h9).elim) (by decide) (Nat.le_of_ble_eq_true rfl) (Nat.le_of_ble_eq_true rfl) (Nat.le_of_ble_eq_true rfl) hlocks (fun t hvm hz9 hk9 => ⟨(), trivial, ⟨⟨rfl, c_w0, c_w1, c_w2, c_w3, c_w4, c_w5, c_w6, c_w7⟩, h.xo hk9⟩, hz9, fun q hs _ => hk9 q hs⟩) (fun z9 h9 => (hS.2.2 z9 h9).elim) (Nat.le_of_ble_eq_true rfl) (Nat.le_of_ble_eq_true rfl)
/-- a row's sum -/
def sumF (f : Nat → Int64) : Nat → Int64
  | 0 => 7
  | n + 1 => 31 * sumF f n + f n
def sOf (re : Nat → RE) (o : Option Nat) : Int64 := match o with
  | none => 7
  | some r => sumF (re r).2.2.2 (re r).2.2.1
theorem iw_X2_sum_X1 : ∀ w ∈ wsX10, w ∈ wsX2_sum := by decide +kernel
theorem iw_X2_sum_X2 : ∀ w ∈ wsX20, w ∈ wsX2_sum := by decide +kernel
theorem lk_X2_sum_Cond_constantLong_RX2_140_7 : Cond.constantLong RX2 140 7 ∈ wsX2_sum := by decide +kernel
theorem lk_X2_sum_Cond_constantLong_RX2_142_31 : Cond.constantLong RX2 142 31 ∈ wsX2_sum := by decide +kernel
theorem lk_X2_sum_Cond_fieldLink_RX2_11_SpliceRoom_hooks_LSpliceRoom_Reel_ : Cond.fieldLink RX2 11 "SpliceRoom" "hooks" "[LSpliceRoom$Reel;" ∈ wsX2_sum := by decide +kernel
set_option maxHeartbeats 4000000 in
set_option maxRecDepth 100000 in
theorem c_X2_sum (l : Launch) {D : va_G} {cI cL cQ : ClassId} {N0 : Nat} {sa : Nat → Nat} {Hc : Heap} (hl0 : l.stackTraces = false) {x ah ak b0 b1 b2 b3 b4 : Nat} {F : Nat → Prop} {hk : Nat → Option Nat} {re : Nat → RE} {kn : Nat → Int32} {sh : Nat → Nat → Int32} {k : Int32} (h : RSB D cI cL cQ x ah ak b0 b1 b2 b3 b4 F (hk, re, kn, sh, k) Hc) (hNF : ∀ q, F q ∨ Hc.size ≤ q → N0 ≤ q) {h0 : Int32} : vx_Met l yX2_sum wsX2_sum ({ frames := 7, cells := 1, slots := 6, locals := 110 }) (Pq D cI cL cQ N0 sa [.ref x, .int h0] Hc) (va_Ql (fun (rr : Int64) (u : CS) => ∃ j1 : Nat, j1 < 6 ∧ h0 = nI j1 ∧ rr = sOf re (hk j1) ∧ u = (hk, re, kn, sh, k)) (fun u t => RSB D cI cL cQ x ah ak b0 b1 b2 b3 b4 (fun q => F q ∨ Hc.size ≤ q) u t.heap) (fun q => F q ∨ Hc.size ≤ q)) (vx_X (fun (_ : Unit) => True) (fun E _ t => (E = eA ∧ ¬ okH h0) ∧ RSB D cI cL cQ x ah ak b0 b1 b2 b3 b4 (fun q => F q ∨ Hc.size ≤ q) (hk, re, kn, sh, k) t.heap) (fun q => F q ∨ Hc.size ≤ q)) 1 6 (fun q => F q ∨ Hc.size ≤ q) := by
  refine vx_ofW (cc := cX2_sum) (maxL := 6) (ret := (some .long)) (by decide) rfl ?_
  intro p e s m args below meth c s₁ B hml hxt hv
  obtain ⟨rfl, hH, hC⟩ := hv
  have hx := B.exec
  have hb := B.bytes
  have hr := B.returns
  have hts := atoms_spec (ws := wsX2_sum) B.pre
  have hown : s.vm.findClass RX2 = some m.cls := findClass_of_methodNamed B.named
  have hlocks := B.notSynchronized
  subst hH
  have hK := hC.K
  have hl := lv_entry ([.ref x, .int h0]) (n := 6) (Nat.le_of_ble_eq_true rfl)
  rw [lg_entry_eq]
  generalize (lg_sl ([.ref x, .int h0]) ++ List.replicate (6 - (lg_sl ([.ref x, .int h0])).length) Slot.unset).toArray = ls at hl ⊢
  have hl : lv_has ls 6 [(0, .ref x), (1, .int h0)] := hl
  have hP : va_P D vwCl [(x, .inr (2, [.ref ah, .ref ak, .ref b0, .ref b1, .ref b2, .ref b3, .ref b4, .int k])), (ah, .inl (cQ, 6, .inr (.inr (.inr (.inr hk))))), (ak, .inr (0, [.int (kn 0), .int (kn 1), .int (kn 2), .int (kn 3), .int (kn 4), .int (kn 5), .int (kn 6)])), (b0, .inl (cI, 24, .inl (sh 0))), (b1, .inl (cI, 24, .inl (sh 1))), (b2, .inl (cI, 24, .inl (sh 2))), (b3, .inl (cI, 24, .inl (sh 3))), (b4, .inl (cI, 24, .inl (sh 4)))] s.heap := h.P8
  have hS : va_S nA s.heap s.heap [] := va_S.rf
  have hN : ∀ q, nA q → N0 ≤ q := nA_N
  refine lv_iload_n hx hb dX2_sum_0 rfl (lv_at hl 1 rfl) ?_
  refine rx_v (vx_runS (As := [.int h0]) (rest := []) ⟨hx, hb, hml, hown, hts⟩ (c_X2_requireHook l hl0 (h0 := h0)) (va_cwS 1 hts gX2_sum_X2_requireHook rfl rfl rfl (by decide +kernel) ⟨Nat.le_of_ble_eq_true rfl, Nat.le_of_ble_eq_true rfl⟩) (Pq.S hC hS hN) rfl rfl hl.1 rfl (lv_room (Nat.le_of_ble_eq_true rfl)) dX2_sum_1 ⟨Nat.le_of_ble_eq_true rfl, Nat.le_of_ble_eq_true rfl⟩) hS (fun ce q9 H9 locs hx9 hz9 hk9 hS hcell hv9 hcl => ?_) (fun locs hw hS => ?_)
  · have hx9 : ¬ okH h0 := hx9
    refine vx_widen (k := 1) (n := 6) (by omega) (by omega) ?_
    exact vx_out (fun x9 h9 => (hxt x9 h9).elim) hlocks hcell hv9 hcl (fun t ht hvm => ⟨(), trivial, ⟨⟨rfl, hx9⟩, by rw [ht]; exact h.xo hk9⟩, by rw [ht]; exact hz9, fun q hs _ => by rw [ht]; exact hk9 q hs⟩) (fun z9 h9 => (hS.2.2 z9 h9).elim) (Nat.le_refl _) (Nat.le_refl _)
  · have hw : okH h0 := hw
    obtain ⟨j, hj, rfl⟩ := hw
    refine lv_aload_n hx hb dX2_sum_4 rfl (lv_at hl 0 rfl) ?_
    refine va_get (D := D) (ci := 2) (v := .ref ah) (C := RX2) (T := TX2) (N := 8) hx hb hts iw_X2_sum_X2 hown hK hP 0 rfl rfl 0 (by decide) (hts _ lk_X2_sum_Cond_fieldLink_RX2_11_SpliceRoom_hooks_LSpliceRoom_Reel_) (fun _ h9 => h9) rfl dX2_sum_5 ?_
    refine lv_iload_n hx hb dX2_sum_8 rfl (lv_at hl 1 rfl) ?_
    refine va_aldq (D := D) hx hb hK hP 1 2 rfl rfl (vp_in_nI hj (by decide)) dX2_sum_9 ?_
    refine W.eq (g2 := F0 m 10 ls (va_rf (hk j) :: [])) (by rw [nI_clamp (by omega)]) ?_
    cases eh : hk j with
    | none =>
      refine lv_astore_nN (lv' := [(2, .null), (0, .ref x), (1, .int (nI j))]) hx hb dX2_sum_10 rfl hl (by decide) rfl (fun ls hl => ?_)
      refine lv_ldc2 (v := 7) hx hb hown (hts _ lk_X2_sum_Cond_constantLong_RX2_140_7) dX2_sum_11 ?_
      refine lv_lstore_n (lv' := [(3, .long 7), (2, .null), (0, .ref x), (1, .int (nI j))]) hx hb dX2_sum_14 rfl hl (by decide) rfl (fun ls hl => ?_)
      refine lv_aload_nN hx hb dX2_sum_15 rfl (lv_at hl 1 rfl) ?_
      refine lv_ifnullN (tgt := 52) hx hb dX2_sum_16 (by decide) ?_
      refine lv_lload_n hx hb dX2_sum_52 rfl (lv_at hl 0 rfl) ?_
      exact vx_ret (W.lret (v := 7) hx hb hr (fun t ht hW => ⟨⟨_, (hk, re, kn, sh, k), rfl, ⟨j, hj, rfl, by rw [eh]; rfl, rfl⟩, by dsimp only; rw [ht]; exact h.xo (fun _ _ => rfl)⟩, (S_mono hS (fun _ z => z.elim)).F ht⟩) (fun z9 h9 => (hS.2.2 z9 h9).elim) dX2_sum_53)
    | some r =>
      have lr : Live hk r := ⟨j, hj, eh⟩
      have hP : va_P D vwCl [(x, .inr (2, [.ref ah, .ref ak, .ref b0, .ref b1, .ref b2, .ref b3, .ref b4, .int k])), (ah, .inl (cQ, 6, .inr (.inr (.inr (.inr hk))))), (ak, .inr (0, [.int (kn 0), .int (kn 1), .int (kn 2), .int (kn 3), .int (kn 4), .int (kn 5), .int (kn 6)])), (b0, .inl (cI, 24, .inl (sh 0))), (b1, .inl (cI, 24, .inl (sh 1))), (b2, .inl (cI, 24, .inl (sh 2))), (b3, .inl (cI, 24, .inl (sh 3))), (b4, .inl (cI, 24, .inl (sh 4))), (r, .inr (1, [.int ((re r).1), .ref ((re r).2.1)])), ((re r).2.1, .inl (cL, (re r).2.2.1, .inr (.inl ((re r).2.2.2))))] s.heap := h.P10 lr
      have hzr : (re r).2.2.1 ≤ 40 := (h.2.2.2 r lr).2.2.2.1
      refine lv_astore_n (lv' := [(2, .ref r), (0, .ref x), (1, .int (nI j))]) hx hb dX2_sum_10 rfl hl (by decide) rfl (fun ls hl => ?_)
      refine lv_ldc2 (v := 7) hx hb hown (hts _ lk_X2_sum_Cond_constantLong_RX2_140_7) dX2_sum_11 ?_
      refine lv_lstore_n (lv' := [(3, .long 7), (2, .ref r), (0, .ref x), (1, .int (nI j))]) hx hb dX2_sum_14 rfl hl (by decide) rfl (fun ls hl => ?_)
      refine lv_aload_n hx hb dX2_sum_15 rfl (lv_at hl 1 rfl) ?_
      refine lv_ifnull hx hb dX2_sum_16 ?_
      refine lv_iconst (v := 0) hx hb dX2_sum_19 (by decide) ?_
      refine lv_istore (lv' := [(5, .int 0), (3, .long 7), (2, .ref r), (0, .ref x), (1, .int (nI j))]) hx hb dX2_sum_20 hl (by decide) rfl (fun ls hl => ?_)
      have loop : ∀ (n i : Nat) (locs : List Loc) (ls : Array Slot), i ≤ (re r).2.2.1 → (re r).2.2.1 + 1 ≤ i + n → lv_has ls 6 [(5, .int (nI i)), (3, .long (sumF (re r).2.2.2 i)), (2, .ref r), (0, .ref x), (1, .int (nI j))] → va_S nA s.heap s.heap locs → W p l e (headSpec wsX2_sum ({ frames := 7, cells := 1, slots := 6, locals := 110 })).room s m ([.ref x, .int (nI j)] : List Value).toArray below meth c s.heap locs 1 6 (vx_MQ below (va_Ql (fun (rr : Int64) (u : CS) => ∃ j1 : Nat, j1 < 6 ∧ (nI j) = nI j1 ∧ rr = sOf re (hk j1) ∧ u = (hk, re, kn, sh, k)) (fun u t => RSB D cI cL cQ x ah ak b0 b1 b2 b3 b4 (fun q => F q ∨ s.heap.size ≤ q) u t.heap) (fun q => F q ∨ s.heap.size ≤ q)) (vx_X (fun (_ : Unit) => True) (fun E _ t => (E = eA ∧ ¬ okH (nI j)) ∧ RSB D cI cL cQ x ah ak b0 b1 b2 b3 b4 (fun q => F q ∨ s.heap.size ≤ q) (hk, re, kn, sh, k) t.heap) (fun q => F q ∨ s.heap.size ≤ q)) ([.ref x, .int (nI j)] : List Value).toArray s 1 6 (fun q => F q ∨ s.heap.size ≤ q)) (F0 m 22 ls []) := by
        intro n
        induction n with
        | zero => intro i locs ls h1 h2; exact absurd h2 (by omega)
        | succ n ih =>
          intro i locs ls hi hn hl hS
          refine lv_iload hx hb dX2_sum_22 (lv_at hl 0 rfl) ?_
          refine lv_aload_n hx hb dX2_sum_24 rfl (lv_at hl 2 rfl) ?_
          refine va_getN (D := D) (ci := 1) (v := .ref ((re r).2.1)) (C := RX1) (T := TX1) (N := 2) hx hb hts iw_X2_sum_X1 hown hK hP 8 rfl rfl 1 (by decide) (hC.nest (a := RX2) (i := 70) (b := "SpliceRoom$Reel") (n := "row") (d := "[J") (hh := "SpliceRoom") (by decide +kernel)) (fun _ h9 => h9) rfl dX2_sum_25 ?_
          refine va_alen (D := D) (v := nI ((re r).2.2.1)) hx hb hK hP 9 1 rfl rfl rfl dX2_sum_28 ?_
          refine lv_icmp_ge (tgt := 52) hx hb dX2_sum_29 (by decide) (fun c_29 => ?_) (fun c_29 => ?_)
          · have e6 : i = (re r).2.2.1 := by have := (nI_leI (a := (re r).2.2.1) (b := i) (by omega) (by omega)).mp c_29; omega
            subst e6
            refine lv_lload_n hx hb dX2_sum_52 rfl (lv_at hl 1 rfl) ?_
            exact vx_ret (W.lret (v := sumF (re r).2.2.2 ((re r).2.2.1)) hx hb hr (fun t ht hW => ⟨⟨_, (hk, re, kn, sh, k), rfl, ⟨j, hj, rfl, by rw [eh]; rfl, rfl⟩, by dsimp only; rw [ht]; exact h.xo (fun _ _ => rfl)⟩, (S_mono hS (fun _ z => z.elim)).F ht⟩) (fun z9 h9 => (hS.2.2 z9 h9).elim) dX2_sum_53)
          · have hlt : i < (re r).2.2.1 := Nat.lt_of_not_le (fun h => c_29 (nI_le h (by omega)))
            refine lv_ldc2 (v := 31) hx hb hown (hts _ lk_X2_sum_Cond_constantLong_RX2_142_31) dX2_sum_32 ?_
            refine lv_lload_n hx hb dX2_sum_35 rfl (lv_at hl 1 rfl) ?_
            refine lv_lmul hx hb dX2_sum_36 ?_
            refine lv_aload_n hx hb dX2_sum_37 rfl (lv_at hl 2 rfl) ?_
            refine va_getN (D := D) (ci := 1) (v := .ref ((re r).2.1)) (C := RX1) (T := TX1) (N := 2) hx hb hts iw_X2_sum_X1 hown hK hP 8 rfl rfl 1 (by decide) (hC.nest (a := RX2) (i := 70) (b := "SpliceRoom$Reel") (n := "row") (d := "[J") (hh := "SpliceRoom") (by decide +kernel)) (fun _ h9 => h9) rfl dX2_sum_38 ?_
            refine lv_iload hx hb dX2_sum_41 (lv_at hl 0 rfl) ?_
            refine va_lald (D := D) hx hb hK hP 9 1 rfl rfl (vp_in_nI hlt (by omega)) dX2_sum_43 ?_
            refine lv_topl (fun y_1 e9 => ?_)
            have e9 : y_1 = (re r).2.2.2 i := e9.trans (by rw [nI_clamp (by omega)])
            subst e9
            refine lv_ladd hx hb dX2_sum_44 ?_
            refine lv_lstore_n (lv' := [(3, .long ((31 * (sumF (re r).2.2.2 i)) + ((re r).2.2.2 i))), (5, .int (nI i)), (2, .ref r), (0, .ref x), (1, .int (nI j))]) hx hb dX2_sum_45 rfl hl (by decide) rfl (fun ls hl => ?_)
            refine lv_iinc (v := nI (i + 1)) (lv' := [(5, .int (nI (i + 1))), (3, .long ((31 * (sumF (re r).2.2.2 i)) + ((re r).2.2.2 i))), (2, .ref r), (0, .ref x), (1, .int (nI j))]) hx hb dX2_sum_46 hl (k := 1) rfl (nI_1 i) (by decide) rfl (fun ls hl => ?_)
            refine lv_goto (tgt := 22) hx hb dX2_sum_49 (by decide) ?_
            exact ih (i + 1) _ _ (by omega) (by omega) (lv_sub hl [0, 1, 2, 3, 4] rfl) hS
      exact loop ((re r).2.2.1 + 1) 0 _ _ (by omega) (by omega) (lv_sub hl [0, 1, 2, 3, 4] rfl) hS
end CRead
end
section
section CAux
section L
variable {D : va_G} {cI cL cQ : ClassId} {x ah ak b0 b1 b2 b3 b4 : Nat} {F : Nat → Prop} {hk : Nat → Option Nat} {re : Nat → RE} {kn : Nat → Int32} {sh : Nat → Nat → Int32} {k : Int32} {H : Heap}
theorem RSB.nA8 (h : RSB D cI cL cQ x ah ak b0 b1 b2 b3 b4 F (hk, re, kn, sh, k) H) {r' : Nat} (lr' : Live hk r') : ¬ va_A (w8 cI cQ x ah ak b0 b1 b2 b3 b4 hk kn sh k) H.size r' ∧ ¬ va_A (w8 cI cQ x ah ak b0 b1 b2 b3 b4 hk kn sh k) H.size (re r').2.1 := by
  obtain ⟨h1, -, h3, -, -⟩ := h.2.2.2 r' lr'
  exact ⟨out1 (h1 0 _ rfl).lt h3.1, out1 (h1 1 _ rfl).lt h3.2⟩
theorem RSB.nA10 (h : RSB D cI cL cQ x ah ak b0 b1 b2 b3 b4 F (hk, re, kn, sh, k) H) {r r' : Nat} (lr : Live hk r) (lr' : Live hk r') (hne : r' ≠ r) : ¬ va_A (w8 cI cQ x ah ak b0 b1 b2 b3 b4 hk kn sh k ++ reW cL re r) H.size r' ∧ ¬ va_A (w8 cI cQ x ah ak b0 b1 b2 b3 b4 hk kn sh k ++ reW cL re r) H.size (re r').2.1 := by
  obtain ⟨h1, -, h3, -, h5⟩ := h.2.2.2 r' lr'
  obtain ⟨-, -, -, -, h6⟩ := h.2.2.2 r lr
  refine ⟨out1 (h1 0 _ rfl).lt (fun z => ?_), out1 (h1 1 _ rfl).lt (fun z => ?_)⟩
  · rw [List.map_append] at z
    rcases List.mem_append.mp z with z | z
    · exact h3.1 z
    · simp only [List.map_cons, List.map_nil, List.mem_cons, List.not_mem_nil, or_false] at z
      exact z.elim hne (h5 r lr).1
  · rw [List.map_append] at z
    rcases List.mem_append.mp z with z | z
    · exact h3.2 z
    · simp only [List.map_cons, List.map_nil, List.mem_cons, List.not_mem_nil, or_false] at z
      exact z.elim (fun e => (h6 r' lr').1 e.symm) (fun e => hne ((h5 r lr).2 e))
/-- the room's own cells are new -/
theorem RSB.put8g (h : RSB D cI cL cQ x ah ak b0 b1 b2 b3 b4 F (hk, re, kn, sh, k) H) {H1 : Heap} {hk' : Nat → Option Nat} {kn' : Nat → Int32} {sh' : Nat → Nat → Int32} {k' : Int32} (hP : va_P D vwCl (w8 cI cQ x ah ak b0 b1 b2 b3 b4 hk' kn' sh' k') H1) (hl : ∀ r, Live hk' r → Live hk r)
    (hq : ∀ r, Live hk' r → va_P D vwCl (reW cL re r) H1) : RSB D cI cL cQ x ah ak b0 b1 b2 b3 b4 (fun q => F q ∨ H.size ≤ q) (hk', re, kn', sh', k') H1 := by
  refine ⟨hP, fun q hm => Or.inl (h.2.1 q hm), h.2.2.1, fun r hr => ?_⟩
  obtain ⟨h1, h2, h3, h4, h5⟩ := h.2.2.2 r (hl r hr)
  exact ⟨hq r hr, ⟨Or.inl h2.1, Or.inl h2.2⟩, h3, h4, fun r' hr' => h5 r' (hl r' hr')⟩
theorem RSB.end8 (h : RSB D cI cL cQ x ah ak b0 b1 b2 b3 b4 F (hk, re, kn, sh, k) H) {H1 : Heap} {hk' : Nat → Option Nat} {kn' : Nat → Int32} {sh' : Nat → Nat → Int32} {k' : Int32} (hP : va_P D vwCl (w8 cI cQ x ah ak b0 b1 b2 b3 b4 hk' kn' sh' k') H1) (hl : ∀ r, Live hk' r → Live hk r)
    (hq : ∀ q : Nat, q < H.size → ¬ va_A (w8 cI cQ x ah ak b0 b1 b2 b3 b4 hk kn sh k) H.size q → H1[q]? = H[q]?) : RSB D cI cL cQ x ah ak b0 b1 b2 b3 b4 (fun q => F q ∨ H.size ≤ q) (hk', re, kn', sh', k') H1 :=
  h.put8g hP hl (fun r hr => h.keepR (hl r hr) hq (h.nA8 (hl r hr)).1 (h.nA8 (hl r hr)).2)
theorem RSB.end10 (h : RSB D cI cL cQ x ah ak b0 b1 b2 b3 b4 F (hk, re, kn, sh, k) H) {H1 : Heap} {r : Nat} (lr : Live hk r) {hk' : Nat → Option Nat} {kn' : Nat → Int32} {sh' : Nat → Nat → Int32} {k' : Int32} (hP : va_P D vwCl (w8 cI cQ x ah ak b0 b1 b2 b3 b4 hk' kn' sh' k' ++ reW cL re r) H1) (hl : ∀ r, Live hk' r → Live hk r)
    (hq : ∀ q : Nat, q < H.size → ¬ va_A (w8 cI cQ x ah ak b0 b1 b2 b3 b4 hk kn sh k ++ reW cL re r) H.size q → H1[q]? = H[q]?) : RSB D cI cL cQ x ah ak b0 b1 b2 b3 b4 (fun q => F q ∨ H.size ≤ q) (hk', re, kn', sh', k') H1 := by
  refine h.put8g (hP.sub [0, 1, 2, 3, 4, 5, 6, 7] rfl) hl (fun r' hr' => ?_)
  by_cases e : r' = r
  · subst e; exact hP.sub [8, 9] rfl
  · exact h.keepR (hl r' hr') hq (h.nA10 lr (hl r' hr') e).1 (h.nA10 lr (hl r' hr') e).2
/-- one frame, or all, of a reel is new -/
theorem RSB.endM (h : RSB D cI cL cQ x ah ak b0 b1 b2 b3 b4 F (hk, re, kn, sh, k) H) {H1 : Heap} {r : Nat} (lr : Live hk r) {f : Nat → Int64} (hP : va_P D vwCl (w8 cI cQ x ah ak b0 b1 b2 b3 b4 hk kn sh k ++ [(r, .inr (1, [.int (re r).1, .ref (re r).2.1])), ((re r).2.1, .inl (cL, (re r).2.2.1, .inr (.inl f)))]) H1)
    (hq : ∀ q : Nat, q < H.size → ¬ va_A (w8 cI cQ x ah ak b0 b1 b2 b3 b4 hk kn sh k ++ reW cL re r) H.size q → H1[q]? = H[q]?) : RSB D cI cL cQ x ah ak b0 b1 b2 b3 b4 (fun q => F q ∨ H.size ≤ q) (hk, va_up re r ((re r).1, (re r).2.1, (re r).2.2.1, f), kn, sh, k) H1 := by
  refine (h.putR (hP.sub [0, 1, 2, 3, 4, 5, 6, 7] rfl) ?_ (fun r' hr' e => h.keepR hr' hq (h.nA10 lr hr' e).1 (h.nA10 lr hr' e).2)).mono (fun _ z => Or.inl z)
  simp only [reW, va_up_self]
  exact hP.sub [8, 9] rfl
/-- what came new lies beyond the old heap -/
theorem D_new {ws ws2 : va_W} {sz : Nat} (hD : va_D (va_A ws sz) ws2) (hpre : (ws2.map (·.1)).take ws.length = ws.map (·.1)) {j q : Nat} {e : va_E} (hj : ws2[j]? = some (q, e)) (hn : ws.length ≤ j) : sz ≤ q := by
  rcases hD.2 j _ hj with ⟨i, e', hi⟩ | h
  · exfalso
    have hl : i < ws.length := (List.getElem?_eq_some_iff.mp hi).1
    have h1 : (ws.map (·.1))[i]? = some q := by rw [List.getElem?_map, hi]; rfl
    rw [← hpre, List.getElem?_take_of_lt hl, List.getElem?_map] at h1
    cases h2 : ws2[i]? with
    | none => rw [h2] at h1; cases h1
    | some z =>
      rw [h2] at h1
      have e1 : z.1 = q := Option.some.inj h1
      have := hD.1 i j z _ h2 hj e1
      omega
  · exact h
theorem RSB.putNg (h : RSB D cI cL cQ x ah ak b0 b1 b2 b3 b4 F (hk, re, kn, sh, k) H) {H1 : Heap} {j r w z : Nat} {kd : Int32} {f : Nat → Int64} (hP : va_P D vwCl (w8 cI cQ x ah ak b0 b1 b2 b3 b4 (va_up hk j (some r)) kn sh k) H1)
    (hPr : va_P D vwCl [(r, .inr (1, [.int kd, .ref w])), (w, .inl (cL, z, .inr (.inl f)))] H1) (hrs : H.size ≤ r) (hws : H.size ≤ w) (hrw : r ≠ w) (hz : z ≤ 40) (hq : ∀ r', Live hk r' → va_P D vwCl (reW cL re r') H1) :
    RSB D cI cL cQ x ah ak b0 b1 b2 b3 b4 (fun q => F q ∨ H.size ≤ q) (va_up hk j (some r), va_up re r (kd, w, z, f), kn, sh, k) H1 := by
  have hfix : ∀ q, H.size ≤ q → q ∉ [x, ah, ak, b0, b1, b2, b3, b4] := by
    intro q hq hm
    obtain ⟨i, hi⟩ := List.mem_iff_getElem?.mp hm
    have hi8 : ((w8 cI cQ x ah ak b0 b1 b2 b3 b4 hk kn sh k).map (·.1))[i]? = some q := hi
    rw [List.getElem?_map] at hi8
    cases hc : (w8 cI cQ x ah ak b0 b1 b2 b3 b4 hk kn sh k)[i]? with
    | none => rw [hc] at hi8; cases hi8
    | some c =>
      rw [hc] at hi8
      have e1 : c.1 = q := Option.some.inj hi8
      have := (h.1 i c hc).lt
      omega
  have hold : ∀ r', Live (va_up hk j (some r)) r' → r' = r ∨ (r' ≠ r ∧ Live hk r') := by
    rintro r' ⟨i, hi, he⟩
    by_cases e : r' = r
    · exact Or.inl e
    · refine Or.inr ⟨e, i, hi, ?_⟩
      by_cases ei : i = j
      · rw [ei, va_up_self] at he; exact absurd (Option.some.inj he).symm e
      · rw [va_up_ne _ _ ei] at he; exact he
  have hlt : ∀ r', Live hk r' → r' < H.size ∧ (re r').2.1 < H.size := fun r' hr' => ⟨((h.2.2.2 r' hr').1 0 _ rfl).lt, ((h.2.2.2 r' hr').1 1 _ rfl).lt⟩
  have hnew : va_up re r (kd, w, z, f) r = (kd, w, z, f) := va_up_self _ _ _
  have hne : ∀ r', r' ≠ r → va_up re r (kd, w, z, f) r' = re r' := fun r' e => va_up_ne _ _ e
  refine ⟨hP, fun q hm => Or.inl (h.2.1 q hm), h.2.2.1, fun r' hr' => ?_⟩
  rcases hold r' hr' with rfl | ⟨e, hl⟩
  · refine ⟨?_, ⟨Or.inr hrs, ?_⟩, ⟨hfix _ hrs, ?_⟩, ?_, fun r2 hr2 => ?_⟩
    · show va_P D vwCl (reW cL (va_up re r' (kd, w, z, f)) r') H1
      simp only [reW, hnew]; exact hPr
    · show F _ ∨ H.size ≤ (va_up re r' (kd, w, z, f) r').2.1; rw [hnew]; exact Or.inr hws
    · show (va_up re r' (kd, w, z, f) r').2.1 ∉ _; rw [hnew]; exact hfix _ hws
    · show (va_up re r' (kd, w, z, f) r').2.2.1 ≤ 40; rw [hnew]; exact hz
    · show r' ≠ (va_up re r' (kd, w, z, f) r2).2.1 ∧ ((va_up re r' (kd, w, z, f) r').2.1 = (va_up re r' (kd, w, z, f) r2).2.1 → r' = r2)
      rcases hold r2 hr2 with rfl | ⟨e2, hl2⟩
      · rw [hnew]; exact ⟨hrw, fun _ => rfl⟩
      · rw [hnew, hne r2 e2]
        have := (hlt r2 hl2).2
        exact ⟨by omega, fun z => absurd z (by show ¬ w = _; omega)⟩
  · obtain ⟨h1, h2, h3, h4, h5⟩ := h.2.2.2 r' hl
    have hl1 := hlt r' hl
    refine ⟨?_, ⟨Or.inl h2.1, ?_⟩, ⟨h3.1, ?_⟩, ?_, fun r2 hr2 => ?_⟩
    · show va_P D vwCl (reW cL (va_up re r (kd, w, z, f)) r') H1
      simp only [reW, hne r' e]
      exact hq r' hl
    · show F (va_up re r (kd, w, z, f) r').2.1 ∨ _; rw [hne r' e]; exact Or.inl h2.2
    · show (va_up re r (kd, w, z, f) r').2.1 ∉ _; rw [hne r' e]; exact h3.2
    · show (va_up re r (kd, w, z, f) r').2.2.1 ≤ 40; rw [hne r' e]; exact h4
    · show r' ≠ (va_up re r (kd, w, z, f) r2).2.1 ∧ ((va_up re r (kd, w, z, f) r').2.1 = (va_up re r (kd, w, z, f) r2).2.1 → r' = r2)
      rcases hold r2 hr2 with rfl | ⟨e2, hl2⟩
      · rw [hnew, hne r' e]
        exact ⟨by show r' ≠ w; omega, fun z => absurd z (by show ¬ _ = w; omega)⟩
      · rw [hne r' e, hne r2 e2]; exact h5 r2 hl2
theorem Live_up {hk : Nat → Option Nat} {j : Nat} {o : Option Nat} (ho : ∀ r, o = some r → Live hk r) : ∀ r, Live (va_up hk j o) r → Live hk r := by
  rintro r ⟨i, hi, he⟩
  by_cases ei : i = j
  · rw [ei, va_up_self] at he; exact ho r he
  · rw [va_up_ne _ _ ei] at he; exact ⟨i, hi, he⟩
end L
end CAux
end
section
section CWrite
theorem iw_X2_sweep_X2 : ∀ w ∈ wsX20, w ∈ wsX2_sweep := by decide +kernel
theorem lk_X2_sweep_Cond_fieldLink_RX2_38_SpliceRoom_steps_I_ : Cond.fieldLink RX2 38 "SpliceRoom" "steps" "I" ∈ wsX2_sweep := by decide +kernel
set_option maxHeartbeats 4000000 in
set_option maxRecDepth 100000 in
theorem c_X2_sweep (l : Launch) {D : va_G} {cI cL cQ : ClassId} {N0 : Nat} {sa : Nat → Nat} {Hc : Heap} (hl0 : l.stackTraces = false) {x ah ak b0 b1 b2 b3 b4 : Nat} {F : Nat → Prop} {hk : Nat → Option Nat} {re : Nat → RE} {kn : Nat → Int32} {sh : Nat → Nat → Int32} {k : Int32} (h : RSB D cI cL cQ x ah ak b0 b1 b2 b3 b4 F (hk, re, kn, sh, k) Hc) (hNF : ∀ q, F q ∨ Hc.size ≤ q → N0 ≤ q)  : vx_Met l yX2_sweep wsX2_sweep ({ frames := 0, cells := 0, slots := 0, locals := 0 }) (Pq D cI cL cQ N0 sa [.ref x] Hc) (va_Qi (fun (rr : Int32) (u : CS) => rr = k ∧ u = (hk, re, kn, sh, 0)) (fun u t => RSB D cI cL cQ x ah ak b0 b1 b2 b3 b4 (fun q => F q ∨ Hc.size ≤ q) u t.heap) (fun q => F q ∨ Hc.size ≤ q)) (vx_X (fun (_ : Unit) => True) (fun E _ t => (False) ∧ RSB D cI cL cQ x ah ak b0 b1 b2 b3 b4 (fun q => F q ∨ Hc.size ≤ q) (hk, re, kn, sh, k) t.heap) (fun q => F q ∨ Hc.size ≤ q)) 0 0 (fun q => F q ∨ Hc.size ≤ q) := by
  refine vx_ofW (cc := cX2_sweep) (maxL := 2) (ret := (some .int)) (by decide) rfl ?_
  intro p e s m args below meth c s₁ B hml hxt hv
  obtain ⟨rfl, hH, hC⟩ := hv
  have hx := B.exec
  have hb := B.bytes
  have hr := B.returns
  have hts := atoms_spec (ws := wsX2_sweep) B.pre
  have hown : s.vm.findClass RX2 = some m.cls := findClass_of_methodNamed B.named
  have hlocks := B.notSynchronized
  subst hH
  have hK := hC.K
  have hl := lv_entry ([.ref x]) (n := 2) (Nat.le_of_ble_eq_true rfl)
  rw [lg_entry_eq]
  generalize (lg_sl ([.ref x]) ++ List.replicate (2 - (lg_sl ([.ref x])).length) Slot.unset).toArray = ls at hl ⊢
  have hl : lv_has ls 2 [(0, .ref x)] := hl
  have hP : va_P D vwCl [(x, .inr (2, [.ref ah, .ref ak, .ref b0, .ref b1, .ref b2, .ref b3, .ref b4, .int k])), (ah, .inl (cQ, 6, .inr (.inr (.inr (.inr hk))))), (ak, .inr (0, [.int (kn 0), .int (kn 1), .int (kn 2), .int (kn 3), .int (kn 4), .int (kn 5), .int (kn 6)])), (b0, .inl (cI, 24, .inl (sh 0))), (b1, .inl (cI, 24, .inl (sh 1))), (b2, .inl (cI, 24, .inl (sh 2))), (b3, .inl (cI, 24, .inl (sh 3))), (b4, .inl (cI, 24, .inl (sh 4)))] s.heap := h.P8
  have hS : va_S nA s.heap s.heap [] := va_S.rf
  have hN : ∀ q, nA q → N0 ≤ q := nA_N
  have hxt0 := hxt
  obtain ⟨locs, hlo⟩ : ∃ z : List Loc, z = [] := ⟨_, rfl⟩
  rw [← hlo] at hS ⊢
  obtain ⟨A, hAe⟩ : ∃ A : Nat → Prop, A = va_A [(x, .inr (2, [.ref ah, .ref ak, .ref b0, .ref b1, .ref b2, .ref b3, .ref b4, .int k])), (ah, .inl (cQ, 6, .inr (.inr (.inr (.inr hk))))), (ak, .inr (0, [.int (kn 0), .int (kn 1), .int (kn 2), .int (kn 3), .int (kn 4), .int (kn 5), .int (kn 6)])), (b0, .inl (cI, 24, .inl (sh 0))), (b1, .inl (cI, 24, .inl (sh 1))), (b2, .inl (cI, 24, .inl (sh 2))), (b3, .inl (cI, 24, .inl (sh 3))), (b4, .inl (cI, 24, .inl (sh 4)))] s.heap.size := ⟨_, rfl⟩
  have hP : va_P D vwCl [(x, .inr (2, [.ref ah, .ref ak, .ref b0, .ref b1, .ref b2, .ref b3, .ref b4, .int k])), (ah, .inl (cQ, 6, .inr (.inr (.inr (.inr hk))))), (ak, .inr (0, [.int (kn 0), .int (kn 1), .int (kn 2), .int (kn 3), .int (kn 4), .int (kn 5), .int (kn 6)])), (b0, .inl (cI, 24, .inl (sh 0))), (b1, .inl (cI, 24, .inl (sh 1))), (b2, .inl (cI, 24, .inl (sh 2))), (b3, .inl (cI, 24, .inl (sh 3))), (b4, .inl (cI, 24, .inl (sh 4)))] s.heap := h.P8
  have hD : va_D A [(x, .inr (2, [.ref ah, .ref ak, .ref b0, .ref b1, .ref b2, .ref b3, .ref b4, .int k])), (ah, .inl (cQ, 6, .inr (.inr (.inr (.inr hk))))), (ak, .inr (0, [.int (kn 0), .int (kn 1), .int (kn 2), .int (kn 3), .int (kn 4), .int (kn 5), .int (kn 6)])), (b0, .inl (cI, 24, .inl (sh 0))), (b1, .inl (cI, 24, .inl (sh 1))), (b2, .inl (cI, 24, .inl (sh 2))), (b3, .inl (cI, 24, .inl (sh 3))), (b4, .inl (cI, 24, .inl (sh 4)))] := by rw [hAe]; exact (h.D8).self
  have hA : ∀ q, s.heap.size ≤ q → A q := fun q z => by rw [hAe]; exact Or.inr z
  have hFA : ∀ q, A q → F q ∨ s.heap.size ≤ q := fun q z => h.in8 (hAe ▸ z)
  have hN : ∀ q, A q → N0 ≤ q := fun q z => hNF q (hFA q z)
  have hS : va_S A s.heap s.heap locs := S_mono hS (fun _ z => z.elim)
  refine lv_aload_n hx hb dX2_sweep_0 rfl (lv_at hl 0 rfl) ?_
  refine va_get (D := D) (ci := 2) (v := .int k) (C := RX2) (T := TX2) (N := 8) hx hb hts iw_X2_sweep_X2 hown hK hP 0 rfl rfl 7 (by decide) (hts _ lk_X2_sweep_Cond_fieldLink_RX2_38_SpliceRoom_steps_I_) (fun _ h9 => h9) rfl dX2_sweep_1 ?_
  refine lv_istore_n (lv' := [(1, .int k), (0, .ref x)]) hx hb dX2_sweep_4 rfl hl (by decide) rfl (fun ls hl => ?_)
  refine lv_aload_n hx hb dX2_sweep_5 rfl (lv_at hl 1 rfl) ?_
  refine lv_iconst (v := 0) hx hb dX2_sweep_6 (by decide) ?_
  refine va_put (D := D) (ci := 2) (v := .int 0) (ty := .int) (C := RX2) (T := TX2) (N := 8) hx hb hts iw_X2_sweep_X2 tyX2 tyX2_ok nmX2 hown hK hP hD hS 0 rfl rfl 7 (by decide) (hts _ lk_X2_sweep_Cond_fieldLink_RX2_38_SpliceRoom_steps_I_) (fun _ h9 => h9) rfl (by decide +kernel) rfl rfl (Nat.le_of_ble_eq_true rfl) dX2_sweep_7 (fun H locs hP hD hS => ?_)
  have hP : va_P D vwCl [(x, .inr (2, [.ref ah, .ref ak, .ref b0, .ref b1, .ref b2, .ref b3, .ref b4, .int 0])), (ah, .inl (cQ, 6, .inr (.inr (.inr (.inr hk))))), (ak, .inr (0, [.int (kn 0), .int (kn 1), .int (kn 2), .int (kn 3), .int (kn 4), .int (kn 5), .int (kn 6)])), (b0, .inl (cI, 24, .inl (sh 0))), (b1, .inl (cI, 24, .inl (sh 1))), (b2, .inl (cI, 24, .inl (sh 2))), (b3, .inl (cI, 24, .inl (sh 3))), (b4, .inl (cI, 24, .inl (sh 4)))] H := hP
  have hD : va_D A [(x, .inr (2, [.ref ah, .ref ak, .ref b0, .ref b1, .ref b2, .ref b3, .ref b4, .int 0])), (ah, .inl (cQ, 6, .inr (.inr (.inr (.inr hk))))), (ak, .inr (0, [.int (kn 0), .int (kn 1), .int (kn 2), .int (kn 3), .int (kn 4), .int (kn 5), .int (kn 6)])), (b0, .inl (cI, 24, .inl (sh 0))), (b1, .inl (cI, 24, .inl (sh 1))), (b2, .inl (cI, 24, .inl (sh 2))), (b3, .inl (cI, 24, .inl (sh 3))), (b4, .inl (cI, 24, .inl (sh 4)))] := hD
  refine lv_iload_n hx hb dX2_sweep_10 rfl (lv_at hl 0 rfl) ?_
  exact vx_ret (W.iret (v := k) hx hb hr (fun t ht hW => ⟨⟨_, (hk, re, kn, sh, 0), rfl, ⟨rfl, rfl⟩, by dsimp only; rw [ht]; exact h.end8 hP (fun _ z => z) (fun q hs hn => hS.2.1 q hs (by rw [hAe]; exact hn))⟩, (S_mono hS hFA).F ht⟩) (fun z9 h9 => hFA _ (hS.2.2 z9 h9)) dX2_sweep_11)
/-- the knife behind a grinding -/
def knGr (kn : Nat → Int32) : Nat → Int32 := fun i => match i with
  | 3 => 0
  | 6 => kn 6 + 1
  | i => kn i
theorem xw_X2_grind_eS : ∀ w ∈ (vx_atS RX2 69 eS exN).filter goodWord, w ∈ wsX2_grind := by decide +kernel
theorem iw_X2_grind_X0 : ∀ w ∈ wsX00, w ∈ wsX2_grind := by decide +kernel
theorem iw_X2_grind_X2 : ∀ w ∈ wsX20, w ∈ wsX2_grind := by decide +kernel
theorem lk_X2_grind_Cond_classLink_RX2_65_eS : Cond.classLink RX2 65 eS ∈ wsX2_grind := by decide +kernel
theorem lk_X2_grind_Cond_fieldLink_RX2_18_SpliceRoom_knife_LSpliceRoom_Knife_ : Cond.fieldLink RX2 18 "SpliceRoom" "knife" "LSpliceRoom$Knife;" ∈ wsX2_grind := by decide +kernel
theorem lk_X2_grind_Cond_initialized_eS : Cond.initialized eS ∈ wsX2_grind := by decide +kernel
set_option maxHeartbeats 4000000 in
set_option maxRecDepth 100000 in
theorem c_X2_grind (l : Launch) {D : va_G} {cI cL cQ : ClassId} {N0 : Nat} {sa : Nat → Nat} {Hc : Heap} (hl0 : l.stackTraces = false) {x ah ak b0 b1 b2 b3 b4 : Nat} {F : Nat → Prop} {hk : Nat → Option Nat} {re : Nat → RE} {kn : Nat → Int32} {sh : Nat → Nat → Int32} {k : Int32} (h : RSB D cI cL cQ x ah ak b0 b1 b2 b3 b4 F (hk, re, kn, sh, k) Hc) (hNF : ∀ q, F q ∨ Hc.size ≤ q → N0 ≤ q)  : vx_Met l yX2_grind wsX2_grind ({ frames := 6, cells := 1, slots := 6, locals := 82 }) (Pq D cI cL cQ N0 sa [.ref x] Hc) (va_Qi (fun (rr : Int32) (u : CS) => 3 ≤ kn 3 ∧ rr = kn 6 + 1 ∧ u = (hk, re, knGr kn, sh, k)) (fun u t => RSB D cI cL cQ x ah ak b0 b1 b2 b3 b4 (fun q => F q ∨ Hc.size ≤ q) u t.heap) (fun q => F q ∨ Hc.size ≤ q)) (vx_X (fun (_ : Unit) => True) (fun E _ t => (E = eS ∧ ¬ 3 ≤ kn 3) ∧ RSB D cI cL cQ x ah ak b0 b1 b2 b3 b4 (fun q => F q ∨ Hc.size ≤ q) (hk, re, kn, sh, k) t.heap) (fun q => F q ∨ Hc.size ≤ q)) 1 6 (fun q => F q ∨ Hc.size ≤ q) := by
  refine vx_ofW (cc := cX2_grind) (maxL := 1) (ret := (some .int)) (by decide) rfl ?_
  intro p e s m args below meth c s₁ B hml hxt hv
  obtain ⟨rfl, hH, hC⟩ := hv
  have hx := B.exec
  have hb := B.bytes
  have hr := B.returns
  have hts := atoms_spec (ws := wsX2_grind) B.pre
  have hown : s.vm.findClass RX2 = some m.cls := findClass_of_methodNamed B.named
  have hlocks := B.notSynchronized
  subst hH
  have hK := hC.K
  have hl := lv_entry ([.ref x]) (n := 1) (Nat.le_of_ble_eq_true rfl)
  rw [lg_entry_eq]
  generalize (lg_sl ([.ref x]) ++ List.replicate (1 - (lg_sl ([.ref x])).length) Slot.unset).toArray = ls at hl ⊢
  have hl : lv_has ls 1 [(0, .ref x)] := hl
  have hP : va_P D vwCl [(x, .inr (2, [.ref ah, .ref ak, .ref b0, .ref b1, .ref b2, .ref b3, .ref b4, .int k])), (ah, .inl (cQ, 6, .inr (.inr (.inr (.inr hk))))), (ak, .inr (0, [.int (kn 0), .int (kn 1), .int (kn 2), .int (kn 3), .int (kn 4), .int (kn 5), .int (kn 6)])), (b0, .inl (cI, 24, .inl (sh 0))), (b1, .inl (cI, 24, .inl (sh 1))), (b2, .inl (cI, 24, .inl (sh 2))), (b3, .inl (cI, 24, .inl (sh 3))), (b4, .inl (cI, 24, .inl (sh 4)))] s.heap := h.P8
  have hS : va_S nA s.heap s.heap [] := va_S.rf
  have hN : ∀ q, nA q → N0 ≤ q := nA_N
  obtain ⟨locs, hlo⟩ : ∃ z : List Loc, z = [] := ⟨_, rfl⟩
  rw [← hlo] at hS ⊢
  refine lv_aload_n hx hb dX2_grind_0 rfl (lv_at hl 0 rfl) ?_
  refine va_get (D := D) (ci := 2) (v := .ref ak) (C := RX2) (T := TX2) (N := 8) hx hb hts iw_X2_grind_X2 hown hK hP 0 rfl rfl 1 (by decide) (hts _ lk_X2_grind_Cond_fieldLink_RX2_18_SpliceRoom_knife_LSpliceRoom_Knife_) (fun _ h9 => h9) rfl dX2_grind_1 ?_
  refine ro_i (va_runV (As := []) (rest := []) ⟨hx, hb, hml, hown, hts⟩ (c_X0_isBlunt l (h0 := ak) (hP.sub [2] rfl)) (cwV 0 hts gX2_grind_X0_isBlunt rfl rfl rfl (by decide +kernel) ⟨Nat.le_of_ble_eq_true rfl, Nat.le_of_ble_eq_true rfl⟩) (Pq.V hC hS hN (va_recv hK hP (ci := 0) (q0 := 2) rfl rfl)) rfl rfl hl.1 rfl (lv_room (Nat.le_of_ble_eq_true rfl)) dX2_grind_4 ⟨Nat.le_of_ble_eq_true rfl, Nat.le_of_ble_eq_true rfl⟩) hS (fun r_1 locs hw hS => ?_)
  have hw : r_1 = tB (3 ≤ (kn 3)) := hw
  subst hw
  refine lv_if_ne (tgt := 20) hx hb dX2_grind_7 (by decide) (fun c_7 => ?_) (fun c_7 => ?_)
  · have c_7 := tB_n.mp c_7
    refine lv_aload_n hx hb dX2_grind_20 rfl (lv_at hl 0 rfl) ?_
    refine va_get (D := D) (ci := 2) (v := .ref ak) (C := RX2) (T := TX2) (N := 8) hx hb hts iw_X2_grind_X2 hown hK hP 0 rfl rfl 1 (by decide) (hts _ lk_X2_grind_Cond_fieldLink_RX2_18_SpliceRoom_knife_LSpliceRoom_Knife_) (fun _ h9 => h9) rfl dX2_grind_21 ?_
    obtain ⟨A, hAe⟩ : ∃ A : Nat → Prop, A = va_A [(x, .inr (2, [.ref ah, .ref ak, .ref b0, .ref b1, .ref b2, .ref b3, .ref b4, .int k])), (ah, .inl (cQ, 6, .inr (.inr (.inr (.inr hk))))), (ak, .inr (0, [.int (kn 0), .int (kn 1), .int (kn 2), .int (kn 3), .int (kn 4), .int (kn 5), .int (kn 6)])), (b0, .inl (cI, 24, .inl (sh 0))), (b1, .inl (cI, 24, .inl (sh 1))), (b2, .inl (cI, 24, .inl (sh 2))), (b3, .inl (cI, 24, .inl (sh 3))), (b4, .inl (cI, 24, .inl (sh 4)))] s.heap.size := ⟨_, rfl⟩
    have hP : va_P D vwCl [(x, .inr (2, [.ref ah, .ref ak, .ref b0, .ref b1, .ref b2, .ref b3, .ref b4, .int k])), (ah, .inl (cQ, 6, .inr (.inr (.inr (.inr hk))))), (ak, .inr (0, [.int (kn 0), .int (kn 1), .int (kn 2), .int (kn 3), .int (kn 4), .int (kn 5), .int (kn 6)])), (b0, .inl (cI, 24, .inl (sh 0))), (b1, .inl (cI, 24, .inl (sh 1))), (b2, .inl (cI, 24, .inl (sh 2))), (b3, .inl (cI, 24, .inl (sh 3))), (b4, .inl (cI, 24, .inl (sh 4)))] s.heap := h.P8
    have hD : va_D A [(x, .inr (2, [.ref ah, .ref ak, .ref b0, .ref b1, .ref b2, .ref b3, .ref b4, .int k])), (ah, .inl (cQ, 6, .inr (.inr (.inr (.inr hk))))), (ak, .inr (0, [.int (kn 0), .int (kn 1), .int (kn 2), .int (kn 3), .int (kn 4), .int (kn 5), .int (kn 6)])), (b0, .inl (cI, 24, .inl (sh 0))), (b1, .inl (cI, 24, .inl (sh 1))), (b2, .inl (cI, 24, .inl (sh 2))), (b3, .inl (cI, 24, .inl (sh 3))), (b4, .inl (cI, 24, .inl (sh 4)))] := by rw [hAe]; exact (h.D8).self
    have hA : ∀ q, s.heap.size ≤ q → A q := fun q z => by rw [hAe]; exact Or.inr z
    have hFA : ∀ q, A q → F q ∨ s.heap.size ≤ q := fun q z => h.in8 (hAe ▸ z)
    have hN : ∀ q, A q → N0 ≤ q := fun q z => hNF q (hFA q z)
    have hS : va_S A s.heap s.heap locs := S_mono hS (fun _ z => z.elim)
    have hFc := va_free (wc := [(ak, .inr (0, [.int (kn 0), .int (kn 1), .int (kn 2), .int (kn 3), .int (kn 4), .int (kn 5), .int (kn 6)]))]) hD hS hA [2] rfl
    refine va_callv (va_runV (As := []) (rest := []) ⟨hx, hb, hml, hown, hts⟩ (c_X0_sharpen l (hP.sub (ws' := [(ak, .inr (0, [.int (kn 0), .int (kn 1), .int (kn 2), .int (kn 3), .int (kn 4), .int (kn 5), .int (kn 6)]))]) [2] rfl) ((hD.sub (ws' := [(ak, .inr (0, [.int (kn 0), .int (kn 1), .int (kn 2), .int (kn 3), .int (kn 4), .int (kn 5), .int (kn 6)]))]) [2] (by decide) rfl).weaken (fun _ _ _ _ => trivial)) (fun q h => hN q (hFc q h))) (cwV 0 hts gX2_grind_X0_sharpen rfl rfl rfl (by decide +kernel) ⟨Nat.le_of_ble_eq_true rfl, Nat.le_of_ble_eq_true rfl⟩) (Pq.V hC hS hN (va_recv hK hP (ci := 0) (q0 := 2) rfl rfl)) rfl rfl hl.1 rfl (lv_room (Nat.le_of_ble_eq_true rfl)) dX2_grind_24 ⟨Nat.le_of_ble_eq_true rfl, Nat.le_of_ble_eq_true rfl⟩) hS (fun q _ h => hFc q h) hFc (fun u t H1 locs ht hvm hw hB hz1 hk1 hS => ?_)
    obtain ⟨hP1, hD1⟩ := hB
    rw [ht] at hP1
    obtain ⟨hP, hD⟩ := va_join (wr := [(x, .inr (2, [.ref ah, .ref ak, .ref b0, .ref b1, .ref b2, .ref b3, .ref b4, .int k])), (ah, .inl (cQ, 6, .inr (.inr (.inr (.inr hk))))), (b0, .inl (cI, 24, .inl (sh 0))), (b1, .inl (cI, 24, .inl (sh 1))), (b2, .inl (cI, 24, .inl (sh 2))), (b3, .inl (cI, 24, .inl (sh 3))), (b4, .inl (cI, 24, .inl (sh 4)))]) (w1 := [(ak, .inr (0, [.int (kn 0), .int (kn 1), .int (kn 2), .int 0, .int (kn 4), .int (kn 5), .int (kn 6 + 1)]))]) hP hD [2] [0, 1, 3, 4, 5, 6, 7] rfl rfl (by decide) (by decide) hk1 hFc hP1 hD1
    generalize H1 = H at hP hS ⊢
    have hP : va_P D vwCl [(x, .inr (2, [.ref ah, .ref ak, .ref b0, .ref b1, .ref b2, .ref b3, .ref b4, .int k])), (ah, .inl (cQ, 6, .inr (.inr (.inr (.inr hk))))), (ak, .inr (0, [.int (kn 0), .int (kn 1), .int (kn 2), .int 0, .int (kn 4), .int (kn 5), .int (kn 6 + 1)])), (b0, .inl (cI, 24, .inl (sh 0))), (b1, .inl (cI, 24, .inl (sh 1))), (b2, .inl (cI, 24, .inl (sh 2))), (b3, .inl (cI, 24, .inl (sh 3))), (b4, .inl (cI, 24, .inl (sh 4)))] H := hP.sub [0, 1, 7, 2, 3, 4, 5, 6] rfl
    have hD : va_D A [(x, .inr (2, [.ref ah, .ref ak, .ref b0, .ref b1, .ref b2, .ref b3, .ref b4, .int k])), (ah, .inl (cQ, 6, .inr (.inr (.inr (.inr hk))))), (ak, .inr (0, [.int (kn 0), .int (kn 1), .int (kn 2), .int 0, .int (kn 4), .int (kn 5), .int (kn 6 + 1)])), (b0, .inl (cI, 24, .inl (sh 0))), (b1, .inl (cI, 24, .inl (sh 1))), (b2, .inl (cI, 24, .inl (sh 2))), (b3, .inl (cI, 24, .inl (sh 3))), (b4, .inl (cI, 24, .inl (sh 4)))] := hD.sub [0, 1, 7, 2, 3, 4, 5, 6] (by decide) rfl
    refine lv_aload_n hx hb dX2_grind_27 rfl (lv_at hl 0 rfl) ?_
    refine va_get (D := D) (ci := 2) (v := .ref ak) (C := RX2) (T := TX2) (N := 8) hx hb hts iw_X2_grind_X2 hown hK hP 0 rfl rfl 1 (by decide) (hts _ lk_X2_grind_Cond_fieldLink_RX2_18_SpliceRoom_knife_LSpliceRoom_Knife_) (fun _ h9 => h9) rfl dX2_grind_28 ?_
    refine va_getN (D := D) (ci := 0) (v := .int (kn 6 + 1)) (C := RX0) (T := TX0) (N := 7) hx hb hts iw_X2_grind_X0 hown hK hP 2 rfl rfl 6 (by decide) (hC.nest (a := RX2) (i := 126) (b := "SpliceRoom$Knife") (n := "grindings") (d := "I") (hh := "SpliceRoom") (by decide +kernel)) (fun _ h9 => h9) rfl dX2_grind_31 ?_
    refine W.widen (k := 1) (n := 6) (by omega) (by omega) ?_
    exact vx_ret (W.iret (v := kn 6 + 1) hx hb hr (fun t ht hW => ⟨⟨_, (hk, re, knGr kn, sh, k), rfl, ⟨c_7, rfl, rfl⟩, by dsimp only; rw [ht]; exact h.end8 (kn' := knGr kn) hP (fun _ z => z) (fun q hs hn => hS.2.1 q hs (by rw [hAe]; exact hn))⟩, (S_mono hS hFA).F ht⟩) (fun z9 h9 => hFA _ (hS.2.2 z9 h9)) dX2_grind_34)
  · have c_7 := tB_0.mp c_7
    exact vx_throwS (cls := eS) (text := "the knife isn't blunt") (names := exN) (sa := sa 121) (A := nA) hx hb hl0 hown (by decide +kernel) exN_fit (hts _ lk_X2_grind_Cond_classLink_RX2_65_eS) (hts _ lk_X2_grind_Cond_initialized_eS) (hC.text (by decide +kernel)) (vx_hat (fun w hw => hts w (xw_X2_grind_eS w hw)) exS_ng hC.all) (good2 exS_ot) (hC.ust nA_N) (hC.sup nA_N) hS (by rw [hml]; exact hl.1) dX2_grind_10 dX2_grind_13 dX2_grind_14 dX2_grind_16 dX2_grind_19 (fun x9 h9 => (hxt x9 h9).elim) (by decide) (Nat.le_of_ble_eq_true rfl) (Nat.le_of_ble_eq_true rfl) (Nat.le_of_ble_eq_true rfl) hlocks (fun t hvm hz9 hk9 => ⟨(), trivial, ⟨⟨rfl, c_7⟩, h.xo hk9⟩, hz9, fun q hs _ => hk9 q hs⟩) (fun z9 h9 => (hS.2.2 z9 h9).elim) (Nat.le_of_ble_eq_true rfl) (Nat.le_of_ble_eq_true rfl)
theorem iw_X2_hang_X2 : ∀ w ∈ wsX20, w ∈ wsX2_hang := by decide +kernel
theorem lk_X2_hang_Cond_fieldLink_RX2_11_SpliceRoom_hooks_LSpliceRoom_Reel_ : Cond.fieldLink RX2 11 "SpliceRoom" "hooks" "[LSpliceRoom$Reel;" ∈ wsX2_hang := by decide +kernel
set_option maxHeartbeats 4000000 in
set_option maxRecDepth 100000 in
theorem c_X2_hang (l : Launch) {D : va_G} {cI cL cQ : ClassId} {N0 : Nat} {sa : Nat → Nat} {Hc : Heap} (hl0 : l.stackTraces = false) {x ah ak b0 b1 b2 b3 b4 : Nat} {F : Nat → Prop} {hk : Nat → Option Nat} {re : Nat → RE} {kn : Nat → Int32} {sh : Nat → Nat → Int32} {k : Int32} (h : RSB D cI cL cQ x ah ak b0 b1 b2 b3 b4 F (hk, re, kn, sh, k) Hc) (hNF : ∀ q, F q ∨ Hc.size ≤ q → N0 ≤ q) {h0 o0 : Int32} : vx_Met l yX2_hang wsX2_hang ({ frames := 7, cells := 2, slots := 12, locals := 110 }) (Pq D cI cL cQ N0 sa [.ref x, .int h0, .int o0] Hc) (va_Qi (fun (rr : Int32) (u : CS) => ∃ j1 i1 : Nat, j1 < 6 ∧ i1 < 6 ∧ h0 = nI j1 ∧ o0 = nI i1 ∧ rr = kOf re (hk i1) ∧ u = (va_up hk j1 (hk i1), re, kn, sh, k)) (fun u t => RSB D cI cL cQ x ah ak b0 b1 b2 b3 b4 (fun q => F q ∨ Hc.size ≤ q) u t.heap) (fun q => F q ∨ Hc.size ≤ q)) (vx_X (fun (_ : Unit) => True) (fun E _ t => (E = eA ∧ ¬ (okH h0 ∧ okH o0)) ∧ RSB D cI cL cQ x ah ak b0 b1 b2 b3 b4 (fun q => F q ∨ Hc.size ≤ q) (hk, re, kn, sh, k) t.heap) (fun q => F q ∨ Hc.size ≤ q)) 2 12 (fun q => F q ∨ Hc.size ≤ q) := by
  refine vx_ofW (cc := cX2_hang) (maxL := 3) (ret := (some .int)) (by decide) rfl ?_
  intro p e s m args below meth c s₁ B hml hxt hv
  obtain ⟨rfl, hH, hC⟩ := hv
  have hx := B.exec
  have hb := B.bytes
  have hr := B.returns
  have hts := atoms_spec (ws := wsX2_hang) B.pre
  have hown : s.vm.findClass RX2 = some m.cls := findClass_of_methodNamed B.named
  have hlocks := B.notSynchronized
  subst hH
  have hK := hC.K
  have hl := lv_entry ([.ref x, .int h0, .int o0]) (n := 3) (Nat.le_of_ble_eq_true rfl)
  rw [lg_entry_eq]
  generalize (lg_sl ([.ref x, .int h0, .int o0]) ++ List.replicate (3 - (lg_sl ([.ref x, .int h0, .int o0])).length) Slot.unset).toArray = ls at hl ⊢
  have hl : lv_has ls 3 [(0, .ref x), (1, .int h0), (2, .int o0)] := hl
  have hP : va_P D vwCl [(x, .inr (2, [.ref ah, .ref ak, .ref b0, .ref b1, .ref b2, .ref b3, .ref b4, .int k])), (ah, .inl (cQ, 6, .inr (.inr (.inr (.inr hk))))), (ak, .inr (0, [.int (kn 0), .int (kn 1), .int (kn 2), .int (kn 3), .int (kn 4), .int (kn 5), .int (kn 6)])), (b0, .inl (cI, 24, .inl (sh 0))), (b1, .inl (cI, 24, .inl (sh 1))), (b2, .inl (cI, 24, .inl (sh 2))), (b3, .inl (cI, 24, .inl (sh 3))), (b4, .inl (cI, 24, .inl (sh 4)))] s.heap := h.P8
  have hS : va_S nA s.heap s.heap [] := va_S.rf
  have hN : ∀ q, nA q → N0 ≤ q := nA_N
  refine lv_iload_n hx hb dX2_hang_0 rfl (lv_at hl 1 rfl) ?_
  refine rx_v (vx_runS (As := [.int h0]) (rest := []) ⟨hx, hb, hml, hown, hts⟩ (c_X2_requireHook l hl0 (h0 := h0)) (va_cwS 1 hts gX2_hang_X2_requireHook rfl rfl rfl (by decide +kernel) ⟨Nat.le_of_ble_eq_true rfl, Nat.le_of_ble_eq_true rfl⟩) (Pq.S hC hS hN) rfl rfl hl.1 rfl (lv_room (Nat.le_of_ble_eq_true rfl)) dX2_hang_1 ⟨Nat.le_of_ble_eq_true rfl, Nat.le_of_ble_eq_true rfl⟩) hS (fun ce q9 H9 locs hx9 hz9 hk9 hS hcell hv9 hcl => ?_) (fun locs hw hS => ?_)
  · have hx9 : ¬ okH h0 := hx9
    refine vx_widen (k := 2) (n := 12) (by omega) (by omega) ?_
    exact vx_out (fun x9 h9 => (hxt x9 h9).elim) hlocks hcell hv9 hcl (fun t ht hvm => ⟨(), trivial, ⟨⟨rfl, fun h9 => hx9 h9.1⟩, by rw [ht]; exact h.xo hk9⟩, by rw [ht]; exact hz9, fun q hs _ => by rw [ht]; exact hk9 q hs⟩) (fun z9 h9 => (hS.2.2 z9 h9).elim) (Nat.le_refl _) (Nat.le_refl _)
  · have hw : okH h0 := hw
    obtain ⟨j, hj, rfl⟩ := hw
    refine lv_iload_n hx hb dX2_hang_4 rfl (lv_at hl 2 rfl) ?_
    refine rx_v (vx_runS (As := [.int o0]) (rest := []) ⟨hx, hb, hml, hown, hts⟩ (c_X2_requireHook l hl0 (h0 := o0)) (va_cwS 1 hts gX2_hang_X2_requireHook rfl rfl rfl (by decide +kernel) ⟨Nat.le_of_ble_eq_true rfl, Nat.le_of_ble_eq_true rfl⟩) (Pq.S hC hS hN) rfl rfl hl.1 rfl (lv_room (Nat.le_of_ble_eq_true rfl)) dX2_hang_5 ⟨Nat.le_of_ble_eq_true rfl, Nat.le_of_ble_eq_true rfl⟩) hS (fun ce q9 H9 locs hx9 hz9 hk9 hS hcell hv9 hcl => ?_) (fun locs hw hS => ?_)
    · have hx9 : ¬ okH o0 := hx9
      refine vx_widen (k := 2) (n := 12) (by omega) (by omega) ?_
      exact vx_out (fun x9 h9 => (hxt x9 h9).elim) hlocks hcell hv9 hcl (fun t ht hvm => ⟨(), trivial, ⟨⟨rfl, fun h9 => hx9 h9.2⟩, by rw [ht]; exact h.xo hk9⟩, by rw [ht]; exact hz9, fun q hs _ => by rw [ht]; exact hk9 q hs⟩) (fun z9 h9 => (hS.2.2 z9 h9).elim) (Nat.le_refl _) (Nat.le_refl _)
    · have hw : okH o0 := hw
      obtain ⟨i, hi, rfl⟩ := hw
      refine lv_aload_n hx hb dX2_hang_8 rfl (lv_at hl 0 rfl) ?_
      refine va_get (D := D) (ci := 2) (v := .ref ah) (C := RX2) (T := TX2) (N := 8) hx hb hts iw_X2_hang_X2 hown hK hP 0 rfl rfl 0 (by decide) (hts _ lk_X2_hang_Cond_fieldLink_RX2_11_SpliceRoom_hooks_LSpliceRoom_Reel_) (fun _ h9 => h9) rfl dX2_hang_9 ?_
      refine lv_iload_n hx hb dX2_hang_12 rfl (lv_at hl 1 rfl) ?_
      refine lv_aload_n hx hb dX2_hang_13 rfl (lv_at hl 0 rfl) ?_
      refine va_get (D := D) (ci := 2) (v := .ref ah) (C := RX2) (T := TX2) (N := 8) hx hb hts iw_X2_hang_X2 hown hK hP 0 rfl rfl 0 (by decide) (hts _ lk_X2_hang_Cond_fieldLink_RX2_11_SpliceRoom_hooks_LSpliceRoom_Reel_) (fun _ h9 => h9) rfl dX2_hang_14 ?_
      refine lv_iload_n hx hb dX2_hang_17 rfl (lv_at hl 2 rfl) ?_
      refine va_aldq (D := D) hx hb hK hP 1 2 rfl rfl (vp_in_nI hi (by decide)) dX2_hang_18 ?_
      refine W.eq (g2 := F0 m 19 ls (va_rf (hk i) :: [.int (nI j), .ref ah])) (by rw [nI_clamp (by omega)]) ?_
      cases eh : hk i with
      | none =>
        obtain ⟨A, hAe⟩ : ∃ A : Nat → Prop, A = va_A [(x, .inr (2, [.ref ah, .ref ak, .ref b0, .ref b1, .ref b2, .ref b3, .ref b4, .int k])), (ah, .inl (cQ, 6, .inr (.inr (.inr (.inr hk))))), (ak, .inr (0, [.int (kn 0), .int (kn 1), .int (kn 2), .int (kn 3), .int (kn 4), .int (kn 5), .int (kn 6)])), (b0, .inl (cI, 24, .inl (sh 0))), (b1, .inl (cI, 24, .inl (sh 1))), (b2, .inl (cI, 24, .inl (sh 2))), (b3, .inl (cI, 24, .inl (sh 3))), (b4, .inl (cI, 24, .inl (sh 4)))] s.heap.size := ⟨_, rfl⟩
        have hP : va_P D vwCl [(x, .inr (2, [.ref ah, .ref ak, .ref b0, .ref b1, .ref b2, .ref b3, .ref b4, .int k])), (ah, .inl (cQ, 6, .inr (.inr (.inr (.inr hk))))), (ak, .inr (0, [.int (kn 0), .int (kn 1), .int (kn 2), .int (kn 3), .int (kn 4), .int (kn 5), .int (kn 6)])), (b0, .inl (cI, 24, .inl (sh 0))), (b1, .inl (cI, 24, .inl (sh 1))), (b2, .inl (cI, 24, .inl (sh 2))), (b3, .inl (cI, 24, .inl (sh 3))), (b4, .inl (cI, 24, .inl (sh 4)))] s.heap := h.P8
        have hD : va_D A [(x, .inr (2, [.ref ah, .ref ak, .ref b0, .ref b1, .ref b2, .ref b3, .ref b4, .int k])), (ah, .inl (cQ, 6, .inr (.inr (.inr (.inr hk))))), (ak, .inr (0, [.int (kn 0), .int (kn 1), .int (kn 2), .int (kn 3), .int (kn 4), .int (kn 5), .int (kn 6)])), (b0, .inl (cI, 24, .inl (sh 0))), (b1, .inl (cI, 24, .inl (sh 1))), (b2, .inl (cI, 24, .inl (sh 2))), (b3, .inl (cI, 24, .inl (sh 3))), (b4, .inl (cI, 24, .inl (sh 4)))] := by rw [hAe]; exact (h.D8).self
        have hA : ∀ q, s.heap.size ≤ q → A q := fun q z => by rw [hAe]; exact Or.inr z
        have hFA : ∀ q, A q → F q ∨ s.heap.size ≤ q := fun q z => h.in8 (hAe ▸ z)
        have hN : ∀ q, A q → N0 ≤ q := fun q z => hNF q (hFA q z)
        have hS : va_S A s.heap s.heap locs := S_mono hS (fun _ z => z.elim)
        refine va_astqN (D := D) hx hb hK hP hD hS 1 2 rfl rfl (vp_in_nI hj (by decide)) dX2_hang_19 (fun H locs hP hD hS => ?_)
        have hP : va_P D vwCl [(x, .inr (2, [.ref ah, .ref ak, .ref b0, .ref b1, .ref b2, .ref b3, .ref b4, .int k])), (ah, .inl (cQ, 6, .inr (.inr (.inr (.inr (va_up hk ((nI j).toNatClampNeg) none)))))), (ak, .inr (0, [.int (kn 0), .int (kn 1), .int (kn 2), .int (kn 3), .int (kn 4), .int (kn 5), .int (kn 6)])), (b0, .inl (cI, 24, .inl (sh 0))), (b1, .inl (cI, 24, .inl (sh 1))), (b2, .inl (cI, 24, .inl (sh 2))), (b3, .inl (cI, 24, .inl (sh 3))), (b4, .inl (cI, 24, .inl (sh 4)))] H := hP
        have hD : va_D A [(x, .inr (2, [.ref ah, .ref ak, .ref b0, .ref b1, .ref b2, .ref b3, .ref b4, .int k])), (ah, .inl (cQ, 6, .inr (.inr (.inr (.inr (va_up hk ((nI j).toNatClampNeg) none)))))), (ak, .inr (0, [.int (kn 0), .int (kn 1), .int (kn 2), .int (kn 3), .int (kn 4), .int (kn 5), .int (kn 6)])), (b0, .inl (cI, 24, .inl (sh 0))), (b1, .inl (cI, 24, .inl (sh 1))), (b2, .inl (cI, 24, .inl (sh 2))), (b3, .inl (cI, 24, .inl (sh 3))), (b4, .inl (cI, 24, .inl (sh 4)))] := hD
        rw [nI_clamp (show j < 2 ^ 31 by omega)] at hP hD
        have hl8 : ∀ r', Live (va_up hk j none) r' → Live hk r' := Live_up (fun r' e => by cases e)
        have h2 := h.end8 hP hl8 (fun q hs hn => hS.2.1 q hs (by rw [hAe]; exact hn))
        refine lv_aload_n hx hb dX2_hang_20 rfl (lv_at hl 0 rfl) ?_
        refine lv_iload_n hx hb dX2_hang_21 rfl (lv_at hl 1 rfl) ?_
        refine ro_i (va_runV (As := [.int (nI j)]) (rest := []) ⟨hx, hb, hml, hown, hts⟩ (c_X2_kindOn l (j := j) h2 hj) (cwV 1 hts gX2_hang_X2_kindOn rfl rfl rfl (by decide +kernel) ⟨Nat.le_of_ble_eq_true rfl, Nat.le_of_ble_eq_true rfl⟩) (Pq.V hC hS hN (va_recv hK hP (ci := 2) (q0 := 0) rfl rfl)) rfl rfl hl.1 rfl (lv_room (Nat.le_of_ble_eq_true rfl)) dX2_hang_22 ⟨Nat.le_of_ble_eq_true rfl, Nat.le_of_ble_eq_true rfl⟩) hS (fun r_1 locs hw hS => ?_)
        have hw : r_1 = kOf re ((va_up hk j none) j) := hw
        subst hw
        exact vx_ret (W.iret (v := kOf re ((va_up hk j none) j)) hx hb hr (fun t ht hW => ⟨⟨_, (va_up hk j none, re, kn, sh, k), rfl, ⟨j, i, hj, hi, rfl, rfl, by rw [eh, va_up_self], by rw [eh]⟩, by dsimp only; rw [ht]; exact h2⟩, (S_mono hS hFA).F ht⟩) (fun z9 h9 => hFA _ (hS.2.2 z9 h9)) dX2_hang_25)
      | some r =>
        have lr : Live hk r := ⟨i, hi, eh⟩
        obtain ⟨A, hAe⟩ : ∃ A : Nat → Prop, A = va_A [(x, .inr (2, [.ref ah, .ref ak, .ref b0, .ref b1, .ref b2, .ref b3, .ref b4, .int k])), (ah, .inl (cQ, 6, .inr (.inr (.inr (.inr hk))))), (ak, .inr (0, [.int (kn 0), .int (kn 1), .int (kn 2), .int (kn 3), .int (kn 4), .int (kn 5), .int (kn 6)])), (b0, .inl (cI, 24, .inl (sh 0))), (b1, .inl (cI, 24, .inl (sh 1))), (b2, .inl (cI, 24, .inl (sh 2))), (b3, .inl (cI, 24, .inl (sh 3))), (b4, .inl (cI, 24, .inl (sh 4))), (r, .inr (1, [.int ((re r).1), .ref ((re r).2.1)])), ((re r).2.1, .inl (cL, (re r).2.2.1, .inr (.inl ((re r).2.2.2))))] s.heap.size := ⟨_, rfl⟩
        have hP : va_P D vwCl [(x, .inr (2, [.ref ah, .ref ak, .ref b0, .ref b1, .ref b2, .ref b3, .ref b4, .int k])), (ah, .inl (cQ, 6, .inr (.inr (.inr (.inr hk))))), (ak, .inr (0, [.int (kn 0), .int (kn 1), .int (kn 2), .int (kn 3), .int (kn 4), .int (kn 5), .int (kn 6)])), (b0, .inl (cI, 24, .inl (sh 0))), (b1, .inl (cI, 24, .inl (sh 1))), (b2, .inl (cI, 24, .inl (sh 2))), (b3, .inl (cI, 24, .inl (sh 3))), (b4, .inl (cI, 24, .inl (sh 4))), (r, .inr (1, [.int ((re r).1), .ref ((re r).2.1)])), ((re r).2.1, .inl (cL, (re r).2.2.1, .inr (.inl ((re r).2.2.2))))] s.heap := h.P10 lr
        have hD : va_D A [(x, .inr (2, [.ref ah, .ref ak, .ref b0, .ref b1, .ref b2, .ref b3, .ref b4, .int k])), (ah, .inl (cQ, 6, .inr (.inr (.inr (.inr hk))))), (ak, .inr (0, [.int (kn 0), .int (kn 1), .int (kn 2), .int (kn 3), .int (kn 4), .int (kn 5), .int (kn 6)])), (b0, .inl (cI, 24, .inl (sh 0))), (b1, .inl (cI, 24, .inl (sh 1))), (b2, .inl (cI, 24, .inl (sh 2))), (b3, .inl (cI, 24, .inl (sh 3))), (b4, .inl (cI, 24, .inl (sh 4))), (r, .inr (1, [.int ((re r).1), .ref ((re r).2.1)])), ((re r).2.1, .inl (cL, (re r).2.2.1, .inr (.inl ((re r).2.2.2))))] := by rw [hAe]; exact (h.D10 lr).self
        have hA : ∀ q, s.heap.size ≤ q → A q := fun q z => by rw [hAe]; exact Or.inr z
        have hFA : ∀ q, A q → F q ∨ s.heap.size ≤ q := fun q z => h.in10 lr (hAe ▸ z)
        have hN : ∀ q, A q → N0 ≤ q := fun q z => hNF q (hFA q z)
        have hS : va_S A s.heap s.heap locs := S_mono hS (fun _ z => z.elim)
        refine va_astq (D := D) hx hb hK hP hD hS 1 2 8 1 rfl rfl rfl rfl (vp_in_nI hj (by decide)) dX2_hang_19 (fun H locs hP hD hS => ?_)
        have hP : va_P D vwCl [(x, .inr (2, [.ref ah, .ref ak, .ref b0, .ref b1, .ref b2, .ref b3, .ref b4, .int k])), (ah, .inl (cQ, 6, .inr (.inr (.inr (.inr (va_up hk ((nI j).toNatClampNeg) (some r))))))), (ak, .inr (0, [.int (kn 0), .int (kn 1), .int (kn 2), .int (kn 3), .int (kn 4), .int (kn 5), .int (kn 6)])), (b0, .inl (cI, 24, .inl (sh 0))), (b1, .inl (cI, 24, .inl (sh 1))), (b2, .inl (cI, 24, .inl (sh 2))), (b3, .inl (cI, 24, .inl (sh 3))), (b4, .inl (cI, 24, .inl (sh 4))), (r, .inr (1, [.int ((re r).1), .ref ((re r).2.1)])), ((re r).2.1, .inl (cL, (re r).2.2.1, .inr (.inl ((re r).2.2.2))))] H := hP
        have hD : va_D A [(x, .inr (2, [.ref ah, .ref ak, .ref b0, .ref b1, .ref b2, .ref b3, .ref b4, .int k])), (ah, .inl (cQ, 6, .inr (.inr (.inr (.inr (va_up hk ((nI j).toNatClampNeg) (some r))))))), (ak, .inr (0, [.int (kn 0), .int (kn 1), .int (kn 2), .int (kn 3), .int (kn 4), .int (kn 5), .int (kn 6)])), (b0, .inl (cI, 24, .inl (sh 0))), (b1, .inl (cI, 24, .inl (sh 1))), (b2, .inl (cI, 24, .inl (sh 2))), (b3, .inl (cI, 24, .inl (sh 3))), (b4, .inl (cI, 24, .inl (sh 4))), (r, .inr (1, [.int ((re r).1), .ref ((re r).2.1)])), ((re r).2.1, .inl (cL, (re r).2.2.1, .inr (.inl ((re r).2.2.2))))] := hD
        rw [nI_clamp (show j < 2 ^ 31 by omega)] at hP hD
        have hl8 : ∀ r', Live (va_up hk j (some r)) r' → Live hk r' := Live_up (fun r' e => by cases e; exact lr)
        have h2 := h.end10 lr hP hl8 (fun q hs hn => hS.2.1 q hs (by rw [hAe]; exact hn))
        refine lv_aload_n hx hb dX2_hang_20 rfl (lv_at hl 0 rfl) ?_
        refine lv_iload_n hx hb dX2_hang_21 rfl (lv_at hl 1 rfl) ?_
        refine ro_i (va_runV (As := [.int (nI j)]) (rest := []) ⟨hx, hb, hml, hown, hts⟩ (c_X2_kindOn l (j := j) h2 hj) (cwV 1 hts gX2_hang_X2_kindOn rfl rfl rfl (by decide +kernel) ⟨Nat.le_of_ble_eq_true rfl, Nat.le_of_ble_eq_true rfl⟩) (Pq.V hC hS hN (va_recv hK hP (ci := 2) (q0 := 0) rfl rfl)) rfl rfl hl.1 rfl (lv_room (Nat.le_of_ble_eq_true rfl)) dX2_hang_22 ⟨Nat.le_of_ble_eq_true rfl, Nat.le_of_ble_eq_true rfl⟩) hS (fun r_2 locs hw hS => ?_)
        have hw : r_2 = kOf re ((va_up hk j (some r)) j) := hw
        subst hw
        exact vx_ret (W.iret (v := kOf re ((va_up hk j (some r)) j)) hx hb hr (fun t ht hW => ⟨⟨_, (va_up hk j (some r), re, kn, sh, k), rfl, ⟨j, i, hj, hi, rfl, rfl, by rw [eh, va_up_self], by rw [eh]⟩, by dsimp only; rw [ht]; exact h2⟩, (S_mono hS hFA).F ht⟩) (fun z9 h9 => hFA _ (hS.2.2 z9 h9)) dX2_hang_25)
/-- what is marked -/
def mkV (k : Int32) (v : Int64) : Int64 := if k = 1 then v.toInt32.toInt64 else v
theorem xw_X2_mark_eS : ∀ w ∈ (vx_atS RX2 69 eS exN).filter goodWord, w ∈ wsX2_mark := by decide +kernel
theorem iw_X2_mark_X1 : ∀ w ∈ wsX10, w ∈ wsX2_mark := by decide +kernel
theorem iw_X2_mark_X2 : ∀ w ∈ wsX20, w ∈ wsX2_mark := by decide +kernel
theorem lk_X2_mark_Cond_classLink_RX2_65_eS : Cond.classLink RX2 65 eS ∈ wsX2_mark := by decide +kernel
theorem lk_X2_mark_Cond_fieldLink_RX2_11_SpliceRoom_hooks_LSpliceRoom_Reel_ : Cond.fieldLink RX2 11 "SpliceRoom" "hooks" "[LSpliceRoom$Reel;" ∈ wsX2_mark := by decide +kernel
theorem lk_X2_mark_Cond_initialized_eS : Cond.initialized eS ∈ wsX2_mark := by decide +kernel
set_option maxHeartbeats 4000000 in
set_option maxRecDepth 100000 in
theorem c_X2_mark (l : Launch) {D : va_G} {cI cL cQ : ClassId} {N0 : Nat} {sa : Nat → Nat} {Hc : Heap} (hl0 : l.stackTraces = false) {x ah ak b0 b1 b2 b3 b4 : Nat} {F : Nat → Prop} {hk : Nat → Option Nat} {re : Nat → RE} {kn : Nat → Int32} {sh : Nat → Nat → Int32} {k : Int32} (h : RSB D cI cL cQ x ah ak b0 b1 b2 b3 b4 F (hk, re, kn, sh, k) Hc) (hNF : ∀ q, F q ∨ Hc.size ≤ q → N0 ≤ q) {h0 i0 : Int32} {v0 : Int64} : vx_Met l yX2_mark wsX2_mark ({ frames := 7, cells := 3, slots := 18, locals := 110 }) (Pq D cI cL cQ N0 sa [.ref x, .int h0, .int i0, .long v0] Hc) (va_Qv (fun (u : CS) => ∃ j1 r1 i1 : Nat, j1 < 6 ∧ h0 = nI j1 ∧ hk j1 = some r1 ∧ ((re r1).1 = 1 ∨ (re r1).1 = 2) ∧ i1 < (re r1).2.2.1 ∧ i0 = nI i1 ∧ u = (hk, va_up re r1 ((re r1).1, (re r1).2.1, (re r1).2.2.1, vp_updL (re r1).2.2.2 i1 (mkV (re r1).1 v0)), kn, sh, k)) (fun u t => RSB D cI cL cQ x ah ak b0 b1 b2 b3 b4 (fun q => F q ∨ Hc.size ≤ q) u t.heap) (fun q => F q ∨ Hc.size ≤ q)) (vx_X (fun (_ : Unit) => True) (fun E _ t => ((E = eA ∧ ¬ okH h0) ∨ (∃ j1 : Nat, j1 < 6 ∧ h0 = nI j1 ∧ ((E = eS ∧ (hk j1 = none ∨ ∃ r1 : Nat, hk j1 = some r1 ∧ ¬ ((re r1).1 = 1 ∨ (re r1).1 = 2))) ∨ (E = eI ∧ ∃ r1 : Nat, hk j1 = some r1 ∧ ((re r1).1 = 1 ∨ (re r1).1 = 2) ∧ ¬ okF i0 (re r1).2.2.1)))) ∧ RSB D cI cL cQ x ah ak b0 b1 b2 b3 b4 (fun q => F q ∨ Hc.size ≤ q) (hk, re, kn, sh, k) t.heap) (fun q => F q ∨ Hc.size ≤ q)) 3 18 (fun q => F q ∨ Hc.size ≤ q) := by
  refine vx_ofW (cc := cX2_mark) (maxL := 6) (ret := none) (by decide) rfl ?_
  intro p e s m args below meth c s₁ B hml hxt hv
  obtain ⟨rfl, hH, hC⟩ := hv
  have hx := B.exec
  have hb := B.bytes
  have hr := B.returns
  have hts := atoms_spec (ws := wsX2_mark) B.pre
  have hown : s.vm.findClass RX2 = some m.cls := findClass_of_methodNamed B.named
  have hlocks := B.notSynchronized
  subst hH
  have hK := hC.K
  have hl := lv_entry ([.ref x, .int h0, .int i0, .long v0]) (n := 6) (Nat.le_of_ble_eq_true rfl)
  rw [lg_entry_eq]
  generalize (lg_sl ([.ref x, .int h0, .int i0, .long v0]) ++ List.replicate (6 - (lg_sl ([.ref x, .int h0, .int i0, .long v0])).length) Slot.unset).toArray = ls at hl ⊢
  have hl : lv_has ls 6 [(0, .ref x), (1, .int h0), (2, .int i0), (3, .long v0)] := hl
  have hP : va_P D vwCl [(x, .inr (2, [.ref ah, .ref ak, .ref b0, .ref b1, .ref b2, .ref b3, .ref b4, .int k])), (ah, .inl (cQ, 6, .inr (.inr (.inr (.inr hk))))), (ak, .inr (0, [.int (kn 0), .int (kn 1), .int (kn 2), .int (kn 3), .int (kn 4), .int (kn 5), .int (kn 6)])), (b0, .inl (cI, 24, .inl (sh 0))), (b1, .inl (cI, 24, .inl (sh 1))), (b2, .inl (cI, 24, .inl (sh 2))), (b3, .inl (cI, 24, .inl (sh 3))), (b4, .inl (cI, 24, .inl (sh 4)))] s.heap := h.P8
  have hS : va_S nA s.heap s.heap [] := va_S.rf
  have hN : ∀ q, nA q → N0 ≤ q := nA_N
  refine lv_iload_n hx hb dX2_mark_0 rfl (lv_at hl 1 rfl) ?_
  refine rx_v (vx_runS (As := [.int h0]) (rest := []) ⟨hx, hb, hml, hown, hts⟩ (c_X2_requireHook l hl0 (h0 := h0)) (va_cwS 1 hts gX2_mark_X2_requireHook rfl rfl rfl (by decide +kernel) ⟨Nat.le_of_ble_eq_true rfl, Nat.le_of_ble_eq_true rfl⟩) (Pq.S hC hS hN) rfl rfl hl.1 rfl (lv_room (Nat.le_of_ble_eq_true rfl)) dX2_mark_1 ⟨Nat.le_of_ble_eq_true rfl, Nat.le_of_ble_eq_true rfl⟩) hS (fun ce q9 H9 locs hx9 hz9 hk9 hS hcell hv9 hcl => ?_) (fun locs hw hS => ?_)
  · have hx9 : ¬ okH h0 := hx9
    refine vx_widen (k := 3) (n := 18) (by omega) (by omega) ?_
    exact vx_out (fun x9 h9 => (hxt x9 h9).elim) hlocks hcell hv9 hcl (fun t ht hvm => ⟨(), trivial, ⟨Or.inl ⟨rfl, hx9⟩, by rw [ht]; exact h.xo hk9⟩, by rw [ht]; exact hz9, fun q hs _ => by rw [ht]; exact hk9 q hs⟩) (fun z9 h9 => (hS.2.2 z9 h9).elim) (Nat.le_refl _) (Nat.le_refl _)
  · have hw : okH h0 := hw
    obtain ⟨j, hj, rfl⟩ := hw
    refine lv_aload_n hx hb dX2_mark_4 rfl (lv_at hl 0 rfl) ?_
    refine va_get (D := D) (ci := 2) (v := .ref ah) (C := RX2) (T := TX2) (N := 8) hx hb hts iw_X2_mark_X2 hown hK hP 0 rfl rfl 0 (by decide) (hts _ lk_X2_mark_Cond_fieldLink_RX2_11_SpliceRoom_hooks_LSpliceRoom_Reel_) (fun _ h9 => h9) rfl dX2_mark_5 ?_
    refine lv_iload_n hx hb dX2_mark_8 rfl (lv_at hl 1 rfl) ?_
    refine va_aldq (D := D) hx hb hK hP 1 2 rfl rfl (vp_in_nI hj (by decide)) dX2_mark_9 ?_
    refine W.eq (g2 := F0 m 10 ls (va_rf (hk j) :: [])) (by rw [nI_clamp (by omega)]) ?_
    cases eh : hk j with
    | none =>
      refine lv_astoreN (lv' := [(5, .null), (0, .ref x), (1, .int (nI j)), (2, .int i0), (3, .long v0)]) hx hb dX2_mark_10 hl (by decide) rfl (fun ls hl => ?_)
      refine lv_aloadN hx hb dX2_mark_12 (lv_at hl 0 rfl) ?_
      refine lv_ifnullN (tgt := 25) hx hb dX2_mark_14 (by decide) ?_
      exact vx_throwS (cls := eS) (text := "neither marks nor hours") (names := exN) (sa := sa 84) (A := nA) hx hb hl0 hown (by decide +kernel) exN_fit (hts _ lk_X2_mark_Cond_classLink_RX2_65_eS) (hts _ lk_X2_mark_Cond_initialized_eS) (hC.text (by decide +kernel)) (vx_hat (fun w hw => hts w (xw_X2_mark_eS w hw)) exS_ng hC.all) (good2 exS_ot) (hC.ust nA_N) (hC.sup nA_N) hS (by rw [hml]; exact hl.1) dX2_mark_25 dX2_mark_28 dX2_mark_29 dX2_mark_31 dX2_mark_34 (fun x9 h9 => (hxt x9 h9).elim) (by decide) (Nat.le_of_ble_eq_true rfl) (Nat.le_of_ble_eq_true rfl) (Nat.le_of_ble_eq_true rfl) hlocks (fun t hvm hz9 hk9 => ⟨(), trivial, ⟨Or.inr ⟨j, hj, rfl, Or.inl ⟨rfl, Or.inl eh⟩⟩, h.xo hk9⟩, hz9, fun q hs _ => hk9 q hs⟩) (fun z9 h9 => (hS.2.2 z9 h9).elim) (Nat.le_of_ble_eq_true rfl) (Nat.le_of_ble_eq_true rfl)
    | some r =>
      have lr : Live hk r := ⟨j, hj, eh⟩
      have hP : va_P D vwCl [(x, .inr (2, [.ref ah, .ref ak, .ref b0, .ref b1, .ref b2, .ref b3, .ref b4, .int k])), (ah, .inl (cQ, 6, .inr (.inr (.inr (.inr hk))))), (ak, .inr (0, [.int (kn 0), .int (kn 1), .int (kn 2), .int (kn 3), .int (kn 4), .int (kn 5), .int (kn 6)])), (b0, .inl (cI, 24, .inl (sh 0))), (b1, .inl (cI, 24, .inl (sh 1))), (b2, .inl (cI, 24, .inl (sh 2))), (b3, .inl (cI, 24, .inl (sh 3))), (b4, .inl (cI, 24, .inl (sh 4))), (r, .inr (1, [.int ((re r).1), .ref ((re r).2.1)])), ((re r).2.1, .inl (cL, (re r).2.2.1, .inr (.inl ((re r).2.2.2))))] s.heap := h.P10 lr
      have hzr : (re r).2.2.1 ≤ 40 := (h.2.2.2 r lr).2.2.2.1
      refine lv_astore (lv' := [(5, .ref r), (0, .ref x), (1, .int (nI j)), (2, .int i0), (3, .long v0)]) hx hb dX2_mark_10 hl (by decide) rfl (fun ls hl => ?_)
      refine lv_aload hx hb dX2_mark_12 (lv_at hl 0 rfl) ?_
      refine lv_ifnull hx hb dX2_mark_14 ?_
      refine lv_aload hx hb dX2_mark_17 (lv_at hl 0 rfl) ?_
      refine ro_i (va_runV (As := []) (rest := []) ⟨hx, hb, hml, hown, hts⟩ (c_X1_holdsNumbers l (h0 := r) (hP.sub [8] rfl)) (cwV 0 hts gX2_mark_X1_holdsNumbers rfl rfl rfl (by decide +kernel) ⟨Nat.le_of_ble_eq_true rfl, Nat.le_of_ble_eq_true rfl⟩) (Pq.V hC hS hN (va_recv hK hP (ci := 1) (q0 := 8) rfl rfl)) rfl rfl hl.1 rfl (lv_room (Nat.le_of_ble_eq_true rfl)) dX2_mark_19 ⟨Nat.le_of_ble_eq_true rfl, Nat.le_of_ble_eq_true rfl⟩) hS (fun r_1 locs hw hS => ?_)
      have hw : r_1 = tB ((re r).1 = 1 ∨ (re r).1 = 2) := hw
      subst hw
      refine lv_if_ne (tgt := 35) hx hb dX2_mark_22 (by decide) (fun c_22 => ?_) (fun c_22 => ?_)
      · have c_22 := tB_n.mp c_22
        refine lv_aload hx hb dX2_mark_35 (lv_at hl 0 rfl) ?_
        refine lv_iload_n hx hb dX2_mark_37 rfl (lv_at hl 3 rfl) ?_
        refine rx_v (vx_runS (As := [.ref r, .int i0]) (rest := []) ⟨hx, hb, hml, hown, hts⟩ (c_X2_requireFrame l hl0 (i0 := i0) (hP.sub [8, 9] rfl) hzr) (va_cwS 2 hts gX2_mark_X2_requireFrame rfl rfl rfl (by decide +kernel) ⟨Nat.le_of_ble_eq_true rfl, Nat.le_of_ble_eq_true rfl⟩) (Pq.S hC hS hN) rfl rfl hl.1 rfl (lv_room (Nat.le_of_ble_eq_true rfl)) dX2_mark_38 ⟨Nat.le_of_ble_eq_true rfl, Nat.le_of_ble_eq_true rfl⟩) hS (fun ce q9 H9 locs hx9 hz9 hk9 hS hcell hv9 hcl => ?_) (fun locs hw hS => ?_)
        · have hx9 : ¬ okF i0 ((re r).2.2.1) := hx9
          refine vx_widen (k := 3) (n := 18) (by omega) (by omega) ?_
          exact vx_out (fun x9 h9 => (hxt x9 h9).elim) hlocks hcell hv9 hcl (fun t ht hvm => ⟨(), trivial, ⟨Or.inr ⟨j, hj, rfl, Or.inr ⟨rfl, r, eh, c_22, hx9⟩⟩, by rw [ht]; exact h.xo hk9⟩, by rw [ht]; exact hz9, fun q hs _ => by rw [ht]; exact hk9 q hs⟩) (fun z9 h9 => (hS.2.2 z9 h9).elim) (Nat.le_refl _) (Nat.le_refl _)
        · have hw : okF i0 ((re r).2.2.1) := hw
          obtain ⟨i, hi, rfl⟩ := hw
          refine lv_aload hx hb dX2_mark_41 (lv_at hl 0 rfl) ?_
          refine va_getN (D := D) (ci := 1) (v := .ref ((re r).2.1)) (C := RX1) (T := TX1) (N := 2) hx hb hts iw_X2_mark_X1 hown hK hP 8 rfl rfl 1 (by decide) (hC.nest (a := RX2) (i := 70) (b := "SpliceRoom$Reel") (n := "row") (d := "[J") (hh := "SpliceRoom") (by decide +kernel)) (fun _ h9 => h9) rfl dX2_mark_43 ?_
          refine lv_iload_n hx hb dX2_mark_46 rfl (lv_at hl 3 rfl) ?_
          refine lv_aload hx hb dX2_mark_47 (lv_at hl 0 rfl) ?_
          refine va_getN (D := D) (ci := 1) (v := .int ((re r).1)) (C := RX1) (T := TX1) (N := 2) hx hb hts iw_X2_mark_X1 hown hK hP 8 rfl rfl 0 (by decide) (hC.nest (a := RX2) (i := 62) (b := "SpliceRoom$Reel") (n := "kind") (d := "I") (hh := "SpliceRoom") (by decide +kernel)) (fun _ h9 => h9) rfl dX2_mark_49 ?_
          refine lv_iconst (v := 1) hx hb dX2_mark_52 (by decide) ?_
          refine lv_icmp_ne (tgt := 62) hx hb dX2_mark_53 (by decide) (fun c_53 => ?_) (fun c_53 => ?_)
          · refine lv_lload_n hx hb dX2_mark_62 rfl (lv_at hl 4 rfl) ?_
            obtain ⟨A, hAe⟩ : ∃ A : Nat → Prop, A = va_A [(x, .inr (2, [.ref ah, .ref ak, .ref b0, .ref b1, .ref b2, .ref b3, .ref b4, .int k])), (ah, .inl (cQ, 6, .inr (.inr (.inr (.inr hk))))), (ak, .inr (0, [.int (kn 0), .int (kn 1), .int (kn 2), .int (kn 3), .int (kn 4), .int (kn 5), .int (kn 6)])), (b0, .inl (cI, 24, .inl (sh 0))), (b1, .inl (cI, 24, .inl (sh 1))), (b2, .inl (cI, 24, .inl (sh 2))), (b3, .inl (cI, 24, .inl (sh 3))), (b4, .inl (cI, 24, .inl (sh 4))), (r, .inr (1, [.int ((re r).1), .ref ((re r).2.1)])), ((re r).2.1, .inl (cL, (re r).2.2.1, .inr (.inl ((re r).2.2.2))))] s.heap.size := ⟨_, rfl⟩
            have hP : va_P D vwCl [(x, .inr (2, [.ref ah, .ref ak, .ref b0, .ref b1, .ref b2, .ref b3, .ref b4, .int k])), (ah, .inl (cQ, 6, .inr (.inr (.inr (.inr hk))))), (ak, .inr (0, [.int (kn 0), .int (kn 1), .int (kn 2), .int (kn 3), .int (kn 4), .int (kn 5), .int (kn 6)])), (b0, .inl (cI, 24, .inl (sh 0))), (b1, .inl (cI, 24, .inl (sh 1))), (b2, .inl (cI, 24, .inl (sh 2))), (b3, .inl (cI, 24, .inl (sh 3))), (b4, .inl (cI, 24, .inl (sh 4))), (r, .inr (1, [.int ((re r).1), .ref ((re r).2.1)])), ((re r).2.1, .inl (cL, (re r).2.2.1, .inr (.inl ((re r).2.2.2))))] s.heap := h.P10 lr
            have hD : va_D A [(x, .inr (2, [.ref ah, .ref ak, .ref b0, .ref b1, .ref b2, .ref b3, .ref b4, .int k])), (ah, .inl (cQ, 6, .inr (.inr (.inr (.inr hk))))), (ak, .inr (0, [.int (kn 0), .int (kn 1), .int (kn 2), .int (kn 3), .int (kn 4), .int (kn 5), .int (kn 6)])), (b0, .inl (cI, 24, .inl (sh 0))), (b1, .inl (cI, 24, .inl (sh 1))), (b2, .inl (cI, 24, .inl (sh 2))), (b3, .inl (cI, 24, .inl (sh 3))), (b4, .inl (cI, 24, .inl (sh 4))), (r, .inr (1, [.int ((re r).1), .ref ((re r).2.1)])), ((re r).2.1, .inl (cL, (re r).2.2.1, .inr (.inl ((re r).2.2.2))))] := by rw [hAe]; exact (h.D10 lr).self
            have hA : ∀ q, s.heap.size ≤ q → A q := fun q z => by rw [hAe]; exact Or.inr z
            have hFA : ∀ q, A q → F q ∨ s.heap.size ≤ q := fun q z => h.in10 lr (hAe ▸ z)
            have hN : ∀ q, A q → N0 ≤ q := fun q z => hNF q (hFA q z)
            have hS : va_S A s.heap s.heap locs := S_mono hS (fun _ z => z.elim)
            refine va_last (D := D) hx hb hK hP hD hS 9 1 rfl rfl (vp_in_nI hi (by omega)) dX2_mark_63 (fun H locs hP hD hS => ?_)
            have hP : va_P D vwCl [(x, .inr (2, [.ref ah, .ref ak, .ref b0, .ref b1, .ref b2, .ref b3, .ref b4, .int k])), (ah, .inl (cQ, 6, .inr (.inr (.inr (.inr hk))))), (ak, .inr (0, [.int (kn 0), .int (kn 1), .int (kn 2), .int (kn 3), .int (kn 4), .int (kn 5), .int (kn 6)])), (b0, .inl (cI, 24, .inl (sh 0))), (b1, .inl (cI, 24, .inl (sh 1))), (b2, .inl (cI, 24, .inl (sh 2))), (b3, .inl (cI, 24, .inl (sh 3))), (b4, .inl (cI, 24, .inl (sh 4))), (r, .inr (1, [.int ((re r).1), .ref ((re r).2.1)])), ((re r).2.1, .inl (cL, (re r).2.2.1, .inr (.inl (vp_updL ((re r).2.2.2) ((nI i).toNatClampNeg) v0))))] H := hP
            have hD : va_D A [(x, .inr (2, [.ref ah, .ref ak, .ref b0, .ref b1, .ref b2, .ref b3, .ref b4, .int k])), (ah, .inl (cQ, 6, .inr (.inr (.inr (.inr hk))))), (ak, .inr (0, [.int (kn 0), .int (kn 1), .int (kn 2), .int (kn 3), .int (kn 4), .int (kn 5), .int (kn 6)])), (b0, .inl (cI, 24, .inl (sh 0))), (b1, .inl (cI, 24, .inl (sh 1))), (b2, .inl (cI, 24, .inl (sh 2))), (b3, .inl (cI, 24, .inl (sh 3))), (b4, .inl (cI, 24, .inl (sh 4))), (r, .inr (1, [.int ((re r).1), .ref ((re r).2.1)])), ((re r).2.1, .inl (cL, (re r).2.2.1, .inr (.inl (vp_updL ((re r).2.2.2) ((nI i).toNatClampNeg) v0))))] := hD
            rw [nI_clamp (show i < 2 ^ 31 by omega)] at hP hD
            refine W.widen (k := 3) (n := 18) (by omega) (by omega) ?_
            exact vx_ret (W.vret hx hb hr (fun t ht hW => ⟨⟨(hk, va_up re r ((re r).1, (re r).2.1, (re r).2.2.1, vp_updL (re r).2.2.2 i v0), kn, sh, k), rfl, ⟨j, r, i, hj, rfl, eh, c_22, hi, rfl, by rw [mkV, if_neg c_53]⟩, by dsimp only; rw [ht]; exact h.endM lr hP (fun q hs hn => hS.2.1 q hs (by rw [hAe]; exact hn))⟩, (S_mono hS hFA).F ht⟩) (fun z9 h9 => hFA _ (hS.2.2 z9 h9)) dX2_mark_64)
          · refine lv_lload_n hx hb dX2_mark_56 rfl (lv_at hl 4 rfl) ?_
            refine lv_l2i hx hb dX2_mark_57 rfl ?_
            refine lv_i2l hx hb dX2_mark_58 rfl ?_
            refine lv_goto (tgt := 63) hx hb dX2_mark_59 (by decide) ?_
            obtain ⟨A, hAe⟩ : ∃ A : Nat → Prop, A = va_A [(x, .inr (2, [.ref ah, .ref ak, .ref b0, .ref b1, .ref b2, .ref b3, .ref b4, .int k])), (ah, .inl (cQ, 6, .inr (.inr (.inr (.inr hk))))), (ak, .inr (0, [.int (kn 0), .int (kn 1), .int (kn 2), .int (kn 3), .int (kn 4), .int (kn 5), .int (kn 6)])), (b0, .inl (cI, 24, .inl (sh 0))), (b1, .inl (cI, 24, .inl (sh 1))), (b2, .inl (cI, 24, .inl (sh 2))), (b3, .inl (cI, 24, .inl (sh 3))), (b4, .inl (cI, 24, .inl (sh 4))), (r, .inr (1, [.int ((re r).1), .ref ((re r).2.1)])), ((re r).2.1, .inl (cL, (re r).2.2.1, .inr (.inl ((re r).2.2.2))))] s.heap.size := ⟨_, rfl⟩
            have hP : va_P D vwCl [(x, .inr (2, [.ref ah, .ref ak, .ref b0, .ref b1, .ref b2, .ref b3, .ref b4, .int k])), (ah, .inl (cQ, 6, .inr (.inr (.inr (.inr hk))))), (ak, .inr (0, [.int (kn 0), .int (kn 1), .int (kn 2), .int (kn 3), .int (kn 4), .int (kn 5), .int (kn 6)])), (b0, .inl (cI, 24, .inl (sh 0))), (b1, .inl (cI, 24, .inl (sh 1))), (b2, .inl (cI, 24, .inl (sh 2))), (b3, .inl (cI, 24, .inl (sh 3))), (b4, .inl (cI, 24, .inl (sh 4))), (r, .inr (1, [.int ((re r).1), .ref ((re r).2.1)])), ((re r).2.1, .inl (cL, (re r).2.2.1, .inr (.inl ((re r).2.2.2))))] s.heap := h.P10 lr
            have hD : va_D A [(x, .inr (2, [.ref ah, .ref ak, .ref b0, .ref b1, .ref b2, .ref b3, .ref b4, .int k])), (ah, .inl (cQ, 6, .inr (.inr (.inr (.inr hk))))), (ak, .inr (0, [.int (kn 0), .int (kn 1), .int (kn 2), .int (kn 3), .int (kn 4), .int (kn 5), .int (kn 6)])), (b0, .inl (cI, 24, .inl (sh 0))), (b1, .inl (cI, 24, .inl (sh 1))), (b2, .inl (cI, 24, .inl (sh 2))), (b3, .inl (cI, 24, .inl (sh 3))), (b4, .inl (cI, 24, .inl (sh 4))), (r, .inr (1, [.int ((re r).1), .ref ((re r).2.1)])), ((re r).2.1, .inl (cL, (re r).2.2.1, .inr (.inl ((re r).2.2.2))))] := by rw [hAe]; exact (h.D10 lr).self
            have hA : ∀ q, s.heap.size ≤ q → A q := fun q z => by rw [hAe]; exact Or.inr z
            have hFA : ∀ q, A q → F q ∨ s.heap.size ≤ q := fun q z => h.in10 lr (hAe ▸ z)
            have hN : ∀ q, A q → N0 ≤ q := fun q z => hNF q (hFA q z)
            have hS : va_S A s.heap s.heap locs := S_mono hS (fun _ z => z.elim)
            refine va_last (D := D) hx hb hK hP hD hS 9 1 rfl rfl (vp_in_nI hi (by omega)) dX2_mark_63 (fun H locs hP hD hS => ?_)
            have hP : va_P D vwCl [(x, .inr (2, [.ref ah, .ref ak, .ref b0, .ref b1, .ref b2, .ref b3, .ref b4, .int k])), (ah, .inl (cQ, 6, .inr (.inr (.inr (.inr hk))))), (ak, .inr (0, [.int (kn 0), .int (kn 1), .int (kn 2), .int (kn 3), .int (kn 4), .int (kn 5), .int (kn 6)])), (b0, .inl (cI, 24, .inl (sh 0))), (b1, .inl (cI, 24, .inl (sh 1))), (b2, .inl (cI, 24, .inl (sh 2))), (b3, .inl (cI, 24, .inl (sh 3))), (b4, .inl (cI, 24, .inl (sh 4))), (r, .inr (1, [.int ((re r).1), .ref ((re r).2.1)])), ((re r).2.1, .inl (cL, (re r).2.2.1, .inr (.inl (vp_updL ((re r).2.2.2) ((nI i).toNatClampNeg) v0.toInt32.toInt64))))] H := hP
            have hD : va_D A [(x, .inr (2, [.ref ah, .ref ak, .ref b0, .ref b1, .ref b2, .ref b3, .ref b4, .int k])), (ah, .inl (cQ, 6, .inr (.inr (.inr (.inr hk))))), (ak, .inr (0, [.int (kn 0), .int (kn 1), .int (kn 2), .int (kn 3), .int (kn 4), .int (kn 5), .int (kn 6)])), (b0, .inl (cI, 24, .inl (sh 0))), (b1, .inl (cI, 24, .inl (sh 1))), (b2, .inl (cI, 24, .inl (sh 2))), (b3, .inl (cI, 24, .inl (sh 3))), (b4, .inl (cI, 24, .inl (sh 4))), (r, .inr (1, [.int ((re r).1), .ref ((re r).2.1)])), ((re r).2.1, .inl (cL, (re r).2.2.1, .inr (.inl (vp_updL ((re r).2.2.2) ((nI i).toNatClampNeg) v0.toInt32.toInt64))))] := hD
            rw [nI_clamp (show i < 2 ^ 31 by omega)] at hP hD
            refine W.widen (k := 3) (n := 18) (by omega) (by omega) ?_
            exact vx_ret (W.vret hx hb hr (fun t ht hW => ⟨⟨(hk, va_up re r ((re r).1, (re r).2.1, (re r).2.2.1, vp_updL (re r).2.2.2 i v0.toInt32.toInt64), kn, sh, k), rfl, ⟨j, r, i, hj, rfl, eh, c_22, hi, rfl, by rw [mkV, if_pos c_53]⟩, by dsimp only; rw [ht]; exact h.endM lr hP (fun q hs hn => hS.2.1 q hs (by rw [hAe]; exact hn))⟩, (S_mono hS hFA).F ht⟩) (fun z9 h9 => hFA _ (hS.2.2 z9 h9)) dX2_mark_64)
      · have c_22 := tB_0.mp c_22
        exact vx_throwS (cls := eS) (text := "neither marks nor hours") (names := exN) (sa := sa 84) (A := nA) hx hb hl0 hown (by decide +kernel) exN_fit (hts _ lk_X2_mark_Cond_classLink_RX2_65_eS) (hts _ lk_X2_mark_Cond_initialized_eS) (hC.text (by decide +kernel)) (vx_hat (fun w hw => hts w (xw_X2_mark_eS w hw)) exS_ng hC.all) (good2 exS_ot) (hC.ust nA_N) (hC.sup nA_N) hS (by rw [hml]; exact hl.1) dX2_mark_25 dX2_mark_28 dX2_mark_29 dX2_mark_31 dX2_mark_34 (fun x9 h9 => (hxt x9 h9).elim) (by decide) (Nat.le_of_ble_eq_true rfl) (Nat.le_of_ble_eq_true rfl) (Nat.le_of_ble_eq_true rfl) hlocks (fun t hvm hz9 hk9 => ⟨(), trivial, ⟨Or.inr ⟨j, hj, rfl, Or.inl ⟨rfl, Or.inr ⟨r, eh, c_22⟩⟩⟩, h.xo hk9⟩, hz9, fun q hs _ => hk9 q hs⟩) (fun z9 h9 => (hS.2.2 z9 h9).elim) (Nat.le_of_ble_eq_true rfl) (Nat.le_of_ble_eq_true rfl)
theorem xw_X2_pull_eS : ∀ w ∈ (vx_atS RX2 69 eS exN).filter goodWord, w ∈ wsX2_pull := by decide +kernel
theorem iw_X2_pull_X1 : ∀ w ∈ wsX10, w ∈ wsX2_pull := by decide +kernel
theorem iw_X2_pull_X2 : ∀ w ∈ wsX20, w ∈ wsX2_pull := by decide +kernel
theorem lk_X2_pull_Cond_classLink_RX2_65_eS : Cond.classLink RX2 65 eS ∈ wsX2_pull := by decide +kernel
theorem lk_X2_pull_Cond_constantLong_RX2_101_1_ : Cond.constantLong RX2 101 (-1) ∈ wsX2_pull := by decide +kernel
theorem lk_X2_pull_Cond_fieldLink_RX2_11_SpliceRoom_hooks_LSpliceRoom_Reel_ : Cond.fieldLink RX2 11 "SpliceRoom" "hooks" "[LSpliceRoom$Reel;" ∈ wsX2_pull := by decide +kernel
theorem lk_X2_pull_Cond_initialized_eS : Cond.initialized eS ∈ wsX2_pull := by decide +kernel
set_option maxHeartbeats 4000000 in
set_option maxRecDepth 100000 in
theorem c_X2_pull (l : Launch) {D : va_G} {cI cL cQ : ClassId} {N0 : Nat} {sa : Nat → Nat} {Hc : Heap} (hl0 : l.stackTraces = false) {x ah ak b0 b1 b2 b3 b4 : Nat} {F : Nat → Prop} {hk : Nat → Option Nat} {re : Nat → RE} {kn : Nat → Int32} {sh : Nat → Nat → Int32} {k : Int32} (h : RSB D cI cL cQ x ah ak b0 b1 b2 b3 b4 F (hk, re, kn, sh, k) Hc) (hNF : ∀ q, F q ∨ Hc.size ≤ q → N0 ≤ q) {h0 i0 : Int32} : vx_Met l yX2_pull wsX2_pull ({ frames := 7, cells := 3, slots := 18, locals := 110 }) (Pq D cI cL cQ N0 sa [.ref x, .int h0, .int i0] Hc) (va_Qi (fun (rr : Int32) (u : CS) => ∃ j1 r1 i1 : Nat, j1 < 6 ∧ h0 = nI j1 ∧ hk j1 = some r1 ∧ ((re r1).1 = 3 ∨ (re r1).1 = 4) ∧ i1 < (re r1).2.2.1 ∧ i0 = nI i1 ∧ rr = tB (¬ (re r1).2.2.2 i1 = -1) ∧ u = (hk, va_up re r1 ((re r1).1, (re r1).2.1, (re r1).2.2.1, vp_updL (re r1).2.2.2 i1 (-1)), kn, sh, k)) (fun u t => RSB D cI cL cQ x ah ak b0 b1 b2 b3 b4 (fun q => F q ∨ Hc.size ≤ q) u t.heap) (fun q => F q ∨ Hc.size ≤ q)) (vx_X (fun (_ : Unit) => True) (fun E _ t => ((E = eA ∧ ¬ okH h0) ∨ (∃ j1 : Nat, j1 < 6 ∧ h0 = nI j1 ∧ ((E = eS ∧ (hk j1 = none ∨ ∃ r1 : Nat, hk j1 = some r1 ∧ ¬ ((re r1).1 = 3 ∨ (re r1).1 = 4))) ∨ (E = eI ∧ ∃ r1 : Nat, hk j1 = some r1 ∧ ((re r1).1 = 3 ∨ (re r1).1 = 4) ∧ ¬ okF i0 (re r1).2.2.1)))) ∧ RSB D cI cL cQ x ah ak b0 b1 b2 b3 b4 (fun q => F q ∨ Hc.size ≤ q) (hk, re, kn, sh, k) t.heap) (fun q => F q ∨ Hc.size ≤ q)) 3 18 (fun q => F q ∨ Hc.size ≤ q) := by
  refine vx_ofW (cc := cX2_pull) (maxL := 5) (ret := (some .boolean)) (by decide) rfl ?_
  intro p e s m args below meth c s₁ B hml hxt hv
  obtain ⟨rfl, hH, hC⟩ := hv
  have hx := B.exec
  have hb := B.bytes
  have hr := B.returns
  have hts := atoms_spec (ws := wsX2_pull) B.pre
  have hown : s.vm.findClass RX2 = some m.cls := findClass_of_methodNamed B.named
  have hlocks := B.notSynchronized
  subst hH
  have hK := hC.K
  have hl := lv_entry ([.ref x, .int h0, .int i0]) (n := 5) (Nat.le_of_ble_eq_true rfl)
  rw [lg_entry_eq]
  generalize (lg_sl ([.ref x, .int h0, .int i0]) ++ List.replicate (5 - (lg_sl ([.ref x, .int h0, .int i0])).length) Slot.unset).toArray = ls at hl ⊢
  have hl : lv_has ls 5 [(0, .ref x), (1, .int h0), (2, .int i0)] := hl
  have hP : va_P D vwCl [(x, .inr (2, [.ref ah, .ref ak, .ref b0, .ref b1, .ref b2, .ref b3, .ref b4, .int k])), (ah, .inl (cQ, 6, .inr (.inr (.inr (.inr hk))))), (ak, .inr (0, [.int (kn 0), .int (kn 1), .int (kn 2), .int (kn 3), .int (kn 4), .int (kn 5), .int (kn 6)])), (b0, .inl (cI, 24, .inl (sh 0))), (b1, .inl (cI, 24, .inl (sh 1))), (b2, .inl (cI, 24, .inl (sh 2))), (b3, .inl (cI, 24, .inl (sh 3))), (b4, .inl (cI, 24, .inl (sh 4)))] s.heap := h.P8
  have hS : va_S nA s.heap s.heap [] := va_S.rf
  have hN : ∀ q, nA q → N0 ≤ q := nA_N
  refine lv_iload_n hx hb dX2_pull_0 rfl (lv_at hl 1 rfl) ?_
  refine rx_v (vx_runS (As := [.int h0]) (rest := []) ⟨hx, hb, hml, hown, hts⟩ (c_X2_requireHook l hl0 (h0 := h0)) (va_cwS 1 hts gX2_pull_X2_requireHook rfl rfl rfl (by decide +kernel) ⟨Nat.le_of_ble_eq_true rfl, Nat.le_of_ble_eq_true rfl⟩) (Pq.S hC hS hN) rfl rfl hl.1 rfl (lv_room (Nat.le_of_ble_eq_true rfl)) dX2_pull_1 ⟨Nat.le_of_ble_eq_true rfl, Nat.le_of_ble_eq_true rfl⟩) hS (fun ce q9 H9 locs hx9 hz9 hk9 hS hcell hv9 hcl => ?_) (fun locs hw hS => ?_)
  · have hx9 : ¬ okH h0 := hx9
    refine vx_widen (k := 3) (n := 18) (by omega) (by omega) ?_
    exact vx_out (fun x9 h9 => (hxt x9 h9).elim) hlocks hcell hv9 hcl (fun t ht hvm => ⟨(), trivial, ⟨Or.inl ⟨rfl, hx9⟩, by rw [ht]; exact h.xo hk9⟩, by rw [ht]; exact hz9, fun q hs _ => by rw [ht]; exact hk9 q hs⟩) (fun z9 h9 => (hS.2.2 z9 h9).elim) (Nat.le_refl _) (Nat.le_refl _)
  · have hw : okH h0 := hw
    obtain ⟨j, hj, rfl⟩ := hw
    refine lv_aload_n hx hb dX2_pull_4 rfl (lv_at hl 0 rfl) ?_
    refine va_get (D := D) (ci := 2) (v := .ref ah) (C := RX2) (T := TX2) (N := 8) hx hb hts iw_X2_pull_X2 hown hK hP 0 rfl rfl 0 (by decide) (hts _ lk_X2_pull_Cond_fieldLink_RX2_11_SpliceRoom_hooks_LSpliceRoom_Reel_) (fun _ h9 => h9) rfl dX2_pull_5 ?_
    refine lv_iload_n hx hb dX2_pull_8 rfl (lv_at hl 1 rfl) ?_
    refine va_aldq (D := D) hx hb hK hP 1 2 rfl rfl (vp_in_nI hj (by decide)) dX2_pull_9 ?_
    refine W.eq (g2 := F0 m 10 ls (va_rf (hk j) :: [])) (by rw [nI_clamp (by omega)]) ?_
    cases eh : hk j with
    | none =>
      refine lv_astore_nN (lv' := [(3, .null), (0, .ref x), (1, .int (nI j)), (2, .int i0)]) hx hb dX2_pull_10 rfl hl (by decide) rfl (fun ls hl => ?_)
      refine lv_aload_nN hx hb dX2_pull_11 rfl (lv_at hl 0 rfl) ?_
      refine lv_ifnullN (tgt := 22) hx hb dX2_pull_12 (by decide) ?_
      exact vx_throwS (cls := eS) (text := "neither cards nor seals") (names := exN) (sa := sa 95) (A := nA) hx hb hl0 hown (by decide +kernel) exN_fit (hts _ lk_X2_pull_Cond_classLink_RX2_65_eS) (hts _ lk_X2_pull_Cond_initialized_eS) (hC.text (by decide +kernel)) (vx_hat (fun w hw => hts w (xw_X2_pull_eS w hw)) exS_ng hC.all) (good2 exS_ot) (hC.ust nA_N) (hC.sup nA_N) hS (by rw [hml]; exact hl.1) dX2_pull_22 dX2_pull_25 dX2_pull_26 dX2_pull_28 dX2_pull_31 (fun x9 h9 => (hxt x9 h9).elim) (by decide) (Nat.le_of_ble_eq_true rfl) (Nat.le_of_ble_eq_true rfl) (Nat.le_of_ble_eq_true rfl) hlocks (fun t hvm hz9 hk9 => ⟨(), trivial, ⟨Or.inr ⟨j, hj, rfl, Or.inl ⟨rfl, Or.inl eh⟩⟩, h.xo hk9⟩, hz9, fun q hs _ => hk9 q hs⟩) (fun z9 h9 => (hS.2.2 z9 h9).elim) (Nat.le_of_ble_eq_true rfl) (Nat.le_of_ble_eq_true rfl)
    | some r =>
      have lr : Live hk r := ⟨j, hj, eh⟩
      have hP : va_P D vwCl [(x, .inr (2, [.ref ah, .ref ak, .ref b0, .ref b1, .ref b2, .ref b3, .ref b4, .int k])), (ah, .inl (cQ, 6, .inr (.inr (.inr (.inr hk))))), (ak, .inr (0, [.int (kn 0), .int (kn 1), .int (kn 2), .int (kn 3), .int (kn 4), .int (kn 5), .int (kn 6)])), (b0, .inl (cI, 24, .inl (sh 0))), (b1, .inl (cI, 24, .inl (sh 1))), (b2, .inl (cI, 24, .inl (sh 2))), (b3, .inl (cI, 24, .inl (sh 3))), (b4, .inl (cI, 24, .inl (sh 4))), (r, .inr (1, [.int ((re r).1), .ref ((re r).2.1)])), ((re r).2.1, .inl (cL, (re r).2.2.1, .inr (.inl ((re r).2.2.2))))] s.heap := h.P10 lr
      have hzr : (re r).2.2.1 ≤ 40 := (h.2.2.2 r lr).2.2.2.1
      refine lv_astore_n (lv' := [(3, .ref r), (0, .ref x), (1, .int (nI j)), (2, .int i0)]) hx hb dX2_pull_10 rfl hl (by decide) rfl (fun ls hl => ?_)
      refine lv_aload_n hx hb dX2_pull_11 rfl (lv_at hl 0 rfl) ?_
      refine lv_ifnull hx hb dX2_pull_12 ?_
      refine lv_aload_n hx hb dX2_pull_15 rfl (lv_at hl 0 rfl) ?_
      refine ro_i (va_runV (As := []) (rest := []) ⟨hx, hb, hml, hown, hts⟩ (c_X1_holdsCards l (h0 := r) (hP.sub [8] rfl)) (cwV 0 hts gX2_pull_X1_holdsCards rfl rfl rfl (by decide +kernel) ⟨Nat.le_of_ble_eq_true rfl, Nat.le_of_ble_eq_true rfl⟩) (Pq.V hC hS hN (va_recv hK hP (ci := 1) (q0 := 8) rfl rfl)) rfl rfl hl.1 rfl (lv_room (Nat.le_of_ble_eq_true rfl)) dX2_pull_16 ⟨Nat.le_of_ble_eq_true rfl, Nat.le_of_ble_eq_true rfl⟩) hS (fun r_1 locs hw hS => ?_)
      have hw : r_1 = tB ((re r).1 = 3 ∨ (re r).1 = 4) := hw
      subst hw
      refine lv_if_ne (tgt := 32) hx hb dX2_pull_19 (by decide) (fun c_19 => ?_) (fun c_19 => ?_)
      · have c_19 := tB_n.mp c_19
        refine lv_aload_n hx hb dX2_pull_32 rfl (lv_at hl 0 rfl) ?_
        refine lv_iload_n hx hb dX2_pull_33 rfl (lv_at hl 3 rfl) ?_
        refine rx_v (vx_runS (As := [.ref r, .int i0]) (rest := []) ⟨hx, hb, hml, hown, hts⟩ (c_X2_requireFrame l hl0 (i0 := i0) (hP.sub [8, 9] rfl) hzr) (va_cwS 2 hts gX2_pull_X2_requireFrame rfl rfl rfl (by decide +kernel) ⟨Nat.le_of_ble_eq_true rfl, Nat.le_of_ble_eq_true rfl⟩) (Pq.S hC hS hN) rfl rfl hl.1 rfl (lv_room (Nat.le_of_ble_eq_true rfl)) dX2_pull_34 ⟨Nat.le_of_ble_eq_true rfl, Nat.le_of_ble_eq_true rfl⟩) hS (fun ce q9 H9 locs hx9 hz9 hk9 hS hcell hv9 hcl => ?_) (fun locs hw hS => ?_)
        · have hx9 : ¬ okF i0 ((re r).2.2.1) := hx9
          refine vx_widen (k := 3) (n := 18) (by omega) (by omega) ?_
          exact vx_out (fun x9 h9 => (hxt x9 h9).elim) hlocks hcell hv9 hcl (fun t ht hvm => ⟨(), trivial, ⟨Or.inr ⟨j, hj, rfl, Or.inr ⟨rfl, r, eh, c_19, hx9⟩⟩, by rw [ht]; exact h.xo hk9⟩, by rw [ht]; exact hz9, fun q hs _ => by rw [ht]; exact hk9 q hs⟩) (fun z9 h9 => (hS.2.2 z9 h9).elim) (Nat.le_refl _) (Nat.le_refl _)
        · have hw : okF i0 ((re r).2.2.1) := hw
          obtain ⟨i, hi, rfl⟩ := hw
          refine lv_aload_n hx hb dX2_pull_37 rfl (lv_at hl 0 rfl) ?_
          refine va_getN (D := D) (ci := 1) (v := .ref ((re r).2.1)) (C := RX1) (T := TX1) (N := 2) hx hb hts iw_X2_pull_X1 hown hK hP 8 rfl rfl 1 (by decide) (hC.nest (a := RX2) (i := 70) (b := "SpliceRoom$Reel") (n := "row") (d := "[J") (hh := "SpliceRoom") (by decide +kernel)) (fun _ h9 => h9) rfl dX2_pull_38 ?_
          refine lv_iload_n hx hb dX2_pull_41 rfl (lv_at hl 3 rfl) ?_
          refine va_lald (D := D) hx hb hK hP 9 1 rfl rfl (vp_in_nI hi (by omega)) dX2_pull_42 ?_
          refine lv_topl (fun y_2 e9 => ?_)
          have e9 : y_2 = (re r).2.2.2 i := e9.trans (by rw [nI_clamp (by omega)])
          subst e9
          refine lv_ldc2 (v := (-1)) hx hb hown (hts _ lk_X2_pull_Cond_constantLong_RX2_101_1_) dX2_pull_43 ?_
          refine W.lcmp hx hb dX2_pull_46 ?_
          refine lv_if_eq (tgt := 54) hx hb dX2_pull_47 (by decide) (fun c_47 => ?_) (fun c_47 => ?_)
          · have c_47 := (lg_cmp_eq ((re r).2.2.2 i) (-1)).mp c_47
            refine lv_iconst (v := 0) hx hb dX2_pull_54 (by decide) ?_
            refine lv_istore (lv' := [(4, .int 0), (3, .ref r), (0, .ref x), (1, .int (nI j)), (2, .int (nI i))]) hx hb dX2_pull_55 hl (by decide) rfl (fun ls hl => ?_)
            obtain ⟨A, hAe⟩ : ∃ A : Nat → Prop, A = va_A [(x, .inr (2, [.ref ah, .ref ak, .ref b0, .ref b1, .ref b2, .ref b3, .ref b4, .int k])), (ah, .inl (cQ, 6, .inr (.inr (.inr (.inr hk))))), (ak, .inr (0, [.int (kn 0), .int (kn 1), .int (kn 2), .int (kn 3), .int (kn 4), .int (kn 5), .int (kn 6)])), (b0, .inl (cI, 24, .inl (sh 0))), (b1, .inl (cI, 24, .inl (sh 1))), (b2, .inl (cI, 24, .inl (sh 2))), (b3, .inl (cI, 24, .inl (sh 3))), (b4, .inl (cI, 24, .inl (sh 4))), (r, .inr (1, [.int ((re r).1), .ref ((re r).2.1)])), ((re r).2.1, .inl (cL, (re r).2.2.1, .inr (.inl ((re r).2.2.2))))] s.heap.size := ⟨_, rfl⟩
            have hP : va_P D vwCl [(x, .inr (2, [.ref ah, .ref ak, .ref b0, .ref b1, .ref b2, .ref b3, .ref b4, .int k])), (ah, .inl (cQ, 6, .inr (.inr (.inr (.inr hk))))), (ak, .inr (0, [.int (kn 0), .int (kn 1), .int (kn 2), .int (kn 3), .int (kn 4), .int (kn 5), .int (kn 6)])), (b0, .inl (cI, 24, .inl (sh 0))), (b1, .inl (cI, 24, .inl (sh 1))), (b2, .inl (cI, 24, .inl (sh 2))), (b3, .inl (cI, 24, .inl (sh 3))), (b4, .inl (cI, 24, .inl (sh 4))), (r, .inr (1, [.int ((re r).1), .ref ((re r).2.1)])), ((re r).2.1, .inl (cL, (re r).2.2.1, .inr (.inl ((re r).2.2.2))))] s.heap := h.P10 lr
            have hD : va_D A [(x, .inr (2, [.ref ah, .ref ak, .ref b0, .ref b1, .ref b2, .ref b3, .ref b4, .int k])), (ah, .inl (cQ, 6, .inr (.inr (.inr (.inr hk))))), (ak, .inr (0, [.int (kn 0), .int (kn 1), .int (kn 2), .int (kn 3), .int (kn 4), .int (kn 5), .int (kn 6)])), (b0, .inl (cI, 24, .inl (sh 0))), (b1, .inl (cI, 24, .inl (sh 1))), (b2, .inl (cI, 24, .inl (sh 2))), (b3, .inl (cI, 24, .inl (sh 3))), (b4, .inl (cI, 24, .inl (sh 4))), (r, .inr (1, [.int ((re r).1), .ref ((re r).2.1)])), ((re r).2.1, .inl (cL, (re r).2.2.1, .inr (.inl ((re r).2.2.2))))] := by rw [hAe]; exact (h.D10 lr).self
            have hA : ∀ q, s.heap.size ≤ q → A q := fun q z => by rw [hAe]; exact Or.inr z
            have hFA : ∀ q, A q → F q ∨ s.heap.size ≤ q := fun q z => h.in10 lr (hAe ▸ z)
            have hN : ∀ q, A q → N0 ≤ q := fun q z => hNF q (hFA q z)
            have hS : va_S A s.heap s.heap locs := S_mono hS (fun _ z => z.elim)
            refine lv_aload_n hx hb dX2_pull_57 rfl (lv_at hl 1 rfl) ?_
            refine va_getN (D := D) (ci := 1) (v := .ref ((re r).2.1)) (C := RX1) (T := TX1) (N := 2) hx hb hts iw_X2_pull_X1 hown hK hP 8 rfl rfl 1 (by decide) (hC.nest (a := RX2) (i := 70) (b := "SpliceRoom$Reel") (n := "row") (d := "[J") (hh := "SpliceRoom") (by decide +kernel)) (fun _ h9 => h9) rfl dX2_pull_58 ?_
            refine lv_iload_n hx hb dX2_pull_61 rfl (lv_at hl 4 rfl) ?_
            refine lv_ldc2 (v := (-1)) hx hb hown (hts _ lk_X2_pull_Cond_constantLong_RX2_101_1_) dX2_pull_62 ?_
            refine va_last (D := D) hx hb hK hP hD hS 9 1 rfl rfl (vp_in_nI hi (by omega)) dX2_pull_65 (fun H locs hP hD hS => ?_)
            have hP : va_P D vwCl [(x, .inr (2, [.ref ah, .ref ak, .ref b0, .ref b1, .ref b2, .ref b3, .ref b4, .int k])), (ah, .inl (cQ, 6, .inr (.inr (.inr (.inr hk))))), (ak, .inr (0, [.int (kn 0), .int (kn 1), .int (kn 2), .int (kn 3), .int (kn 4), .int (kn 5), .int (kn 6)])), (b0, .inl (cI, 24, .inl (sh 0))), (b1, .inl (cI, 24, .inl (sh 1))), (b2, .inl (cI, 24, .inl (sh 2))), (b3, .inl (cI, 24, .inl (sh 3))), (b4, .inl (cI, 24, .inl (sh 4))), (r, .inr (1, [.int ((re r).1), .ref ((re r).2.1)])), ((re r).2.1, .inl (cL, (re r).2.2.1, .inr (.inl (vp_updL ((re r).2.2.2) ((nI i).toNatClampNeg) (-1)))))] H := hP
            have hD : va_D A [(x, .inr (2, [.ref ah, .ref ak, .ref b0, .ref b1, .ref b2, .ref b3, .ref b4, .int k])), (ah, .inl (cQ, 6, .inr (.inr (.inr (.inr hk))))), (ak, .inr (0, [.int (kn 0), .int (kn 1), .int (kn 2), .int (kn 3), .int (kn 4), .int (kn 5), .int (kn 6)])), (b0, .inl (cI, 24, .inl (sh 0))), (b1, .inl (cI, 24, .inl (sh 1))), (b2, .inl (cI, 24, .inl (sh 2))), (b3, .inl (cI, 24, .inl (sh 3))), (b4, .inl (cI, 24, .inl (sh 4))), (r, .inr (1, [.int ((re r).1), .ref ((re r).2.1)])), ((re r).2.1, .inl (cL, (re r).2.2.1, .inr (.inl (vp_updL ((re r).2.2.2) ((nI i).toNatClampNeg) (-1)))))] := hD
            rw [nI_clamp (show i < 2 ^ 31 by omega)] at hP hD
            refine lv_iload hx hb dX2_pull_66 (lv_at hl 0 rfl) ?_
            refine W.widen (k := 3) (n := 18) (by omega) (by omega) ?_
            exact vx_ret (W.zret (v := 0) hx hb hr (rfl) (fun t ht hW => ⟨⟨_, (hk, va_up re r ((re r).1, (re r).2.1, (re r).2.2.1, vp_updL (re r).2.2.2 i (-1)), kn, sh, k), rfl, ⟨j, r, i, hj, rfl, eh, c_19, hi, rfl, (tB_f (fun h9 => h9 c_47)).symm, rfl⟩, by dsimp only; rw [ht]; exact h.endM lr hP (fun q hs hn => hS.2.1 q hs (by rw [hAe]; exact hn))⟩, (S_mono hS hFA).F ht⟩) (fun z9 h9 => hFA _ (hS.2.2 z9 h9)) dX2_pull_68)
          · have c_47 := fun h9 => c_47 ((lg_cmp_eq ((re r).2.2.2 i) (-1)).mpr h9)
            refine lv_iconst (v := 1) hx hb dX2_pull_50 (by decide) ?_
            refine lv_goto (tgt := 55) hx hb dX2_pull_51 (by decide) ?_
            refine lv_istore (lv' := [(4, .int 1), (3, .ref r), (0, .ref x), (1, .int (nI j)), (2, .int (nI i))]) hx hb dX2_pull_55 hl (by decide) rfl (fun ls hl => ?_)
            obtain ⟨A, hAe⟩ : ∃ A : Nat → Prop, A = va_A [(x, .inr (2, [.ref ah, .ref ak, .ref b0, .ref b1, .ref b2, .ref b3, .ref b4, .int k])), (ah, .inl (cQ, 6, .inr (.inr (.inr (.inr hk))))), (ak, .inr (0, [.int (kn 0), .int (kn 1), .int (kn 2), .int (kn 3), .int (kn 4), .int (kn 5), .int (kn 6)])), (b0, .inl (cI, 24, .inl (sh 0))), (b1, .inl (cI, 24, .inl (sh 1))), (b2, .inl (cI, 24, .inl (sh 2))), (b3, .inl (cI, 24, .inl (sh 3))), (b4, .inl (cI, 24, .inl (sh 4))), (r, .inr (1, [.int ((re r).1), .ref ((re r).2.1)])), ((re r).2.1, .inl (cL, (re r).2.2.1, .inr (.inl ((re r).2.2.2))))] s.heap.size := ⟨_, rfl⟩
            have hP : va_P D vwCl [(x, .inr (2, [.ref ah, .ref ak, .ref b0, .ref b1, .ref b2, .ref b3, .ref b4, .int k])), (ah, .inl (cQ, 6, .inr (.inr (.inr (.inr hk))))), (ak, .inr (0, [.int (kn 0), .int (kn 1), .int (kn 2), .int (kn 3), .int (kn 4), .int (kn 5), .int (kn 6)])), (b0, .inl (cI, 24, .inl (sh 0))), (b1, .inl (cI, 24, .inl (sh 1))), (b2, .inl (cI, 24, .inl (sh 2))), (b3, .inl (cI, 24, .inl (sh 3))), (b4, .inl (cI, 24, .inl (sh 4))), (r, .inr (1, [.int ((re r).1), .ref ((re r).2.1)])), ((re r).2.1, .inl (cL, (re r).2.2.1, .inr (.inl ((re r).2.2.2))))] s.heap := h.P10 lr
            have hD : va_D A [(x, .inr (2, [.ref ah, .ref ak, .ref b0, .ref b1, .ref b2, .ref b3, .ref b4, .int k])), (ah, .inl (cQ, 6, .inr (.inr (.inr (.inr hk))))), (ak, .inr (0, [.int (kn 0), .int (kn 1), .int (kn 2), .int (kn 3), .int (kn 4), .int (kn 5), .int (kn 6)])), (b0, .inl (cI, 24, .inl (sh 0))), (b1, .inl (cI, 24, .inl (sh 1))), (b2, .inl (cI, 24, .inl (sh 2))), (b3, .inl (cI, 24, .inl (sh 3))), (b4, .inl (cI, 24, .inl (sh 4))), (r, .inr (1, [.int ((re r).1), .ref ((re r).2.1)])), ((re r).2.1, .inl (cL, (re r).2.2.1, .inr (.inl ((re r).2.2.2))))] := by rw [hAe]; exact (h.D10 lr).self
            have hA : ∀ q, s.heap.size ≤ q → A q := fun q z => by rw [hAe]; exact Or.inr z
            have hFA : ∀ q, A q → F q ∨ s.heap.size ≤ q := fun q z => h.in10 lr (hAe ▸ z)
            have hN : ∀ q, A q → N0 ≤ q := fun q z => hNF q (hFA q z)
            have hS : va_S A s.heap s.heap locs := S_mono hS (fun _ z => z.elim)
            refine lv_aload_n hx hb dX2_pull_57 rfl (lv_at hl 1 rfl) ?_
            refine va_getN (D := D) (ci := 1) (v := .ref ((re r).2.1)) (C := RX1) (T := TX1) (N := 2) hx hb hts iw_X2_pull_X1 hown hK hP 8 rfl rfl 1 (by decide) (hC.nest (a := RX2) (i := 70) (b := "SpliceRoom$Reel") (n := "row") (d := "[J") (hh := "SpliceRoom") (by decide +kernel)) (fun _ h9 => h9) rfl dX2_pull_58 ?_
            refine lv_iload_n hx hb dX2_pull_61 rfl (lv_at hl 4 rfl) ?_
            refine lv_ldc2 (v := (-1)) hx hb hown (hts _ lk_X2_pull_Cond_constantLong_RX2_101_1_) dX2_pull_62 ?_
            refine va_last (D := D) hx hb hK hP hD hS 9 1 rfl rfl (vp_in_nI hi (by omega)) dX2_pull_65 (fun H locs hP hD hS => ?_)
            have hP : va_P D vwCl [(x, .inr (2, [.ref ah, .ref ak, .ref b0, .ref b1, .ref b2, .ref b3, .ref b4, .int k])), (ah, .inl (cQ, 6, .inr (.inr (.inr (.inr hk))))), (ak, .inr (0, [.int (kn 0), .int (kn 1), .int (kn 2), .int (kn 3), .int (kn 4), .int (kn 5), .int (kn 6)])), (b0, .inl (cI, 24, .inl (sh 0))), (b1, .inl (cI, 24, .inl (sh 1))), (b2, .inl (cI, 24, .inl (sh 2))), (b3, .inl (cI, 24, .inl (sh 3))), (b4, .inl (cI, 24, .inl (sh 4))), (r, .inr (1, [.int ((re r).1), .ref ((re r).2.1)])), ((re r).2.1, .inl (cL, (re r).2.2.1, .inr (.inl (vp_updL ((re r).2.2.2) ((nI i).toNatClampNeg) (-1)))))] H := hP
            have hD : va_D A [(x, .inr (2, [.ref ah, .ref ak, .ref b0, .ref b1, .ref b2, .ref b3, .ref b4, .int k])), (ah, .inl (cQ, 6, .inr (.inr (.inr (.inr hk))))), (ak, .inr (0, [.int (kn 0), .int (kn 1), .int (kn 2), .int (kn 3), .int (kn 4), .int (kn 5), .int (kn 6)])), (b0, .inl (cI, 24, .inl (sh 0))), (b1, .inl (cI, 24, .inl (sh 1))), (b2, .inl (cI, 24, .inl (sh 2))), (b3, .inl (cI, 24, .inl (sh 3))), (b4, .inl (cI, 24, .inl (sh 4))), (r, .inr (1, [.int ((re r).1), .ref ((re r).2.1)])), ((re r).2.1, .inl (cL, (re r).2.2.1, .inr (.inl (vp_updL ((re r).2.2.2) ((nI i).toNatClampNeg) (-1)))))] := hD
            rw [nI_clamp (show i < 2 ^ 31 by omega)] at hP hD
            refine lv_iload hx hb dX2_pull_66 (lv_at hl 0 rfl) ?_
            refine W.widen (k := 3) (n := 18) (by omega) (by omega) ?_
            exact vx_ret (W.zret (v := 1) hx hb hr (rfl) (fun t ht hW => ⟨⟨_, (hk, va_up re r ((re r).1, (re r).2.1, (re r).2.2.1, vp_updL (re r).2.2.2 i (-1)), kn, sh, k), rfl, ⟨j, r, i, hj, rfl, eh, c_19, hi, rfl, (tB_t (show ¬ (re r).2.2.2 i = -1 from c_47)).symm, rfl⟩, by dsimp only; rw [ht]; exact h.endM lr hP (fun q hs hn => hS.2.1 q hs (by rw [hAe]; exact hn))⟩, (S_mono hS hFA).F ht⟩) (fun z9 h9 => hFA _ (hS.2.2 z9 h9)) dX2_pull_68)
      · have c_19 := tB_0.mp c_19
        exact vx_throwS (cls := eS) (text := "neither cards nor seals") (names := exN) (sa := sa 95) (A := nA) hx hb hl0 hown (by decide +kernel) exN_fit (hts _ lk_X2_pull_Cond_classLink_RX2_65_eS) (hts _ lk_X2_pull_Cond_initialized_eS) (hC.text (by decide +kernel)) (vx_hat (fun w hw => hts w (xw_X2_pull_eS w hw)) exS_ng hC.all) (good2 exS_ot) (hC.ust nA_N) (hC.sup nA_N) hS (by rw [hml]; exact hl.1) dX2_pull_22 dX2_pull_25 dX2_pull_26 dX2_pull_28 dX2_pull_31 (fun x9 h9 => (hxt x9 h9).elim) (by decide) (Nat.le_of_ble_eq_true rfl) (Nat.le_of_ble_eq_true rfl) (Nat.le_of_ble_eq_true rfl) hlocks (fun t hvm hz9 hk9 => ⟨(), trivial, ⟨Or.inr ⟨j, hj, rfl, Or.inl ⟨rfl, Or.inr ⟨r, eh, c_19⟩⟩⟩, h.xo hk9⟩, hz9, fun q hs _ => hk9 q hs⟩) (fun z9 h9 => (hS.2.2 z9 h9).elim) (Nat.le_of_ble_eq_true rfl) (Nat.le_of_ble_eq_true rfl)
/-- a card's number, and 1000 if it is sealed -/
def cdV (n s : Int32) : Int64 := if s = 0 then n.toInt64 else (1000 + n).toInt64
theorem xw_X2_paste_eA : ∀ w ∈ (vx_atS RX2 50 eA exN).filter goodWord, w ∈ wsX2_paste := by decide +kernel
theorem xw_X2_paste_eS : ∀ w ∈ (vx_atS RX2 69 eS exN).filter goodWord, w ∈ wsX2_paste := by decide +kernel
theorem iw_X2_paste_X1 : ∀ w ∈ wsX10, w ∈ wsX2_paste := by decide +kernel
theorem iw_X2_paste_X2 : ∀ w ∈ wsX20, w ∈ wsX2_paste := by decide +kernel
theorem lk_X2_paste_Cond_classLink_RX2_46_eA : Cond.classLink RX2 46 eA ∈ wsX2_paste := by decide +kernel
theorem lk_X2_paste_Cond_classLink_RX2_65_eS : Cond.classLink RX2 65 eS ∈ wsX2_paste := by decide +kernel
theorem lk_X2_paste_Cond_fieldLink_RX2_11_SpliceRoom_hooks_LSpliceRoom_Reel_ : Cond.fieldLink RX2 11 "SpliceRoom" "hooks" "[LSpliceRoom$Reel;" ∈ wsX2_paste := by decide +kernel
theorem lk_X2_paste_Cond_initialized_eA : Cond.initialized eA ∈ wsX2_paste := by decide +kernel
theorem lk_X2_paste_Cond_initialized_eS : Cond.initialized eS ∈ wsX2_paste := by decide +kernel
set_option maxHeartbeats 4000000 in
set_option maxRecDepth 100000 in
theorem c_X2_paste (l : Launch) {D : va_G} {cI cL cQ : ClassId} {N0 : Nat} {sa : Nat → Nat} {Hc : Heap} (hl0 : l.stackTraces = false) {x ah ak b0 b1 b2 b3 b4 : Nat} {F : Nat → Prop} {hk : Nat → Option Nat} {re : Nat → RE} {kn : Nat → Int32} {sh : Nat → Nat → Int32} {k : Int32} (h : RSB D cI cL cQ x ah ak b0 b1 b2 b3 b4 F (hk, re, kn, sh, k) Hc) (hNF : ∀ q, F q ∨ Hc.size ≤ q → N0 ≤ q) {h0 i0 n0 s0 : Int32} : vx_Met l yX2_paste wsX2_paste ({ frames := 7, cells := 3, slots := 18, locals := 110 }) (Pq D cI cL cQ N0 sa [.ref x, .int h0, .int i0, .int n0, .int s0] Hc) (va_Qi (fun (rr : Int32) (u : CS) => ∃ j1 r1 i1 : Nat, j1 < 6 ∧ h0 = nI j1 ∧ ¬ n0 < 0 ∧ n0 < 1000 ∧ hk j1 = some r1 ∧ ((re r1).1 = 3 ∨ (re r1).1 = 4) ∧ i1 < (re r1).2.2.1 ∧ i0 = nI i1 ∧ ((kTake (re r1).1 (cdV n0 s0) ∧ rr = 1 ∧ u = (hk, va_up re r1 ((re r1).1, (re r1).2.1, (re r1).2.2.1, vp_updL (re r1).2.2.2 i1 (cdV n0 s0)), kn, sh, k)) ∨ (¬ kTake (re r1).1 (cdV n0 s0) ∧ rr = 0 ∧ u = (hk, re, kn, sh, k)))) (fun u t => RSB D cI cL cQ x ah ak b0 b1 b2 b3 b4 (fun q => F q ∨ Hc.size ≤ q) u t.heap) (fun q => F q ∨ Hc.size ≤ q)) (vx_X (fun (_ : Unit) => True) (fun E _ t => ((E = eA ∧ ¬ (okH h0 ∧ ¬ n0 < 0 ∧ n0 < 1000)) ∨ (∃ j1 : Nat, j1 < 6 ∧ h0 = nI j1 ∧ (¬ n0 < 0 ∧ n0 < 1000) ∧ ((E = eS ∧ (hk j1 = none ∨ ∃ r1 : Nat, hk j1 = some r1 ∧ ¬ ((re r1).1 = 3 ∨ (re r1).1 = 4))) ∨ (E = eI ∧ ∃ r1 : Nat, hk j1 = some r1 ∧ ((re r1).1 = 3 ∨ (re r1).1 = 4) ∧ ¬ okF i0 (re r1).2.2.1)))) ∧ RSB D cI cL cQ x ah ak b0 b1 b2 b3 b4 (fun q => F q ∨ Hc.size ≤ q) (hk, re, kn, sh, k) t.heap) (fun q => F q ∨ Hc.size ≤ q)) 3 18 (fun q => F q ∨ Hc.size ≤ q) := by
  refine vx_ofW (cc := cX2_paste) (maxL := 8) (ret := (some .boolean)) (by decide) rfl ?_
  intro p e s m args below meth c s₁ B hml hxt hv
  obtain ⟨rfl, hH, hC⟩ := hv
  have hx := B.exec
  have hb := B.bytes
  have hr := B.returns
  have hts := atoms_spec (ws := wsX2_paste) B.pre
  have hown : s.vm.findClass RX2 = some m.cls := findClass_of_methodNamed B.named
  have hlocks := B.notSynchronized
  subst hH
  have hK := hC.K
  have hl := lv_entry ([.ref x, .int h0, .int i0, .int n0, .int s0]) (n := 8) (Nat.le_of_ble_eq_true rfl)
  rw [lg_entry_eq]
  generalize (lg_sl ([.ref x, .int h0, .int i0, .int n0, .int s0]) ++ List.replicate (8 - (lg_sl ([.ref x, .int h0, .int i0, .int n0, .int s0])).length) Slot.unset).toArray = ls at hl ⊢
  have hl : lv_has ls 8 [(0, .ref x), (1, .int h0), (2, .int i0), (3, .int n0), (4, .int s0)] := hl
  have hP : va_P D vwCl [(x, .inr (2, [.ref ah, .ref ak, .ref b0, .ref b1, .ref b2, .ref b3, .ref b4, .int k])), (ah, .inl (cQ, 6, .inr (.inr (.inr (.inr hk))))), (ak, .inr (0, [.int (kn 0), .int (kn 1), .int (kn 2), .int (kn 3), .int (kn 4), .int (kn 5), .int (kn 6)])), (b0, .inl (cI, 24, .inl (sh 0))), (b1, .inl (cI, 24, .inl (sh 1))), (b2, .inl (cI, 24, .inl (sh 2))), (b3, .inl (cI, 24, .inl (sh 3))), (b4, .inl (cI, 24, .inl (sh 4)))] s.heap := h.P8
  have hS : va_S nA s.heap s.heap [] := va_S.rf
  have hN : ∀ q, nA q → N0 ≤ q := nA_N
  refine lv_iload_n hx hb dX2_paste_0 rfl (lv_at hl 1 rfl) ?_
  refine rx_v (vx_runS (As := [.int h0]) (rest := []) ⟨hx, hb, hml, hown, hts⟩ (c_X2_requireHook l hl0 (h0 := h0)) (va_cwS 1 hts gX2_paste_X2_requireHook rfl rfl rfl (by decide +kernel) ⟨Nat.le_of_ble_eq_true rfl, Nat.le_of_ble_eq_true rfl⟩) (Pq.S hC hS hN) rfl rfl hl.1 rfl (lv_room (Nat.le_of_ble_eq_true rfl)) dX2_paste_1 ⟨Nat.le_of_ble_eq_true rfl, Nat.le_of_ble_eq_true rfl⟩) hS (fun ce q9 H9 locs hx9 hz9 hk9 hS hcell hv9 hcl => ?_) (fun locs hw hS => ?_)
  · have hx9 : ¬ okH h0 := hx9
    refine vx_widen (k := 3) (n := 18) (by omega) (by omega) ?_
    exact vx_out (fun x9 h9 => (hxt x9 h9).elim) hlocks hcell hv9 hcl (fun t ht hvm => ⟨(), trivial, ⟨Or.inl ⟨rfl, fun h9 => hx9 h9.1⟩, by rw [ht]; exact h.xo hk9⟩, by rw [ht]; exact hz9, fun q hs _ => by rw [ht]; exact hk9 q hs⟩) (fun z9 h9 => (hS.2.2 z9 h9).elim) (Nat.le_refl _) (Nat.le_refl _)
  · have hw : okH h0 := hw
    obtain ⟨j, hj, rfl⟩ := hw
    refine lv_iload_n hx hb dX2_paste_4 rfl (lv_at hl 3 rfl) ?_
    refine lv_if_lt (tgt := 15) hx hb dX2_paste_5 (by decide) (fun c_5 => ?_) (fun c_5 => ?_)
    · exact vx_throwS (cls := eA) (text := "no such number") (names := exN) (sa := sa 90) (A := nA) hx hb hl0 hown (by decide +kernel) exN_fit (hts _ lk_X2_paste_Cond_classLink_RX2_46_eA) (hts _ lk_X2_paste_Cond_initialized_eA) (hC.text (by decide +kernel)) (vx_hat (fun w hw => hts w (xw_X2_paste_eA w hw)) exA_ng hC.all) (good2 exA_ot) (hC.ust nA_N) (hC.sup nA_N) hS (by rw [hml]; exact hl.1) dX2_paste_15 dX2_paste_18 dX2_paste_19 dX2_paste_21 dX2_paste_24 (fun x9 h9 => (hxt x9 h9).elim) (by decide) (Nat.le_of_ble_eq_true rfl) (Nat.le_of_ble_eq_true rfl) (Nat.le_of_ble_eq_true rfl) hlocks (fun t hvm hz9 hk9 => ⟨(), trivial, ⟨Or.inl ⟨rfl, fun h9 => h9.2.1 c_5⟩, h.xo hk9⟩, hz9, fun q hs _ => hk9 q hs⟩) (fun z9 h9 => (hS.2.2 z9 h9).elim) (Nat.le_of_ble_eq_true rfl) (Nat.le_of_ble_eq_true rfl)
    · refine lv_iload_n hx hb dX2_paste_8 rfl (lv_at hl 3 rfl) ?_
      refine lv_sipush (v := 1000) hx hb dX2_paste_9 (by decide) ?_
      refine lv_icmp_lt (tgt := 25) hx hb dX2_paste_12 (by decide) (fun c_12 => ?_) (fun c_12 => ?_)
      · refine lv_aload_n hx hb dX2_paste_25 rfl (lv_at hl 0 rfl) ?_
        refine va_get (D := D) (ci := 2) (v := .ref ah) (C := RX2) (T := TX2) (N := 8) hx hb hts iw_X2_paste_X2 hown hK hP 0 rfl rfl 0 (by decide) (hts _ lk_X2_paste_Cond_fieldLink_RX2_11_SpliceRoom_hooks_LSpliceRoom_Reel_) (fun _ h9 => h9) rfl dX2_paste_26 ?_
        refine lv_iload_n hx hb dX2_paste_29 rfl (lv_at hl 1 rfl) ?_
        refine va_aldq (D := D) hx hb hK hP 1 2 rfl rfl (vp_in_nI hj (by decide)) dX2_paste_30 ?_
        refine W.eq (g2 := F0 m 31 ls (va_rf (hk j) :: [])) (by rw [nI_clamp (by omega)]) ?_
        cases eh : hk j with
        | none =>
          refine lv_astoreN (lv' := [(5, .null), (0, .ref x), (1, .int (nI j)), (2, .int i0), (3, .int n0), (4, .int s0)]) hx hb dX2_paste_31 hl (by decide) rfl (fun ls hl => ?_)
          refine lv_aloadN hx hb dX2_paste_33 (lv_at hl 0 rfl) ?_
          refine lv_ifnullN (tgt := 46) hx hb dX2_paste_35 (by decide) ?_
          exact vx_throwS (cls := eS) (text := "neither cards nor seals") (names := exN) (sa := sa 95) (A := nA) hx hb hl0 hown (by decide +kernel) exN_fit (hts _ lk_X2_paste_Cond_classLink_RX2_65_eS) (hts _ lk_X2_paste_Cond_initialized_eS) (hC.text (by decide +kernel)) (vx_hat (fun w hw => hts w (xw_X2_paste_eS w hw)) exS_ng hC.all) (good2 exS_ot) (hC.ust nA_N) (hC.sup nA_N) hS (by rw [hml]; exact hl.1) dX2_paste_46 dX2_paste_49 dX2_paste_50 dX2_paste_52 dX2_paste_55 (fun x9 h9 => (hxt x9 h9).elim) (by decide) (Nat.le_of_ble_eq_true rfl) (Nat.le_of_ble_eq_true rfl) (Nat.le_of_ble_eq_true rfl) hlocks (fun t hvm hz9 hk9 => ⟨(), trivial, ⟨Or.inr ⟨j, hj, rfl, ⟨c_5, c_12⟩, Or.inl ⟨rfl, Or.inl eh⟩⟩, h.xo hk9⟩, hz9, fun q hs _ => hk9 q hs⟩) (fun z9 h9 => (hS.2.2 z9 h9).elim) (Nat.le_of_ble_eq_true rfl) (Nat.le_of_ble_eq_true rfl)
        | some r =>
          have lr : Live hk r := ⟨j, hj, eh⟩
          have hP : va_P D vwCl [(x, .inr (2, [.ref ah, .ref ak, .ref b0, .ref b1, .ref b2, .ref b3, .ref b4, .int k])), (ah, .inl (cQ, 6, .inr (.inr (.inr (.inr hk))))), (ak, .inr (0, [.int (kn 0), .int (kn 1), .int (kn 2), .int (kn 3), .int (kn 4), .int (kn 5), .int (kn 6)])), (b0, .inl (cI, 24, .inl (sh 0))), (b1, .inl (cI, 24, .inl (sh 1))), (b2, .inl (cI, 24, .inl (sh 2))), (b3, .inl (cI, 24, .inl (sh 3))), (b4, .inl (cI, 24, .inl (sh 4))), (r, .inr (1, [.int ((re r).1), .ref ((re r).2.1)])), ((re r).2.1, .inl (cL, (re r).2.2.1, .inr (.inl ((re r).2.2.2))))] s.heap := h.P10 lr
          have hzr : (re r).2.2.1 ≤ 40 := (h.2.2.2 r lr).2.2.2.1
          refine lv_astore (lv' := [(5, .ref r), (0, .ref x), (1, .int (nI j)), (2, .int i0), (3, .int n0), (4, .int s0)]) hx hb dX2_paste_31 hl (by decide) rfl (fun ls hl => ?_)
          refine lv_aload hx hb dX2_paste_33 (lv_at hl 0 rfl) ?_
          refine lv_ifnull hx hb dX2_paste_35 ?_
          refine lv_aload hx hb dX2_paste_38 (lv_at hl 0 rfl) ?_
          refine ro_i (va_runV (As := []) (rest := []) ⟨hx, hb, hml, hown, hts⟩ (c_X1_holdsCards l (h0 := r) (hP.sub [8] rfl)) (cwV 0 hts gX2_paste_X1_holdsCards rfl rfl rfl (by decide +kernel) ⟨Nat.le_of_ble_eq_true rfl, Nat.le_of_ble_eq_true rfl⟩) (Pq.V hC hS hN (va_recv hK hP (ci := 1) (q0 := 8) rfl rfl)) rfl rfl hl.1 rfl (lv_room (Nat.le_of_ble_eq_true rfl)) dX2_paste_40 ⟨Nat.le_of_ble_eq_true rfl, Nat.le_of_ble_eq_true rfl⟩) hS (fun r_1 locs hw hS => ?_)
          have hw : r_1 = tB ((re r).1 = 3 ∨ (re r).1 = 4) := hw
          subst hw
          refine lv_if_ne (tgt := 56) hx hb dX2_paste_43 (by decide) (fun c_43 => ?_) (fun c_43 => ?_)
          · have c_43 := tB_n.mp c_43
            refine lv_aload hx hb dX2_paste_56 (lv_at hl 0 rfl) ?_
            refine lv_iload_n hx hb dX2_paste_58 rfl (lv_at hl 3 rfl) ?_
            refine rx_v (vx_runS (As := [.ref r, .int i0]) (rest := []) ⟨hx, hb, hml, hown, hts⟩ (c_X2_requireFrame l hl0 (i0 := i0) (hP.sub [8, 9] rfl) hzr) (va_cwS 2 hts gX2_paste_X2_requireFrame rfl rfl rfl (by decide +kernel) ⟨Nat.le_of_ble_eq_true rfl, Nat.le_of_ble_eq_true rfl⟩) (Pq.S hC hS hN) rfl rfl hl.1 rfl (lv_room (Nat.le_of_ble_eq_true rfl)) dX2_paste_59 ⟨Nat.le_of_ble_eq_true rfl, Nat.le_of_ble_eq_true rfl⟩) hS (fun ce q9 H9 locs hx9 hz9 hk9 hS hcell hv9 hcl => ?_) (fun locs hw hS => ?_)
            · have hx9 : ¬ okF i0 ((re r).2.2.1) := hx9
              refine vx_widen (k := 3) (n := 18) (by omega) (by omega) ?_
              exact vx_out (fun x9 h9 => (hxt x9 h9).elim) hlocks hcell hv9 hcl (fun t ht hvm => ⟨(), trivial, ⟨Or.inr ⟨j, hj, rfl, ⟨c_5, c_12⟩, Or.inr ⟨rfl, r, eh, c_43, hx9⟩⟩, by rw [ht]; exact h.xo hk9⟩, by rw [ht]; exact hz9, fun q hs _ => by rw [ht]; exact hk9 q hs⟩) (fun z9 h9 => (hS.2.2 z9 h9).elim) (Nat.le_refl _) (Nat.le_refl _)
            · have hw : okF i0 ((re r).2.2.1) := hw
              obtain ⟨i, hi, rfl⟩ := hw
              refine lv_iload hx hb dX2_paste_62 (lv_at hl 5 rfl) ?_
              refine lv_if_eq (tgt := 76) hx hb dX2_paste_64 (by decide) (fun c_64 => ?_) (fun c_64 => ?_)
              · refine lv_iload_n hx hb dX2_paste_76 rfl (lv_at hl 4 rfl) ?_
                refine lv_i2l hx hb dX2_paste_77 rfl ?_
                have e78 : cdV n0 s0 = n0.toInt64 := by rw [cdV, if_pos c_64]
                refine lv_topl (fun y_2 e9 => ?_)
                have e9 : y_2 = cdV n0 s0 := e9.trans (e78.symm)
                subst e9
                refine lv_lstore (lv' := [(6, .long (cdV n0 s0)), (5, .ref r), (0, .ref x), (1, .int (nI j)), (2, .int (nI i)), (3, .int n0), (4, .int s0)]) hx hb dX2_paste_78 hl (by decide) rfl (fun ls hl => ?_)
                refine lv_aload hx hb dX2_paste_80 (lv_at hl 1 rfl) ?_
                refine lv_lload hx hb dX2_paste_82 (lv_at hl 0 rfl) ?_
                refine ro_i (va_runV (As := [.long (cdV n0 s0)]) (rest := []) ⟨hx, hb, hml, hown, hts⟩ (c_X1_takes l (h0 := r) (v0 := cdV n0 s0) (hP.sub [8] rfl)) (cwV 1 hts gX2_paste_X1_takes rfl rfl rfl (by decide +kernel) ⟨Nat.le_of_ble_eq_true rfl, Nat.le_of_ble_eq_true rfl⟩) (Pq.V hC hS hN (va_recv hK hP (ci := 1) (q0 := 8) rfl rfl)) rfl rfl hl.1 rfl (lv_room (Nat.le_of_ble_eq_true rfl)) dX2_paste_84 ⟨Nat.le_of_ble_eq_true rfl, Nat.le_of_ble_eq_true rfl⟩) hS (fun r_3 locs hw hS => ?_)
                have hw : r_3 = tB (kTake ((re r).1) (cdV n0 s0)) := hw
                subst hw
                refine lv_if_ne (tgt := 92) hx hb dX2_paste_87 (by decide) (fun c_87 => ?_) (fun c_87 => ?_)
                · have c_87 := tB_n.mp c_87
                  obtain ⟨A, hAe⟩ : ∃ A : Nat → Prop, A = va_A [(x, .inr (2, [.ref ah, .ref ak, .ref b0, .ref b1, .ref b2, .ref b3, .ref b4, .int k])), (ah, .inl (cQ, 6, .inr (.inr (.inr (.inr hk))))), (ak, .inr (0, [.int (kn 0), .int (kn 1), .int (kn 2), .int (kn 3), .int (kn 4), .int (kn 5), .int (kn 6)])), (b0, .inl (cI, 24, .inl (sh 0))), (b1, .inl (cI, 24, .inl (sh 1))), (b2, .inl (cI, 24, .inl (sh 2))), (b3, .inl (cI, 24, .inl (sh 3))), (b4, .inl (cI, 24, .inl (sh 4))), (r, .inr (1, [.int ((re r).1), .ref ((re r).2.1)])), ((re r).2.1, .inl (cL, (re r).2.2.1, .inr (.inl ((re r).2.2.2))))] s.heap.size := ⟨_, rfl⟩
                  have hP : va_P D vwCl [(x, .inr (2, [.ref ah, .ref ak, .ref b0, .ref b1, .ref b2, .ref b3, .ref b4, .int k])), (ah, .inl (cQ, 6, .inr (.inr (.inr (.inr hk))))), (ak, .inr (0, [.int (kn 0), .int (kn 1), .int (kn 2), .int (kn 3), .int (kn 4), .int (kn 5), .int (kn 6)])), (b0, .inl (cI, 24, .inl (sh 0))), (b1, .inl (cI, 24, .inl (sh 1))), (b2, .inl (cI, 24, .inl (sh 2))), (b3, .inl (cI, 24, .inl (sh 3))), (b4, .inl (cI, 24, .inl (sh 4))), (r, .inr (1, [.int ((re r).1), .ref ((re r).2.1)])), ((re r).2.1, .inl (cL, (re r).2.2.1, .inr (.inl ((re r).2.2.2))))] s.heap := h.P10 lr
                  have hD : va_D A [(x, .inr (2, [.ref ah, .ref ak, .ref b0, .ref b1, .ref b2, .ref b3, .ref b4, .int k])), (ah, .inl (cQ, 6, .inr (.inr (.inr (.inr hk))))), (ak, .inr (0, [.int (kn 0), .int (kn 1), .int (kn 2), .int (kn 3), .int (kn 4), .int (kn 5), .int (kn 6)])), (b0, .inl (cI, 24, .inl (sh 0))), (b1, .inl (cI, 24, .inl (sh 1))), (b2, .inl (cI, 24, .inl (sh 2))), (b3, .inl (cI, 24, .inl (sh 3))), (b4, .inl (cI, 24, .inl (sh 4))), (r, .inr (1, [.int ((re r).1), .ref ((re r).2.1)])), ((re r).2.1, .inl (cL, (re r).2.2.1, .inr (.inl ((re r).2.2.2))))] := by rw [hAe]; exact (h.D10 lr).self
                  have hA : ∀ q, s.heap.size ≤ q → A q := fun q z => by rw [hAe]; exact Or.inr z
                  have hFA : ∀ q, A q → F q ∨ s.heap.size ≤ q := fun q z => h.in10 lr (hAe ▸ z)
                  have hN : ∀ q, A q → N0 ≤ q := fun q z => hNF q (hFA q z)
                  have hS : va_S A s.heap s.heap locs := S_mono hS (fun _ z => z.elim)
                  refine lv_aload hx hb dX2_paste_92 (lv_at hl 1 rfl) ?_
                  refine va_getN (D := D) (ci := 1) (v := .ref ((re r).2.1)) (C := RX1) (T := TX1) (N := 2) hx hb hts iw_X2_paste_X1 hown hK hP 8 rfl rfl 1 (by decide) (hC.nest (a := RX2) (i := 70) (b := "SpliceRoom$Reel") (n := "row") (d := "[J") (hh := "SpliceRoom") (by decide +kernel)) (fun _ h9 => h9) rfl dX2_paste_94 ?_
                  refine lv_iload_n hx hb dX2_paste_97 rfl (lv_at hl 4 rfl) ?_
                  refine lv_lload hx hb dX2_paste_98 (lv_at hl 0 rfl) ?_
                  refine va_last (D := D) hx hb hK hP hD hS 9 1 rfl rfl (vp_in_nI hi (by omega)) dX2_paste_100 (fun H locs hP hD hS => ?_)
                  have hP : va_P D vwCl [(x, .inr (2, [.ref ah, .ref ak, .ref b0, .ref b1, .ref b2, .ref b3, .ref b4, .int k])), (ah, .inl (cQ, 6, .inr (.inr (.inr (.inr hk))))), (ak, .inr (0, [.int (kn 0), .int (kn 1), .int (kn 2), .int (kn 3), .int (kn 4), .int (kn 5), .int (kn 6)])), (b0, .inl (cI, 24, .inl (sh 0))), (b1, .inl (cI, 24, .inl (sh 1))), (b2, .inl (cI, 24, .inl (sh 2))), (b3, .inl (cI, 24, .inl (sh 3))), (b4, .inl (cI, 24, .inl (sh 4))), (r, .inr (1, [.int ((re r).1), .ref ((re r).2.1)])), ((re r).2.1, .inl (cL, (re r).2.2.1, .inr (.inl (vp_updL ((re r).2.2.2) ((nI i).toNatClampNeg) (cdV n0 s0)))))] H := hP
                  have hD : va_D A [(x, .inr (2, [.ref ah, .ref ak, .ref b0, .ref b1, .ref b2, .ref b3, .ref b4, .int k])), (ah, .inl (cQ, 6, .inr (.inr (.inr (.inr hk))))), (ak, .inr (0, [.int (kn 0), .int (kn 1), .int (kn 2), .int (kn 3), .int (kn 4), .int (kn 5), .int (kn 6)])), (b0, .inl (cI, 24, .inl (sh 0))), (b1, .inl (cI, 24, .inl (sh 1))), (b2, .inl (cI, 24, .inl (sh 2))), (b3, .inl (cI, 24, .inl (sh 3))), (b4, .inl (cI, 24, .inl (sh 4))), (r, .inr (1, [.int ((re r).1), .ref ((re r).2.1)])), ((re r).2.1, .inl (cL, (re r).2.2.1, .inr (.inl (vp_updL ((re r).2.2.2) ((nI i).toNatClampNeg) (cdV n0 s0)))))] := hD
                  rw [nI_clamp (show i < 2 ^ 31 by omega)] at hP hD
                  refine lv_iconst (v := 1) hx hb dX2_paste_101 (by decide) ?_
                  refine W.widen (k := 3) (n := 18) (by omega) (by omega) ?_
                  exact vx_ret (W.zret (v := 1) hx hb hr (rfl) (fun t ht hW => ⟨⟨_, (hk, va_up re r ((re r).1, (re r).2.1, (re r).2.2.1, vp_updL (re r).2.2.2 i (cdV n0 s0)), kn, sh, k), rfl, ⟨j, r, i, hj, rfl, c_5, c_12, eh, c_43, hi, rfl, Or.inl ⟨c_87, rfl, rfl⟩⟩, by dsimp only; rw [ht]; exact h.endM lr hP (fun q hs hn => hS.2.1 q hs (by rw [hAe]; exact hn))⟩, (S_mono hS hFA).F ht⟩) (fun z9 h9 => hFA _ (hS.2.2 z9 h9)) dX2_paste_102)
                · have c_87 := tB_0.mp c_87
                  refine lv_iconst (v := 0) hx hb dX2_paste_90 (by decide) ?_
                  refine W.widen (k := 3) (n := 18) (by omega) (by omega) ?_
                  exact vx_ret (W.zret (v := 0) hx hb hr (rfl) (fun t ht hW => ⟨⟨_, (hk, re, kn, sh, k), rfl, ⟨j, r, i, hj, rfl, c_5, c_12, eh, c_43, hi, rfl, Or.inr ⟨c_87, rfl, rfl⟩⟩, by dsimp only; rw [ht]; exact h.xo (fun _ _ => rfl)⟩, (S_mono hS (fun _ z => z.elim)).F ht⟩) (fun z9 h9 => (hS.2.2 z9 h9).elim) dX2_paste_91)
              · refine lv_sipush (v := 1000) hx hb dX2_paste_67 (by decide) ?_
                refine lv_iload_n hx hb dX2_paste_70 rfl (lv_at hl 4 rfl) ?_
                refine lv_iadd hx hb dX2_paste_71 ?_
                refine lv_i2l hx hb dX2_paste_72 rfl ?_
                refine lv_goto (tgt := 78) hx hb dX2_paste_73 (by decide) ?_
                have e78 : cdV n0 s0 = (1000 + n0).toInt64 := by rw [cdV, if_neg c_64]
                refine lv_topl (fun y_4 e9 => ?_)
                have e9 : y_4 = cdV n0 s0 := e9.trans (e78.symm)
                subst e9
                refine lv_lstore (lv' := [(6, .long (cdV n0 s0)), (5, .ref r), (0, .ref x), (1, .int (nI j)), (2, .int (nI i)), (3, .int n0), (4, .int s0)]) hx hb dX2_paste_78 hl (by decide) rfl (fun ls hl => ?_)
                refine lv_aload hx hb dX2_paste_80 (lv_at hl 1 rfl) ?_
                refine lv_lload hx hb dX2_paste_82 (lv_at hl 0 rfl) ?_
                refine ro_i (va_runV (As := [.long (cdV n0 s0)]) (rest := []) ⟨hx, hb, hml, hown, hts⟩ (c_X1_takes l (h0 := r) (v0 := cdV n0 s0) (hP.sub [8] rfl)) (cwV 1 hts gX2_paste_X1_takes rfl rfl rfl (by decide +kernel) ⟨Nat.le_of_ble_eq_true rfl, Nat.le_of_ble_eq_true rfl⟩) (Pq.V hC hS hN (va_recv hK hP (ci := 1) (q0 := 8) rfl rfl)) rfl rfl hl.1 rfl (lv_room (Nat.le_of_ble_eq_true rfl)) dX2_paste_84 ⟨Nat.le_of_ble_eq_true rfl, Nat.le_of_ble_eq_true rfl⟩) hS (fun r_5 locs hw hS => ?_)
                have hw : r_5 = tB (kTake ((re r).1) (cdV n0 s0)) := hw
                subst hw
                refine lv_if_ne (tgt := 92) hx hb dX2_paste_87 (by decide) (fun c_87 => ?_) (fun c_87 => ?_)
                · have c_87 := tB_n.mp c_87
                  obtain ⟨A, hAe⟩ : ∃ A : Nat → Prop, A = va_A [(x, .inr (2, [.ref ah, .ref ak, .ref b0, .ref b1, .ref b2, .ref b3, .ref b4, .int k])), (ah, .inl (cQ, 6, .inr (.inr (.inr (.inr hk))))), (ak, .inr (0, [.int (kn 0), .int (kn 1), .int (kn 2), .int (kn 3), .int (kn 4), .int (kn 5), .int (kn 6)])), (b0, .inl (cI, 24, .inl (sh 0))), (b1, .inl (cI, 24, .inl (sh 1))), (b2, .inl (cI, 24, .inl (sh 2))), (b3, .inl (cI, 24, .inl (sh 3))), (b4, .inl (cI, 24, .inl (sh 4))), (r, .inr (1, [.int ((re r).1), .ref ((re r).2.1)])), ((re r).2.1, .inl (cL, (re r).2.2.1, .inr (.inl ((re r).2.2.2))))] s.heap.size := ⟨_, rfl⟩
                  have hP : va_P D vwCl [(x, .inr (2, [.ref ah, .ref ak, .ref b0, .ref b1, .ref b2, .ref b3, .ref b4, .int k])), (ah, .inl (cQ, 6, .inr (.inr (.inr (.inr hk))))), (ak, .inr (0, [.int (kn 0), .int (kn 1), .int (kn 2), .int (kn 3), .int (kn 4), .int (kn 5), .int (kn 6)])), (b0, .inl (cI, 24, .inl (sh 0))), (b1, .inl (cI, 24, .inl (sh 1))), (b2, .inl (cI, 24, .inl (sh 2))), (b3, .inl (cI, 24, .inl (sh 3))), (b4, .inl (cI, 24, .inl (sh 4))), (r, .inr (1, [.int ((re r).1), .ref ((re r).2.1)])), ((re r).2.1, .inl (cL, (re r).2.2.1, .inr (.inl ((re r).2.2.2))))] s.heap := h.P10 lr
                  have hD : va_D A [(x, .inr (2, [.ref ah, .ref ak, .ref b0, .ref b1, .ref b2, .ref b3, .ref b4, .int k])), (ah, .inl (cQ, 6, .inr (.inr (.inr (.inr hk))))), (ak, .inr (0, [.int (kn 0), .int (kn 1), .int (kn 2), .int (kn 3), .int (kn 4), .int (kn 5), .int (kn 6)])), (b0, .inl (cI, 24, .inl (sh 0))), (b1, .inl (cI, 24, .inl (sh 1))), (b2, .inl (cI, 24, .inl (sh 2))), (b3, .inl (cI, 24, .inl (sh 3))), (b4, .inl (cI, 24, .inl (sh 4))), (r, .inr (1, [.int ((re r).1), .ref ((re r).2.1)])), ((re r).2.1, .inl (cL, (re r).2.2.1, .inr (.inl ((re r).2.2.2))))] := by rw [hAe]; exact (h.D10 lr).self
                  have hA : ∀ q, s.heap.size ≤ q → A q := fun q z => by rw [hAe]; exact Or.inr z
                  have hFA : ∀ q, A q → F q ∨ s.heap.size ≤ q := fun q z => h.in10 lr (hAe ▸ z)
                  have hN : ∀ q, A q → N0 ≤ q := fun q z => hNF q (hFA q z)
                  have hS : va_S A s.heap s.heap locs := S_mono hS (fun _ z => z.elim)
                  refine lv_aload hx hb dX2_paste_92 (lv_at hl 1 rfl) ?_
                  refine va_getN (D := D) (ci := 1) (v := .ref ((re r).2.1)) (C := RX1) (T := TX1) (N := 2) hx hb hts iw_X2_paste_X1 hown hK hP 8 rfl rfl 1 (by decide) (hC.nest (a := RX2) (i := 70) (b := "SpliceRoom$Reel") (n := "row") (d := "[J") (hh := "SpliceRoom") (by decide +kernel)) (fun _ h9 => h9) rfl dX2_paste_94 ?_
                  refine lv_iload_n hx hb dX2_paste_97 rfl (lv_at hl 4 rfl) ?_
                  refine lv_lload hx hb dX2_paste_98 (lv_at hl 0 rfl) ?_
                  refine va_last (D := D) hx hb hK hP hD hS 9 1 rfl rfl (vp_in_nI hi (by omega)) dX2_paste_100 (fun H locs hP hD hS => ?_)
                  have hP : va_P D vwCl [(x, .inr (2, [.ref ah, .ref ak, .ref b0, .ref b1, .ref b2, .ref b3, .ref b4, .int k])), (ah, .inl (cQ, 6, .inr (.inr (.inr (.inr hk))))), (ak, .inr (0, [.int (kn 0), .int (kn 1), .int (kn 2), .int (kn 3), .int (kn 4), .int (kn 5), .int (kn 6)])), (b0, .inl (cI, 24, .inl (sh 0))), (b1, .inl (cI, 24, .inl (sh 1))), (b2, .inl (cI, 24, .inl (sh 2))), (b3, .inl (cI, 24, .inl (sh 3))), (b4, .inl (cI, 24, .inl (sh 4))), (r, .inr (1, [.int ((re r).1), .ref ((re r).2.1)])), ((re r).2.1, .inl (cL, (re r).2.2.1, .inr (.inl (vp_updL ((re r).2.2.2) ((nI i).toNatClampNeg) (cdV n0 s0)))))] H := hP
                  have hD : va_D A [(x, .inr (2, [.ref ah, .ref ak, .ref b0, .ref b1, .ref b2, .ref b3, .ref b4, .int k])), (ah, .inl (cQ, 6, .inr (.inr (.inr (.inr hk))))), (ak, .inr (0, [.int (kn 0), .int (kn 1), .int (kn 2), .int (kn 3), .int (kn 4), .int (kn 5), .int (kn 6)])), (b0, .inl (cI, 24, .inl (sh 0))), (b1, .inl (cI, 24, .inl (sh 1))), (b2, .inl (cI, 24, .inl (sh 2))), (b3, .inl (cI, 24, .inl (sh 3))), (b4, .inl (cI, 24, .inl (sh 4))), (r, .inr (1, [.int ((re r).1), .ref ((re r).2.1)])), ((re r).2.1, .inl (cL, (re r).2.2.1, .inr (.inl (vp_updL ((re r).2.2.2) ((nI i).toNatClampNeg) (cdV n0 s0)))))] := hD
                  rw [nI_clamp (show i < 2 ^ 31 by omega)] at hP hD
                  refine lv_iconst (v := 1) hx hb dX2_paste_101 (by decide) ?_
                  refine W.widen (k := 3) (n := 18) (by omega) (by omega) ?_
                  exact vx_ret (W.zret (v := 1) hx hb hr (rfl) (fun t ht hW => ⟨⟨_, (hk, va_up re r ((re r).1, (re r).2.1, (re r).2.2.1, vp_updL (re r).2.2.2 i (cdV n0 s0)), kn, sh, k), rfl, ⟨j, r, i, hj, rfl, c_5, c_12, eh, c_43, hi, rfl, Or.inl ⟨c_87, rfl, rfl⟩⟩, by dsimp only; rw [ht]; exact h.endM lr hP (fun q hs hn => hS.2.1 q hs (by rw [hAe]; exact hn))⟩, (S_mono hS hFA).F ht⟩) (fun z9 h9 => hFA _ (hS.2.2 z9 h9)) dX2_paste_102)
                · have c_87 := tB_0.mp c_87
                  refine lv_iconst (v := 0) hx hb dX2_paste_90 (by decide) ?_
                  refine W.widen (k := 3) (n := 18) (by omega) (by omega) ?_
                  exact vx_ret (W.zret (v := 0) hx hb hr (rfl) (fun t ht hW => ⟨⟨_, (hk, re, kn, sh, k), rfl, ⟨j, r, i, hj, rfl, c_5, c_12, eh, c_43, hi, rfl, Or.inr ⟨c_87, rfl, rfl⟩⟩, by dsimp only; rw [ht]; exact h.xo (fun _ _ => rfl)⟩, (S_mono hS (fun _ z => z.elim)).F ht⟩) (fun z9 h9 => (hS.2.2 z9 h9).elim) dX2_paste_91)
          · have c_43 := tB_0.mp c_43
            exact vx_throwS (cls := eS) (text := "neither cards nor seals") (names := exN) (sa := sa 95) (A := nA) hx hb hl0 hown (by decide +kernel) exN_fit (hts _ lk_X2_paste_Cond_classLink_RX2_65_eS) (hts _ lk_X2_paste_Cond_initialized_eS) (hC.text (by decide +kernel)) (vx_hat (fun w hw => hts w (xw_X2_paste_eS w hw)) exS_ng hC.all) (good2 exS_ot) (hC.ust nA_N) (hC.sup nA_N) hS (by rw [hml]; exact hl.1) dX2_paste_46 dX2_paste_49 dX2_paste_50 dX2_paste_52 dX2_paste_55 (fun x9 h9 => (hxt x9 h9).elim) (by decide) (Nat.le_of_ble_eq_true rfl) (Nat.le_of_ble_eq_true rfl) (Nat.le_of_ble_eq_true rfl) hlocks (fun t hvm hz9 hk9 => ⟨(), trivial, ⟨Or.inr ⟨j, hj, rfl, ⟨c_5, c_12⟩, Or.inl ⟨rfl, Or.inr ⟨r, eh, c_43⟩⟩⟩, h.xo hk9⟩, hz9, fun q hs _ => hk9 q hs⟩) (fun z9 h9 => (hS.2.2 z9 h9).elim) (Nat.le_of_ble_eq_true rfl) (Nat.le_of_ble_eq_true rfl)
      · exact vx_throwS (cls := eA) (text := "no such number") (names := exN) (sa := sa 90) (A := nA) hx hb hl0 hown (by decide +kernel) exN_fit (hts _ lk_X2_paste_Cond_classLink_RX2_46_eA) (hts _ lk_X2_paste_Cond_initialized_eA) (hC.text (by decide +kernel)) (vx_hat (fun w hw => hts w (xw_X2_paste_eA w hw)) exA_ng hC.all) (good2 exA_ot) (hC.ust nA_N) (hC.sup nA_N) hS (by rw [hml]; exact hl.1) dX2_paste_15 dX2_paste_18 dX2_paste_19 dX2_paste_21 dX2_paste_24 (fun x9 h9 => (hxt x9 h9).elim) (by decide) (Nat.le_of_ble_eq_true rfl) (Nat.le_of_ble_eq_true rfl) (Nat.le_of_ble_eq_true rfl) hlocks (fun t hvm hz9 hk9 => ⟨(), trivial, ⟨Or.inl ⟨rfl, fun h9 => c_12 h9.2.2⟩, h.xo hk9⟩, hz9, fun q hs _ => hk9 q hs⟩) (fun z9 h9 => (hS.2.2 z9 h9).elim) (Nat.le_of_ble_eq_true rfl) (Nat.le_of_ble_eq_true rfl)
end CWrite
end
