-- ===== PART A: goes FIRST, ahead of the names: the tables' words, and 'selects' of the private methods out of them =====
/-- a private method of a class that the tables say can be made, by its rows of tables_1 -/
def lw_okq (q : MethodName × Nat) : Prop := (q.1.cls ≠ "java/lang/invoke/MethodHandle" ∧ q.1.cls ≠ "java/lang/invoke/VarHandle") ∧ Cond.instantiable q.1.cls q.2 ∈ tables_1 ∧ Cond.privateMethod q.1 ∈ tables_1 ∧ Cond.instanceMethod q.1 ∈ tables_1
theorem lw_p0 : lw_okq (⟨"java/lang/Throwable", "fillInStackTrace", "(I)Ljava/lang/Throwable;"⟩, 6) := ⟨⟨by decide +kernel, by decide +kernel⟩, List.mem_of_getElem? (i := 245) (by decide +kernel), List.mem_of_getElem? (i := 243) (by decide +kernel), List.mem_of_getElem? (i := 244) (by decide +kernel)⟩
theorem lw_p1 : lw_okq (⟨"SignLetters$Past", "savedAt", "(I)LSignLetters$State;"⟩, 3) := ⟨⟨by decide +kernel, by decide +kernel⟩, List.mem_of_getElem? (i := 55) (by decide +kernel), List.mem_of_getElem? (i := 279) (by decide +kernel), List.mem_of_getElem? (i := 280) (by decide +kernel)⟩
theorem lw_p2 : lw_okq (⟨"SignLetters", "look", "()LSignLetters$Layout;"⟩, 10) := ⟨⟨by decide +kernel, by decide +kernel⟩, List.mem_of_getElem? (i := 14) (by decide +kernel), List.mem_of_getElem? (i := 312) (by decide +kernel), List.mem_of_getElem? (i := 313) (by decide +kernel)⟩
theorem lw_p3 : lw_okq (⟨"SignLetters$Layout", "brushEdges", "(I)V"⟩, 17) := ⟨⟨by decide +kernel, by decide +kernel⟩, List.mem_of_getElem? (i := 87) (by decide +kernel), List.mem_of_getElem? (i := 327) (by decide +kernel), List.mem_of_getElem? (i := 328) (by decide +kernel)⟩
theorem lw_p4 : lw_okq (⟨"SignLetters$Layout", "layItem", "(LSignLetters$State;I)V"⟩, 17) := ⟨⟨by decide +kernel, by decide +kernel⟩, List.mem_of_getElem? (i := 87) (by decide +kernel), List.mem_of_getElem? (i := 337) (by decide +kernel), List.mem_of_getElem? (i := 338) (by decide +kernel)⟩
theorem lw_p5 : lw_okq (⟨"SignLetters$Layout", "joinEdges", "(II)V"⟩, 17) := ⟨⟨by decide +kernel, by decide +kernel⟩, List.mem_of_getElem? (i := 87) (by decide +kernel), List.mem_of_getElem? (i := 350) (by decide +kernel), List.mem_of_getElem? (i := 351) (by decide +kernel)⟩
theorem lw_p6 : lw_okq (⟨"SignLetters$Layout", "layPair", "(II)I"⟩, 17) := ⟨⟨by decide +kernel, by decide +kernel⟩, List.mem_of_getElem? (i := 87) (by decide +kernel), List.mem_of_getElem? (i := 364) (by decide +kernel), List.mem_of_getElem? (i := 365) (by decide +kernel)⟩
theorem lw_p7 : lw_okq (⟨"SignLetters$Layout", "leastGap", "()I"⟩, 17) := ⟨⟨by decide +kernel, by decide +kernel⟩, List.mem_of_getElem? (i := 87) (by decide +kernel), List.mem_of_getElem? (i := 368) (by decide +kernel), List.mem_of_getElem? (i := 369) (by decide +kernel)⟩
theorem lw_p8 : lw_okq (⟨"SignLetters$Layout", "areaBy", "(I)I"⟩, 17) := ⟨⟨by decide +kernel, by decide +kernel⟩, List.mem_of_getElem? (i := 87) (by decide +kernel), List.mem_of_getElem? (i := 372) (by decide +kernel), List.mem_of_getElem? (i := 373) (by decide +kernel)⟩
theorem lw_p9 : lw_okq (⟨"SignLetters$Layout", "gapBehind", "(II)I"⟩, 17) := ⟨⟨by decide +kernel, by decide +kernel⟩, List.mem_of_getElem? (i := 87) (by decide +kernel), List.mem_of_getElem? (i := 376) (by decide +kernel), List.mem_of_getElem? (i := 377) (by decide +kernel)⟩
theorem lw_p10 : lw_okq (⟨"SignLetters$Layout", "snapped", "(I)I"⟩, 17) := ⟨⟨by decide +kernel, by decide +kernel⟩, List.mem_of_getElem? (i := 87) (by decide +kernel), List.mem_of_getElem? (i := 380) (by decide +kernel), List.mem_of_getElem? (i := 381) (by decide +kernel)⟩
theorem lw_p11 : lw_okq (⟨"SignLetters$Layout", "shareOf", "(I)I"⟩, 17) := ⟨⟨by decide +kernel, by decide +kernel⟩, List.mem_of_getElem? (i := 87) (by decide +kernel), List.mem_of_getElem? (i := 384) (by decide +kernel), List.mem_of_getElem? (i := 385) (by decide +kernel)⟩
theorem lw_p12 : lw_okq (⟨"SignLetters$Layout", "storePair", "(IIII)V"⟩, 17) := ⟨⟨by decide +kernel, by decide +kernel⟩, List.mem_of_getElem? (i := 87) (by decide +kernel), List.mem_of_getElem? (i := 388) (by decide +kernel), List.mem_of_getElem? (i := 389) (by decide +kernel)⟩
theorem lw_p13 : lw_okq (⟨"SignLetters$Ranking", "enter", "(LSignLetters$Layout;I)V"⟩, 3) := ⟨⟨by decide +kernel, by decide +kernel⟩, List.mem_of_getElem? (i := 156) (by decide +kernel), List.mem_of_getElem? (i := 403) (by decide +kernel), List.mem_of_getElem? (i := 404) (by decide +kernel)⟩
theorem lw_p14 : lw_okq (⟨"SignLetters$Ranking", "comesBefore", "(LSignLetters$Layout;II)Z"⟩, 3) := ⟨⟨by decide +kernel, by decide +kernel⟩, List.mem_of_getElem? (i := 156) (by decide +kernel), List.mem_of_getElem? (i := 408) (by decide +kernel), List.mem_of_getElem? (i := 409) (by decide +kernel)⟩
theorem lw_p15 : lw_okq (⟨"SignLetters", "lineNumber", "(LSignLetters$Layout;I)I"⟩, 10) := ⟨⟨by decide +kernel, by decide +kernel⟩, List.mem_of_getElem? (i := 14) (by decide +kernel), List.mem_of_getElem? (i := 413) (by decide +kernel), List.mem_of_getElem? (i := 414) (by decide +kernel)⟩
def lw_privs_1 : List (MethodName × Nat) := [(⟨"java/lang/Throwable", "fillInStackTrace", "(I)Ljava/lang/Throwable;"⟩, 6), (⟨"SignLetters$Past", "savedAt", "(I)LSignLetters$State;"⟩, 3), (⟨"SignLetters", "look", "()LSignLetters$Layout;"⟩, 10), (⟨"SignLetters$Layout", "brushEdges", "(I)V"⟩, 17), (⟨"SignLetters$Layout", "layItem", "(LSignLetters$State;I)V"⟩, 17), (⟨"SignLetters$Layout", "joinEdges", "(II)V"⟩, 17), (⟨"SignLetters$Layout", "layPair", "(II)I"⟩, 17), (⟨"SignLetters$Layout", "leastGap", "()I"⟩, 17), (⟨"SignLetters$Layout", "areaBy", "(I)I"⟩, 17), (⟨"SignLetters$Layout", "gapBehind", "(II)I"⟩, 17), (⟨"SignLetters$Layout", "snapped", "(I)I"⟩, 17), (⟨"SignLetters$Layout", "shareOf", "(I)I"⟩, 17), (⟨"SignLetters$Layout", "storePair", "(IIII)V"⟩, 17), (⟨"SignLetters$Ranking", "enter", "(LSignLetters$Layout;I)V"⟩, 3), (⟨"SignLetters$Ranking", "comesBefore", "(LSignLetters$Layout;II)Z"⟩, 3), (⟨"SignLetters", "lineNumber", "(LSignLetters$Layout;I)I"⟩, 10)]
theorem lw_r1 : ∀ q ∈ lw_privs_1, lw_okq q := List.forall_mem_cons.mpr ⟨lw_p0, List.forall_mem_cons.mpr ⟨lw_p1, List.forall_mem_cons.mpr ⟨lw_p2, List.forall_mem_cons.mpr ⟨lw_p3, List.forall_mem_cons.mpr ⟨lw_p4, List.forall_mem_cons.mpr ⟨lw_p5, List.forall_mem_cons.mpr ⟨lw_p6, List.forall_mem_cons.mpr ⟨lw_p7, List.forall_mem_cons.mpr ⟨lw_p8, List.forall_mem_cons.mpr ⟨lw_p9, List.forall_mem_cons.mpr ⟨lw_p10, List.forall_mem_cons.mpr ⟨lw_p11, List.forall_mem_cons.mpr ⟨lw_p12, List.forall_mem_cons.mpr ⟨lw_p13, List.forall_mem_cons.mpr ⟨lw_p14, List.forall_mem_cons.mpr ⟨lw_p15, fun _ h => absurd h List.not_mem_nil⟩⟩⟩⟩⟩⟩⟩⟩⟩⟩⟩⟩⟩⟩⟩⟩
theorem lw_p16 : lw_okq (⟨"SignLetters", "itemNumber", "(LSignLetters$Layout;II)I"⟩, 10) := ⟨⟨by decide +kernel, by decide +kernel⟩, List.mem_of_getElem? (i := 14) (by decide +kernel), List.mem_of_getElem? (i := 471) (by decide +kernel), List.mem_of_getElem? (i := 472) (by decide +kernel)⟩
theorem lw_p17 : lw_okq (⟨"SignLetters", "pairNumber", "(LSignLetters$Layout;II)I"⟩, 10) := ⟨⟨by decide +kernel, by decide +kernel⟩, List.mem_of_getElem? (i := 14) (by decide +kernel), List.mem_of_getElem? (i := 477) (by decide +kernel), List.mem_of_getElem? (i := 478) (by decide +kernel)⟩
theorem lw_p18 : lw_okq (⟨"SignLetters", "saveState", "()V"⟩, 10) := ⟨⟨by decide +kernel, by decide +kernel⟩, List.mem_of_getElem? (i := 14) (by decide +kernel), List.mem_of_getElem? (i := 501) (by decide +kernel), List.mem_of_getElem? (i := 502) (by decide +kernel)⟩
theorem lw_p19 : lw_okq (⟨"SignLetters$State", "write", "(III)V"⟩, 5) := ⟨⟨by decide +kernel, by decide +kernel⟩, List.mem_of_getElem? (i := 22) (by decide +kernel), List.mem_of_getElem? (i := 513) (by decide +kernel), List.mem_of_getElem? (i := 514) (by decide +kernel)⟩
def lw_privs_2 : List (MethodName × Nat) := [(⟨"SignLetters", "itemNumber", "(LSignLetters$Layout;II)I"⟩, 10), (⟨"SignLetters", "pairNumber", "(LSignLetters$Layout;II)I"⟩, 10), (⟨"SignLetters", "saveState", "()V"⟩, 10), (⟨"SignLetters$State", "write", "(III)V"⟩, 5)]
theorem lw_r2 : ∀ q ∈ lw_privs_2, lw_okq q := List.forall_mem_cons.mpr ⟨lw_p16, List.forall_mem_cons.mpr ⟨lw_p17, List.forall_mem_cons.mpr ⟨lw_p18, List.forall_mem_cons.mpr ⟨lw_p19, fun _ h => absurd h List.not_mem_nil⟩⟩⟩⟩
def lw_privs : List (MethodName × Nat) := lw_privs_1 ++ (lw_privs_2)
def lw_tbl : List Cond := k2_sels lw_privs ++ tables_1
theorem lw_privs_ok : ∀ q ∈ lw_privs, lw_okq q := by
  show ∀ q ∈ lw_privs_1 ++ (lw_privs_2), lw_okq q
  exact List.forall_mem_append.mpr ⟨lw_r1, lw_r2⟩
/-- the streams that the claim lets the run draw from -/
abbrev lw_cs : List Choice := [Jvm.Choice.named "NaN.bits"]
theorem lw_bits : nanBits ∈ lw_cs := by first | decide | exact List.mem_cons_self | simp [lw_cs, nanBits]
-- ===== end of PART A; then your names; then what follows =====
/-! ===== BEGIN words of one list among another's, by their places ===== -/
theorem goodIn_r {big : List Cond} (ws : List Cond) (ps : List Nat) (hp : ws = ps.filterMap (fun i => big[i]?)) (h : ws.all goodWord = true) : GoodIn big ws := by
  intro w hw
  have h1 := List.all_eq_true.mp h w hw
  rw [hp] at hw
  obtain ⟨i, -, hi⟩ := List.mem_filterMap.mp hw
  have hm : w ∈ big := by first | exact List.mem_of_getElem? hi | exact List.getElem?_mem hi
  exact ⟨hm, good_of_word h1⟩
theorem goodIn_app {big a b : List Cond} (ha : GoodIn big a) (hb : GoodIn big b) : GoodIn big (a ++ b) := fun w h => (List.mem_append.mp h).elim (ha w) (hb w)
theorem goodIn_ca {big a b : List Cond} {c : Cond} (ha : GoodIn big (c :: a)) (hb : GoodIn big b) : GoodIn big (c :: (a ++ b)) := fun w h => (List.mem_cons.mp h).elim (fun e => ha w (List.mem_cons.mpr (Or.inl e))) (fun h => (List.mem_append.mp h).elim (fun h => ha w (List.mem_cons.mpr (Or.inr h))) (hb w))
theorem goodIn_sub {big ws : List Cond} (hm : ∀ w ∈ ws, w ∈ big) (h : ws.all goodWord = true) : GoodIn big ws := fun w hw => ⟨hm w hw, good_of_word (List.all_eq_true.mp h w hw)⟩
/-! ===== END ===== -/

/-! ===== BEGIN exceptions that leave a method, and their catching by the caller (launches without stack traces) ===== -/
section VXA
/-! The laws vx_back, vx_callV, vx_callS, vx_callSW, vx_throw0, vx_throwS follow proofs of the library, with one case more: JvmDerived/Free/Laws.lean (Back.of_free), Shelf42/LK1.lean (callV, callS), Shelf/KitTraced.lean (throwNew0V, throwNewS). -/
/-- where a method has thrown q: the class by its name, the cell, what was written, the world -/
def vx_T (XC : String → State → State → Prop) (st : State) (q : Addr) (t : State) (mc ms : Nat) (free : Addr → Prop) : Prop :=
  ∃ (E : String) (ce : Cell) (L : List Loc), XC E st t ∧ t.heap[q]? = some ce ∧ ce.vm = .none ∧ st.vm.findClass E = some ce.cls ∧ st.WarmedH t.vm ∧ st.sameButNew ({ t with vm := st.vm } : State) L mc ms ∧ ∀ z ∈ L, free z.base
def vx_Q (Qc : Array Value → State → Outcome → State → Prop) (XC : String → State → State → Prop) (mc ms : Nat) (free : Addr → Prop) : Array Value → State → Outcome → State → Prop := fun a st o t =>
  (Qc a st o t ∧ ∃ L, FrameEnd st o t L mc ms ∧ ∀ q ∈ L, free q.base) ∨ ∃ q, o = .threw q ∧ vx_T XC st q t mc ms free
/-- a callee that returns or throws -/
def vx_Met (l : Launch) (y : MethodName) (ws : List Cond) (rm : Room) (Pc : Array Value → State → Prop) (Qc : Array Value → State → Outcome → State → Prop) (XC : String → State → State → Prop) (mc ms : Nat) (free : Addr → Prop) : Prop :=
  MetFree l y (headSpec ws rm) Pc (fun _ _ _ _ _ => True) (vx_Q Qc XC mc ms free)
def vx_Post (XC : String → State → State → Prop) (mc ms : Nat) (free : Addr → Prop) : Pt → Array Value → Addr → Pt → Prop := fun A a q B =>
  ∃ (g : JFrame) (mk : MethodId) (t : State) (L : List Loc) (E : String) (ce : Cell), B.U.heap = t.heap ∧ B.U.vm = t.vm ∧ XC E (A.U.calling g mk a) t ∧ t.heap[q]? = some ce ∧ ce.vm = .none ∧ A.U.vm.findClass E = some ce.cls ∧ B.locs = A.locs ++ L ∧ (∀ z ∈ L, free z.base) ∧ B.cells = A.cells + mc ∧ B.slots = A.slots + ms
def vx_Back (l : Launch) (R : Room) (p : Program) (e : Env) (below : List Frame) (s : State) (sargs : Array Value) (y : MethodName) (len W9 : Nat)
    (Pre : Pt → Array Value → Prop) (Post : Pt → Array Value → Option Value → Pt → Prop) (PostX : Pt → Array Value → Addr → Pt → Prop) : Prop :=
  ∀ (m : MethodId) (meth : Method) (c : Code) (A : Pt) (g : JFrame) (ig : Instr) (mk : MethodId) (a : Array Value),
    Stand p l e R s m sargs below meth c A.U A.locs A.cells A.slots → g.method = m → g.locals.size = c.maxLocals → decode c.code g.pc = .ok (ig, len) →
    2 * g.monitorRoom + (g.stack.map fun v => v.category).sum ≤ W9 → A.U.methodNamed? y = some mk → Pre A a →
    (∃ (v : Option Value) (B : Pt), Stand p l e R s m sargs below meth c B.U B.locs B.cells B.slots ∧ Post A a v B ∧
      Steps p.tables e below (doInvoke e (A.U.setTop g) [] mk a).1 (B.U.setTop { g with pc := g.pc + len, stack := v.toList ++ g.stack })) ∨
    (∃ (q : Addr) (B : Pt), Stand p l e R s m sargs below meth c B.U B.locs B.cells B.slots ∧ PostX A a q B ∧
      Steps p.tables e below (doInvoke e (A.U.setTop g) [] mk a).1 ((B.U.setTop g).pushFrame (.throwing q)))
section Payer
variable {l : Launch} {R : Room} {p : Program} {e : Env} {below : List Frame} {s : State} {sargs : Array Value} {y : MethodName} {len W9 : Nat}
theorem vx_back {ws : List Cond} {rm : Room} {Pc : Array Value → State → Prop} {Qc : Array Value → State → Outcome → State → Prop} {XC : String → State → State → Prop} {mc ms : Nat} {free : Addr → Prop} {bytes : ByteArray} {maxL : Nat} {ret : Option FieldType}
    (hM : vx_Met l y ws rm Pc Qc XC mc ms free) (hblind : FrameBlind Pc) (hrc : rm.cells = mc) (hrs : rm.slots = ms)
    (hframes : rm.frames + 1 ≤ R.frames) (hlocals : W9 + (maxL + 11) + rm.locals ≤ R.locals)
    (hws : ∀ w ∈ ws, ∀ a' U, s.WarmedH U.vm → w.before a' U = true) (hcode : Cond.code y bytes maxL ret ∈ ws) (hinit : ∀ a' U, s.WarmedH U.vm → (Cond.initialized y.cls).before a' U = true) :
    vx_Back l R p e below s sargs y len W9 (PreOf R mc ms Pc) (PostOf Qc mc ms free) (vx_Post XC mc ms free) := by
  intro m meth c A g ig mk a X hg hsize hdg hW hn hp
  have h1 : (headSpec ws rm).pre.before a A.U = true := atoms_intro fun w hw => hws w hw _ _ X.warmed
  have h2 : (Cond.code y bytes maxL ret).before a A.U = true := hws _ hcode _ _ X.warmed
  have h3 : (Cond.initialized y.cls).before a A.U = true := hinit _ _ X.warmed
  have h4 : A.cells + (headSpec ws rm).room.cells ≤ R.cells := by rw [show (headSpec ws rm).room.cells = mc from hrc]; exact hp.1
  have h5 : A.slots + (headSpec ws rm).room.slots ≤ R.slots := by rw [show (headSpec ws rm).room.slots = ms from hrs]; exact hp.2.1
  have hPc : Pc a (A.U.calling g mk a) := hblind _ _ _ _ hp.2.2
  obtain ⟨U, Ls, c0, s0⟩ := A
  dsimp only [Pt.U, Pt.locs, Pt.cells, Pt.slots] at h1 h2 h3 h4 h5 X hn hPc ⊢
  obtain ⟨methY, cY, hmY, hcY, -, hlY, -, -, -, -⟩ := Cond.code_spec hn h2
  obtain ⟨kY, hkY, -⟩ := className_of_methodNamed hn
  have hinitY : kY.init = .initialized := Cond.initialized_spec (findClass_of_methodNamed hn) hkY h3
  have h : At U g.method c below := by rw [hg]; exact X.here
  have hlocals9 : W9 + (maxL + 11) + (headSpec ws rm).room.locals ≤ R.locals := hlocals
  have happ : (headSpec ws rm).appliesLoose y e.platform (U.calling g mk a) = true :=
    Spec.appliesLoose_calling (g := g) h hdg hn hkY hinitY
      (X.room_calling (g := g) (R' := (headSpec ws rm).room) hsize hmY hcY hframes (by rw [hlY]; omega) h4 h5) h1
  obtain ⟨mid, hmid⟩ := h.above
  have hfr : (U.setTop g).frames = (.java g :: mid) ++ below := by rw [State.frames_setTop' g h.top, hmid]; rfl
  obtain ⟨o, s₂, hsteps, -, hend, hq⟩ := Steps.callFree hM p X.admits X.cas X.clock (acts := []) hfr happ hPc trivial
  have hq' : vx_Q Qc XC mc ms free a (U.calling g mk a) o s₂ := hq
  rw [State.frames_setTop' g h.top] at hend
  obtain ⟨g₀, hg0⟩ := Option.isSome_iff_exists.mp h.top
  obtain ⟨r, hr⟩ := State.topJava?_eq_some.mp hg0
  have hr' : (({ U with heap := s₂.heap, slotsUsed := s₂.slotsUsed } : State).setVm s₂.vm).frames = .java g₀ :: r := hr
  rcases hq' with ⟨hqc, L, hfe, hL⟩ | ⟨q, rfl, E, ce, L, hx, hce, hcv, hcl, hW₂, hsm, hL⟩
  · obtain ⟨⟨v, rfl⟩, hW₂, e2, q2, q3, q4, q5, q6⟩ := id hfe
    have e3 : s₂ = ({ (U.calling g mk a).setFrames s₂.frames with heap := s₂.heap, slotsUsed := s₂.slotsUsed } : State).setVm s₂.vm := by
      have : s₂ = ({ s₂ with vm := (U.calling g mk a).vm } : State).setVm s₂.vm := rfl
      rw [e2] at this
      exact this
    obtain ⟨c₂, i₂, len₂, hc₂, hd₂, hf₂⟩ := hend
    have hW' : U.WarmedH s₂.vm := hW₂
    have hcc : c₂ = c := by
      have h1 : s₂.code? g.method = U.code? g.method := by
        rw [State.code?_eq, State.code?_eq, hW'.alike.method?]
      exact Option.some.inj (hc₂.symm.trans (h1.trans h.code))
    subst hcc
    have hlen : len₂ = len := by rw [hdg] at hd₂; cases hd₂; rfl
    subst hlen
    have hs₂ : s₂ = (({ U with heap := s₂.heap, slotsUsed := s₂.slotsUsed } : State).setVm s₂.vm).setTop { g with pc := g.pc + len₂, stack := v.toList ++ g.stack } := by
      refine e3.trans ?_
      rw [hf₂, State.calling_eq h.top, State.setFrames_setFrames, State.setTop_of_frames _ hr', hr]
      rfl
    have hsame : U.sameButNew ({ U with heap := s₂.heap, slotsUsed := s₂.slotsUsed } : State) L mc ms := by
      refine ⟨?_, q2, q3, q4, q5, q6⟩
      obtain ⟨t, ht, -⟩ := State.frames_cons hr
      show ({ U with heap := s₂.heap, slotsUsed := s₂.slotsUsed } : State) = { U.setFrames U.frames with heap := s₂.heap, slotsUsed := s₂.slotsUsed }
      rw [State.setFrames_self ht]
    subst hg
    refine Or.inl ⟨v, ⟨(({ U with heap := s₂.heap, slotsUsed := s₂.slotsUsed } : State).setVm s₂.vm), Ls ++ L, c0 + mc, s0 + ms⟩,
      ⟨X.admits, X.cas, X.clock, X.frames, X.room, X.hears, X.method, X.code, (X.here.setHeapUsed s₂.heap s₂.slotsUsed).setVm hW'.alike, X.tail, State.WarmedH.trans X.warmed hW', X.limits, X.bytes, X.same.trans (hsame.setVm s.vm)⟩,
      ⟨g, mk, s₂, L, rfl, rfl, hqc, rfl, hL, rfl, rfl⟩, ?_⟩
    show Steps p.tables e below _ ((({ U with heap := s₂.heap, slotsUsed := s₂.slotsUsed } : State).setVm s₂.vm).setTop { g with pc := g.pc + len₂, stack := v.toList ++ g.stack })
    rw [← hs₂]
    exact hsteps
  · obtain ⟨e2, q2, q3, q4, q5, q6⟩ := id hsm
    have e3 : s₂ = ({ (U.calling g mk a).setFrames s₂.frames with heap := s₂.heap, slotsUsed := s₂.slotsUsed } : State).setVm s₂.vm := by
      have : s₂ = ({ s₂ with vm := (U.calling g mk a).vm } : State).setVm s₂.vm := rfl
      rw [e2] at this
      exact this
    have hf₂ : s₂.frames = .throwing q :: .java g :: U.frames.tail := hend
    have hW' : U.WarmedH s₂.vm := hW₂
    have hs₂ : s₂ = ((({ U with heap := s₂.heap, slotsUsed := s₂.slotsUsed } : State).setVm s₂.vm).setTop g).pushFrame (.throwing q) := by
      refine e3.trans ?_
      rw [hf₂, State.calling_eq h.top, State.setFrames_setFrames, State.pushFrame, State.frames_setTop _ hr', State.setTop_of_frames _ hr', State.setFrames_setFrames, hr]
      rfl
    have hsame : U.sameButNew ({ U with heap := s₂.heap, slotsUsed := s₂.slotsUsed } : State) L mc ms := by
      refine ⟨?_, q2, q3, q4, q5, q6⟩
      obtain ⟨t, ht, -⟩ := State.frames_cons hr
      show ({ U with heap := s₂.heap, slotsUsed := s₂.slotsUsed } : State) = { U.setFrames U.frames with heap := s₂.heap, slotsUsed := s₂.slotsUsed }
      rw [State.setFrames_self ht]
    subst hg
    refine Or.inr ⟨q, ⟨(({ U with heap := s₂.heap, slotsUsed := s₂.slotsUsed } : State).setVm s₂.vm), Ls ++ L, c0 + mc, s0 + ms⟩,
      ⟨X.admits, X.cas, X.clock, X.frames, X.room, X.hears, X.method, X.code, (X.here.setHeapUsed s₂.heap s₂.slotsUsed).setVm hW'.alike, X.tail, State.WarmedH.trans X.warmed hW', X.limits, X.bytes, X.same.trans (hsame.setVm s.vm)⟩,
      ⟨g, mk, s₂, L, E, ce, rfl, rfl, hx, hce, hcv, hcl, rfl, hL, rfl, rfl⟩, ?_⟩
    show Steps p.tables e below _ (((({ U with heap := s₂.heap, slotsUsed := s₂.slotsUsed } : State).setVm s₂.vm).setTop g).pushFrame (.throwing q))
    rw [← hs₂]
    exact hsteps
end Payer
section Calls
variable {p : Program} {l : Launch} {e : Env} {R : Room} {s : State} {m : MethodId} {args : Array Value} {below : List Frame} {meth : Method} {c : Code} {T : State} {locs : List Loc} {cells slots : Nat}
theorem vx_callV (X : Stand p l e R s m args below meth c T locs cells slots) (hexec : p.tables.exec = Jvm.exec) {own C : String} {index : Nat} {y : MethodName} {bytes : ByteArray} {maxL : Nat} {ret : Option FieldType}
    (hown : s.vm.findClass own = some m.cls) (hlink : (Cond.methodLink own index y).before args s = true) (hinst : (Cond.instanceMethod y).before args s = true) (hsel : (Cond.selects C y y).before args s = true)
    (hcode : (Cond.code y bytes maxL ret).before args s = true) (hy : y.cls ≠ "java/lang/invoke/MethodHandle" ∧ y.cls ≠ "java/lang/invoke/VarHandle")
    {W9 : Nat} {Pre : Pt → Array Value → Prop} {Post : Pt → Array Value → Option Value → Pt → Prop} {PostX : Pt → Array Value → Addr → Pt → Prop} (hK : vx_Back l R p e below s args y 3 W9 Pre Post PostX)
    {b : Addr} {cellB : Cell} (hcell : T.heap[b]? = some cellB) (hobj : cellB.vm.isStatics = false) (hcls : s.vm.findClass C = some cellB.cls)
    {g : JFrame} (hg : g.method = m) (hsize : g.locals.size = c.maxLocals) {argsL rest : List Value} (hlen : ∀ sig, parseMethodDescriptor y.desc = some sig → argsL.length = sig.parameters.length)
    (hstack : g.stack = argsL.reverse ++ .ref b :: rest) (hW : 2 * g.monitorRoom + (rest.map fun v => v.category).sum ≤ W9) (hdg : decode c.code g.pc = .ok (.invokevirtual index, 3))
    (hpre : ∀ vm₁, s.WarmedH vm₁ → Pre ⟨T.setVm vm₁, locs, cells, slots⟩ (Value.ref b :: argsL).toArray) :
    (∃ (v : Option Value) (vm₁ : Vm) (B : Pt), s.WarmedH vm₁ ∧ Stand p l e R s m args below meth c B.U B.locs B.cells B.slots ∧ Post ⟨T.setVm vm₁, locs, cells, slots⟩ (Value.ref b :: argsL).toArray v B ∧
      ∀ target, Steps p.tables e below (B.U.setTop { g with pc := g.pc + 3, stack := v.toList ++ rest }) target → Steps p.tables e below (T.setTop g) target) ∨
    (∃ (q : Addr) (vm₁ : Vm) (B : Pt), s.WarmedH vm₁ ∧ Stand p l e R s m args below meth c B.U B.locs B.cells B.slots ∧ PostX ⟨T.setVm vm₁, locs, cells, slots⟩ (Value.ref b :: argsL).toArray q B ∧
      Steps p.tables e below (T.setTop g) ((B.U.setTop { g with stack := rest }).pushFrame (.throwing q))) := by
  obtain ⟨mk, methM, hnamed, hmethM, hstM, habM⟩ := Cond.instanceMethod_spec hinst
  obtain ⟨methM', cM, hmethM', -, -, -, -, -, -, hsigM⟩ := Cond.code_spec hnamed hcode
  cases hmethM.symm.trans hmethM'
  obtain ⟨c2, r2, m2, q1, q2, q3, q4, kP, hkP, hkPi⟩ := Cond.selects_spec hsel
  cases hcls.symm.trans q1
  cases (State.methodFound?_of_named hnamed hy).symm.trans q2
  cases hnamed.symm.trans q3
  have hselP : selectMethod e.platform s.vm cellB.cls mk = .method mk := by rw [Launch.admits_selectMethod X.admits]; exact q4
  obtain ⟨vm₁, X₁, hstep₁⟩ := X.invokevirtual hexec hown hlink hnamed hmethM hstM hkP hkPi hy (a := b) (cell := cellB) hcell
    (fun z h => by rw [h] at hobj; cases hobj) hselP hmethM habM hkP hkPi (g := g) hg (argsL := argsL) (rest := rest) (hlen _ hsigM) hstack hdg
  rcases hK m meth c ⟨T.setVm vm₁, locs, cells, slots⟩ { g with stack := rest } (.invokevirtual index) mk (Value.ref b :: argsL).toArray X₁ hg hsize hdg hW (X₁.named hnamed) (hpre vm₁ X₁.warmed) with ⟨v, B, X', hpost, hsteps⟩ | ⟨q, B, X', hpost, hsteps⟩
  · exact Or.inl ⟨v, vm₁, B, X₁.warmed, X', hpost, fun target h => hstep₁ _ fun acts => by rw [doInvoke_state]; exact hsteps.trans h⟩
  · exact Or.inr ⟨q, vm₁, B, X₁.warmed, X', hpost, hstep₁ _ fun acts => by rw [doInvoke_state]; exact hsteps⟩
theorem vx_callS (X : Stand p l e R s m args below meth c T locs cells slots) (hexec : p.tables.exec = Jvm.exec) {own : String} {index : Nat} {y : MethodName} {bytes : ByteArray} {maxL : Nat} {ret : Option FieldType}
    (hown : s.vm.findClass own = some m.cls) (hlink : (Cond.methodLink own index y).before args s = true) (hstat : (Cond.static y).before args s = true) (hinit : (Cond.initialized y.cls).before args s = true)
    (hcode : (Cond.code y bytes maxL ret).before args s = true) (hy : y.cls ≠ "java/lang/invoke/MethodHandle" ∧ y.cls ≠ "java/lang/invoke/VarHandle")
    {W9 : Nat} {Pre : Pt → Array Value → Prop} {Post : Pt → Array Value → Option Value → Pt → Prop} {PostX : Pt → Array Value → Addr → Pt → Prop} (hK : vx_Back l R p e below s args y 3 W9 Pre Post PostX)
    {g : JFrame} (hg : g.method = m) (hsize : g.locals.size = c.maxLocals) {argsL rest : List Value} (hlen : ∀ sig, parseMethodDescriptor y.desc = some sig → argsL.length = sig.parameters.length)
    (hstack : g.stack = argsL.reverse ++ rest) (hW : 2 * g.monitorRoom + (rest.map fun v => v.category).sum ≤ W9) (hdg : decode c.code g.pc = .ok (.invokestatic index, 3))
    (hpre : ∀ vm₁, s.WarmedH vm₁ → Pre ⟨T.setVm vm₁, locs, cells, slots⟩ argsL.toArray) :
    (∃ (v : Option Value) (vm₁ : Vm) (B : Pt), s.WarmedH vm₁ ∧ Stand p l e R s m args below meth c B.U B.locs B.cells B.slots ∧ Post ⟨T.setVm vm₁, locs, cells, slots⟩ argsL.toArray v B ∧
      ∀ target, Steps p.tables e below (B.U.setTop { g with pc := g.pc + 3, stack := v.toList ++ rest }) target → Steps p.tables e below (T.setTop g) target) ∨
    (∃ (q : Addr) (vm₁ : Vm) (B : Pt), s.WarmedH vm₁ ∧ Stand p l e R s m args below meth c B.U B.locs B.cells B.slots ∧ PostX ⟨T.setVm vm₁, locs, cells, slots⟩ argsL.toArray q B ∧
      Steps p.tables e below (T.setTop g) ((B.U.setTop { g with stack := rest }).pushFrame (.throwing q))) := by
  obtain ⟨mk, hnamed⟩ := Cond.code_named hcode
  obtain ⟨methM, cM, hmethM, -, -, -, -, -, -, hsigM⟩ := Cond.code_spec hnamed hcode
  have hstatic : methM.isStatic = true := Cond.static_spec hnamed hmethM hstat
  obtain ⟨kP, hkP, -⟩ := className_of_methodNamed hnamed
  have hinitP : kP.init = .initialized := Cond.initialized_spec (findClass_of_methodNamed hnamed) hkP hinit
  obtain ⟨vm₁, X₁, hstep₁⟩ := X.invokestatic hexec hown hlink hnamed hmethM hstatic hkP hinitP hy (g := g) hg (argsL := argsL) (rest := rest) (hlen _ hsigM) hstack hdg
  rcases hK m meth c ⟨T.setVm vm₁, locs, cells, slots⟩ { g with stack := rest } (.invokestatic index) mk argsL.toArray X₁ hg hsize hdg hW (X₁.named hnamed) (hpre vm₁ X₁.warmed) with ⟨v, B, X', hpost, hsteps⟩ | ⟨q, B, X', hpost, hsteps⟩
  · exact Or.inl ⟨v, vm₁, B, X₁.warmed, X', hpost, fun target h => hstep₁ _ fun acts => by rw [doInvoke_state]; exact hsteps.trans h⟩
  · exact Or.inr ⟨q, vm₁, B, X₁.warmed, X', hpost, hstep₁ _ fun acts => by rw [doInvoke_state]; exact hsteps⟩
end Calls
theorem vx_cls {s : State} {T : State} {vm₁ : Vm} {E : String} {k : ClassId} (hW : s.WarmedH vm₁) (h : (T.setVm vm₁).vm.findClass E = some k) : s.vm.findClass E = some k := by
  have h1 : vm₁.findClass E = some k := h
  rw [hW.alike.findClass] at h1
  exact h1
/-- the method's frame g, with q thrown over it -/
def vx_W (p : Program) (l : Launch) (e : Env) (R : Room) (s : State) (m : MethodId) (args : Array Value) (below : List Frame) (meth : Method) (c : Code) (H : Heap) (locs : List Loc) (cells slots : Nat) (Q : State → Prop) (g : JFrame) (q : Addr) : Prop :=
  ∀ T : State, T.heap = H → Stand p l e R s m args below meth c T locs cells slots → ∃ t, Steps p.tables e below ((T.setTop g).pushFrame (.throwing q)) t ∧ Q t
def vx_Run (p : Program) (l : Launch) (e : Env) (R : Room) (s : State) (m : MethodId) (args : Array Value) (below : List Frame) (meth : Method) (c : Code) (H : Heap) (locs : List Loc) (cells slots mc ms : Nat) (g : JFrame) (rest : List Value) (Qa : State → Outcome → State → Prop) (XC : String → State → State → Prop) (free : Addr → Prop) : Prop :=
  ∀ T : State, T.heap = H → Stand p l e R s m args below meth c T locs cells slots →
    (∃ (v : Option Value) (st₀ t T' : State) (L : List Loc), st₀.heap = H ∧ Stand p l e R s m args below meth c T' (locs ++ L) (cells + mc) (slots + ms) ∧ (∀ q ∈ L, free q.base) ∧ T'.heap = t.heap ∧ T'.vm = t.vm ∧ Qa st₀ (.returned v) t ∧
      Goes p e below T g T' { g with pc := g.pc + 3, stack := v.toList ++ rest }) ∨
    (∃ (q : Addr) (st₀ t T' : State) (L : List Loc) (E : String) (ce : Cell), st₀.heap = H ∧ Stand p l e R s m args below meth c T' (locs ++ L) (cells + mc) (slots + ms) ∧ (∀ z ∈ L, free z.base) ∧ T'.heap = t.heap ∧ T'.vm = t.vm ∧ XC E st₀ t ∧ t.heap[q]? = some ce ∧ ce.vm = .none ∧ s.vm.findClass E = some ce.cls ∧
      Steps p.tables e below (T.setTop g) ((T'.setTop { g with stack := rest }).pushFrame (.throwing q)))
def vx_X {S : Type} (px : S → Prop) (B : String → S → State → Prop) (A : Nat → Prop) : String → State → State → Prop := fun E st t => ∃ u : S, px u ∧ B E u t ∧ va_F A st t
section Runs
variable {p : Program} {l : Launch} {e : Env} {R : Room} {s : State} {m : MethodId} {args : Array Value} {below : List Frame} {meth : Method} {c : Code} {H : Heap} {locs : List Loc} {cells slots : Nat}
variable {y : MethodName} {bytes cc : ByteArray} {maxL nL mc ms n index : Nat} {ret : Option FieldType} {ws : List Cond} {rm : Room} {Pc : Array Value → State → Prop} {Qc : Array Value → State → Outcome → State → Prop} {XC : String → State → State → Prop} {free : Addr → Prop} {Ts : List Cond} {own C : String} {b : Addr} {As rest : List Value} {g : JFrame}
theorem vx_callBack (cb : CallB R s args own index y bytes maxL ret ws rm mc ms n) (hM : vx_Met l y ws rm Pc Qc XC mc ms free) (hbl : FrameBlind Pc) : vx_Back l R p e below s args y 3 8 (PreOf R mc ms Pc) (PostOf Qc mc ms free) (vx_Post XC mc ms free) := by
  obtain ⟨hrc, hrs, hfr, hlo, hws, hcw, -, hini, -⟩ := cb
  exact vx_back (bytes := bytes) (maxL := maxL) (ret := ret) hM hbl hrc hrs hfr hlo hws hcw (fun a' U hW => word_at hW (Or.inl (by first | rfl | simp [Cond.onTables, Cond.keeps, Cond.steady])) hini)
theorem vx_runV (S : CallFix p m c cc nL s args Ts own) (hM : vx_Met l y ws rm Pc Qc XC mc ms free) (cw : CallW R s args own C index y bytes maxL ret ws rm mc ms n) (hp : PreV s H C b Pc As)
    (hg : g.method = m) (hn : As.length = n) (hsize : g.locals.size = nL) (hstack : g.stack = As.reverse ++ .ref b :: rest) (hW : 2 * g.monitorRoom + (rest.map fun v => v.category).sum ≤ 8) (hdg : decode cc g.pc = .ok (.invokevirtual index, 3)) (hf : cells + mc ≤ R.cells ∧ slots + ms ≤ R.slots) :
    vx_Run p l e R s m args below meth c H locs cells slots mc ms g rest (Qc (Value.ref b :: As).toArray) XC free := by
  have hK : vx_Back l R p e below s args y 3 8 (PreOf R mc ms Pc) (PostOf Qc mc ms free) (vx_Post XC mc ms free) := vx_callBack cw.1 hM hp.1
  obtain ⟨⟨-, -, -, -, -, -, hcode, -, hy, hlen, hl⟩, hin, hse⟩ := cw
  obtain ⟨hx, hb, hml, ho, -⟩ := S
  obtain ⟨-, ⟨cellB, hcB, hoB, hclB⟩, hPc⟩ := hp
  intro T hT X
  rcases vx_callV X hx (C := C) (bytes := bytes) (maxL := maxL) (ret := ret) ho hl hin hse hcode hy hK (by rw [hT]; exact hcB) hoB hclB hg (hsize.trans hml.symm) (argsL := As) (rest := rest) (fun sig h => hn.trans (hlen sig h)) hstack hW (by rw [hb]; exact hdg)
    (fun vm₁ hW₁ => ⟨hf.1, hf.2, hPc (T.setVm vm₁) hT hW₁⟩) with ⟨v, vm₁, ⟨U', l2, c2, s2⟩, hW₁, X', ⟨g', mk, t, L, e1, e2, hq, h1, hL, h2, h3⟩, st⟩ | ⟨q, vm₁, ⟨U', l2, c2, s2⟩, hW₁, X', ⟨g', mk, t, L, E, ce, e1, e2, hq, hce, hcv, hcl, h1, hL, h2, h3⟩, st⟩
  · dsimp only [Pt.U, Pt.locs, Pt.cells, Pt.slots] at X' e1 e2 h1 h2 h3 st
    subst h1; subst h2; subst h3
    exact Or.inl ⟨v, (T.setVm vm₁).calling g' mk (Value.ref b :: As).toArray, t, U', L, hT, X', hL, e1, e2, hq, st⟩
  · dsimp only [Pt.U, Pt.locs, Pt.cells, Pt.slots] at X' e1 e2 h1 h2 h3 st hcl
    subst h1; subst h2; subst h3
    exact Or.inr ⟨q, (T.setVm vm₁).calling g' mk (Value.ref b :: As).toArray, t, U', L, E, ce, hT, X', hL, e1, e2, hq, hce, hcv, vx_cls hW₁ hcl, st⟩
theorem vx_runS (S : CallFix p m c cc nL s args Ts own) (hM : vx_Met l y ws rm Pc Qc XC mc ms free) (cw : CallB R s args own index y bytes maxL ret ws rm mc ms n ∧ (Cond.static y).before args s = true) (hp : PreS s H Pc As)
    (hg : g.method = m) (hn : As.length = n) (hsize : g.locals.size = nL) (hstack : g.stack = As.reverse ++ rest) (hW : 2 * g.monitorRoom + (rest.map fun v => v.category).sum ≤ 8) (hdg : decode cc g.pc = .ok (.invokestatic index, 3)) (hf : cells + mc ≤ R.cells ∧ slots + ms ≤ R.slots) :
    vx_Run p l e R s m args below meth c H locs cells slots mc ms g rest (Qc As.toArray) XC free := by
  have hK : vx_Back l R p e below s args y 3 8 (PreOf R mc ms Pc) (PostOf Qc mc ms free) (vx_Post XC mc ms free) := vx_callBack cw.1 hM hp.1
  obtain ⟨⟨-, -, -, -, -, -, hcode, hini, hy, hlen, hl⟩, hstt⟩ := cw
  obtain ⟨hx, hb, hml, ho, -⟩ := S
  intro T hT X
  rcases vx_callS X hx (bytes := bytes) (maxL := maxL) (ret := ret) ho hl hstt hini hcode hy hK hg (hsize.trans hml.symm) (argsL := As) (rest := rest) (fun sig h => hn.trans (hlen sig h)) hstack hW (by rw [hb]; exact hdg)
    (fun vm₁ hW₁ => ⟨hf.1, hf.2, hp.2 (T.setVm vm₁) hT hW₁⟩) with ⟨v, vm₁, ⟨U', l2, c2, s2⟩, hW₁, X', ⟨g', mk, t, L, e1, e2, hq, h1, hL, h2, h3⟩, st⟩ | ⟨q, vm₁, ⟨U', l2, c2, s2⟩, hW₁, X', ⟨g', mk, t, L, E, ce, e1, e2, hq, hce, hcv, hcl, h1, hL, h2, h3⟩, st⟩
  · dsimp only [Pt.U, Pt.locs, Pt.cells, Pt.slots] at X' e1 e2 h1 h2 h3 st
    subst h1; subst h2; subst h3
    exact Or.inl ⟨v, (T.setVm vm₁).calling g' mk As.toArray, t, U', L, hT, X', hL, e1, e2, hq, st⟩
  · dsimp only [Pt.U, Pt.locs, Pt.cells, Pt.slots] at X' e1 e2 h1 h2 h3 st hcl
    subst h1; subst h2; subst h3
    exact Or.inr ⟨q, (T.setVm vm₁).calling g' mk As.toArray, t, U', L, E, ce, hT, X', hL, e1, e2, hq, hce, hcv, vx_cls hW₁ hcl, st⟩
end Runs
section Rows
variable {p : Program} {l : Launch} {e : Env} {R : Room} {s : State} {m : MethodId} {args : Array Value} {below : List Frame} {meth : Method} {c : Code} {H : Heap} {locs : List Loc} {cells slots : Nat} {Q : State → Prop}
variable {mc ms : Nat} {free : Addr → Prop} {A0 A1 : Nat → Prop} {H0 : Heap} {a : Array Value} {pc : Nat} {ls : Array Slot} {st0 rest : List Value}
theorem vx_keep {st₀ t T' : State} {L : List Loc} (h0 : st₀.heap = H) (e1 : T'.heap = t.heap) (hS : va_S A0 H0 H locs) (hA : ∀ q, q < H.size → A1 q → A0 q) (hf : ∀ q, free q → A0 q) (hL : ∀ q ∈ L, free q.base) (hF : va_F A1 st₀ t) :
    H.size ≤ T'.heap.size ∧ (∀ q : Nat, q < H.size → ¬ A1 q → T'.heap[q]? = H[q]?) ∧ va_S A0 H0 T'.heap (locs ++ L) := by
  obtain ⟨hz, hk⟩ := hF
  rw [h0] at hz hk
  exact ⟨by rw [e1]; exact hz, fun q h1 h2 => by rw [e1]; exact hk q h1 h2,
    ⟨Nat.le_trans hS.1 (by rw [e1]; exact hz), fun q h1 h2 => by rw [e1, hk q (Nat.lt_of_lt_of_le h1 hS.1) (fun z => h2 (hA q (Nat.lt_of_lt_of_le h1 hS.1) z))]; exact hS.2.1 q h1 h2, fun q hq => by
      rcases List.mem_append.mp hq with h | h
      · exact hS.2.2 q h
      · exact hf _ (hL q h)⟩⟩
theorem vx_calli {S SX : Type} {post : Int32 → S → Prop} {px : SX → Prop} {B : S → State → Prop} {BX : String → SX → State → Prop} {AX : Nat → Prop} (hr : vx_Run p l e R s m args below meth c H locs cells slots mc ms (F0 m pc ls st0) rest (va_Qi post B A1 a) (vx_X px BX AX) free) (hS : va_S A0 H0 H locs) (hA : ∀ q, q < H.size → A1 q → A0 q) (hf : ∀ q, free q → A0 q) (hAX : ∀ q, q < H.size → AX q → A0 q)
    (kx : ∀ (E : String) (ce : Cell) (q9 : Addr) (u : SX) (t : State) (H1 : Heap) (locs1 : List Loc), t.heap = H1 → s.vm.Alike t.vm → px u → BX E u t → H.size ≤ H1.size → (∀ q : Nat, q < H.size → ¬ AX q → H1[q]? = H[q]?) → va_S A0 H0 H1 locs1 → H1[q9]? = some ce → ce.vm = .none → s.vm.findClass E = some ce.cls → vx_W p l e R s m args below meth c H1 locs1 (cells + mc) (slots + ms) Q (F0 m pc ls rest) q9)
    (kk : ∀ (r : Int32) (u : S) (t : State) (H1 : Heap) (locs1 : List Loc), t.heap = H1 → s.vm.Alike t.vm → post r u → B u t → H.size ≤ H1.size → (∀ q : Nat, q < H.size → ¬ A1 q → H1[q]? = H[q]?) → va_S A0 H0 H1 locs1 → W p l e R s m args below meth c H1 locs1 (cells + mc) (slots + ms) Q (F0 m (pc + 3) ls (.int r :: rest))) : W p l e R s m args below meth c H locs cells slots Q (F0 m pc ls st0) := by
  intro T hT X
  rcases hr T hT X with ⟨v, st₀, t, T', L, h0, X', hL, e1, e2, ⟨⟨r, u, hv, hp, hb⟩, hF⟩, st⟩ | ⟨q, st₀, t, T', L, E, ce, h0, X', hL, e1, e2, ⟨u, hp, hb, hF⟩, hce, hcv, hcl, st⟩
  · cases hv
    obtain ⟨k1, k2, k3⟩ := vx_keep h0 e1 hS hA hf hL hF
    obtain ⟨t2, a1, b1⟩ := kk r u t T'.heap (locs ++ L) e1.symm (by rw [← e2]; exact X'.warmed.alike) hp hb k1 k2 k3 T' rfl X'
    exact ⟨t2, st t2 a1, b1⟩
  · obtain ⟨k1, k2, k3⟩ := vx_keep h0 e1 hS hAX hf hL hF
    obtain ⟨t2, a1, b1⟩ := kx E ce q u t T'.heap (locs ++ L) e1.symm (by rw [← e2]; exact X'.warmed.alike) hp hb k1 k2 k3 (by rw [e1]; exact hce) hcv hcl T' rfl X'
    exact ⟨t2, st.trans a1, b1⟩
theorem vx_calll {S SX : Type} {post : Int64 → S → Prop} {px : SX → Prop} {B : S → State → Prop} {BX : String → SX → State → Prop} {AX : Nat → Prop} (hr : vx_Run p l e R s m args below meth c H locs cells slots mc ms (F0 m pc ls st0) rest (va_Ql post B A1 a) (vx_X px BX AX) free) (hS : va_S A0 H0 H locs) (hA : ∀ q, q < H.size → A1 q → A0 q) (hf : ∀ q, free q → A0 q) (hAX : ∀ q, q < H.size → AX q → A0 q)
    (kx : ∀ (E : String) (ce : Cell) (q9 : Addr) (u : SX) (t : State) (H1 : Heap) (locs1 : List Loc), t.heap = H1 → s.vm.Alike t.vm → px u → BX E u t → H.size ≤ H1.size → (∀ q : Nat, q < H.size → ¬ AX q → H1[q]? = H[q]?) → va_S A0 H0 H1 locs1 → H1[q9]? = some ce → ce.vm = .none → s.vm.findClass E = some ce.cls → vx_W p l e R s m args below meth c H1 locs1 (cells + mc) (slots + ms) Q (F0 m pc ls rest) q9)
    (kk : ∀ (r : Int64) (u : S) (t : State) (H1 : Heap) (locs1 : List Loc), t.heap = H1 → s.vm.Alike t.vm → post r u → B u t → H.size ≤ H1.size → (∀ q : Nat, q < H.size → ¬ A1 q → H1[q]? = H[q]?) → va_S A0 H0 H1 locs1 → W p l e R s m args below meth c H1 locs1 (cells + mc) (slots + ms) Q (F0 m (pc + 3) ls (.long r :: rest))) : W p l e R s m args below meth c H locs cells slots Q (F0 m pc ls st0) := by
  intro T hT X
  rcases hr T hT X with ⟨v, st₀, t, T', L, h0, X', hL, e1, e2, ⟨⟨r, u, hv, hp, hb⟩, hF⟩, st⟩ | ⟨q, st₀, t, T', L, E, ce, h0, X', hL, e1, e2, ⟨u, hp, hb, hF⟩, hce, hcv, hcl, st⟩
  · cases hv
    obtain ⟨k1, k2, k3⟩ := vx_keep h0 e1 hS hA hf hL hF
    obtain ⟨t2, a1, b1⟩ := kk r u t T'.heap (locs ++ L) e1.symm (by rw [← e2]; exact X'.warmed.alike) hp hb k1 k2 k3 T' rfl X'
    exact ⟨t2, st t2 a1, b1⟩
  · obtain ⟨k1, k2, k3⟩ := vx_keep h0 e1 hS hAX hf hL hF
    obtain ⟨t2, a1, b1⟩ := kx E ce q u t T'.heap (locs ++ L) e1.symm (by rw [← e2]; exact X'.warmed.alike) hp hb k1 k2 k3 (by rw [e1]; exact hce) hcv hcl T' rfl X'
    exact ⟨t2, st.trans a1, b1⟩
theorem vx_callf {S SX : Type} {post : UInt32 → S → Prop} {px : SX → Prop} {B : S → State → Prop} {BX : String → SX → State → Prop} {AX : Nat → Prop} (hr : vx_Run p l e R s m args below meth c H locs cells slots mc ms (F0 m pc ls st0) rest (va_Qf post B A1 a) (vx_X px BX AX) free) (hS : va_S A0 H0 H locs) (hA : ∀ q, q < H.size → A1 q → A0 q) (hf : ∀ q, free q → A0 q) (hAX : ∀ q, q < H.size → AX q → A0 q)
    (kx : ∀ (E : String) (ce : Cell) (q9 : Addr) (u : SX) (t : State) (H1 : Heap) (locs1 : List Loc), t.heap = H1 → s.vm.Alike t.vm → px u → BX E u t → H.size ≤ H1.size → (∀ q : Nat, q < H.size → ¬ AX q → H1[q]? = H[q]?) → va_S A0 H0 H1 locs1 → H1[q9]? = some ce → ce.vm = .none → s.vm.findClass E = some ce.cls → vx_W p l e R s m args below meth c H1 locs1 (cells + mc) (slots + ms) Q (F0 m pc ls rest) q9)
    (kk : ∀ (r : UInt32) (u : S) (t : State) (H1 : Heap) (locs1 : List Loc), t.heap = H1 → s.vm.Alike t.vm → post r u → B u t → H.size ≤ H1.size → (∀ q : Nat, q < H.size → ¬ A1 q → H1[q]? = H[q]?) → va_S A0 H0 H1 locs1 → W p l e R s m args below meth c H1 locs1 (cells + mc) (slots + ms) Q (F0 m (pc + 3) ls (.float r :: rest))) : W p l e R s m args below meth c H locs cells slots Q (F0 m pc ls st0) := by
  intro T hT X
  rcases hr T hT X with ⟨v, st₀, t, T', L, h0, X', hL, e1, e2, ⟨⟨r, u, hv, hp, hb⟩, hF⟩, st⟩ | ⟨q, st₀, t, T', L, E, ce, h0, X', hL, e1, e2, ⟨u, hp, hb, hF⟩, hce, hcv, hcl, st⟩
  · cases hv
    obtain ⟨k1, k2, k3⟩ := vx_keep h0 e1 hS hA hf hL hF
    obtain ⟨t2, a1, b1⟩ := kk r u t T'.heap (locs ++ L) e1.symm (by rw [← e2]; exact X'.warmed.alike) hp hb k1 k2 k3 T' rfl X'
    exact ⟨t2, st t2 a1, b1⟩
  · obtain ⟨k1, k2, k3⟩ := vx_keep h0 e1 hS hAX hf hL hF
    obtain ⟨t2, a1, b1⟩ := kx E ce q u t T'.heap (locs ++ L) e1.symm (by rw [← e2]; exact X'.warmed.alike) hp hb k1 k2 k3 (by rw [e1]; exact hce) hcv hcl T' rfl X'
    exact ⟨t2, st.trans a1, b1⟩
theorem vx_calld {S SX : Type} {post : UInt64 → S → Prop} {px : SX → Prop} {B : S → State → Prop} {BX : String → SX → State → Prop} {AX : Nat → Prop} (hr : vx_Run p l e R s m args below meth c H locs cells slots mc ms (F0 m pc ls st0) rest (va_Qd post B A1 a) (vx_X px BX AX) free) (hS : va_S A0 H0 H locs) (hA : ∀ q, q < H.size → A1 q → A0 q) (hf : ∀ q, free q → A0 q) (hAX : ∀ q, q < H.size → AX q → A0 q)
    (kx : ∀ (E : String) (ce : Cell) (q9 : Addr) (u : SX) (t : State) (H1 : Heap) (locs1 : List Loc), t.heap = H1 → s.vm.Alike t.vm → px u → BX E u t → H.size ≤ H1.size → (∀ q : Nat, q < H.size → ¬ AX q → H1[q]? = H[q]?) → va_S A0 H0 H1 locs1 → H1[q9]? = some ce → ce.vm = .none → s.vm.findClass E = some ce.cls → vx_W p l e R s m args below meth c H1 locs1 (cells + mc) (slots + ms) Q (F0 m pc ls rest) q9)
    (kk : ∀ (r : UInt64) (u : S) (t : State) (H1 : Heap) (locs1 : List Loc), t.heap = H1 → s.vm.Alike t.vm → post r u → B u t → H.size ≤ H1.size → (∀ q : Nat, q < H.size → ¬ A1 q → H1[q]? = H[q]?) → va_S A0 H0 H1 locs1 → W p l e R s m args below meth c H1 locs1 (cells + mc) (slots + ms) Q (F0 m (pc + 3) ls (.double r :: rest))) : W p l e R s m args below meth c H locs cells slots Q (F0 m pc ls st0) := by
  intro T hT X
  rcases hr T hT X with ⟨v, st₀, t, T', L, h0, X', hL, e1, e2, ⟨⟨r, u, hv, hp, hb⟩, hF⟩, st⟩ | ⟨q, st₀, t, T', L, E, ce, h0, X', hL, e1, e2, ⟨u, hp, hb, hF⟩, hce, hcv, hcl, st⟩
  · cases hv
    obtain ⟨k1, k2, k3⟩ := vx_keep h0 e1 hS hA hf hL hF
    obtain ⟨t2, a1, b1⟩ := kk r u t T'.heap (locs ++ L) e1.symm (by rw [← e2]; exact X'.warmed.alike) hp hb k1 k2 k3 T' rfl X'
    exact ⟨t2, st t2 a1, b1⟩
  · obtain ⟨k1, k2, k3⟩ := vx_keep h0 e1 hS hAX hf hL hF
    obtain ⟨t2, a1, b1⟩ := kx E ce q u t T'.heap (locs ++ L) e1.symm (by rw [← e2]; exact X'.warmed.alike) hp hb k1 k2 k3 (by rw [e1]; exact hce) hcv hcl T' rfl X'
    exact ⟨t2, st.trans a1, b1⟩
theorem vx_callv {S SX : Type} {post : S → Prop} {px : SX → Prop} {B : S → State → Prop} {BX : String → SX → State → Prop} {AX : Nat → Prop} (hr : vx_Run p l e R s m args below meth c H locs cells slots mc ms (F0 m pc ls st0) rest (va_Qv post B A1 a) (vx_X px BX AX) free) (hS : va_S A0 H0 H locs) (hA : ∀ q, q < H.size → A1 q → A0 q) (hf : ∀ q, free q → A0 q) (hAX : ∀ q, q < H.size → AX q → A0 q)
    (kx : ∀ (E : String) (ce : Cell) (q9 : Addr) (u : SX) (t : State) (H1 : Heap) (locs1 : List Loc), t.heap = H1 → s.vm.Alike t.vm → px u → BX E u t → H.size ≤ H1.size → (∀ q : Nat, q < H.size → ¬ AX q → H1[q]? = H[q]?) → va_S A0 H0 H1 locs1 → H1[q9]? = some ce → ce.vm = .none → s.vm.findClass E = some ce.cls → vx_W p l e R s m args below meth c H1 locs1 (cells + mc) (slots + ms) Q (F0 m pc ls rest) q9)
    (kk : ∀ (u : S) (t : State) (H1 : Heap) (locs1 : List Loc), t.heap = H1 → s.vm.Alike t.vm → post u → B u t → H.size ≤ H1.size → (∀ q : Nat, q < H.size → ¬ A1 q → H1[q]? = H[q]?) → va_S A0 H0 H1 locs1 → W p l e R s m args below meth c H1 locs1 (cells + mc) (slots + ms) Q (F0 m (pc + 3) ls (rest))) : W p l e R s m args below meth c H locs cells slots Q (F0 m pc ls st0) := by
  intro T hT X
  rcases hr T hT X with ⟨v, st₀, t, T', L, h0, X', hL, e1, e2, ⟨⟨u, hv, hp, hb⟩, hF⟩, st⟩ | ⟨q, st₀, t, T', L, E, ce, h0, X', hL, e1, e2, ⟨u, hp, hb, hF⟩, hce, hcv, hcl, st⟩
  · cases hv
    obtain ⟨k1, k2, k3⟩ := vx_keep h0 e1 hS hA hf hL hF
    obtain ⟨t2, a1, b1⟩ := kk u t T'.heap (locs ++ L) e1.symm (by rw [← e2]; exact X'.warmed.alike) hp hb k1 k2 k3 T' rfl X'
    exact ⟨t2, st t2 a1, b1⟩
  · obtain ⟨k1, k2, k3⟩ := vx_keep h0 e1 hS hAX hf hL hF
    obtain ⟨t2, a1, b1⟩ := kx E ce q u t T'.heap (locs ++ L) e1.symm (by rw [← e2]; exact X'.warmed.alike) hp hb k1 k2 k3 (by rw [e1]; exact hce) hcv hcl T' rfl X'
    exact ⟨t2, st.trans a1, b1⟩
/-- caught by the row x of this method's table; the rows ahead don't take it -/
theorem vx_catch {own name : String} {E : String} {ce : Cell} {q : Addr} (hown : s.vm.findClass own = some m.cls) (pre : List ExceptionTableEntry) (x : ExceptionTableEntry) (suf : List ExceptionTableEntry) (hsplit : c.exceptionTable.toList = pre ++ x :: suf)
    (hpass : ∀ z ∈ pre, covers z pc = false ∨ (z.catchType ≠ 0 ∧ ∃ nm : String, (Cond.classLink own z.catchType nm).before args s = true ∧ va_Nc E nm s)) (hx : covers x pc = true) (h0 : x.catchType ≠ 0)
    (hlink : (Cond.classLink own x.catchType name).before args s = true) (hcast : (Cond.castable E name).before args s = true) (hcell : H[q]? = some ce) (hv : ce.vm = .none) (hcl : s.vm.findClass E = some ce.cls)
    (kk : W p l e R s m args below meth c H locs cells slots Q (F0 m x.handlerPc ls [.ref q])) : vx_W p l e R s m args below meth c H locs cells slots Q (F0 m pc ls rest) q := by
  intro T hT X
  have hpl : e.platform.magicAccessors = ({} : Platform).magicAccessors := by rw [X.admits.platform]
  obtain ⟨c3, c4, hc3, hc4, hasg⟩ := Cond.castable_spec hcast
  cases Option.some.inj (hc3.symm.trans hcl)
  obtain ⟨c5, hc5, hcl5⟩ := Cond.classLink_spec hown hlink e.platform hpl
  cases Option.some.inj (hc4.symm.trans hc5)
  obtain ⟨vm', X', st⟩ := X.thenCaughtThrough q (g := F0 m pc ls rest) rfl (Steps.refl _) (by rw [hT]; exact hcell) (by rw [hv]; rfl) (by obtain ⟨k9, h9, -⟩ := Vm.findClass_spec hcl; exact ⟨k9, h9⟩) pre x suf hsplit
    (fun z hz => by
      rcases hpass z hz with h | ⟨hz0, nm, hl1, hn1⟩
      · exact Or.inl h
      · obtain ⟨c6, hc6, hcl6⟩ := Cond.classLink_spec hown hl1 e.platform hpl
        obtain ⟨a8, b8, h1, h2, h3⟩ := hn1
        cases Option.some.inj (h1.symm.trans hcl)
        cases Option.some.inj (h2.symm.trans hc6)
        exact Or.inr ⟨hz0, _, hcl6, h3⟩) hx (Or.inr ⟨h0, c4, hcl5, hasg⟩)
  obtain ⟨t, a1, b1⟩ := kk (T.setVm vm') hT X'
  exact ⟨t, st.trans a1, b1⟩
end Rows
section Ends
variable {p : Program} {l : Launch} {e : Env} {R : Room} {s : State} {m : MethodId} {args : Array Value} {below : List Frame} {meth : Method} {c : Code} {H : Heap} {locs : List Loc} {cells slots : Nat} {Q : State → Prop}
variable {mc ms : Nat} {free : Addr → Prop} {A0 A1 : Nat → Prop} {H0 : Heap} {a : Array Value} {ls : Array Slot} {st0 rest : List Value}
variable {Qc : Array Value → State → Outcome → State → Prop} {XC : String → State → State → Prop}
/-- what a body that may throw owes at its end -/
def vx_MQ (below : List Frame) (Qc : Array Value → State → Outcome → State → Prop) (XC : String → State → State → Prop) (a : Array Value) (s : State) (mc ms : Nat) (free : Addr → Prop) : State → Prop := fun t =>
  ∃ o, t.status = .running ∧ Ended t below o ∧ vx_Q Qc XC mc ms free a s o t
theorem vx_ret {g : JFrame} {mc ms : Nat} (k : W p l e R s m args below meth c H locs cells slots (MQ below Qc args s mc ms free) g) : W p l e R s m args below meth c H locs cells slots (vx_MQ below Qc XC args s mc ms free) g := by
  intro T hT X
  obtain ⟨t, a1, o, b1, b2, b3, b4⟩ := k T hT X
  exact ⟨t, a1, o, b1, b2, Or.inl ⟨b3, b4⟩⟩
/-- not caught here: it goes on to the caller -/
theorem vx_widen {g : JFrame} {q : Addr} {k n : Nat} (h1 : cells ≤ k) (h2 : slots ≤ n) (kk : vx_W p l e R s m args below meth c H locs k n Q g q) : vx_W p l e R s m args below meth c H locs cells slots Q g q := fun T hT X => kk T hT (stand_widen X h1 h2)
theorem vx_out {pc : Nat} {E : String} {ce : Cell} {q : Addr} {mc ms : Nat} (hout : ∀ x ∈ c.exceptionTable.toList, covers x pc = false) (hlocks : meth.locks = false) (hcell : H[q]? = some ce) (hv : ce.vm = .none) (hcl : s.vm.findClass E = some ce.cls)
    (hx : ∀ t : State, t.heap = H → s.vm.Alike t.vm → XC E s t) (hf : ∀ z ∈ locs, free z.base) (hc : cells ≤ mc) (hs : slots ≤ ms) :
    vx_W p l e R s m args below meth c H locs cells slots (vx_MQ below Qc XC args s mc ms free) (F0 m pc ls rest) q := by
  intro T hT X
  obtain ⟨st1, hrun, hend, hW, hsm⟩ := X.leaveThrown q (g := F0 m pc ls rest) rfl rfl rfl hout hlocks
  have hcell9 : (T.setFrames (.throwing q :: below)).heap[q]? = some ce := by
    show T.heap[q]? = some ce
    rw [hT]; exact hcell
  exact ⟨_, st1, .threw q, hrun, hend, Or.inr ⟨q, rfl, E, ce, locs, hx _ hT hW.alike, hcell9, hv, hcl, hW, hsm.mono hc hs, hf⟩⟩
theorem vx_frame {U : State} {k n : Nat} (h : s.sameButNew ({ U with vm := s.vm } : State) locs k n) : s.heap.size ≤ U.heap.size ∧ ∀ q : Nat, q < s.heap.size → (∀ z ∈ locs, z.base ≠ q) → U.heap[q]? = s.heap[q]? := by
  obtain ⟨-, h2, -, -, -, h6⟩ := h
  refine ⟨h2, fun q hq hz => ?_⟩
  obtain ⟨c9, e1, e2, e3, e4⟩ := h6 q _ (Array.getElem?_eq_getElem hq)
  have hs : c9.slots = (s.heap[q]).slots := Array.ext_getElem? fun i => e4 i fun hm => hz _ hm rfl
  have h9 : c9 = s.heap[q] := by
    rw [hs] at e2
    exact e2
  have e5 : U.heap[q]? = some c9 := e1
  rw [e5, h9, Array.getElem?_eq_getElem hq]
/-- the words of a throw but the four that speak of the heap -/
def vx_no (w : Cond) : Bool := decide (w ≠ .isRef (.static Bundle.tN "UNASSIGNED_STACK" Bundle.steD)) && decide (w ≠ .isRef (.static Bundle.tN "SUPPRESSED_SENTINEL" Bundle.listD)) && decide (w ≠ .laysStatic Bundle.tN "UNASSIGNED_STACK" Bundle.steD) && decide (w ≠ .laysStatic Bundle.tN "SUPPRESSED_SENTINEL" Bundle.listD)
def vx_at0 (own : String) (ic : Nat) (X : String) (names : List String) : List Cond := (Bundle.ownAtoms0 own ic X names).filter vx_no
def vx_atS (own : String) (ic : Nat) (X : String) (names : List String) : List Cond := (Bundle.ownAtoms own ic X names).filter vx_no
/-- a word that the tables alone decide, or a good one -/
def vx_ot (w : Cond) : Bool := w.onTables || goodWord w
theorem vx_ot_at {args a' : Array Value} {s U : State} {w : Cond} (hW : s.WarmedH U.vm) (hvm : s.vm = U.vm) (hg : vx_ot w = true) (h : w.before args s = true) : w.before a' U = true := by
  simp only [vx_ot, Bool.or_eq_true] at hg
  rcases hg with hg | hg
  · exact va_tabs hg hvm h
  · exact word_at hW (good_of_word hg) h
/-- a list's words: the good ones out of the method's own list, the others by premises of their own -/
theorem vx_hat {args : Array Value} {s : State} {L B : List Cond} (h1 : ∀ w ∈ L.filter goodWord, w.before args s = true) (h2 : ∀ w ∈ L.filter (fun w => !goodWord w), w ∈ B) (h3 : ∀ w ∈ B, w.before args s = true) : ∀ w ∈ L, w.before args s = true := by
  intro w hw
  by_cases g : goodWord w = true
  · exact h1 w (List.mem_filter.mpr ⟨hw, g⟩)
  · refine h3 w (h2 w (List.mem_filter.mpr ⟨hw, ?_⟩))
    show (!goodWord w) = true
    cases hgw : goodWord w
    · rfl
    · exact absurd hgw g
theorem vx_c {args : Array Value} {s : State} {w : Cond} {B : List Cond} (h : w.before args s = true) (t : ∀ w ∈ B, w.before args s = true) : ∀ w' ∈ w :: B, w'.before args s = true := fun w' h' => (List.mem_cons.mp h').elim (fun e => by rw [e]; exact h) (t w')
theorem vx_n {args : Array Value} {s : State} : ∀ w ∈ ([] : List Cond), w.before args s = true := fun _ h => nomatch h
theorem vx_own {args : Array Value} {s : State} {L : List Cond} (h1 : ∀ w ∈ L.filter vx_no, w.before args s = true)
    (hU : (Cond.isRef (.static Bundle.tN "UNASSIGNED_STACK" Bundle.steD)).before args s = true) (hN : (Cond.isRef (.static Bundle.tN "SUPPRESSED_SENTINEL" Bundle.listD)).before args s = true)
    (lU : (Cond.laysStatic Bundle.tN "UNASSIGNED_STACK" Bundle.steD).before args s = true) (lN : (Cond.laysStatic Bundle.tN "SUPPRESSED_SENTINEL" Bundle.listD).before args s = true) : ∀ w ∈ L, w.before args s = true := by
  intro w hw
  by_cases e1 : w = .isRef (.static Bundle.tN "UNASSIGNED_STACK" Bundle.steD)
  · rw [e1]; exact hU
  · by_cases e2 : w = .isRef (.static Bundle.tN "SUPPRESSED_SENTINEL" Bundle.listD)
    · rw [e2]; exact hN
    · by_cases e3 : w = .laysStatic Bundle.tN "UNASSIGNED_STACK" Bundle.steD
      · rw [e3]; exact lU
      · by_cases e4 : w = .laysStatic Bundle.tN "SUPPRESSED_SENTINEL" Bundle.listD
        · rw [e4]; exact lN
        · exact h1 w (List.mem_filter.mpr ⟨hw, by unfold vx_no; rw [decide_eq_true e1, decide_eq_true e2, decide_eq_true e3, decide_eq_true e4]; rfl⟩)
/-- where a static field lies, its class's statics cell in H -/
def vx_L (C n d : String) (A : Nat → Prop) (U : State) (H : Heap) : Prop := ∃ (c : ClassId) (k : Class) (i : Nat) (f : Field) (a : Nat) (cell : Cell), U.vm.findClass C = some c ∧ U.fieldFound? C n d = some (c, k, i, f) ∧ f.isStatic = true ∧ k.statics = some a ∧ H[a]? = some cell ∧ cell.vm.isStatics = true ∧ cell.cls = c ∧ f.slot < cell.slots.size ∧ k.staticTypes[f.slot]? = some f.type ∧ ¬ A a
theorem vx_L.moved {C n d : String} {A : Nat → Prop} {u U : State} {H : Heap} (hvm : u.vm.Alike U.vm) (h : vx_L C n d A u H) : vx_L C n d A U H := by
  obtain ⟨c, k, i, f, a, cell, h1, h2, h3, h4, h5, h6, h7, h8, h9, h10⟩ := h
  obtain ⟨k', hi', he⟩ := State.fieldFound?_setVm hvm h2
  exact ⟨c, k', i, f, a, cell, by rw [hvm.findClass]; exact h1, hi', h3, by rw [he]; exact h4, h5, h6, h7, h8, by rw [he]; exact h9, h10⟩
theorem vx_L.kept {C n d : String} {A : Nat → Prop} {U : State} {H H1 : Heap} (h : vx_L C n d A U H) (hq : ∀ a : Nat, a < H.size → ¬ A a → H1[a]? = H[a]?) : vx_L C n d A U H1 := by
  obtain ⟨c, k, i, f, a, cell, h1, h2, h3, h4, h5, h6, h7, h8, h9, h10⟩ := h
  exact ⟨c, k, i, f, a, cell, h1, h2, h3, h4, by rw [hq a (Array.getElem?_eq_some_iff.mp h5).1 h10]; exact h5, h6, h7, h8, h9, h10⟩
theorem vx_L.narrow {C n d : String} {A B : Nat → Prop} {U : State} {H : Heap} (h : vx_L C n d A U H) (hAB : ∀ q, B q → A q) : vx_L C n d B U H := by
  obtain ⟨c, k, i, f, a, cell, h1, h2, h3, h4, h5, h6, h7, h8, h9, h10⟩ := h
  exact ⟨c, k, i, f, a, cell, h1, h2, h3, h4, h5, h6, h7, h8, h9, fun z => h10 (hAB _ z)⟩
theorem vx_L.word {C n d : String} {A : Nat → Prop} {s : State} {args : Array Value} (h : vx_L C n d A s s.heap) : (Cond.laysStatic C n d).before args s = true := by
  obtain ⟨c, k, i, f, a, cell, h1, h2, h3, h4, h5, h6, h7, h8, h9, -⟩ := h
  show (Cond.laysStatic C n d).holds args s none s [] = true
  exact Cond.laysStatic_of h1 h2 h3 h4 h5 h6 h7 h8 h9
/-- .. and what it holds: null or some reference -/
def vx_Zq (C n d : String) (A : Nat → Prop) (U : State) (H : Heap) : Prop := va_Zq C n d A U H ∧ vx_L C n d A U H
theorem vx_Zq.moved {C n d : String} {A : Nat → Prop} {u U : State} {H : Heap} (hvm : u.vm.Alike U.vm) (h : vx_Zq C n d A u H) : vx_Zq C n d A U H := ⟨va_Zq.moved hvm h.1, vx_L.moved hvm h.2⟩
theorem vx_Zq.kept {C n d : String} {A : Nat → Prop} {U : State} {H H1 : Heap} (h : vx_Zq C n d A U H) (hq : ∀ a : Nat, a < H.size → ¬ A a → H1[a]? = H[a]?) : vx_Zq C n d A U H1 := ⟨va_Zq.kept h.1 hq, vx_L.kept h.2 hq⟩
theorem vx_Zq.narrow {C n d : String} {A B : Nat → Prop} {U : State} {H : Heap} (h : vx_Zq C n d A U H) (hAB : ∀ q, B q → A q) : vx_Zq C n d B U H := ⟨va_Zq.narrow h.1 hAB, vx_L.narrow h.2 hAB⟩
theorem vx_Zqof {args : Array Value} {s : State} {C n d : String} {A : Nat → Prop} (hl : (Cond.laysStatic C n d).before args s = true) (hini : (Cond.initialized C).before args s = true) (h : (Cond.isRef (.static C n d)).before args s = true) (hA : ∀ a : Nat, a < s.heap.size → ¬ A a) : vx_Zq C n d A s s.heap := by
  refine ⟨va_Zqof hl hini h hA, ?_⟩
  obtain ⟨c, k, i, f, a, cell, h1, h2, h3, h4, h5, h6, h7, h8, h9⟩ := Cond.laysStatic_spec hl
  exact ⟨c, k, i, f, a, cell, h1, h2, h3, h4, h5, h6, h7, h8, h9, hA a (Array.getElem?_eq_some_iff.mp h5).1⟩
theorem vx_isRef {C n d : String} {v : Value} {A : Nat → Prop} {s : State} {args : Array Value} (h : va_Z C n d v A s s.heap) (hv : v.isRef = true) : (Cond.isRef (.static C n d)).before args s = true := by
  obtain ⟨cf, kf, fi, f, a, cell, h1, h2, h3, h4, h5, h6, h7, -⟩ := h
  have he : (Term.static C n d).eval args s none [] s = some v := by
    simp [Term.eval, State.fieldNamed?, h1, h2, h4, h5, h6, h7]
  simp only [Cond.before, Cond.holds, Cond.value, he]
  cases v <;> simp_all [Value.isRef]
theorem vx_isRefq {C n d : String} {A : Nat → Prop} {s : State} {args : Array Value} (h : va_Zq C n d A s s.heap) : (Cond.isRef (.static C n d)).before args s = true := by
  rcases h with h | ⟨t, h⟩
  · exact vx_isRef h rfl
  · exact vx_isRef h rfl
/-- the same frame, seen from here: as if the method were called anew in this heap -/
theorem vx_rebase {T : State} (X : Stand p l e R s m args below meth c T locs cells slots) {R' : Room} (hf : R'.frames ≤ R.frames) (hl : R'.locals ≤ R.locals) (hc : cells + R'.cells ≤ R.cells) (hs : slots + R'.slots ≤ R.slots) :
    Stand p l e R' ((T.setVm s.vm).setFrames (.invoking m args :: below)) m args below meth c T [] 0 0 := by
  have htop : (T.setVm s.vm).topJava?.isSome := X.here.top
  have hF : ((T.setVm s.vm).setFrames (.invoking m args :: below)).frames = .invoking m args :: below := State.frames_setFrames _ (State.cur_lt_of_top htop)
  obtain ⟨g₀, hg0⟩ := Option.isSome_iff_exists.mp htop
  obtain ⟨r, hr⟩ := State.topJava?_eq_some.mp hg0
  have hl9 : e.platform.stackLimits (T.setVm s.vm).me = e.platform.stackLimits s.me := X.limits
  have hb9 : (T.setVm s.vm).me.stackBytes = s.me.stackBytes := X.bytes
  refine ⟨X.admits, X.cas, X.clock, hF, ?_, X.hears, X.method, X.code, X.here, X.tail, X.warmed, ?_, ?_, ?_⟩
  · have h := X.room
    have hU : ((T.setVm s.vm).setFrames (.invoking m args :: below)).localsInUse = s.localsInUse := by
      rw [State.localsInUse_invoking hF (meth := meth) (c := c) X.method X.code, State.localsInUse_invoking X.frames X.method X.code]
    simp only [State.hasRoom, Bool.and_eq_true, decide_eq_true_eq] at h ⊢
    obtain ⟨⟨⟨⟨h1, h2, h3, h4, h5, h6⟩, h7⟩, h8⟩, h9⟩ := h
    rw [X.frames, List.length_cons] at h2 h3
    have q1 := X.heapSize
    have q2 := X.used
    simp only [hF, hU, List.length_cons, State.stackLimits_setFrames, State.stackBytes_setFrames, hl9, hb9]
    refine ⟨⟨⟨⟨by omega, by omega, by omega, by omega, by omega, h6⟩, ?_⟩, ?_⟩, X.book⟩
    · show T.heap.size + R'.cells ≤ e.platform.maxCells
      omega
    · show T.slotsUsed + R'.slots ≤ e.platform.maxSlots
      omega
  · rw [State.stackLimits_setFrames]; rfl
  · rw [State.stackBytes_setFrames]; rfl
  · refine ⟨?_, Nat.le_refl _, Nat.le_refl _, ?_, ?_, fun a c9 h9 => ⟨c9, h9, rfl, rfl, fun _ _ => rfl⟩⟩
    · obtain ⟨t, ht, -⟩ := State.frames_cons hr
      show T.setVm s.vm = { ((T.setVm s.vm).setFrames (.invoking m args :: below)).setFrames (T.setVm s.vm).frames with heap := T.heap, slotsUsed := T.slotsUsed }
      rw [State.setFrames_setFrames, State.setFrames_self ht]
      rfl
    · show T.slotsUsed = T.slotsUsed + ((T.heap.toList.drop T.heap.size).map (·.slots.size)).sum
      rw [List.drop_eq_nil_of_le (Nat.le_of_eq Array.length_toList)]
      rfl
    · show ((T.heap.toList.drop T.heap.size).map (·.slots.size)).sum ≤ 0
      rw [List.drop_eq_nil_of_le (Nat.le_of_eq Array.length_toList)]
      exact Nat.le_refl _
/-- 'throw new E()': new; dup; invokespecial; athrow -/
theorem vx_throw0 {cc : ByteArray} {pc : Nat} (hexec : p.tables.exec = Jvm.exec) (hb : c.code = cc) (hl : l.stackTraces = false) {own cls : String} {names : List String} {ik ic mc ms : Nat} {A : Nat → Prop}
    (hown : s.vm.findClass own = some m.cls) (hcls : Bundle.fit cls = true) (hnames : ∀ n ∈ names, Bundle.fit n = true)
    (hk : (Cond.classLink own ik cls).before args s = true) (hini : (Cond.initialized cls).before args s = true) (hat : ∀ w ∈ vx_at0 own ic cls names, w.before args s = true)
    (hgood : ∀ w ∈ Cond.classLink own ik cls :: Cond.initialized cls :: vx_at0 own ic cls names, vx_ot w = true)
    (hU : vx_Zq Bundle.tN "UNASSIGNED_STACK" Bundle.steD A s s.heap) (hN : vx_Zq Bundle.tN "SUPPRESSED_SENTINEL" Bundle.listD A s s.heap) (hS : va_S A s.heap H locs) (hsize : ls.size = c.maxLocals)
    (d0 : decode cc pc = .ok (.new ik, 3)) (d3 : decode cc (pc + 3) = .ok (.dup, 1)) (d4 : decode cc (pc + 4) = .ok (.invokespecial ic, 3)) (d7 : decode cc (pc + 7) = .ok (.athrow, 1))
    (hout : ∀ x ∈ c.exceptionTable.toList, covers x (pc + 7) = false)
    (hRframes : names.length + 3 < R.frames) (hRlocals : (rest.map fun v => v.category).sum + (13 * (names.length + 1) + 42) ≤ R.locals) (hRcells : cells + 1 ≤ R.cells) (hRslots : slots + 6 ≤ R.slots) (hlocks : meth.locks = false)
    (hx : ∀ t : State, s.vm.Alike t.vm → H.size ≤ t.heap.size → (∀ q : Nat, q < H.size → t.heap[q]? = H[q]?) → XC cls s t)
    (hf : ∀ z ∈ locs, free z.base) (hc : cells + 1 ≤ mc) (hs : slots + 6 ≤ ms) :
    W p l e R s m args below meth c H locs cells slots (vx_MQ below Qc XC args s mc ms free) (F0 m pc ls rest) := by
  intro T hT X
  have htr : e.platform.stackTraces = false := (show e.platform.stackTraces = l.stackTraces by rw [X.admits.platform]).trans hl
  have Y := vx_rebase X (R' := { frames := R.frames, locals := R.locals, cells := 1, slots := 6 }) (Nat.le_refl _) (Nat.le_refl _) hRcells hRslots
  obtain ⟨s', hA⟩ : ∃ z, z = (T.setVm s.vm).setFrames (.invoking m args :: below) := ⟨_, rfl⟩
  rw [← hA] at Y
  have hvm : s'.vm = s.vm := by rw [hA]; rfl
  have hhp : s'.heap = H := by rw [hA]; exact hT
  have hW0 : s.WarmedH s'.vm := by rw [hvm]; exact State.WarmedH.refl s
  have hat' : ∀ w ∈ vx_at0 own ic cls names, w.before args s' = true := fun w hw => vx_ot_at hW0 hvm.symm (hgood w (List.mem_cons_of_mem _ (List.mem_cons_of_mem _ hw))) (hat w hw)
  have hk' : (Cond.classLink own ik cls).before args s' = true := vx_ot_at hW0 hvm.symm (hgood _ List.mem_cons_self) hk
  have hini' : (Cond.initialized cls).before args s' = true := vx_ot_at hW0 hvm.symm (hgood _ (List.mem_cons_of_mem _ List.mem_cons_self)) hini
  have hU' : vx_Zq Bundle.tN "UNASSIGNED_STACK" Bundle.steD A s' s'.heap := by rw [hhp]; exact vx_Zq.moved hW0.alike (hU.kept hS.2.1)
  have hN' : vx_Zq Bundle.tN "SUPPRESSED_SENTINEL" Bundle.listD A s' s'.heap := by rw [hhp]; exact vx_Zq.moved hW0.alike (hN.kept hS.2.1)
  have h : ∀ w ∈ Bundle.ownAtoms0 own ic cls names, w.before args s' = true := vx_own hat' (vx_isRefq hU'.1) (vx_isRefq hN'.1) hU'.2.word hN'.2.word
  have hown' : s'.vm.findClass own = some m.cls := by rw [hvm]; exact hown
  have hins : (Cond.instantiable cls 6).before args s' = true := h _ (by simp [Bundle.ownAtoms0])
  obtain ⟨vm₁, cX, kX, hfX, hkX, -, -, X₁, st1⟩ := Y.newCold hexec (own := own) (C := cls) (index := ik) (n := 6) hown' hk' hins hini'
    (g := F0 m pc ls rest) rfl (by rw [hb]; exact d0) (Nat.le_refl _) (Nat.le_refl _)
  generalize hT1 : (T.setVm vm₁).pushCell { cls := cX, slots := kX.instanceTypes.map defaultValue, vm := .none } = T1 at X₁ st1
  have hcat : (Value.ref T.heap.size).category = 1 := rfl
  have hcellA : T1.heap[T.heap.size]? = some (freshCell cX kX) := by rw [← hT1]; exact State.heap_pushCell_size _ _
  have d3' : decode c.code (pc + 3) = .ok (.dup, 1) := by rw [hb]; exact d3
  obtain ⟨U, hsteps, hrun, hend, hW, hsame, ce, hce, hO⟩ := X₁.ctorThrow0 hexec htr (own := own) (cls := cls) (names := names) (ic := ic) hown' hcls hnames h (fun x hx => nomatch hx) hfX hkX hcellA (by rw [hhp, hT]; exact Nat.le_refl _)
    (g := { method := m, pc := pc + 4, locals := ls, stack := .ref T.heap.size :: .ref T.heap.size :: rest, locked := none }) rfl hsize rfl rfl (rest := rest) rfl
    (by rw [hb]; exact d4) (by rw [hb]; exact d7) hout hRframes (by simp only [List.map_cons, List.sum_cons, hcat]; omega) hlocks
  obtain ⟨f1, f2⟩ := vx_frame hsame
  rw [hhp] at f1 f2
  have hWs : s.WarmedH U.vm := State.WarmedH.trans hW0 hW
  have hcl : s.vm.findClass cls = some ce.cls := by
    have h9 := hO.cls
    rw [hvm] at h9
    exact h9
  have hall : s.sameButNew ({ U with vm := s.vm } : State) locs mc ms := by
    subst hA
    obtain ⟨e1, e2⟩ := hsame
    rw [State.setFrames_setFrames] at e1
    have h2 : (T.setVm s.vm).sameButNew ({ U with vm := s.vm } : State) [] (0 + 1) (0 + 6) := ⟨e1, e2⟩
    have h3 := X.same.trans h2
    rw [List.append_nil] at h3
    exact h3.mono hc hs
  refine ⟨U, ?_, .threw T.heap.size, hrun, hend, Or.inr ⟨T.heap.size, rfl, cls, ce, locs, hx U hWs.alike f1 (fun q hq => f2 q hq (fun z hz => nomatch hz)), hce, hO.vm, hcl, hWs, hall, hf⟩⟩
  refine st1 _ ?_
  show Steps p.tables e below (T1.setTop { method := m, pc := pc + 3, locals := ls, stack := .ref T.heap.size :: rest, locked := none }) _
  jvm_step X₁.here [X₁.here.top, hexec, d3', Value.category]
  exact hsteps
/-- 'throw new E("text")': new; dup; ldc; invokespecial; athrow -/
theorem vx_throwS {cc : ByteArray} {pc : Nat} (hexec : p.tables.exec = Jvm.exec) (hb : c.code = cc) (hl : l.stackTraces = false) {own cls text : String} {names : List String} {ik is ic mc ms sa : Nat} {A : Nat → Prop}
    (hown : s.vm.findClass own = some m.cls) (hcls : Bundle.fit cls = true) (hnames : ∀ n ∈ names, Bundle.fit n = true)
    (hk : (Cond.classLink own ik cls).before args s = true) (hini : (Cond.initialized cls).before args s = true) (hstr : vk_R own is text sa s) (hat : ∀ w ∈ vx_atS own ic cls names, w.before args s = true)
    (hgood : ∀ w ∈ Cond.classLink own ik cls :: Cond.initialized cls :: vx_atS own ic cls names, vx_ot w = true)
    (hU : vx_Zq Bundle.tN "UNASSIGNED_STACK" Bundle.steD A s s.heap) (hN : vx_Zq Bundle.tN "SUPPRESSED_SENTINEL" Bundle.listD A s s.heap) (hS : va_S A s.heap H locs) (hsize : ls.size = c.maxLocals)
    (d0 : decode cc pc = .ok (.new ik, 3)) (d3 : decode cc (pc + 3) = .ok (.dup, 1)) (d4 : decode cc (pc + 4) = .ok (.ldc is, 2)) (d6 : decode cc (pc + 6) = .ok (.invokespecial ic, 3)) (d9 : decode cc (pc + 9) = .ok (.athrow, 1))
    (hout : ∀ x ∈ c.exceptionTable.toList, covers x (pc + 9) = false)
    (hRframes : names.length + 3 < R.frames) (hRlocals : (rest.map fun v => v.category).sum + (13 * (names.length + 1) + 43) ≤ R.locals) (hRcells : cells + 1 ≤ R.cells) (hRslots : slots + 6 ≤ R.slots) (hlocks : meth.locks = false)
    (hx : ∀ t : State, s.vm.Alike t.vm → H.size ≤ t.heap.size → (∀ q : Nat, q < H.size → t.heap[q]? = H[q]?) → XC cls s t)
    (hf : ∀ z ∈ locs, free z.base) (hc : cells + 1 ≤ mc) (hs : slots + 6 ≤ ms) :
    W p l e R s m args below meth c H locs cells slots (vx_MQ below Qc XC args s mc ms free) (F0 m pc ls rest) := by
  intro T hT X
  have htr : e.platform.stackTraces = false := (show e.platform.stackTraces = l.stackTraces by rw [X.admits.platform]).trans hl
  have Y := vx_rebase X (R' := { frames := R.frames, locals := R.locals, cells := 1, slots := 6 }) (Nat.le_refl _) (Nat.le_refl _) hRcells hRslots
  obtain ⟨s', hA⟩ : ∃ z, z = (T.setVm s.vm).setFrames (.invoking m args :: below) := ⟨_, rfl⟩
  rw [← hA] at Y
  have hvm : s'.vm = s.vm := by rw [hA]; rfl
  have hhp : s'.heap = H := by rw [hA]; exact hT
  have hW0 : s.WarmedH s'.vm := by rw [hvm]; exact State.WarmedH.refl s
  have hat' : ∀ w ∈ vx_atS own ic cls names, w.before args s' = true := fun w hw => vx_ot_at hW0 hvm.symm (hgood w (List.mem_cons_of_mem _ (List.mem_cons_of_mem _ hw))) (hat w hw)
  have hk' : (Cond.classLink own ik cls).before args s' = true := vx_ot_at hW0 hvm.symm (hgood _ List.mem_cons_self) hk
  have hini' : (Cond.initialized cls).before args s' = true := vx_ot_at hW0 hvm.symm (hgood _ (List.mem_cons_of_mem _ List.mem_cons_self)) hini
  have hU' : vx_Zq Bundle.tN "UNASSIGNED_STACK" Bundle.steD A s' s'.heap := by rw [hhp]; exact vx_Zq.moved hW0.alike (hU.kept hS.2.1)
  have hN' : vx_Zq Bundle.tN "SUPPRESSED_SENTINEL" Bundle.listD A s' s'.heap := by rw [hhp]; exact vx_Zq.moved hW0.alike (hN.kept hS.2.1)
  have h : ∀ w ∈ Bundle.ownAtoms own ic cls names, w.before args s' = true := vx_own hat' (vx_isRefq hU'.1) (vx_isRefq hN'.1) hU'.2.word hN'.2.word
  have hown' : s'.vm.findClass own = some m.cls := by rw [hvm]; exact hown
  have hins : (Cond.instantiable cls 6).before args s' = true := h _ (by simp [Bundle.ownAtoms])
  obtain ⟨vm₁, cX, kX, hfX, hkX, -, -, X₁, st1⟩ := Y.newCold hexec (own := own) (C := cls) (index := ik) (n := 6) hown' hk' hins hini'
    (g := F0 m pc ls rest) rfl (by rw [hb]; exact d0) (Nat.le_refl _) (Nat.le_refl _)
  generalize hT1 : (T.setVm vm₁).pushCell { cls := cX, slots := kX.instanceTypes.map defaultValue, vm := .none } = T1 at X₁ st1
  have hcat : (Value.ref T.heap.size).category = 1 := rfl
  have hcellA : T1.heap[T.heap.size]? = some (freshCell cX kX) := by rw [← hT1]; exact State.heap_pushCell_size _ _
  have d3' : decode c.code (pc + 3) = .ok (.dup, 1) := by rw [hb]; exact d3
  have d4' : decode c.code (pc + 4) = .ok (.ldc is, 2) := by rw [hb]; exact d4
  have hstr' : vk_R own is text sa s' := vk_R.warm hW0 hstr
  obtain ⟨U, hsteps, hrun, hend, hW, hsame, ce, hce, hO⟩ := X₁.ctorThrowS hexec htr (own := own) (cls := cls) (names := names) (ic := ic) hown' hcls hnames h (fun x hx => nomatch hx) hfX hkX hcellA (by rw [hhp, hT]; exact Nat.le_refl _) (msg := .ref sa) rfl
    (g := { method := m, pc := pc + 6, locals := ls, stack := .ref sa :: .ref T.heap.size :: .ref T.heap.size :: rest, locked := none }) rfl hsize rfl rfl (rest := rest) rfl
    (by rw [hb]; exact d6) (by rw [hb]; exact d9) hout hRframes (by simp only [List.map_cons, List.sum_cons, hcat]; omega) hlocks
  obtain ⟨f1, f2⟩ := vx_frame hsame
  rw [hhp] at f1 f2
  have hWs : s.WarmedH U.vm := State.WarmedH.trans hW0 hW
  have hcl : s.vm.findClass cls = some ce.cls := by
    have h9 := hO.cls
    rw [hvm] at h9
    exact h9
  have hall : s.sameButNew ({ U with vm := s.vm } : State) locs mc ms := by
    subst hA
    obtain ⟨e1, e2⟩ := hsame
    rw [State.setFrames_setFrames] at e1
    have h2 : (T.setVm s.vm).sameButNew ({ U with vm := s.vm } : State) [] (0 + 1) (0 + 6) := ⟨e1, e2⟩
    have h3 := X.same.trans h2
    rw [List.append_nil] at h3
    exact h3.mono hc hs
  refine ⟨U, ?_, .threw T.heap.size, hrun, hend, Or.inr ⟨T.heap.size, rfl, cls, ce, locs, hx U hWs.alike f1 (fun q hq => f2 q hq (fun z hz => nomatch hz)), hce, hO.vm, hcl, hWs, hall, hf⟩⟩
  refine st1 _ ?_
  show Steps p.tables e below (T1.setTop { method := m, pc := pc + 3, locals := ls, stack := .ref T.heap.size :: rest, locked := none }) _
  jvm_step X₁.here [X₁.here.top, hexec, d3', Value.category]
  exact X₁.ldcString hexec (own := own) (text := text) (index := is) (a := sa) hown' hstr'.1 hstr'.2
    (g := { method := m, pc := pc + 4, locals := ls, stack := .ref T.heap.size :: .ref T.heap.size :: rest, locked := none }) rfl d4' _ hsteps
/-- 'throw new E("text")', the text by a wide index -/
theorem vx_throwSW {cc : ByteArray} {pc : Nat} (hexec : p.tables.exec = Jvm.exec) (hb : c.code = cc) (hl : l.stackTraces = false) {own cls text : String} {names : List String} {ik is ic mc ms sa : Nat} {A : Nat → Prop}
    (hown : s.vm.findClass own = some m.cls) (hcls : Bundle.fit cls = true) (hnames : ∀ n ∈ names, Bundle.fit n = true)
    (hk : (Cond.classLink own ik cls).before args s = true) (hini : (Cond.initialized cls).before args s = true) (hstr : vk_R own is text sa s) (hat : ∀ w ∈ vx_atS own ic cls names, w.before args s = true)
    (hgood : ∀ w ∈ Cond.classLink own ik cls :: Cond.initialized cls :: vx_atS own ic cls names, vx_ot w = true)
    (hU : vx_Zq Bundle.tN "UNASSIGNED_STACK" Bundle.steD A s s.heap) (hN : vx_Zq Bundle.tN "SUPPRESSED_SENTINEL" Bundle.listD A s s.heap) (hS : va_S A s.heap H locs) (hsize : ls.size = c.maxLocals)
    (d0 : decode cc pc = .ok (.new ik, 3)) (d3 : decode cc (pc + 3) = .ok (.dup, 1)) (d4 : decode cc (pc + 4) = .ok (.ldc_w is, 3)) (d7 : decode cc (pc + 7) = .ok (.invokespecial ic, 3)) (d10 : decode cc (pc + 10) = .ok (.athrow, 1))
    (hout : ∀ x ∈ c.exceptionTable.toList, covers x (pc + 10) = false)
    (hRframes : names.length + 3 < R.frames) (hRlocals : (rest.map fun v => v.category).sum + (13 * (names.length + 1) + 43) ≤ R.locals) (hRcells : cells + 1 ≤ R.cells) (hRslots : slots + 6 ≤ R.slots) (hlocks : meth.locks = false)
    (hx : ∀ t : State, s.vm.Alike t.vm → H.size ≤ t.heap.size → (∀ q : Nat, q < H.size → t.heap[q]? = H[q]?) → XC cls s t)
    (hf : ∀ z ∈ locs, free z.base) (hc : cells + 1 ≤ mc) (hs : slots + 6 ≤ ms) :
    W p l e R s m args below meth c H locs cells slots (vx_MQ below Qc XC args s mc ms free) (F0 m pc ls rest) := by
  intro T hT X
  have htr : e.platform.stackTraces = false := (show e.platform.stackTraces = l.stackTraces by rw [X.admits.platform]).trans hl
  have Y := vx_rebase X (R' := { frames := R.frames, locals := R.locals, cells := 1, slots := 6 }) (Nat.le_refl _) (Nat.le_refl _) hRcells hRslots
  obtain ⟨s', hA⟩ : ∃ z, z = (T.setVm s.vm).setFrames (.invoking m args :: below) := ⟨_, rfl⟩
  rw [← hA] at Y
  have hvm : s'.vm = s.vm := by rw [hA]; rfl
  have hhp : s'.heap = H := by rw [hA]; exact hT
  have hW0 : s.WarmedH s'.vm := by rw [hvm]; exact State.WarmedH.refl s
  have hat' : ∀ w ∈ vx_atS own ic cls names, w.before args s' = true := fun w hw => vx_ot_at hW0 hvm.symm (hgood w (List.mem_cons_of_mem _ (List.mem_cons_of_mem _ hw))) (hat w hw)
  have hk' : (Cond.classLink own ik cls).before args s' = true := vx_ot_at hW0 hvm.symm (hgood _ List.mem_cons_self) hk
  have hini' : (Cond.initialized cls).before args s' = true := vx_ot_at hW0 hvm.symm (hgood _ (List.mem_cons_of_mem _ List.mem_cons_self)) hini
  have hU' : vx_Zq Bundle.tN "UNASSIGNED_STACK" Bundle.steD A s' s'.heap := by rw [hhp]; exact vx_Zq.moved hW0.alike (hU.kept hS.2.1)
  have hN' : vx_Zq Bundle.tN "SUPPRESSED_SENTINEL" Bundle.listD A s' s'.heap := by rw [hhp]; exact vx_Zq.moved hW0.alike (hN.kept hS.2.1)
  have h : ∀ w ∈ Bundle.ownAtoms own ic cls names, w.before args s' = true := vx_own hat' (vx_isRefq hU'.1) (vx_isRefq hN'.1) hU'.2.word hN'.2.word
  have hown' : s'.vm.findClass own = some m.cls := by rw [hvm]; exact hown
  have hins : (Cond.instantiable cls 6).before args s' = true := h _ (by simp [Bundle.ownAtoms])
  obtain ⟨vm₁, cX, kX, hfX, hkX, -, -, X₁, st1⟩ := Y.newCold hexec (own := own) (C := cls) (index := ik) (n := 6) hown' hk' hins hini'
    (g := F0 m pc ls rest) rfl (by rw [hb]; exact d0) (Nat.le_refl _) (Nat.le_refl _)
  generalize hT1 : (T.setVm vm₁).pushCell { cls := cX, slots := kX.instanceTypes.map defaultValue, vm := .none } = T1 at X₁ st1
  have hcat : (Value.ref T.heap.size).category = 1 := rfl
  have hcellA : T1.heap[T.heap.size]? = some (freshCell cX kX) := by rw [← hT1]; exact State.heap_pushCell_size _ _
  have d3' : decode c.code (pc + 3) = .ok (.dup, 1) := by rw [hb]; exact d3
  have d4' : decode c.code (pc + 4) = .ok (.ldc_w is, 3) := by rw [hb]; exact d4
  have hstr' : vk_R own is text sa s' := vk_R.warm hW0 hstr
  obtain ⟨U, hsteps, hrun, hend, hW, hsame, ce, hce, hO⟩ := X₁.ctorThrowS hexec htr (own := own) (cls := cls) (names := names) (ic := ic) hown' hcls hnames h (fun x hx => nomatch hx) hfX hkX hcellA (by rw [hhp, hT]; exact Nat.le_refl _) (msg := .ref sa) rfl
    (g := { method := m, pc := pc + 7, locals := ls, stack := .ref sa :: .ref T.heap.size :: .ref T.heap.size :: rest, locked := none }) rfl hsize rfl rfl (rest := rest) rfl
    (by rw [hb]; exact d7) (by rw [hb]; exact d10) hout hRframes (by simp only [List.map_cons, List.sum_cons, hcat]; omega) hlocks
  obtain ⟨f1, f2⟩ := vx_frame hsame
  rw [hhp] at f1 f2
  have hWs : s.WarmedH U.vm := State.WarmedH.trans hW0 hW
  have hcl : s.vm.findClass cls = some ce.cls := by
    have h9 := hO.cls
    rw [hvm] at h9
    exact h9
  have hall : s.sameButNew ({ U with vm := s.vm } : State) locs mc ms := by
    subst hA
    obtain ⟨e1, e2⟩ := hsame
    rw [State.setFrames_setFrames] at e1
    have h2 : (T.setVm s.vm).sameButNew ({ U with vm := s.vm } : State) [] (0 + 1) (0 + 6) := ⟨e1, e2⟩
    have h3 := X.same.trans h2
    rw [List.append_nil] at h3
    exact h3.mono hc hs
  refine ⟨U, ?_, .threw T.heap.size, hrun, hend, Or.inr ⟨T.heap.size, rfl, cls, ce, locs, hx U hWs.alike f1 (fun q hq => f2 q hq (fun z hz => nomatch hz)), hce, hO.vm, hcl, hWs, hall, hf⟩⟩
  refine st1 _ ?_
  show Steps p.tables e below (T1.setTop { method := m, pc := pc + 3, locals := ls, stack := .ref T.heap.size :: rest, locked := none }) _
  jvm_step X₁.here [X₁.here.top, hexec, d3', Value.category]
  exact X₁.ldcStringW hexec (own := own) (text := text) (index := is) (a := sa) hown' hstr'.1 hstr'.2
    (g := { method := m, pc := pc + 4, locals := ls, stack := .ref T.heap.size :: .ref T.heap.size :: rest, locked := none }) rfl d4' _ hsteps
end Ends
section Bodies
variable {l : Launch}
theorem vx_ofW {y : MethodName} {ws ws' : List Cond} {rm : Room} {Pc : Array Value → State → Prop} {Qc : Array Value → State → Outcome → State → Prop} {XC : String → State → State → Prop} {mc ms : Nat} {free : Addr → Prop} {cc : ByteArray} {maxL : Nat} {ret : Option FieldType}
    (hy : plainName y.cls = true) (hw : ws = Cond.code y cc maxL ret :: ws')
    (body : ∀ p e s m args below meth c s₁, BodyLoose p l y (headSpec ws rm) cc maxL ret e s m args below meth c s₁ → c.maxLocals = maxL → (∀ x ∈ c.exceptionTable.toList, False) → Pc args s →
      W p l e (headSpec ws rm).room s m args below meth c s.heap [] 0 0 (vx_MQ below Qc XC args s mc ms free) (entryFrame m args maxL)) : vx_Met l y ws rm Pc Qc XC mc ms free := by
  refine MetFree.of_bodyS (code := cc) (maxLocals := maxL) (ret := ret) hy ?_ ?_
  · intro args s m h hn
    obtain ⟨meth, c, h1, h2, h3, h4, h5, h6, -, -⟩ := Cond.code_spec hn (atoms_spec (ws := ws) h _ (by rw [hw]; exact List.mem_cons_self))
    exact ⟨meth, c, h1, h2, h3, h4, h5, h6⟩
  · intro p e s m args below meth c s₁ B hml hP _
    have hh0 : s₁.heap = s.heap := by rw [B.state]; rfl
    have ht : ∀ x ∈ c.exceptionTable.toList, False := by
      obtain ⟨meth9, c9, h1, h2, -, -, -, -, h7, -⟩ := Cond.code_spec B.named (atoms_spec (ws := ws) B.pre _ (by rw [hw]; exact List.mem_cons_self))
      cases Option.some.inj (h1.symm.trans B.method)
      cases Option.some.inj (h2.symm.trans (Stand.of_body B).code)
      intro x hx
      rw [Array.isEmpty_iff.mp h7] at hx
      cases hx
    obtain ⟨t, a1, o, b1, b2, b3⟩ := body p e s m args below meth c s₁ B hml ht hP s₁ hh0 (Stand.of_body B)
    exact ⟨t, o, a1, b1, b2, b3⟩
/-- the table of a body with handlers -/
theorem vx_table {p : Program} {x y : MethodName} {S : Spec} {cc bytes : ByteArray} {maxL maxL' : Nat} {ret ret' : Option FieldType} {e : Env} {s s₁ : State} {m : MethodId} {args : Array Value} {below : List Frame} {meth : Method} {c : Code} {hh : List (Nat × Nat × Nat × Nat)}
    (B : BodyLoose p l y S cc maxL ret e s m args below meth c s₁) (h : (Cond.codeWith y bytes maxL' ret' hh).before args s = true) : c.exceptionTable.toList = tableOf hh := by
  obtain ⟨m9, meth9, c9, hn9, h1, h2, -, -, h6, -⟩ := Cond.codeWith_spec h
  cases Option.some.inj (hn9.symm.trans B.named)
  cases Option.some.inj (h1.symm.trans B.method)
  cases Option.some.inj (h2.symm.trans (Stand.of_body B).code)
  rw [← h6, table_eq]
end Bodies
end VXA
/-! ===== END ===== -/
/-! ===== BEGIN a static call of a method with an exception table ===== -/
section VXS
variable {p : Program} {l : Launch} {e : Env} {R : Room} {s : State} {m : MethodId} {args : Array Value} {below : List Frame} {meth : Method} {c : Code} {T : State} {H : Heap} {locs : List Loc} {cells slots : Nat}
abbrev vx_CSW (R : Room) (s : State) (args : Array Value) (own : String) (index : Nat) (y : MethodName) (bytes : ByteArray) (maxL : Nat) (ret : Option FieldType) (hh : List (Nat × Nat × Nat × Nat)) (ws : List Cond) (rm : Room) (mc ms n : Nat) : Prop :=
  (rm.cells = mc ∧ rm.slots = ms ∧ rm.frames + 1 ≤ R.frames ∧ 8 + (maxL + 11) + rm.locals ≤ R.locals ∧ (∀ w ∈ ws, ∀ (a' : Array Value) (U : State), s.WarmedH U.vm → w.before a' U = true) ∧ Cond.codeWith y bytes maxL ret hh ∈ ws) ∧
  (Cond.codeWith y bytes maxL ret hh).before args s = true ∧ (Cond.initialized y.cls).before args s = true ∧ (y.cls ≠ "java/lang/invoke/MethodHandle" ∧ y.cls ≠ "java/lang/invoke/VarHandle") ∧
  (∀ sig, parseMethodDescriptor y.desc = some sig → n = sig.parameters.length) ∧ (Cond.methodLink own index y).before args s = true ∧ (Cond.static y).before args s = true
theorem vx_cwSW {own : String} {index maxL mc ms : Nat} {y : MethodName} {bytes : ByteArray} {ret : Option FieldType} {hh : List (Nat × Nat × Nat × Nat)} {Ts ws ws' : List Cond} {rm : Room} (n : Nat) (ht : ∀ w ∈ Ts, w.before args s = true) (hT : GoodIn Ts (va_wsS own index y ws)) (hw : ws = Cond.codeWith y bytes maxL ret hh :: ws') (hrc : rm.cells = mc) (hrs : rm.slots = ms)
    (hd : y.cls ≠ "java/lang/invoke/MethodHandle" ∧ y.cls ≠ "java/lang/invoke/VarHandle" ∧ (parseMethodDescriptor y.desc).map (fun d => d.parameters.length) = some n) (hR : rm.frames + 1 ≤ R.frames ∧ 8 + (maxL + 11) + rm.locals ≤ R.locals) :
    vx_CSW R s args own index y bytes maxL ret hh ws rm mc ms n := by
  have ok : ∀ w ∈ va_wsS own index y ws, w.before args s = true := fun w h => ht w (hT w h).1
  have hG : GoodIn Ts ws := fun w h => hT w (by unfold va_wsS; exact List.mem_append_right _ h)
  have hc : Cond.codeWith y bytes maxL ret hh ∈ ws := by rw [hw]; exact List.mem_cons_self
  refine ⟨⟨hrc, hrs, hR.1, hR.2, pay_in ht hG, hc⟩, ht _ (hG _ hc).1, ok _ (by simp [va_wsS]), ⟨hd.1, hd.2.1⟩, fun sig h => ?_, ok _ (by simp [va_wsS]), ok _ (by simp [va_wsS])⟩
  have h2 := hd.2.2
  rw [h] at h2
  exact (Option.some.inj h2).symm
theorem vx_callSW (X : Stand p l e R s m args below meth c T locs cells slots) (hexec : p.tables.exec = Jvm.exec) {own : String} {index : Nat} {y : MethodName} {bytes : ByteArray} {maxL : Nat} {ret : Option FieldType} {hh : List (Nat × Nat × Nat × Nat)}
    (hown : s.vm.findClass own = some m.cls) (hlink : (Cond.methodLink own index y).before args s = true) (hstat : (Cond.static y).before args s = true) (hinit : (Cond.initialized y.cls).before args s = true)
    (hcode : (Cond.codeWith y bytes maxL ret hh).before args s = true) (hy : y.cls ≠ "java/lang/invoke/MethodHandle" ∧ y.cls ≠ "java/lang/invoke/VarHandle")
    {W9 : Nat} {Pre : Pt → Array Value → Prop} {Post : Pt → Array Value → Option Value → Pt → Prop} (hK : Back l R p e below s args y 3 W9 Pre Post)
    {g : JFrame} (hg : g.method = m) (hsize : g.locals.size = c.maxLocals) {argsL rest : List Value} (hlen : ∀ sig, parseMethodDescriptor y.desc = some sig → argsL.length = sig.parameters.length)
    (hstack : g.stack = argsL.reverse ++ rest) (hW : 2 * g.monitorRoom + (rest.map fun v => v.category).sum ≤ W9) (hdg : decode c.code g.pc = .ok (.invokestatic index, 3))
    (hpre : ∀ vm₁, s.WarmedH vm₁ → Pre ⟨T.setVm vm₁, locs, cells, slots⟩ argsL.toArray) :
    ∃ (v : Option Value) (vm₁ : Vm) (B : Pt), s.WarmedH vm₁ ∧ Stand p l e R s m args below meth c B.U B.locs B.cells B.slots ∧ Post ⟨T.setVm vm₁, locs, cells, slots⟩ argsL.toArray v B ∧
      ∀ target, Steps p.tables e below (B.U.setTop { g with pc := g.pc + 3, stack := v.toList ++ rest }) target → Steps p.tables e below (T.setTop g) target := by
  obtain ⟨mk, methM, cM, hnamed, hmethM, -, -, -, -, -, -, hsigM⟩ := Cond.codeWith_spec hcode
  have hstatic : methM.isStatic = true := Cond.static_spec hnamed hmethM hstat
  obtain ⟨kP, hkP, -⟩ := className_of_methodNamed hnamed
  have hinitP : kP.init = .initialized := Cond.initialized_spec (findClass_of_methodNamed hnamed) hkP hinit
  obtain ⟨vm₁, X₁, hstep₁⟩ := X.invokestatic hexec hown hlink hnamed hmethM hstatic hkP hinitP hy (g := g) hg (argsL := argsL) (rest := rest) (hlen _ hsigM) hstack hdg
  obtain ⟨v, B, X', hpost, hsteps⟩ := hK m meth c ⟨T.setVm vm₁, locs, cells, slots⟩ { g with stack := rest } (.invokestatic index) mk argsL.toArray X₁ hg hsize hdg hW (X₁.named hnamed) (hpre vm₁ X₁.warmed)
  exact ⟨v, vm₁, B, X₁.warmed, X', hpost, fun target h => hstep₁ _ fun acts => by rw [doInvoke_state]; exact hsteps.trans h⟩
theorem vx_runSW {y : MethodName} {bytes cc : ByteArray} {maxL nL mc ms n index : Nat} {ret : Option FieldType} {hh : List (Nat × Nat × Nat × Nat)} {ws : List Cond} {rm : Room} {Pc : Array Value → State → Prop} {Qc : Array Value → State → Outcome → State → Prop} {free : Addr → Prop} {Ts : List Cond} {own : String} {As rest : List Value} {g : JFrame}
    (S : CallFix p m c cc nL s args Ts own) (hM : Met l y ws rm Pc Qc mc ms free) (cw : vx_CSW R s args own index y bytes maxL ret hh ws rm mc ms n) (hp : PreS s H Pc As)
    (hg : g.method = m) (hn : As.length = n) (hsize : g.locals.size = nL) (hstack : g.stack = As.reverse ++ rest) (hW : 2 * g.monitorRoom + (rest.map fun v => v.category).sum ≤ 8) (hdg : decode cc g.pc = .ok (.invokestatic index, 3)) (hf : cells + mc ≤ R.cells ∧ slots + ms ≤ R.slots) :
    va_Run p l e R s m args below meth c H locs cells slots mc ms g rest (Qc As.toArray) (free) := by
  obtain ⟨⟨hrc, hrs, hfr, hlo, hws, hcw⟩, hcode, hini, hy, hlen, hl, hstt⟩ := cw
  have hK : Back l R p e below s args y 3 8 (PreOf R mc ms Pc) (PostOf Qc mc ms free) := va_backW (hh := hh) (bytes := bytes) (maxL := maxL) (ret := ret) hM hp.1 hrc hrs hfr hlo hws hcw (fun a' U hW => word_at hW (Or.inl (by first | rfl | simp [Cond.onTables, Cond.keeps, Cond.steady])) hini)
  obtain ⟨hx, hb, hml, ho, -⟩ := S
  intro T hT X
  obtain ⟨v, vm₁, ⟨U', l2, c2, s2⟩, hW₁, X', ⟨g', mk, t, L, e1, e2, hq, h1, hL, h2, h3⟩, st⟩ := vx_callSW X hx (hh := hh) (bytes := bytes) (maxL := maxL) (ret := ret) ho hl hstt hini hcode hy hK hg (hsize.trans hml.symm) (argsL := As) (rest := rest) (fun sig h => hn.trans (hlen sig h)) hstack hW (by rw [hb]; exact hdg)
    (fun vm₁ hW₁ => ⟨hf.1, hf.2, hp.2 (T.setVm vm₁) hT hW₁⟩)
  dsimp only [Pt.U, Pt.locs, Pt.cells, Pt.slots] at X' e1 e2 h1 h2 h3 st
  subst h1; subst h2; subst h3
  exact ⟨v, (T.setVm vm₁).calling g' mk As.toArray, t, U', L, hT, X', hL, e1, e2, hq, st⟩
/-- not caught here, past rows that name other classes: it goes on to the caller -/
theorem vx_outP {p : Program} {l : Launch} {e : Env} {R : Room} {s : State} {m : MethodId} {args : Array Value} {below : List Frame} {meth : Method} {c : Code} {H : Heap} {locs : List Loc} {cells slots : Nat} {free : Addr → Prop} {ls : Array Slot} {rest : List Value} {Qc : Array Value → State → Outcome → State → Prop} {XC : String → State → State → Prop}
    {pc : Nat} {own E : String} {ce : Cell} {q : Addr} {mc ms : Nat} (hown : s.vm.findClass own = some m.cls) (hlocks : meth.locks = false)
    (hpass : ∀ z ∈ c.exceptionTable.toList, covers z pc = false ∨ (z.catchType ≠ 0 ∧ ∃ nm : String, (Cond.classLink own z.catchType nm).before args s = true ∧ va_Nc E nm s)) (hcell : H[q]? = some ce) (hv : ce.vm = .none) (hcl : s.vm.findClass E = some ce.cls)
    (hx : ∀ t : State, t.heap = H → s.vm.Alike t.vm → XC E s t) (hf : ∀ z ∈ locs, free z.base) (hc : cells ≤ mc) (hs : slots ≤ ms) :
    vx_W p l e R s m args below meth c H locs cells slots (vx_MQ below Qc XC args s mc ms free) (F0 m pc ls rest) q := by
  intro T hT X
  have hpl : e.platform.magicAccessors = ({} : Platform).magicAccessors := by rw [X.admits.platform]
  obtain ⟨vm', hW', X', st⟩ := X.outThrough hlocks q (g := F0 m pc ls rest) rfl rfl rfl (cell := ce) (by rw [hT]; exact hcell) (by rw [hv]; rfl)
    (by obtain ⟨k9, h9, -⟩ := Vm.findClass_spec hcl; exact ⟨k9, h9⟩) (fun z hz => by
      rcases hpass z hz with h | ⟨hz0, nm, hl1, hn1⟩
      · exact Or.inl h
      · obtain ⟨c6, hc6, hcl6⟩ := Cond.classLink_spec hown hl1 e.platform hpl
        obtain ⟨a8, b8, h1, h2, h3⟩ := hn1
        cases Option.some.inj (h1.symm.trans hcl)
        cases Option.some.inj (h2.symm.trans hc6)
        exact Or.inr ⟨hz0, _, hcl6, h3⟩)
  obtain ⟨g₀, hfr⟩ := X'.frames_eq
  have hcell9 : ((T.setVm vm').setFrames (.throwing q :: below)).heap[q]? = some ce := by
    show T.heap[q]? = some ce
    rw [hT]; exact hcell
  have hend : Ended ((T.setVm vm').setFrames (.throwing q :: below)) below (.threw q) := State.frames_setFrames _ (State.cur_lt_of_frames hfr)
  refine ⟨(T.setVm vm').setFrames (.throwing q :: below), ?_, .threw q, X'.here.running, hend, Or.inr ⟨q, rfl, E, ce, locs, hx _ hT (X'.ends _).1.alike, hcell9, hv, hcl, (X'.ends _).1, (X'.ends _).2.mono hc hs, hf⟩⟩
  rw [X.pushThrowing_eq]
  exact st
/-- a thing of a world lies in the heap -/
theorem vx_lt {D : va_G} {cl : List vw_C} {ws : va_W} {H1 : Heap} (h : va_P D cl ws H1) {k : Nat} {q : Nat × va_E} (hk : ws[k]? = some q) : q.1 < H1.size := (h k q hk).lt
end VXS
/-! ===== END ===== -/
/-! ===== BEGIN methods with a table of their own: called by a name, returning or throwing ===== -/
section VXH
/-! vx_backW, vx_callVX, vx_callSX, vx_callVW, vx_runVW, vx_runVX, vx_runSX, vx_ofWH follow the same proofs as their sisters above (Free/Laws.lean, Shelf42/LK1.lean); vx_outP calls Shelf42/NT130.lean (outThrough). -/
section
variable {l : Launch} {R : Room} {p : Program} {e : Env} {below : List Frame} {s : State} {sargs : Array Value} {y : MethodName} {len W9 : Nat}
theorem vx_backW {ws : List Cond} {rm : Room} {Pc : Array Value → State → Prop} {Qc : Array Value → State → Outcome → State → Prop} {XC : String → State → State → Prop} {mc ms : Nat} {free : Addr → Prop} {bytes : ByteArray} {maxL : Nat} {ret : Option FieldType} {hh : List (Nat × Nat × Nat × Nat)}
    (hM : vx_Met l y ws rm Pc Qc XC mc ms free) (hblind : FrameBlind Pc) (hrc : rm.cells = mc) (hrs : rm.slots = ms)
    (hframes : rm.frames + 1 ≤ R.frames) (hlocals : W9 + (maxL + 11) + rm.locals ≤ R.locals)
    (hws : ∀ w ∈ ws, ∀ a' U, s.WarmedH U.vm → w.before a' U = true) (hcode : Cond.codeWith y bytes maxL ret hh ∈ ws) (hinit : ∀ a' U, s.WarmedH U.vm → (Cond.initialized y.cls).before a' U = true) :
    vx_Back l R p e below s sargs y len W9 (PreOf R mc ms Pc) (PostOf Qc mc ms free) (vx_Post XC mc ms free) := by
  intro m meth c A g ig mk a X hg hsize hdg hW hn hp
  have h1 : (headSpec ws rm).pre.before a A.U = true := atoms_intro fun w hw => hws w hw _ _ X.warmed
  have h2 : (Cond.codeWith y bytes maxL ret hh).before a A.U = true := hws _ hcode _ _ X.warmed
  have h3 : (Cond.initialized y.cls).before a A.U = true := hinit _ _ X.warmed
  have h4 : A.cells + (headSpec ws rm).room.cells ≤ R.cells := by rw [show (headSpec ws rm).room.cells = mc from hrc]; exact hp.1
  have h5 : A.slots + (headSpec ws rm).room.slots ≤ R.slots := by rw [show (headSpec ws rm).room.slots = ms from hrs]; exact hp.2.1
  have hPc : Pc a (A.U.calling g mk a) := hblind _ _ _ _ hp.2.2
  obtain ⟨U, Ls, c0, s0⟩ := A
  dsimp only [Pt.U, Pt.locs, Pt.cells, Pt.slots] at h1 h2 h3 h4 h5 X hn hPc ⊢
  obtain ⟨m9, methY, cY, hn9, hmY, hcY, -, hlY, -⟩ := Cond.codeWith_spec h2
  cases Option.some.inj (hn9.symm.trans hn)
  obtain ⟨kY, hkY, -⟩ := className_of_methodNamed hn
  have hinitY : kY.init = .initialized := Cond.initialized_spec (findClass_of_methodNamed hn) hkY h3
  have h : At U g.method c below := by rw [hg]; exact X.here
  have hlocals9 : W9 + (maxL + 11) + (headSpec ws rm).room.locals ≤ R.locals := hlocals
  have happ : (headSpec ws rm).appliesLoose y e.platform (U.calling g mk a) = true :=
    Spec.appliesLoose_calling (g := g) h hdg hn hkY hinitY
      (X.room_calling (g := g) (R' := (headSpec ws rm).room) hsize hmY hcY hframes (by rw [hlY]; omega) h4 h5) h1
  obtain ⟨mid, hmid⟩ := h.above
  have hfr : (U.setTop g).frames = (.java g :: mid) ++ below := by rw [State.frames_setTop' g h.top, hmid]; rfl
  obtain ⟨o, s₂, hsteps, -, hend, hq⟩ := Steps.callFree hM p X.admits X.cas X.clock (acts := []) hfr happ hPc trivial
  have hq' : vx_Q Qc XC mc ms free a (U.calling g mk a) o s₂ := hq
  rw [State.frames_setTop' g h.top] at hend
  obtain ⟨g₀, hg0⟩ := Option.isSome_iff_exists.mp h.top
  obtain ⟨r, hr⟩ := State.topJava?_eq_some.mp hg0
  have hr' : (({ U with heap := s₂.heap, slotsUsed := s₂.slotsUsed } : State).setVm s₂.vm).frames = .java g₀ :: r := hr
  rcases hq' with ⟨hqc, L, hfe, hL⟩ | ⟨q, rfl, E, ce, L, hx, hce, hcv, hcl, hW₂, hsm, hL⟩
  · obtain ⟨⟨v, rfl⟩, hW₂, e2, q2, q3, q4, q5, q6⟩ := id hfe
    have e3 : s₂ = ({ (U.calling g mk a).setFrames s₂.frames with heap := s₂.heap, slotsUsed := s₂.slotsUsed } : State).setVm s₂.vm := by
      have : s₂ = ({ s₂ with vm := (U.calling g mk a).vm } : State).setVm s₂.vm := rfl
      rw [e2] at this
      exact this
    obtain ⟨c₂, i₂, len₂, hc₂, hd₂, hf₂⟩ := hend
    have hW' : U.WarmedH s₂.vm := hW₂
    have hcc : c₂ = c := by
      have h1 : s₂.code? g.method = U.code? g.method := by
        rw [State.code?_eq, State.code?_eq, hW'.alike.method?]
      exact Option.some.inj (hc₂.symm.trans (h1.trans h.code))
    subst hcc
    have hlen : len₂ = len := by rw [hdg] at hd₂; cases hd₂; rfl
    subst hlen
    have hs₂ : s₂ = (({ U with heap := s₂.heap, slotsUsed := s₂.slotsUsed } : State).setVm s₂.vm).setTop { g with pc := g.pc + len₂, stack := v.toList ++ g.stack } := by
      refine e3.trans ?_
      rw [hf₂, State.calling_eq h.top, State.setFrames_setFrames, State.setTop_of_frames _ hr', hr]
      rfl
    have hsame : U.sameButNew ({ U with heap := s₂.heap, slotsUsed := s₂.slotsUsed } : State) L mc ms := by
      refine ⟨?_, q2, q3, q4, q5, q6⟩
      obtain ⟨t, ht, -⟩ := State.frames_cons hr
      show ({ U with heap := s₂.heap, slotsUsed := s₂.slotsUsed } : State) = { U.setFrames U.frames with heap := s₂.heap, slotsUsed := s₂.slotsUsed }
      rw [State.setFrames_self ht]
    subst hg
    refine Or.inl ⟨v, ⟨(({ U with heap := s₂.heap, slotsUsed := s₂.slotsUsed } : State).setVm s₂.vm), Ls ++ L, c0 + mc, s0 + ms⟩,
      ⟨X.admits, X.cas, X.clock, X.frames, X.room, X.hears, X.method, X.code, (X.here.setHeapUsed s₂.heap s₂.slotsUsed).setVm hW'.alike, X.tail, State.WarmedH.trans X.warmed hW', X.limits, X.bytes, X.same.trans (hsame.setVm s.vm)⟩,
      ⟨g, mk, s₂, L, rfl, rfl, hqc, rfl, hL, rfl, rfl⟩, ?_⟩
    show Steps p.tables e below _ ((({ U with heap := s₂.heap, slotsUsed := s₂.slotsUsed } : State).setVm s₂.vm).setTop { g with pc := g.pc + len₂, stack := v.toList ++ g.stack })
    rw [← hs₂]
    exact hsteps
  · obtain ⟨e2, q2, q3, q4, q5, q6⟩ := id hsm
    have e3 : s₂ = ({ (U.calling g mk a).setFrames s₂.frames with heap := s₂.heap, slotsUsed := s₂.slotsUsed } : State).setVm s₂.vm := by
      have : s₂ = ({ s₂ with vm := (U.calling g mk a).vm } : State).setVm s₂.vm := rfl
      rw [e2] at this
      exact this
    have hf₂ : s₂.frames = .throwing q :: .java g :: U.frames.tail := hend
    have hW' : U.WarmedH s₂.vm := hW₂
    have hs₂ : s₂ = ((({ U with heap := s₂.heap, slotsUsed := s₂.slotsUsed } : State).setVm s₂.vm).setTop g).pushFrame (.throwing q) := by
      refine e3.trans ?_
      rw [hf₂, State.calling_eq h.top, State.setFrames_setFrames, State.pushFrame, State.frames_setTop _ hr', State.setTop_of_frames _ hr', State.setFrames_setFrames, hr]
      rfl
    have hsame : U.sameButNew ({ U with heap := s₂.heap, slotsUsed := s₂.slotsUsed } : State) L mc ms := by
      refine ⟨?_, q2, q3, q4, q5, q6⟩
      obtain ⟨t, ht, -⟩ := State.frames_cons hr
      show ({ U with heap := s₂.heap, slotsUsed := s₂.slotsUsed } : State) = { U.setFrames U.frames with heap := s₂.heap, slotsUsed := s₂.slotsUsed }
      rw [State.setFrames_self ht]
    subst hg
    refine Or.inr ⟨q, ⟨(({ U with heap := s₂.heap, slotsUsed := s₂.slotsUsed } : State).setVm s₂.vm), Ls ++ L, c0 + mc, s0 + ms⟩,
      ⟨X.admits, X.cas, X.clock, X.frames, X.room, X.hears, X.method, X.code, (X.here.setHeapUsed s₂.heap s₂.slotsUsed).setVm hW'.alike, X.tail, State.WarmedH.trans X.warmed hW', X.limits, X.bytes, X.same.trans (hsame.setVm s.vm)⟩,
      ⟨g, mk, s₂, L, E, ce, rfl, rfl, hx, hce, hcv, hcl, rfl, hL, rfl, rfl⟩, ?_⟩
    show Steps p.tables e below _ (((({ U with heap := s₂.heap, slotsUsed := s₂.slotsUsed } : State).setVm s₂.vm).setTop g).pushFrame (.throwing q))
    rw [← hs₂]
    exact hsteps
end
variable {p : Program} {l : Launch} {e : Env} {R : Room} {s : State} {m : MethodId} {args : Array Value} {below : List Frame} {meth : Method} {c : Code} {T : State} {H : Heap} {locs : List Loc} {cells slots : Nat}
theorem vx_callVX (X : Stand p l e R s m args below meth c T locs cells slots) (hexec : p.tables.exec = Jvm.exec) {own C : String} {index : Nat} {y : MethodName} {bytes : ByteArray} {maxL : Nat} {ret : Option FieldType} {hh : List (Nat × Nat × Nat × Nat)}
    (hown : s.vm.findClass own = some m.cls) (hlink : (Cond.methodLink own index y).before args s = true) (hinst : (Cond.instanceMethod y).before args s = true) (hsel : (Cond.selects C y y).before args s = true)
    (hcode : (Cond.codeWith y bytes maxL ret hh).before args s = true) (hy : y.cls ≠ "java/lang/invoke/MethodHandle" ∧ y.cls ≠ "java/lang/invoke/VarHandle")
    {W9 : Nat} {Pre : Pt → Array Value → Prop} {Post : Pt → Array Value → Option Value → Pt → Prop} {PostX : Pt → Array Value → Addr → Pt → Prop} (hK : vx_Back l R p e below s args y 3 W9 Pre Post PostX)
    {b : Addr} {cellB : Cell} (hcell : T.heap[b]? = some cellB) (hobj : cellB.vm.isStatics = false) (hcls : s.vm.findClass C = some cellB.cls)
    {g : JFrame} (hg : g.method = m) (hsize : g.locals.size = c.maxLocals) {argsL rest : List Value} (hlen : ∀ sig, parseMethodDescriptor y.desc = some sig → argsL.length = sig.parameters.length)
    (hstack : g.stack = argsL.reverse ++ .ref b :: rest) (hW : 2 * g.monitorRoom + (rest.map fun v => v.category).sum ≤ W9) (hdg : decode c.code g.pc = .ok (.invokevirtual index, 3))
    (hpre : ∀ vm₁, s.WarmedH vm₁ → Pre ⟨T.setVm vm₁, locs, cells, slots⟩ (Value.ref b :: argsL).toArray) :
    (∃ (v : Option Value) (vm₁ : Vm) (B : Pt), s.WarmedH vm₁ ∧ Stand p l e R s m args below meth c B.U B.locs B.cells B.slots ∧ Post ⟨T.setVm vm₁, locs, cells, slots⟩ (Value.ref b :: argsL).toArray v B ∧
      ∀ target, Steps p.tables e below (B.U.setTop { g with pc := g.pc + 3, stack := v.toList ++ rest }) target → Steps p.tables e below (T.setTop g) target) ∨
    (∃ (q : Addr) (vm₁ : Vm) (B : Pt), s.WarmedH vm₁ ∧ Stand p l e R s m args below meth c B.U B.locs B.cells B.slots ∧ PostX ⟨T.setVm vm₁, locs, cells, slots⟩ (Value.ref b :: argsL).toArray q B ∧
      Steps p.tables e below (T.setTop g) ((B.U.setTop { g with stack := rest }).pushFrame (.throwing q))) := by
  obtain ⟨mk, methM, hnamed, hmethM, hstM, habM⟩ := Cond.instanceMethod_spec hinst
  obtain ⟨m8, methM', cM, hn8, hmethM', -, -, -, -, -, -, hsigM⟩ := Cond.codeWith_spec hcode
  cases Option.some.inj (hn8.symm.trans hnamed)
  cases hmethM.symm.trans hmethM'
  obtain ⟨c2, r2, m2, q1, q2, q3, q4, kP, hkP, hkPi⟩ := Cond.selects_spec hsel
  cases hcls.symm.trans q1
  cases (State.methodFound?_of_named hnamed hy).symm.trans q2
  cases hnamed.symm.trans q3
  have hselP : selectMethod e.platform s.vm cellB.cls mk = .method mk := by rw [Launch.admits_selectMethod X.admits]; exact q4
  obtain ⟨vm₁, X₁, hstep₁⟩ := X.invokevirtual hexec hown hlink hnamed hmethM hstM hkP hkPi hy (a := b) (cell := cellB) hcell
    (fun z h => by rw [h] at hobj; cases hobj) hselP hmethM habM hkP hkPi (g := g) hg (argsL := argsL) (rest := rest) (hlen _ hsigM) hstack hdg
  rcases hK m meth c ⟨T.setVm vm₁, locs, cells, slots⟩ { g with stack := rest } (.invokevirtual index) mk (Value.ref b :: argsL).toArray X₁ hg hsize hdg hW (X₁.named hnamed) (hpre vm₁ X₁.warmed) with ⟨v, B, X', hpost, hsteps⟩ | ⟨q, B, X', hpost, hsteps⟩
  · exact Or.inl ⟨v, vm₁, B, X₁.warmed, X', hpost, fun target h => hstep₁ _ fun acts => by rw [doInvoke_state]; exact hsteps.trans h⟩
  · exact Or.inr ⟨q, vm₁, B, X₁.warmed, X', hpost, hstep₁ _ fun acts => by rw [doInvoke_state]; exact hsteps⟩
theorem vx_callSX (X : Stand p l e R s m args below meth c T locs cells slots) (hexec : p.tables.exec = Jvm.exec) {own : String} {index : Nat} {y : MethodName} {bytes : ByteArray} {maxL : Nat} {ret : Option FieldType} {hh : List (Nat × Nat × Nat × Nat)}
    (hown : s.vm.findClass own = some m.cls) (hlink : (Cond.methodLink own index y).before args s = true) (hstat : (Cond.static y).before args s = true) (hinit : (Cond.initialized y.cls).before args s = true)
    (hcode : (Cond.codeWith y bytes maxL ret hh).before args s = true) (hy : y.cls ≠ "java/lang/invoke/MethodHandle" ∧ y.cls ≠ "java/lang/invoke/VarHandle")
    {W9 : Nat} {Pre : Pt → Array Value → Prop} {Post : Pt → Array Value → Option Value → Pt → Prop} {PostX : Pt → Array Value → Addr → Pt → Prop} (hK : vx_Back l R p e below s args y 3 W9 Pre Post PostX)
    {g : JFrame} (hg : g.method = m) (hsize : g.locals.size = c.maxLocals) {argsL rest : List Value} (hlen : ∀ sig, parseMethodDescriptor y.desc = some sig → argsL.length = sig.parameters.length)
    (hstack : g.stack = argsL.reverse ++ rest) (hW : 2 * g.monitorRoom + (rest.map fun v => v.category).sum ≤ W9) (hdg : decode c.code g.pc = .ok (.invokestatic index, 3))
    (hpre : ∀ vm₁, s.WarmedH vm₁ → Pre ⟨T.setVm vm₁, locs, cells, slots⟩ argsL.toArray) :
    (∃ (v : Option Value) (vm₁ : Vm) (B : Pt), s.WarmedH vm₁ ∧ Stand p l e R s m args below meth c B.U B.locs B.cells B.slots ∧ Post ⟨T.setVm vm₁, locs, cells, slots⟩ argsL.toArray v B ∧
      ∀ target, Steps p.tables e below (B.U.setTop { g with pc := g.pc + 3, stack := v.toList ++ rest }) target → Steps p.tables e below (T.setTop g) target) ∨
    (∃ (q : Addr) (vm₁ : Vm) (B : Pt), s.WarmedH vm₁ ∧ Stand p l e R s m args below meth c B.U B.locs B.cells B.slots ∧ PostX ⟨T.setVm vm₁, locs, cells, slots⟩ argsL.toArray q B ∧
      Steps p.tables e below (T.setTop g) ((B.U.setTop { g with stack := rest }).pushFrame (.throwing q))) := by
  obtain ⟨mk, methM, cM, hnamed, hmethM, -, -, -, -, -, -, hsigM⟩ := Cond.codeWith_spec hcode
  have hstatic : methM.isStatic = true := Cond.static_spec hnamed hmethM hstat
  obtain ⟨kP, hkP, -⟩ := className_of_methodNamed hnamed
  have hinitP : kP.init = .initialized := Cond.initialized_spec (findClass_of_methodNamed hnamed) hkP hinit
  obtain ⟨vm₁, X₁, hstep₁⟩ := X.invokestatic hexec hown hlink hnamed hmethM hstatic hkP hinitP hy (g := g) hg (argsL := argsL) (rest := rest) (hlen _ hsigM) hstack hdg
  rcases hK m meth c ⟨T.setVm vm₁, locs, cells, slots⟩ { g with stack := rest } (.invokestatic index) mk argsL.toArray X₁ hg hsize hdg hW (X₁.named hnamed) (hpre vm₁ X₁.warmed) with ⟨v, B, X', hpost, hsteps⟩ | ⟨q, B, X', hpost, hsteps⟩
  · exact Or.inl ⟨v, vm₁, B, X₁.warmed, X', hpost, fun target h => hstep₁ _ fun acts => by rw [doInvoke_state]; exact hsteps.trans h⟩
  · exact Or.inr ⟨q, vm₁, B, X₁.warmed, X', hpost, hstep₁ _ fun acts => by rw [doInvoke_state]; exact hsteps⟩
theorem vx_callVW (X : Stand p l e R s m args below meth c T locs cells slots) (hexec : p.tables.exec = Jvm.exec) {own C : String} {index : Nat} {y : MethodName} {bytes : ByteArray} {maxL : Nat} {ret : Option FieldType} {hh : List (Nat × Nat × Nat × Nat)}
    (hown : s.vm.findClass own = some m.cls) (hlink : (Cond.methodLink own index y).before args s = true) (hinst : (Cond.instanceMethod y).before args s = true) (hsel : (Cond.selects C y y).before args s = true)
    (hcode : (Cond.codeWith y bytes maxL ret hh).before args s = true) (hy : y.cls ≠ "java/lang/invoke/MethodHandle" ∧ y.cls ≠ "java/lang/invoke/VarHandle")
    {W9 : Nat} {Pre : Pt → Array Value → Prop} {Post : Pt → Array Value → Option Value → Pt → Prop} (hK : Back l R p e below s args y 3 W9 Pre Post)
    {b : Addr} {cellB : Cell} (hcell : T.heap[b]? = some cellB) (hobj : cellB.vm.isStatics = false) (hcls : s.vm.findClass C = some cellB.cls)
    {g : JFrame} (hg : g.method = m) (hsize : g.locals.size = c.maxLocals) {argsL rest : List Value} (hlen : ∀ sig, parseMethodDescriptor y.desc = some sig → argsL.length = sig.parameters.length)
    (hstack : g.stack = argsL.reverse ++ .ref b :: rest) (hW : 2 * g.monitorRoom + (rest.map fun v => v.category).sum ≤ W9) (hdg : decode c.code g.pc = .ok (.invokevirtual index, 3))
    (hpre : ∀ vm₁, s.WarmedH vm₁ → Pre ⟨T.setVm vm₁, locs, cells, slots⟩ (Value.ref b :: argsL).toArray) :
    ∃ (v : Option Value) (vm₁ : Vm) (B : Pt), s.WarmedH vm₁ ∧ Stand p l e R s m args below meth c B.U B.locs B.cells B.slots ∧ Post ⟨T.setVm vm₁, locs, cells, slots⟩ (Value.ref b :: argsL).toArray v B ∧
      ∀ target, Steps p.tables e below (B.U.setTop { g with pc := g.pc + 3, stack := v.toList ++ rest }) target → Steps p.tables e below (T.setTop g) target := by
  obtain ⟨mk, methM, hnamed, hmethM, hstM, habM⟩ := Cond.instanceMethod_spec hinst
  obtain ⟨m8, methM', cM, hn8, hmethM', -, -, -, -, -, -, hsigM⟩ := Cond.codeWith_spec hcode
  cases Option.some.inj (hn8.symm.trans hnamed)
  cases hmethM.symm.trans hmethM'
  obtain ⟨c2, r2, m2, q1, q2, q3, q4, kP, hkP, hkPi⟩ := Cond.selects_spec hsel
  cases hcls.symm.trans q1
  cases (State.methodFound?_of_named hnamed hy).symm.trans q2
  cases hnamed.symm.trans q3
  have hselP : selectMethod e.platform s.vm cellB.cls mk = .method mk := by rw [Launch.admits_selectMethod X.admits]; exact q4
  obtain ⟨vm₁, X₁, hstep₁⟩ := X.invokevirtual hexec hown hlink hnamed hmethM hstM hkP hkPi hy (a := b) (cell := cellB) hcell
    (fun z h => by rw [h] at hobj; cases hobj) hselP hmethM habM hkP hkPi (g := g) hg (argsL := argsL) (rest := rest) (hlen _ hsigM) hstack hdg
  obtain ⟨v, B, X', hpost, hsteps⟩ := hK m meth c ⟨T.setVm vm₁, locs, cells, slots⟩ { g with stack := rest } (.invokevirtual index) mk (Value.ref b :: argsL).toArray X₁ hg hsize hdg hW (X₁.named hnamed) (hpre vm₁ X₁.warmed)
  exact ⟨v, vm₁, B, X₁.warmed, X', hpost, fun target h => hstep₁ _ fun acts => by rw [doInvoke_state]; exact hsteps.trans h⟩
abbrev vx_CVW (R : Room) (s : State) (args : Array Value) (own C : String) (index : Nat) (y : MethodName) (bytes : ByteArray) (maxL : Nat) (ret : Option FieldType) (hh : List (Nat × Nat × Nat × Nat)) (ws : List Cond) (rm : Room) (mc ms n : Nat) : Prop :=
  (rm.cells = mc ∧ rm.slots = ms ∧ rm.frames + 1 ≤ R.frames ∧ 8 + (maxL + 11) + rm.locals ≤ R.locals ∧ (∀ w ∈ ws, ∀ (a' : Array Value) (U : State), s.WarmedH U.vm → w.before a' U = true) ∧ Cond.codeWith y bytes maxL ret hh ∈ ws) ∧
  (Cond.codeWith y bytes maxL ret hh).before args s = true ∧ (Cond.initialized y.cls).before args s = true ∧ (y.cls ≠ "java/lang/invoke/MethodHandle" ∧ y.cls ≠ "java/lang/invoke/VarHandle") ∧
  (∀ sig, parseMethodDescriptor y.desc = some sig → n = sig.parameters.length) ∧ (Cond.methodLink own index y).before args s = true ∧ (Cond.instanceMethod y).before args s = true ∧ (Cond.selects C y y).before args s = true
theorem vx_cwVW {own C : String} {index maxL mc ms : Nat} {y : MethodName} {bytes : ByteArray} {ret : Option FieldType} {hh : List (Nat × Nat × Nat × Nat)} {Ts ws ws' : List Cond} {rm : Room} (n : Nat) (ht : ∀ w ∈ Ts, w.before args s = true) (hT : GoodIn Ts (wsV own index C y ws)) (hw : ws = Cond.codeWith y bytes maxL ret hh :: ws') (hrc : rm.cells = mc) (hrs : rm.slots = ms)
    (hd : y.cls = C ∧ y.cls ≠ "java/lang/invoke/MethodHandle" ∧ y.cls ≠ "java/lang/invoke/VarHandle" ∧ (parseMethodDescriptor y.desc).map (fun d => d.parameters.length) = some n) (hR : rm.frames + 1 ≤ R.frames ∧ 8 + (maxL + 11) + rm.locals ≤ R.locals) :
    vx_CVW R s args own C index y bytes maxL ret hh ws rm mc ms n := by
  obtain ⟨hC, hd⟩ := hd
  subst hC
  have ok : ∀ w ∈ wsV own index y.cls y ws, w.before args s = true := fun w h => ht w (hT w h).1
  have hG : GoodIn Ts ws := fun w h => hT w (by unfold wsV; exact List.mem_append_right _ h)
  have hc : Cond.codeWith y bytes maxL ret hh ∈ ws := by rw [hw]; exact List.mem_cons_self
  refine ⟨⟨hrc, hrs, hR.1, hR.2, pay_in ht hG, hc⟩, ht _ (hG _ hc).1, ok _ (by simp [wsV]), ⟨hd.1, hd.2.1⟩, fun sig h => ?_, ok _ (by simp [wsV]), ok _ (by simp [wsV]), ok _ (by simp [wsV])⟩
  have h2 := hd.2.2
  rw [h] at h2
  exact (Option.some.inj h2).symm
theorem vx_runVW {y : MethodName} {bytes cc : ByteArray} {maxL nL mc ms n index : Nat} {ret : Option FieldType} {hh : List (Nat × Nat × Nat × Nat)} {ws : List Cond} {rm : Room} {Pc : Array Value → State → Prop} {Qc : Array Value → State → Outcome → State → Prop} {free : Addr → Prop} {Ts : List Cond} {own C : String} {b : Addr} {As rest : List Value} {g : JFrame}
    (S : CallFix p m c cc nL s args Ts own) (hM : Met l y ws rm Pc Qc mc ms free) (cw : vx_CVW R s args own C index y bytes maxL ret hh ws rm mc ms n) (hp : PreV s H C b Pc As)
    (hg : g.method = m) (hn : As.length = n) (hsize : g.locals.size = nL) (hstack : g.stack = As.reverse ++ .ref b :: rest) (hW : 2 * g.monitorRoom + (rest.map fun v => v.category).sum ≤ 8) (hdg : decode cc g.pc = .ok (.invokevirtual index, 3)) (hf : cells + mc ≤ R.cells ∧ slots + ms ≤ R.slots) :
    va_Run p l e R s m args below meth c H locs cells slots mc ms g rest (Qc (Value.ref b :: As).toArray) free := by
  obtain ⟨⟨hrc, hrs, hfr, hlo, hws, hcw⟩, hcode, hini, hy, hlen, hl, hin, hse⟩ := cw
  have hK : Back l R p e below s args y 3 8 (PreOf R mc ms Pc) (PostOf Qc mc ms free) := va_backW (hh := hh) (bytes := bytes) (maxL := maxL) (ret := ret) hM hp.1 hrc hrs hfr hlo hws hcw (fun a' U hW => word_at hW (Or.inl (by first | rfl | simp [Cond.onTables, Cond.keeps, Cond.steady])) hini)
  obtain ⟨hx, hb, hml, ho, -⟩ := S
  obtain ⟨-, ⟨cellB, hcB, hoB, hclB⟩, hPc⟩ := hp
  intro T hT X
  obtain ⟨v, vm₁, ⟨U', l2, c2, s2⟩, hW₁, X', ⟨g', mk, t, L, e1, e2, hq, h1, hL, h2, h3⟩, st⟩ := vx_callVW X hx (C := C) (hh := hh) (bytes := bytes) (maxL := maxL) (ret := ret) ho hl hin hse hcode hy hK (by rw [hT]; exact hcB) hoB hclB hg (hsize.trans hml.symm) (argsL := As) (rest := rest) (fun sig h => hn.trans (hlen sig h)) hstack hW (by rw [hb]; exact hdg)
    (fun vm₁ hW₁ => ⟨hf.1, hf.2, hPc (T.setVm vm₁) hT hW₁⟩)
  dsimp only [Pt.U, Pt.locs, Pt.cells, Pt.slots] at X' e1 e2 h1 h2 h3 st
  subst h1; subst h2; subst h3
  exact ⟨v, (T.setVm vm₁).calling g' mk (Value.ref b :: As).toArray, t, U', L, hT, X', hL, e1, e2, hq, st⟩
section
variable {y : MethodName} {bytes cc : ByteArray} {maxL nL mc ms n index : Nat} {ret : Option FieldType} {ws : List Cond} {rm : Room} {Pc : Array Value → State → Prop} {Qc : Array Value → State → Outcome → State → Prop} {XC : String → State → State → Prop} {free : Addr → Prop} {Ts : List Cond} {own C : String} {b : Addr} {As rest : List Value} {g : JFrame}
theorem vx_runVX {hh : List (Nat × Nat × Nat × Nat)} (S : CallFix p m c cc nL s args Ts own) (hM : vx_Met l y ws rm Pc Qc XC mc ms free) (cw : vx_CVW R s args own C index y bytes maxL ret hh ws rm mc ms n) (hp : PreV s H C b Pc As)
    (hg : g.method = m) (hn : As.length = n) (hsize : g.locals.size = nL) (hstack : g.stack = As.reverse ++ .ref b :: rest) (hW : 2 * g.monitorRoom + (rest.map fun v => v.category).sum ≤ 8) (hdg : decode cc g.pc = .ok (.invokevirtual index, 3)) (hf : cells + mc ≤ R.cells ∧ slots + ms ≤ R.slots) :
    vx_Run p l e R s m args below meth c H locs cells slots mc ms g rest (Qc (Value.ref b :: As).toArray) XC free := by
  obtain ⟨⟨hrc, hrs, hfr, hlo, hws, hcw⟩, hcode, hini, hy, hlen, hl, hin, hse⟩ := cw
  have hK : vx_Back l R p e below s args y 3 8 (PreOf R mc ms Pc) (PostOf Qc mc ms free) (vx_Post XC mc ms free) := vx_backW (hh := hh) (bytes := bytes) (maxL := maxL) (ret := ret) hM hp.1 hrc hrs hfr hlo hws hcw (fun a' U hW => word_at hW (Or.inl (by first | rfl | simp [Cond.onTables, Cond.keeps, Cond.steady])) hini)
  obtain ⟨hx, hb, hml, ho, -⟩ := S
  obtain ⟨-, ⟨cellB, hcB, hoB, hclB⟩, hPc⟩ := hp
  intro T hT X
  rcases vx_callVX X hx (C := C) (hh := hh) (bytes := bytes) (maxL := maxL) (ret := ret) ho hl hin hse hcode hy hK (by rw [hT]; exact hcB) hoB hclB hg (hsize.trans hml.symm) (argsL := As) (rest := rest) (fun sig h => hn.trans (hlen sig h)) hstack hW (by rw [hb]; exact hdg)
    (fun vm₁ hW₁ => ⟨hf.1, hf.2, hPc (T.setVm vm₁) hT hW₁⟩) with ⟨v, vm₁, ⟨U', l2, c2, s2⟩, hW₁, X', ⟨g', mk, t, L, e1, e2, hq, h1, hL, h2, h3⟩, st⟩ | ⟨q, vm₁, ⟨U', l2, c2, s2⟩, hW₁, X', ⟨g', mk, t, L, E, ce, e1, e2, hq, hce, hcv, hcl, h1, hL, h2, h3⟩, st⟩
  · dsimp only [Pt.U, Pt.locs, Pt.cells, Pt.slots] at X' e1 e2 h1 h2 h3 st
    subst h1; subst h2; subst h3
    exact Or.inl ⟨v, (T.setVm vm₁).calling g' mk (Value.ref b :: As).toArray, t, U', L, hT, X', hL, e1, e2, hq, st⟩
  · dsimp only [Pt.U, Pt.locs, Pt.cells, Pt.slots] at X' e1 e2 h1 h2 h3 st hcl
    subst h1; subst h2; subst h3
    exact Or.inr ⟨q, (T.setVm vm₁).calling g' mk (Value.ref b :: As).toArray, t, U', L, E, ce, hT, X', hL, e1, e2, hq, hce, hcv, vx_cls hW₁ hcl, st⟩
theorem vx_runSX {hh : List (Nat × Nat × Nat × Nat)} (S : CallFix p m c cc nL s args Ts own) (hM : vx_Met l y ws rm Pc Qc XC mc ms free) (cw : vx_CSW R s args own index y bytes maxL ret hh ws rm mc ms n) (hp : PreS s H Pc As)
    (hg : g.method = m) (hn : As.length = n) (hsize : g.locals.size = nL) (hstack : g.stack = As.reverse ++ rest) (hW : 2 * g.monitorRoom + (rest.map fun v => v.category).sum ≤ 8) (hdg : decode cc g.pc = .ok (.invokestatic index, 3)) (hf : cells + mc ≤ R.cells ∧ slots + ms ≤ R.slots) :
    vx_Run p l e R s m args below meth c H locs cells slots mc ms g rest (Qc As.toArray) XC free := by
  obtain ⟨⟨hrc, hrs, hfr, hlo, hws, hcw⟩, hcode, hini, hy, hlen, hl, hstt⟩ := cw
  have hK : vx_Back l R p e below s args y 3 8 (PreOf R mc ms Pc) (PostOf Qc mc ms free) (vx_Post XC mc ms free) := vx_backW (hh := hh) (bytes := bytes) (maxL := maxL) (ret := ret) hM hp.1 hrc hrs hfr hlo hws hcw (fun a' U hW => word_at hW (Or.inl (by first | rfl | simp [Cond.onTables, Cond.keeps, Cond.steady])) hini)
  obtain ⟨hx, hb, hml, ho, -⟩ := S
  intro T hT X
  rcases vx_callSX X hx (hh := hh) (bytes := bytes) (maxL := maxL) (ret := ret) ho hl hstt hini hcode hy hK hg (hsize.trans hml.symm) (argsL := As) (rest := rest) (fun sig h => hn.trans (hlen sig h)) hstack hW (by rw [hb]; exact hdg)
    (fun vm₁ hW₁ => ⟨hf.1, hf.2, hp.2 (T.setVm vm₁) hT hW₁⟩) with ⟨v, vm₁, ⟨U', l2, c2, s2⟩, hW₁, X', ⟨g', mk, t, L, e1, e2, hq, h1, hL, h2, h3⟩, st⟩ | ⟨q, vm₁, ⟨U', l2, c2, s2⟩, hW₁, X', ⟨g', mk, t, L, E, ce, e1, e2, hq, hce, hcv, hcl, h1, hL, h2, h3⟩, st⟩
  · dsimp only [Pt.U, Pt.locs, Pt.cells, Pt.slots] at X' e1 e2 h1 h2 h3 st
    subst h1; subst h2; subst h3
    exact Or.inl ⟨v, (T.setVm vm₁).calling g' mk As.toArray, t, U', L, hT, X', hL, e1, e2, hq, st⟩
  · dsimp only [Pt.U, Pt.locs, Pt.cells, Pt.slots] at X' e1 e2 h1 h2 h3 st hcl
    subst h1; subst h2; subst h3
    exact Or.inr ⟨q, (T.setVm vm₁).calling g' mk As.toArray, t, U', L, E, ce, hT, X', hL, e1, e2, hq, hce, hcv, vx_cls hW₁ hcl, st⟩
end
end VXH
theorem vx_ofWH {l : Launch} {y : MethodName} {ws ws' : List Cond} {rm : Room} {Pc : Array Value → State → Prop} {Qc : Array Value → State → Outcome → State → Prop} {XC : String → State → State → Prop} {mc ms : Nat} {free : Addr → Prop} {cc : ByteArray} {maxL : Nat} {ret : Option FieldType} {hh : List (Nat × Nat × Nat × Nat)}
    (hy : plainName y.cls = true) (hw : ws = Cond.codeWith y cc maxL ret hh :: ws')
    (body : ∀ p e s m args below meth c s₁, BodyLoose p l y (headSpec ws rm) cc maxL ret e s m args below meth c s₁ → c.maxLocals = maxL → Pc args s →
      W p l e (headSpec ws rm).room s m args below meth c s.heap [] 0 0 (vx_MQ below Qc XC args s mc ms free) (entryFrame m args maxL)) : vx_Met l y ws rm Pc Qc XC mc ms free := by
  refine MetFree.of_bodyS (code := cc) (maxLocals := maxL) (ret := ret) hy ?_ ?_
  · intro args s m h hn
    obtain ⟨m9, meth, c, hn9, h1, h2, h3, h4, -, h5, h6, -⟩ := Cond.codeWith_spec (atoms_spec (ws := ws) h _ (by rw [hw]; exact List.mem_cons_self))
    cases hn.symm.trans hn9
    exact ⟨meth, c, h1, h2, h3, h4, h5, h6⟩
  · intro p e s m args below meth c s₁ B hml hP _
    have hh0 : s₁.heap = s.heap := by rw [B.state]; rfl
    obtain ⟨t, a1, o, b1, b2, b3⟩ := body p e s m args below meth c s₁ B hml hP s₁ hh0 (Stand.of_body B)
    exact ⟨t, o, a1, b1, b2, b3⟩
/-! ===== END ===== -/

/-! ===== BEGIN printed: names, fields, word lists, decode rows ===== -/
def RX0 : String := "SignLetters$Layout"
def TX0 : u_T := fun k => match k with
  | 0 => ("SignLetters$Layout", "settings", "[I", true)
  | 1 => ("SignLetters$Layout", "begins", "[I", true)
  | 2 => ("SignLetters$Layout", "ends", "[I", true)
  | 3 => ("SignLetters$Layout", "leastGaps", "[I", true)
  | 4 => ("SignLetters$Layout", "gaps", "[I", true)
  | 5 => ("SignLetters$Layout", "areas", "[I", true)
  | 6 => ("SignLetters$Layout", "shares", "[I", true)
  | 7 => ("SignLetters$Layout", "edges", "[I", true)
  | 8 => ("SignLetters$Layout", "indents", "[I", true)
  | 9 => ("SignLetters$Layout", "items", "I", false)
  | 10 => ("SignLetters$Layout", "pairs", "I", false)
  | 11 => ("SignLetters$Layout", "faults", "I", false)
  | 12 => ("SignLetters$Layout", "width", "I", false)
  | 13 => ("SignLetters$Layout", "rowLimit", "I", false)
  | 14 => ("SignLetters$Layout", "wantedArea", "I", false)
  | 15 => ("SignLetters$Layout", "snap", "I", false)
  | _ => ("SignLetters$Layout", "allowedShare", "I", false)
def tyX0 : Nat → FieldType := fun k => match k with
  | 0 => .array .int
  | 1 => .array .int
  | 2 => .array .int
  | 3 => .array .int
  | 4 => .array .int
  | 5 => .array .int
  | 6 => .array .int
  | 7 => .array .int
  | 8 => .array .int
  | 9 => .int
  | 10 => .int
  | 11 => .int
  | 12 => .int
  | 13 => .int
  | 14 => .int
  | 15 => .int
  | _ => .int
abbrev wsX00 : List Cond := u_ws RX0 TX0 17
theorem nmX0 : ∀ a, a < 17 → ∀ b, b < 17 → a ≠ b → (TX0 a).2.1 ≠ (TX0 b).2.1 := by decide +kernel
theorem tyX0_ok : ∀ k, k < 17 → parseFieldDescriptor (TX0 k).2.2.1 = some (tyX0 k) := by decide +kernel
abbrev cX0_init : ByteArray := prog_2_method_1_code
def yX0_init : MethodName := ⟨RX0, "<init>", "()V"⟩
abbrev cX0_lay : ByteArray := prog_2_method_2_code
def yX0_lay : MethodName := ⟨RX0, "lay", "(LSignLetters$State;II)V"⟩
abbrev cX0_isPair : ByteArray := prog_2_method_3_code
def yX0_isPair : MethodName := ⟨RX0, "isPair", "(I)Z"⟩
abbrev cX0_isFault : ByteArray := prog_2_method_4_code
def yX0_isFault : MethodName := ⟨RX0, "isFault", "(I)Z"⟩
abbrev cX0_brushEdges : ByteArray := prog_2_method_5_code
def yX0_brushEdges : MethodName := ⟨RX0, "brushEdges", "(I)V"⟩
abbrev cX0_layItem : ByteArray := prog_2_method_6_code
def yX0_layItem : MethodName := ⟨RX0, "layItem", "(LSignLetters$State;I)V"⟩
abbrev cX0_layPair : ByteArray := prog_2_method_7_code
def yX0_layPair : MethodName := ⟨RX0, "layPair", "(II)I"⟩
abbrev cX0_storePair : ByteArray := prog_2_method_8_code
def yX0_storePair : MethodName := ⟨RX0, "storePair", "(IIII)V"⟩
abbrev cX0_joinEdges : ByteArray := prog_2_method_9_code
def yX0_joinEdges : MethodName := ⟨RX0, "joinEdges", "(II)V"⟩
abbrev cX0_leastGap : ByteArray := prog_2_method_10_code
def yX0_leastGap : MethodName := ⟨RX0, "leastGap", "()I"⟩
abbrev cX0_gapBehind : ByteArray := prog_2_method_11_code
def yX0_gapBehind : MethodName := ⟨RX0, "gapBehind", "(II)I"⟩
abbrev cX0_snapped : ByteArray := prog_2_method_12_code
def yX0_snapped : MethodName := ⟨RX0, "snapped", "(I)I"⟩
abbrev cX0_areaBy : ByteArray := prog_2_method_13_code
def yX0_areaBy : MethodName := ⟨RX0, "areaBy", "(I)I"⟩
abbrev cX0_shareOf : ByteArray := prog_2_method_14_code
def yX0_shareOf : MethodName := ⟨RX0, "shareOf", "(I)I"⟩
abbrev cX0_countedCells : ByteArray := prog_2_method_15_code
def yX0_countedCells : MethodName := ⟨RX0, "countedCells", "(LSignLetters$State;I)I"⟩
def RX1 : String := "SignLetters$Past"
def TX1 : u_T := fun k => match k with
  | 0 => ("SignLetters$Past", "states", "[LSignLetters$State;", true)
  | 1 => ("SignLetters$Past", "oldest", "I", false)
  | _ => ("SignLetters$Past", "size", "I", false)
def tyX1 : Nat → FieldType := fun k => match k with
  | 0 => .array (.object "SignLetters$State")
  | 1 => .int
  | _ => .int
abbrev wsX10 : List Cond := u_ws RX1 TX1 3
theorem nmX1 : ∀ a, a < 3 → ∀ b, b < 3 → a ≠ b → (TX1 a).2.1 ≠ (TX1 b).2.1 := by decide +kernel
theorem tyX1_ok : ∀ k, k < 3 → parseFieldDescriptor (TX1 k).2.2.1 = some (tyX1 k) := by decide +kernel
abbrev cX1_init : ByteArray := prog_3_method_1_code
def yX1_init : MethodName := ⟨RX1, "<init>", "()V"⟩
abbrev cX1_save : ByteArray := prog_3_method_2_code
def yX1_save : MethodName := ⟨RX1, "save", "(LSignLetters$State;)V"⟩
abbrev cX1_takeLatest : ByteArray := prog_3_method_3_code
def yX1_takeLatest : MethodName := ⟨RX1, "takeLatest", "(LSignLetters$State;)V"⟩
abbrev cX1_savedAt : ByteArray := prog_3_method_4_code
def yX1_savedAt : MethodName := ⟨RX1, "savedAt", "(I)LSignLetters$State;"⟩
def RX2 : String := "SignLetters$Ranking"
def TX2 : u_T := fun k => match k with
  | 0 => ("SignLetters$Ranking", "ofFaults", "Z", true)
  | 1 => ("SignLetters$Ranking", "places", "[I", true)
  | _ => ("SignLetters$Ranking", "size", "I", false)
def tyX2 : Nat → FieldType := fun k => match k with
  | 0 => .boolean
  | 1 => .array .int
  | _ => .int
abbrev wsX20 : List Cond := u_ws RX2 TX2 3
theorem nmX2 : ∀ a, a < 3 → ∀ b, b < 3 → a ≠ b → (TX2 a).2.1 ≠ (TX2 b).2.1 := by decide +kernel
theorem tyX2_ok : ∀ k, k < 3 → parseFieldDescriptor (TX2 k).2.2.1 = some (tyX2 k) := by decide +kernel
abbrev cX2_init : ByteArray := prog_4_method_1_code
def yX2_init : MethodName := ⟨RX2, "<init>", "(Z)V"⟩
abbrev cX2_rank : ByteArray := prog_4_method_2_code
def yX2_rank : MethodName := ⟨RX2, "rank", "(LSignLetters$Layout;)V"⟩
abbrev cX2_placeAt : ByteArray := prog_4_method_3_code
def yX2_placeAt : MethodName := ⟨RX2, "placeAt", "(I)I"⟩
abbrev cX2_enter : ByteArray := prog_4_method_4_code
def yX2_enter : MethodName := ⟨RX2, "enter", "(LSignLetters$Layout;I)V"⟩
abbrev cX2_comesBefore : ByteArray := prog_4_method_5_code
def yX2_comesBefore : MethodName := ⟨RX2, "comesBefore", "(LSignLetters$Layout;II)Z"⟩
def RX3 : String := "SignLetters$State"
def TX3 : u_T := fun k => match k with
  | 0 => ("SignLetters$State", "letters", "[I", true)
  | 1 => ("SignLetters$State", "kerns", "[I", true)
  | 2 => ("SignLetters$State", "settings", "[I", true)
  | 3 => ("SignLetters$State", "items", "I", false)
  | _ => ("SignLetters$State", "boardLength", "I", false)
def tyX3 : Nat → FieldType := fun k => match k with
  | 0 => .array .int
  | 1 => .array .int
  | 2 => .array .int
  | 3 => .int
  | _ => .int
abbrev wsX30 : List Cond := u_ws RX3 TX3 5
theorem nmX3 : ∀ a, a < 5 → ∀ b, b < 5 → a ≠ b → (TX3 a).2.1 ≠ (TX3 b).2.1 := by decide +kernel
theorem tyX3_ok : ∀ k, k < 5 → parseFieldDescriptor (TX3 k).2.2.1 = some (tyX3 k) := by decide +kernel
abbrev cX3_init : ByteArray := prog_5_method_1_code
def yX3_init : MethodName := ⟨RX3, "<init>", "()V"⟩
abbrev cX3_copyFrom : ByteArray := prog_5_method_2_code
def yX3_copyFrom : MethodName := ⟨RX3, "copyFrom", "(LSignLetters$State;)V"⟩
abbrev cX3_has : ByteArray := prog_5_method_3_code
def yX3_has : MethodName := ⟨RX3, "has", "(I)Z"⟩
abbrev cX3_letterAt : ByteArray := prog_5_method_4_code
def yX3_letterAt : MethodName := ⟨RX3, "letterAt", "(I)I"⟩
abbrev cX3_kernAt : ByteArray := prog_5_method_5_code
def yX3_kernAt : MethodName := ⟨RX3, "kernAt", "(I)I"⟩
abbrev cX3_changeKern : ByteArray := prog_5_method_6_code
def yX3_changeKern : MethodName := ⟨RX3, "changeKern", "(II)V"⟩
abbrev cX3_countLetters : ByteArray := prog_5_method_7_code
def yX3_countLetters : MethodName := ⟨RX3, "countLetters", "()I"⟩
abbrev cX3_insert : ByteArray := prog_5_method_8_code
def yX3_insert : MethodName := ⟨RX3, "insert", "(II)V"⟩
abbrev cX3_remove : ByteArray := prog_5_method_9_code
def yX3_remove : MethodName := ⟨RX3, "remove", "(I)V"⟩
abbrev cX3_exchange : ByteArray := prog_5_method_10_code
def yX3_exchange : MethodName := ⟨RX3, "exchange", "(II)V"⟩
abbrev cX3_write : ByteArray := prog_5_method_11_code
def yX3_write : MethodName := ⟨RX3, "write", "(III)V"⟩
def RX4 : String := "SignLetters$Text"
def TX4 : u_T := fun k => match k with
  | 0 => ("SignLetters$Text", "codes", "[I", true)
  | _ => ("SignLetters$Text", "length", "I", false)
def tyX4 : Nat → FieldType := fun k => match k with
  | 0 => .array .int
  | _ => .int
abbrev wsX40 : List Cond := u_ws RX4 TX4 2
theorem nmX4 : ∀ a, a < 2 → ∀ b, b < 2 → a ≠ b → (TX4 a).2.1 ≠ (TX4 b).2.1 := by decide +kernel
theorem tyX4_ok : ∀ k, k < 2 → parseFieldDescriptor (TX4 k).2.2.1 = some (tyX4 k) := by decide +kernel
abbrev cX4_init : ByteArray := prog_6_method_1_code
def yX4_init : MethodName := ⟨RX4, "<init>", "()V"⟩
def RX5 : String := "SignLetters"
def TX5 : u_T := fun k => match k with
  | 0 => ("SignLetters", "state", "LSignLetters$State;", true)
  | 1 => ("SignLetters", "snapshot", "LSignLetters$State;", true)
  | 2 => ("SignLetters", "past", "LSignLetters$Past;", true)
  | 3 => ("SignLetters", "text", "LSignLetters$Text;", true)
  | 4 => ("SignLetters", "shown", "LSignLetters$Layout;", true)
  | 5 => ("SignLetters", "trial", "LSignLetters$Layout;", true)
  | 6 => ("SignLetters", "areaRanking", "LSignLetters$Ranking;", true)
  | 7 => ("SignLetters", "faultRanking", "LSignLetters$Ranking;", true)
  | 8 => ("SignLetters", "hasSnapshot", "Z", false)
  | _ => ("SignLetters", "stale", "Z", false)
def tyX5 : Nat → FieldType := fun k => match k with
  | 0 => .object "SignLetters$State"
  | 1 => .object "SignLetters$State"
  | 2 => .object "SignLetters$Past"
  | 3 => .object "SignLetters$Text"
  | 4 => .object "SignLetters$Layout"
  | 5 => .object "SignLetters$Layout"
  | 6 => .object "SignLetters$Ranking"
  | 7 => .object "SignLetters$Ranking"
  | 8 => .boolean
  | _ => .boolean
abbrev wsX50 : List Cond := u_ws RX5 TX5 10
theorem nmX5 : ∀ a, a < 10 → ∀ b, b < 10 → a ≠ b → (TX5 a).2.1 ≠ (TX5 b).2.1 := by decide +kernel
theorem tyX5_ok : ∀ k, k < 10 → parseFieldDescriptor (TX5 k).2.2.1 = some (tyX5 k) := by decide +kernel
abbrev cX5_init : ByteArray := prog_1_method_1_code
def yX5_init : MethodName := ⟨RX5, "<init>", "()V"⟩
abbrev cX5_put : ByteArray := prog_1_method_2_code
def yX5_put : MethodName := ⟨RX5, "put", "(II)I"⟩
abbrev cX5_drop : ByteArray := prog_1_method_3_code
def yX5_drop : MethodName := ⟨RX5, "drop", "(I)I"⟩
abbrev cX5_swap : ByteArray := prog_1_method_4_code
def yX5_swap : MethodName := ⟨RX5, "swap", "(II)I"⟩
abbrev cX5_kern : ByteArray := prog_1_method_5_code
def yX5_kern : MethodName := ⟨RX5, "kern", "(II)I"⟩
abbrev cX5_board : ByteArray := prog_1_method_6_code
def yX5_board : MethodName := ⟨RX5, "board", "(I)I"⟩
abbrev cX5_set : ByteArray := prog_1_method_7_code
def yX5_set : MethodName := ⟨RX5, "set", "(II)I"⟩
abbrev cX5_undo : ByteArray := prog_1_method_12_code
def yX5_undo : MethodName := ⟨RX5, "undo", "()I"⟩
abbrev cX5_keep : ByteArray := prog_1_method_13_code
def yX5_keep : MethodName := ⟨RX5, "keep", "()I"⟩
abbrev cX5_restore : ByteArray := prog_1_method_14_code
def yX5_restore : MethodName := ⟨RX5, "restore", "()I"⟩
abbrev cX5_letter : ByteArray := prog_1_method_15_code
def yX5_letter : MethodName := ⟨RX5, "letter", "(II)I"⟩
abbrev cX5_item : ByteArray := prog_1_method_17_code
def yX5_item : MethodName := ⟨RX5, "item", "(II)I"⟩
abbrev cX5_byArea : ByteArray := prog_1_method_18_code
def yX5_byArea : MethodName := ⟨RX5, "byArea", "(I)I"⟩
abbrev cX5_byFault : ByteArray := prog_1_method_19_code
def yX5_byFault : MethodName := ⟨RX5, "byFault", "(I)I"⟩
abbrev cX5_count : ByteArray := prog_1_method_20_code
def yX5_count : MethodName := ⟨RX5, "count", "(I)I"⟩
abbrev cX5_greatestArea : ByteArray := prog_1_method_22_code
def yX5_greatestArea : MethodName := ⟨RX5, "greatestArea", "()I"⟩
abbrev cX5_even : ByteArray := prog_1_method_25_code
def yX5_even : MethodName := ⟨RX5, "even", "()D"⟩
abbrev cX5_saveState : ByteArray := prog_1_method_27_code
def yX5_saveState : MethodName := ⟨RX5, "saveState", "()V"⟩
abbrev cX5_look : ByteArray := prog_1_method_28_code
def yX5_look : MethodName := ⟨RX5, "look", "()LSignLetters$Layout;"⟩
abbrev cX5_itemNumber : ByteArray := prog_1_method_29_code
def yX5_itemNumber : MethodName := ⟨RX5, "itemNumber", "(LSignLetters$Layout;II)I"⟩
abbrev cX5_pairNumber : ByteArray := prog_1_method_30_code
def yX5_pairNumber : MethodName := ⟨RX5, "pairNumber", "(LSignLetters$Layout;II)I"⟩
abbrev cX5_lineNumber : ByteArray := prog_1_method_31_code
def yX5_lineNumber : MethodName := ⟨RX5, "lineNumber", "(LSignLetters$Layout;I)I"⟩
abbrev cX5_areaOf : ByteArray := prog_1_method_32_code
def yX5_areaOf : MethodName := ⟨RX5, "areaOf", "(LSignLetters$Layout;I)I"⟩
abbrev cX5_evenness : ByteArray := prog_1_method_33_code
def yX5_evenness : MethodName := ⟨RX5, "evenness", "(LSignLetters$Layout;)D"⟩
abbrev cX5_isLetter : ByteArray := prog_1_method_40_code
def yX5_isLetter : MethodName := ⟨RX5, "isLetter", "(I)Z"⟩
abbrev cX5_widthOf : ByteArray := prog_1_method_41_code
def yX5_widthOf : MethodName := ⟨RX5, "widthOf", "(I)I"⟩
abbrev cX5_leftShape : ByteArray := prog_1_method_42_code
def yX5_leftShape : MethodName := ⟨RX5, "leftShape", "(I)I"⟩
abbrev cX5_rightShape : ByteArray := prog_1_method_43_code
def yX5_rightShape : MethodName := ⟨RX5, "rightShape", "(I)I"⟩
abbrev cX5_brushedIndent : ByteArray := prog_1_method_44_code
def yX5_brushedIndent : MethodName := ⟨RX5, "brushedIndent", "(III)I"⟩
abbrev cX5_plainIndent : ByteArray := prog_1_method_45_code
def yX5_plainIndent : MethodName := ⟨RX5, "plainIndent", "(II)I"⟩
abbrev cX5_isSetting : ByteArray := prog_1_method_46_code
def yX5_isSetting : MethodName := ⟨RX5, "isSetting", "(I)Z"⟩
abbrev cX5_isInRange : ByteArray := prog_1_method_47_code
def yX5_isInRange : MethodName := ⟨RX5, "isInRange", "(II)Z"⟩
abbrev cX5_valueAt : ByteArray := prog_1_method_48_code
def yX5_valueAt : MethodName := ⟨RX5, "valueAt", "([II)I"⟩
abbrev cX5_store : ByteArray := prog_1_method_49_code
def yX5_store : MethodName := ⟨RX5, "store", "([III)V"⟩
abbrev cX5_copyRow : ByteArray := prog_1_method_50_code
def yX5_copyRow : MethodName := ⟨RX5, "copyRow", "([I[I)V"⟩
def RX6 : String := "SignLettersModel"
def TX6 : u_T := fun k => match k with
  | _ => ("", "", "", false)
def tyX6 : Nat → FieldType := fun k => match k with
  | _ => .int
abbrev wsX60 : List Cond := u_ws RX6 TX6 0
theorem nmX6 : ∀ a, a < 0 → ∀ b, b < 0 → a ≠ b → (TX6 a).2.1 ≠ (TX6 b).2.1 := by decide +kernel
theorem tyX6_ok : ∀ k, k < 0 → parseFieldDescriptor (TX6 k).2.2.1 = some (tyX6 k) := by decide +kernel
def RJ0 : String := "java/lang/String"
def TJ0 : u_T := fun k => match k with
  | _ => ("", "", "", false)
def tyJ0 : Nat → FieldType := fun k => match k with
  | _ => .int
abbrev wsJ00 : List Cond := u_ws RJ0 TJ0 0
theorem nmJ0 : ∀ a, a < 0 → ∀ b, b < 0 → a ≠ b → (TJ0 a).2.1 ≠ (TJ0 b).2.1 := by decide +kernel
theorem tyJ0_ok : ∀ k, k < 0 → parseFieldDescriptor (TJ0 k).2.2.1 = some (tyJ0 k) := by decide +kernel
def RL : String := "SignLettersLaw"
abbrev cL_cell : ByteArray := method_2_code
def yL_cell : MethodName := ⟨RL, "cell", "([II)I"⟩
abbrev cL_low : ByteArray := method_3_code
def yL_low : MethodName := ⟨RL, "low", "(II)I"⟩
abbrev cL_told : ByteArray := method_4_code
def yL_told : MethodName := ⟨RL, "told", "(LSignLetters;)J"⟩
abbrev cL_value : ByteArray := method_5_code
def yL_value : MethodName := ⟨RL, "value", "(II)I"⟩
abbrev cL_act : ByteArray := method_6_code
def yL_act : MethodName := ⟨RL, "act", "(LSignLetters;II)I"⟩
abbrev cL_holds : ByteArray := method_7_code
def yL_holds : MethodName := ⟨RL, "holds", "(LSignLetters;)Z"⟩
abbrev cL_law : ByteArray := code
def yL_law : MethodName := ⟨RL, "law", "([I)Z"⟩
def wsX0_init : List Cond := .code yX0_init cX0_init 1 none :: ([.methodLink RX0 3 objectInit, .instanceMethod objectInit, .code objectInit ⟨#[0xb1]⟩ 1 none, .arrayClass .int, .fieldLink RX0 9 "SignLetters$Layout" "settings" "[I", .fieldLink RX0 15 "SignLetters$Layout" "begins" "[I", .fieldLink RX0 18 "SignLetters$Layout" "ends" "[I", .fieldLink RX0 21 "SignLetters$Layout" "leastGaps" "[I", .fieldLink RX0 24 "SignLetters$Layout" "gaps" "[I", .fieldLink RX0 27 "SignLetters$Layout" "areas" "[I", .fieldLink RX0 30 "SignLetters$Layout" "shares" "[I", .fieldLink RX0 33 "SignLetters$Layout" "edges" "[I", .fieldLink RX0 36 "SignLetters$Layout" "indents" "[I"] ++ wsX00)
def wsX5_copyRow : List Cond := .code yX5_copyRow cX5_copyRow 3 none :: ([])
def wsX5_store : List Cond := .code yX5_store cX5_store 3 none :: ([])
def wsX5_valueAt : List Cond := .code yX5_valueAt cX5_valueAt 2 (some .int) :: ([])
def wsX5_plainIndent : List Cond := .code yX5_plainIndent cX5_plainIndent 2 (some .int) :: ([])
def wsX5_brushedIndent : List Cond := .code yX5_brushedIndent cX5_brushedIndent 4 (some .int) :: ([.methodLink RX5 326 yX5_plainIndent, .static yX5_plainIndent, .initialized RX5, .code yX5_plainIndent cX5_plainIndent 2 (some .int)])
def wsX0_brushEdges : List Cond := .code yX0_brushEdges cX0_brushEdges 3 none :: ([.fieldLink RX0 33 "SignLetters$Layout" "edges" "[I", .static yX5_brushedIndent, .initialized RX5, .code yX5_brushedIndent cX5_brushedIndent 4 (some .int), .methodLink RX5 326 yX5_plainIndent, .static yX5_plainIndent, .code yX5_plainIndent cX5_plainIndent 2 (some .int)] ++ wsX00)
def wsX3_has : List Cond := .code yX3_has cX3_has 2 (some .boolean) :: ([.fieldLink RX3 32 "SignLetters$State" "items" "I"] ++ wsX30)
def wsX3_letterAt : List Cond := .code yX3_letterAt cX3_letterAt 2 (some .int) :: ([.fieldLink RX3 9 "SignLetters$State" "letters" "[I", .methodLink RX3 35 yX3_has, .instanceMethod yX3_has, .selects RX3 yX3_has yX3_has, .initialized RX3, .code yX3_has cX3_has 2 (some .boolean), .fieldLink RX3 32 "SignLetters$State" "items" "I", .static yX5_valueAt, .initialized RX5, .code yX5_valueAt cX5_valueAt 2 (some .int)] ++ wsX30)
def wsX5_rightShape : List Cond := .code yX5_rightShape cX5_rightShape 1 (some .int) :: ([])
def wsX5_leftShape : List Cond := .code yX5_leftShape cX5_leftShape 1 (some .int) :: ([])
def wsX0_joinEdges : List Cond := .code yX0_joinEdges cX0_joinEdges 6 none :: ([.fieldLink RX0 36 "SignLetters$Layout" "indents" "[I", .fieldLink RX0 33 "SignLetters$Layout" "edges" "[I", .static yX5_rightShape, .initialized RX5, .code yX5_rightShape cX5_rightShape 1 (some .int), .static yX5_leftShape, .code yX5_leftShape cX5_leftShape 1 (some .int), .static yX5_valueAt, .code yX5_valueAt cX5_valueAt 2 (some .int)] ++ wsX00)
def wsX3_kernAt : List Cond := .code yX3_kernAt cX3_kernAt 2 (some .int) :: ([.fieldLink RX3 15 "SignLetters$State" "kerns" "[I", .static yX5_valueAt, .initialized RX5, .code yX5_valueAt cX5_valueAt 2 (some .int)] ++ wsX30)
def wsX0_areaBy : List Cond := .code yX0_areaBy cX0_areaBy 5 (some .int) :: ([.fieldLink RX0 36 "SignLetters$Layout" "indents" "[I", .fieldLink RX0 54 "SignLetters$Layout" "rowLimit" "I"] ++ wsX00)
def wsX0_leastGap : List Cond := .code yX0_leastGap cX0_leastGap 2 (some .int) :: ([.fieldLink RX0 54 "SignLetters$Layout" "rowLimit" "I", .fieldLink RX0 58 "SignLetters$Layout" "wantedArea" "I", .methodLink RX0 128 yX0_areaBy, .instanceMethod yX0_areaBy, .selects RX0 yX0_areaBy yX0_areaBy, .initialized RX0, .code yX0_areaBy cX0_areaBy 5 (some .int), .fieldLink RX0 36 "SignLetters$Layout" "indents" "[I"] ++ wsX00)
def wsX0_snapped : List Cond := .code yX0_snapped cX0_snapped 3 (some .int) :: ([.fieldLink RX0 61 "SignLetters$Layout" "snap" "I"] ++ wsX00)
def wsX0_gapBehind : List Cond := .code yX0_gapBehind cX0_gapBehind 3 (some .int) :: ([.methodLink RX0 111 yX0_snapped, .instanceMethod yX0_snapped, .selects RX0 yX0_snapped yX0_snapped, .initialized RX0, .code yX0_snapped cX0_snapped 3 (some .int), .fieldLink RX0 61 "SignLetters$Layout" "snap" "I"] ++ wsX00)
def wsX0_shareOf : List Cond := .code yX0_shareOf cX0_shareOf 3 (some .int) :: ([.fieldLink RX0 58 "SignLetters$Layout" "wantedArea" "I"] ++ wsX00)
def wsX0_storePair : List Cond := .code yX0_storePair cX0_storePair 5 none :: ([.fieldLink RX0 24 "SignLetters$Layout" "gaps" "[I", .fieldLink RX0 27 "SignLetters$Layout" "areas" "[I", .fieldLink RX0 30 "SignLetters$Layout" "shares" "[I", .static yX5_store, .initialized RX5, .code yX5_store cX5_store 3 none] ++ wsX00)
def wsX0_layPair_r1 : List Cond := [Cond.fieldLink RX0 81 "SignLetters$Layout" "width" "I", Cond.fieldLink RX0 21 "SignLetters$Layout" "leastGaps" "[I", Cond.fieldLink RX0 75 "SignLetters$Layout" "pairs" "I", Cond.fieldLink RX0 64 "SignLetters$Layout" "allowedShare" "I", Cond.fieldLink RX0 78 "SignLetters$Layout" "faults" "I", Cond.methodLink RX0 121 yX0_leastGap, Cond.instanceMethod yX0_leastGap, Cond.selects RX0 yX0_leastGap yX0_leastGap, Cond.initialized RX0, Cond.code yX0_leastGap cX0_leastGap 2 (some .int), Cond.fieldLink RX0 54 "SignLetters$Layout" "rowLimit" "I", Cond.fieldLink RX0 58 "SignLetters$Layout" "wantedArea" "I", Cond.methodLink RX0 128 yX0_areaBy, Cond.instanceMethod yX0_areaBy, Cond.selects RX0 yX0_areaBy yX0_areaBy, Cond.code yX0_areaBy cX0_areaBy 5 (some .int), Cond.fieldLink RX0 36 "SignLetters$Layout" "indents" "[I", Cond.methodLink RX0 125 yX0_gapBehind, Cond.instanceMethod yX0_gapBehind, Cond.selects RX0 yX0_gapBehind yX0_gapBehind, Cond.code yX0_gapBehind cX0_gapBehind 3 (some .int), Cond.methodLink RX0 111 yX0_snapped, Cond.instanceMethod yX0_snapped, Cond.selects RX0 yX0_snapped yX0_snapped]
def wsX0_layPair_r2 : List Cond := [Cond.code yX0_snapped cX0_snapped 3 (some .int), Cond.fieldLink RX0 61 "SignLetters$Layout" "snap" "I", Cond.methodLink RX0 131 yX0_shareOf, Cond.instanceMethod yX0_shareOf, Cond.selects RX0 yX0_shareOf yX0_shareOf, Cond.code yX0_shareOf cX0_shareOf 3 (some .int), Cond.static yX5_store, Cond.initialized RX5, Cond.code yX5_store cX5_store 3 none, Cond.methodLink RX0 114 yX0_storePair, Cond.instanceMethod yX0_storePair, Cond.selects RX0 yX0_storePair yX0_storePair, Cond.code yX0_storePair cX0_storePair 5 none, Cond.fieldLink RX0 24 "SignLetters$Layout" "gaps" "[I", Cond.fieldLink RX0 27 "SignLetters$Layout" "areas" "[I", Cond.fieldLink RX0 30 "SignLetters$Layout" "shares" "[I"]
def wsX0_layPair : List Cond := .code yX0_layPair cX0_layPair 7 (some .int) :: ((wsX0_layPair_r1 ++ wsX0_layPair_r2) ++ wsX00)
def wsX5_widthOf : List Cond := .code yX5_widthOf cX5_widthOf 1 (some .int) :: ([])
def wsX0_layItem_r1 : List Cond := [Cond.fieldLink RX0 81 "SignLetters$Layout" "width" "I", Cond.fieldLink RX0 15 "SignLetters$Layout" "begins" "[I", Cond.fieldLink RX0 9 "SignLetters$Layout" "settings" "[I", Cond.fieldLink RX0 18 "SignLetters$Layout" "ends" "[I", Cond.methodLink RX0 96 yX3_letterAt, Cond.instanceMethod yX3_letterAt, Cond.selects RX3 yX3_letterAt yX3_letterAt, Cond.initialized RX3, Cond.code yX3_letterAt cX3_letterAt 2 (some .int), Cond.fieldLink RX3 9 "SignLetters$State" "letters" "[I", Cond.methodLink RX3 35 yX3_has, Cond.instanceMethod yX3_has, Cond.selects RX3 yX3_has yX3_has, Cond.code yX3_has cX3_has 2 (some .boolean), Cond.fieldLink RX3 32 "SignLetters$State" "items" "I", Cond.static yX5_valueAt, Cond.initialized RX5, Cond.code yX5_valueAt cX5_valueAt 2 (some .int), Cond.methodLink RX0 100 yX0_joinEdges, Cond.instanceMethod yX0_joinEdges, Cond.selects RX0 yX0_joinEdges yX0_joinEdges, Cond.initialized RX0, Cond.code yX0_joinEdges cX0_joinEdges 6 none, Cond.fieldLink RX0 36 "SignLetters$Layout" "indents" "[I"]
def wsX0_layItem_r2 : List Cond := [Cond.fieldLink RX0 33 "SignLetters$Layout" "edges" "[I", Cond.static yX5_rightShape, Cond.code yX5_rightShape cX5_rightShape 1 (some .int), Cond.static yX5_leftShape, Cond.code yX5_leftShape cX5_leftShape 1 (some .int), Cond.methodLink RX0 104 yX3_kernAt, Cond.instanceMethod yX3_kernAt, Cond.selects RX3 yX3_kernAt yX3_kernAt, Cond.code yX3_kernAt cX3_kernAt 2 (some .int), Cond.fieldLink RX3 15 "SignLetters$State" "kerns" "[I", Cond.methodLink RX0 107 yX0_layPair, Cond.instanceMethod yX0_layPair, Cond.selects RX0 yX0_layPair yX0_layPair, Cond.code yX0_layPair cX0_layPair 7 (some .int), Cond.fieldLink RX0 21 "SignLetters$Layout" "leastGaps" "[I", Cond.fieldLink RX0 75 "SignLetters$Layout" "pairs" "I", Cond.fieldLink RX0 64 "SignLetters$Layout" "allowedShare" "I", Cond.fieldLink RX0 78 "SignLetters$Layout" "faults" "I", Cond.methodLink RX0 121 yX0_leastGap, Cond.instanceMethod yX0_leastGap, Cond.selects RX0 yX0_leastGap yX0_leastGap, Cond.code yX0_leastGap cX0_leastGap 2 (some .int), Cond.fieldLink RX0 54 "SignLetters$Layout" "rowLimit" "I", Cond.fieldLink RX0 58 "SignLetters$Layout" "wantedArea" "I"]
def wsX0_layItem_r3 : List Cond := [Cond.methodLink RX0 128 yX0_areaBy, Cond.instanceMethod yX0_areaBy, Cond.selects RX0 yX0_areaBy yX0_areaBy, Cond.code yX0_areaBy cX0_areaBy 5 (some .int), Cond.methodLink RX0 125 yX0_gapBehind, Cond.instanceMethod yX0_gapBehind, Cond.selects RX0 yX0_gapBehind yX0_gapBehind, Cond.code yX0_gapBehind cX0_gapBehind 3 (some .int), Cond.methodLink RX0 111 yX0_snapped, Cond.instanceMethod yX0_snapped, Cond.selects RX0 yX0_snapped yX0_snapped, Cond.code yX0_snapped cX0_snapped 3 (some .int), Cond.fieldLink RX0 61 "SignLetters$Layout" "snap" "I", Cond.methodLink RX0 131 yX0_shareOf, Cond.instanceMethod yX0_shareOf, Cond.selects RX0 yX0_shareOf yX0_shareOf, Cond.code yX0_shareOf cX0_shareOf 3 (some .int), Cond.static yX5_store, Cond.code yX5_store cX5_store 3 none, Cond.methodLink RX0 114 yX0_storePair, Cond.instanceMethod yX0_storePair, Cond.selects RX0 yX0_storePair yX0_storePair, Cond.code yX0_storePair cX0_storePair 5 none, Cond.fieldLink RX0 24 "SignLetters$Layout" "gaps" "[I"]
def wsX0_layItem_r4 : List Cond := [Cond.fieldLink RX0 27 "SignLetters$Layout" "areas" "[I", Cond.fieldLink RX0 30 "SignLetters$Layout" "shares" "[I", Cond.static yX5_widthOf, Cond.code yX5_widthOf cX5_widthOf 1 (some .int)]
def wsX0_layItem : List Cond := .code yX0_layItem cX0_layItem 6 none :: ((wsX0_layItem_r1 ++ (wsX0_layItem_r2 ++ (wsX0_layItem_r3 ++ wsX0_layItem_r4))) ++ wsX00 ++ wsX30)
def wsX0_lay_r1 : List Cond := [Cond.fieldLink RX0 9 "SignLetters$Layout" "settings" "[I", Cond.fieldLink RX0 54 "SignLetters$Layout" "rowLimit" "I", Cond.fieldLink RX0 58 "SignLetters$Layout" "wantedArea" "I", Cond.fieldLink RX0 61 "SignLetters$Layout" "snap" "I", Cond.fieldLink RX0 64 "SignLetters$Layout" "allowedShare" "I", Cond.fieldLink RX0 74 "SignLetters$Layout" "items" "I", Cond.fieldLink RX0 75 "SignLetters$Layout" "pairs" "I", Cond.fieldLink RX0 78 "SignLetters$Layout" "faults" "I", Cond.fieldLink RX0 81 "SignLetters$Layout" "width" "I", Cond.static yX5_copyRow, Cond.initialized RX5, Cond.code yX5_copyRow cX5_copyRow 3 none, Cond.static yX5_store, Cond.code yX5_store cX5_store 3 none, Cond.static yX5_valueAt, Cond.code yX5_valueAt cX5_valueAt 2 (some .int), Cond.methodLink RX0 67 yX0_brushEdges, Cond.instanceMethod yX0_brushEdges, Cond.selects RX0 yX0_brushEdges yX0_brushEdges, Cond.initialized RX0, Cond.code yX0_brushEdges cX0_brushEdges 3 none, Cond.fieldLink RX0 33 "SignLetters$Layout" "edges" "[I", Cond.static yX5_brushedIndent, Cond.code yX5_brushedIndent cX5_brushedIndent 4 (some .int)]
def wsX0_lay_r2 : List Cond := [Cond.methodLink RX5 326 yX5_plainIndent, Cond.static yX5_plainIndent, Cond.code yX5_plainIndent cX5_plainIndent 2 (some .int), Cond.methodLink RX0 84 yX0_layItem, Cond.instanceMethod yX0_layItem, Cond.selects RX0 yX0_layItem yX0_layItem, Cond.code yX0_layItem cX0_layItem 6 none, Cond.fieldLink RX0 15 "SignLetters$Layout" "begins" "[I", Cond.fieldLink RX0 18 "SignLetters$Layout" "ends" "[I", Cond.methodLink RX0 96 yX3_letterAt, Cond.instanceMethod yX3_letterAt, Cond.selects RX3 yX3_letterAt yX3_letterAt, Cond.initialized RX3, Cond.code yX3_letterAt cX3_letterAt 2 (some .int), Cond.fieldLink RX3 9 "SignLetters$State" "letters" "[I", Cond.methodLink RX3 35 yX3_has, Cond.instanceMethod yX3_has, Cond.selects RX3 yX3_has yX3_has, Cond.code yX3_has cX3_has 2 (some .boolean), Cond.fieldLink RX3 32 "SignLetters$State" "items" "I", Cond.methodLink RX0 100 yX0_joinEdges, Cond.instanceMethod yX0_joinEdges, Cond.selects RX0 yX0_joinEdges yX0_joinEdges, Cond.code yX0_joinEdges cX0_joinEdges 6 none]
def wsX0_lay_r3 : List Cond := [Cond.fieldLink RX0 36 "SignLetters$Layout" "indents" "[I", Cond.static yX5_rightShape, Cond.code yX5_rightShape cX5_rightShape 1 (some .int), Cond.static yX5_leftShape, Cond.code yX5_leftShape cX5_leftShape 1 (some .int), Cond.methodLink RX0 104 yX3_kernAt, Cond.instanceMethod yX3_kernAt, Cond.selects RX3 yX3_kernAt yX3_kernAt, Cond.code yX3_kernAt cX3_kernAt 2 (some .int), Cond.fieldLink RX3 15 "SignLetters$State" "kerns" "[I", Cond.methodLink RX0 107 yX0_layPair, Cond.instanceMethod yX0_layPair, Cond.selects RX0 yX0_layPair yX0_layPair, Cond.code yX0_layPair cX0_layPair 7 (some .int), Cond.fieldLink RX0 21 "SignLetters$Layout" "leastGaps" "[I", Cond.methodLink RX0 121 yX0_leastGap, Cond.instanceMethod yX0_leastGap, Cond.selects RX0 yX0_leastGap yX0_leastGap, Cond.code yX0_leastGap cX0_leastGap 2 (some .int), Cond.methodLink RX0 128 yX0_areaBy, Cond.instanceMethod yX0_areaBy, Cond.selects RX0 yX0_areaBy yX0_areaBy, Cond.code yX0_areaBy cX0_areaBy 5 (some .int), Cond.methodLink RX0 125 yX0_gapBehind]
def wsX0_lay_r4 : List Cond := [Cond.instanceMethod yX0_gapBehind, Cond.selects RX0 yX0_gapBehind yX0_gapBehind, Cond.code yX0_gapBehind cX0_gapBehind 3 (some .int), Cond.methodLink RX0 111 yX0_snapped, Cond.instanceMethod yX0_snapped, Cond.selects RX0 yX0_snapped yX0_snapped, Cond.code yX0_snapped cX0_snapped 3 (some .int), Cond.methodLink RX0 131 yX0_shareOf, Cond.instanceMethod yX0_shareOf, Cond.selects RX0 yX0_shareOf yX0_shareOf, Cond.code yX0_shareOf cX0_shareOf 3 (some .int), Cond.methodLink RX0 114 yX0_storePair, Cond.instanceMethod yX0_storePair, Cond.selects RX0 yX0_storePair yX0_storePair, Cond.code yX0_storePair cX0_storePair 5 none, Cond.fieldLink RX0 24 "SignLetters$Layout" "gaps" "[I", Cond.fieldLink RX0 27 "SignLetters$Layout" "areas" "[I", Cond.fieldLink RX0 30 "SignLetters$Layout" "shares" "[I", Cond.static yX5_widthOf, Cond.code yX5_widthOf cX5_widthOf 1 (some .int)]
def wsX0_lay : List Cond := .code yX0_lay cX0_lay 5 none :: ((wsX0_lay_r1 ++ (wsX0_lay_r2 ++ (wsX0_lay_r3 ++ wsX0_lay_r4))) ++ wsX30 ++ wsX00)
def wsX0_isPair : List Cond := .code yX0_isPair cX0_isPair 2 (some .boolean) :: ([.fieldLink RX0 74 "SignLetters$Layout" "items" "I", .fieldLink RX0 24 "SignLetters$Layout" "gaps" "[I", .static yX5_valueAt, .initialized RX5, .code yX5_valueAt cX5_valueAt 2 (some .int)] ++ wsX00)
def wsX0_isFault : List Cond := .code yX0_isFault cX0_isFault 2 (some .boolean) :: ([.fieldLink RX0 30 "SignLetters$Layout" "shares" "[I", .fieldLink RX0 64 "SignLetters$Layout" "allowedShare" "I", .methodLink RX0 88 yX0_isPair, .instanceMethod yX0_isPair, .selects RX0 yX0_isPair yX0_isPair, .initialized RX0, .code yX0_isPair cX0_isPair 2 (some .boolean), .fieldLink RX0 74 "SignLetters$Layout" "items" "I", .fieldLink RX0 24 "SignLetters$Layout" "gaps" "[I", .static yX5_valueAt, .initialized RX5, .code yX5_valueAt cX5_valueAt 2 (some .int)] ++ wsX00)
def wsX0_countedCells_r1 : List Cond := [Cond.fieldLink RX0 24 "SignLetters$Layout" "gaps" "[I", Cond.fieldLink RX0 36 "SignLetters$Layout" "indents" "[I", Cond.fieldLink RX0 54 "SignLetters$Layout" "rowLimit" "I", Cond.methodLink RX0 96 yX3_letterAt, Cond.instanceMethod yX3_letterAt, Cond.selects RX3 yX3_letterAt yX3_letterAt, Cond.initialized RX3, Cond.code yX3_letterAt cX3_letterAt 2 (some .int), Cond.fieldLink RX3 9 "SignLetters$State" "letters" "[I", Cond.methodLink RX3 35 yX3_has, Cond.instanceMethod yX3_has, Cond.selects RX3 yX3_has yX3_has, Cond.code yX3_has cX3_has 2 (some .boolean), Cond.fieldLink RX3 32 "SignLetters$State" "items" "I", Cond.static yX5_valueAt, Cond.initialized RX5, Cond.code yX5_valueAt cX5_valueAt 2 (some .int), Cond.methodLink RX0 100 yX0_joinEdges, Cond.instanceMethod yX0_joinEdges, Cond.selects RX0 yX0_joinEdges yX0_joinEdges, Cond.initialized RX0, Cond.code yX0_joinEdges cX0_joinEdges 6 none, Cond.fieldLink RX0 33 "SignLetters$Layout" "edges" "[I", Cond.static yX5_rightShape]
def wsX0_countedCells_r2 : List Cond := [Cond.code yX5_rightShape cX5_rightShape 1 (some .int), Cond.static yX5_leftShape, Cond.code yX5_leftShape cX5_leftShape 1 (some .int)]
def wsX0_countedCells : List Cond := .code yX0_countedCells cX0_countedCells 7 (some .int) :: ((wsX0_countedCells_r1 ++ wsX0_countedCells_r2) ++ wsX00 ++ wsX30)
def wsX3_init : List Cond := .code yX3_init cX3_init 1 none :: ([.methodLink RX3 3 objectInit, .instanceMethod objectInit, .code objectInit ⟨#[0xb1]⟩ 1 none, .arrayClass .int, .fieldLink RX3 9 "SignLetters$State" "letters" "[I", .fieldLink RX3 15 "SignLetters$State" "kerns" "[I", .fieldLink RX3 18 "SignLetters$State" "settings" "[I", .fieldLink RX3 21 "SignLetters$State" "boardLength" "I", .static yX5_copyRow, .initialized RX5, .code yX5_copyRow cX5_copyRow 3 none] ++ wsX30)
def wsX1_init : List Cond := .code yX1_init cX1_init 2 none :: ([.methodLink RX1 3 objectInit, .instanceMethod objectInit, .code objectInit ⟨#[0xb1]⟩ 1 none, .classLink RX1 9 RX3, .fieldLink RX1 11 "SignLetters$Past" "states" "[LSignLetters$State;", .instantiable RX3 5, .initialized RX3, .methodLink RX1 17 yX3_init, .instanceMethod yX3_init, .code yX3_init cX3_init 1 none, .methodLink RX3 3 objectInit, .arrayClass .int, .fieldLink RX3 9 "SignLetters$State" "letters" "[I", .fieldLink RX3 15 "SignLetters$State" "kerns" "[I", .fieldLink RX3 18 "SignLetters$State" "settings" "[I", .fieldLink RX3 21 "SignLetters$State" "boardLength" "I", .static yX5_copyRow, .initialized RX5, .code yX5_copyRow cX5_copyRow 3 none] ++ wsX10 ++ wsX30)
def wsX1_savedAt : List Cond := .code yX1_savedAt cX1_savedAt 3 (some (.object "SignLetters$State")) :: ([.fieldLink RX1 22 "SignLetters$Past" "oldest" "I", .fieldLink RX1 11 "SignLetters$Past" "states" "[LSignLetters$State;"] ++ wsX10)
def wsX3_copyFrom : List Cond := .code yX3_copyFrom cX3_copyFrom 2 none :: ([.fieldLink RX3 9 "SignLetters$State" "letters" "[I", .fieldLink RX3 15 "SignLetters$State" "kerns" "[I", .fieldLink RX3 18 "SignLetters$State" "settings" "[I", .fieldLink RX3 32 "SignLetters$State" "items" "I", .fieldLink RX3 21 "SignLetters$State" "boardLength" "I", .static yX5_copyRow, .initialized RX5, .code yX5_copyRow cX5_copyRow 3 none] ++ wsX30)
def wsX1_save : List Cond := .code yX1_save cX1_save 3 none :: ([.fieldLink RX1 18 "SignLetters$Past" "size" "I", .fieldLink RX1 22 "SignLetters$Past" "oldest" "I", .methodLink RX1 25 yX1_savedAt, .instanceMethod yX1_savedAt, .selects RX1 yX1_savedAt yX1_savedAt, .initialized RX1, .code yX1_savedAt cX1_savedAt 3 (some (.object "SignLetters$State")), .fieldLink RX1 11 "SignLetters$Past" "states" "[LSignLetters$State;", .methodLink RX1 29 yX3_copyFrom, .instanceMethod yX3_copyFrom, .selects RX3 yX3_copyFrom yX3_copyFrom, .initialized RX3, .code yX3_copyFrom cX3_copyFrom 2 none, .fieldLink RX3 9 "SignLetters$State" "letters" "[I", .fieldLink RX3 15 "SignLetters$State" "kerns" "[I", .fieldLink RX3 18 "SignLetters$State" "settings" "[I", .fieldLink RX3 32 "SignLetters$State" "items" "I", .fieldLink RX3 21 "SignLetters$State" "boardLength" "I", .static yX5_copyRow, .initialized RX5, .code yX5_copyRow cX5_copyRow 3 none] ++ wsX10 ++ wsX30)
def wsX1_takeLatest : List Cond := .code yX1_takeLatest cX1_takeLatest 3 none :: ([.fieldLink RX1 18 "SignLetters$Past" "size" "I", .methodLink RX1 25 yX1_savedAt, .instanceMethod yX1_savedAt, .selects RX1 yX1_savedAt yX1_savedAt, .initialized RX1, .code yX1_savedAt cX1_savedAt 3 (some (.object "SignLetters$State")), .fieldLink RX1 22 "SignLetters$Past" "oldest" "I", .fieldLink RX1 11 "SignLetters$Past" "states" "[LSignLetters$State;", .methodLink RX1 29 yX3_copyFrom, .instanceMethod yX3_copyFrom, .selects RX3 yX3_copyFrom yX3_copyFrom, .initialized RX3, .code yX3_copyFrom cX3_copyFrom 2 none, .fieldLink RX3 9 "SignLetters$State" "letters" "[I", .fieldLink RX3 15 "SignLetters$State" "kerns" "[I", .fieldLink RX3 18 "SignLetters$State" "settings" "[I", .fieldLink RX3 32 "SignLetters$State" "items" "I", .fieldLink RX3 21 "SignLetters$State" "boardLength" "I", .static yX5_copyRow, .initialized RX5, .code yX5_copyRow cX5_copyRow 3 none] ++ wsX10 ++ wsX30)
def wsX2_init : List Cond := .code yX2_init cX2_init 2 none :: ([.methodLink RX2 3 objectInit, .instanceMethod objectInit, .code objectInit ⟨#[0xb1]⟩ 1 none, .arrayClass .int, .fieldLink RX2 9 "SignLetters$Ranking" "places" "[I", .fieldLink RX2 15 "SignLetters$Ranking" "ofFaults" "Z"] ++ wsX20)
def wsX2_comesBefore : List Cond := .code yX2_comesBefore cX2_comesBefore 8 (some .boolean) :: ([.fieldLink RX2 15 "SignLetters$Ranking" "ofFaults" "Z", .static yX5_valueAt, .initialized RX5, .code yX5_valueAt cX5_valueAt 2 (some .int)] ++ wsX00 ++ wsX20)
def wsX2_enter : List Cond := .code yX2_enter cX2_enter 6 none :: ([.fieldLink RX2 19 "SignLetters$Ranking" "size" "I", .fieldLink RX2 9 "SignLetters$Ranking" "places" "[I", .static yX5_valueAt, .initialized RX5, .code yX5_valueAt cX5_valueAt 2 (some .int), .methodLink RX2 40 yX2_comesBefore, .instanceMethod yX2_comesBefore, .selects RX2 yX2_comesBefore yX2_comesBefore, .initialized RX2, .code yX2_comesBefore cX2_comesBefore 8 (some .boolean), .fieldLink RX2 15 "SignLetters$Ranking" "ofFaults" "Z", .static yX5_store, .code yX5_store cX5_store 3 none] ++ wsX20 ++ wsX00)
def wsX2_rank : List Cond := .code yX2_rank cX2_rank 3 none :: ([.fieldLink RX2 19 "SignLetters$Ranking" "size" "I", .methodLink RX2 28 yX0_isPair, .instanceMethod yX0_isPair, .selects RX0 yX0_isPair yX0_isPair, .initialized RX0, .code yX0_isPair cX0_isPair 2 (some .boolean), .fieldLink RX0 74 "SignLetters$Layout" "items" "I", .fieldLink RX0 24 "SignLetters$Layout" "gaps" "[I", .static yX5_valueAt, .initialized RX5, .code yX5_valueAt cX5_valueAt 2 (some .int), .methodLink RX2 32 yX2_enter, .instanceMethod yX2_enter, .selects RX2 yX2_enter yX2_enter, .initialized RX2, .code yX2_enter cX2_enter 6 none, .fieldLink RX2 9 "SignLetters$Ranking" "places" "[I", .methodLink RX2 40 yX2_comesBefore, .instanceMethod yX2_comesBefore, .selects RX2 yX2_comesBefore yX2_comesBefore, .code yX2_comesBefore cX2_comesBefore 8 (some .boolean), .fieldLink RX2 15 "SignLetters$Ranking" "ofFaults" "Z", .static yX5_store, .code yX5_store cX5_store 3 none] ++ wsX20 ++ wsX00)
def wsX2_placeAt : List Cond := .code yX2_placeAt cX2_placeAt 2 (some .int) :: ([.fieldLink RX2 19 "SignLetters$Ranking" "size" "I", .fieldLink RX2 9 "SignLetters$Ranking" "places" "[I", .static yX5_valueAt, .initialized RX5, .code yX5_valueAt cX5_valueAt 2 (some .int)] ++ wsX20)
def wsX3_changeKern : List Cond := .code yX3_changeKern cX3_changeKern 3 none :: ([.fieldLink RX3 15 "SignLetters$State" "kerns" "[I", .static yX5_store, .initialized RX5, .code yX5_store cX5_store 3 none] ++ wsX30)
def wsX3_countLetters : List Cond := .code yX3_countLetters cX3_countLetters 3 (some .int) :: ([.fieldLink RX3 32 "SignLetters$State" "items" "I", .methodLink RX3 47 yX3_letterAt, .instanceMethod yX3_letterAt, .selects RX3 yX3_letterAt yX3_letterAt, .initialized RX3, .code yX3_letterAt cX3_letterAt 2 (some .int), .fieldLink RX3 9 "SignLetters$State" "letters" "[I", .methodLink RX3 35 yX3_has, .instanceMethod yX3_has, .selects RX3 yX3_has yX3_has, .code yX3_has cX3_has 2 (some .boolean), .static yX5_valueAt, .initialized RX5, .code yX5_valueAt cX5_valueAt 2 (some .int)] ++ wsX30)
def wsX3_write : List Cond := .code yX3_write cX3_write 4 none :: ([.fieldLink RX3 9 "SignLetters$State" "letters" "[I", .fieldLink RX3 15 "SignLetters$State" "kerns" "[I", .static yX5_store, .initialized RX5, .code yX5_store cX5_store 3 none] ++ wsX30)
def wsX3_insert : List Cond := .code yX3_insert cX3_insert 4 none :: ([.fieldLink RX3 32 "SignLetters$State" "items" "I", .fieldLink RX3 9 "SignLetters$State" "letters" "[I", .fieldLink RX3 15 "SignLetters$State" "kerns" "[I", .static yX5_valueAt, .initialized RX5, .code yX5_valueAt cX5_valueAt 2 (some .int), .methodLink RX3 51 yX3_write, .instanceMethod yX3_write, .selects RX3 yX3_write yX3_write, .initialized RX3, .code yX3_write cX3_write 4 none, .static yX5_store, .code yX5_store cX5_store 3 none] ++ wsX30)
def wsX3_remove : List Cond := .code yX3_remove cX3_remove 3 none :: ([.fieldLink RX3 32 "SignLetters$State" "items" "I", .fieldLink RX3 9 "SignLetters$State" "letters" "[I", .fieldLink RX3 15 "SignLetters$State" "kerns" "[I", .static yX5_valueAt, .initialized RX5, .code yX5_valueAt cX5_valueAt 2 (some .int), .methodLink RX3 51 yX3_write, .instanceMethod yX3_write, .selects RX3 yX3_write yX3_write, .initialized RX3, .code yX3_write cX3_write 4 none, .static yX5_store, .code yX5_store cX5_store 3 none] ++ wsX30)
def wsX3_exchange : List Cond := .code yX3_exchange cX3_exchange 5 none :: ([.fieldLink RX3 9 "SignLetters$State" "letters" "[I", .fieldLink RX3 15 "SignLetters$State" "kerns" "[I", .static yX5_valueAt, .initialized RX5, .code yX5_valueAt cX5_valueAt 2 (some .int), .methodLink RX3 51 yX3_write, .instanceMethod yX3_write, .selects RX3 yX3_write yX3_write, .initialized RX3, .code yX3_write cX3_write 4 none, .static yX5_store, .code yX5_store cX5_store 3 none] ++ wsX30)
def wsX4_init : List Cond := .code yX4_init cX4_init 1 none :: ([.methodLink RX4 3 objectInit, .instanceMethod objectInit, .code objectInit ⟨#[0xb1]⟩ 1 none, .arrayClass .int, .fieldLink RX4 9 "SignLetters$Text" "codes" "[I"] ++ wsX40)
def wsX5_init_r1 : List Cond := [Cond.methodLink RX5 1 objectInit, Cond.instanceMethod objectInit, Cond.code objectInit ⟨#[0xb1]⟩ 1 none, Cond.classLink RX5 7 RX3, Cond.instantiable RX3 5, Cond.initialized RX3, Cond.fieldLink RX5 10 "SignLetters" "state" "LSignLetters$State;", Cond.fieldLink RX5 16 "SignLetters" "snapshot" "LSignLetters$State;", Cond.classLink RX5 19 RX1, Cond.instantiable RX1 3, Cond.initialized RX1, Cond.fieldLink RX5 22 "SignLetters" "past" "LSignLetters$Past;", Cond.classLink RX5 26 RX4, Cond.instantiable RX4 2, Cond.initialized RX4, Cond.fieldLink RX5 29 "SignLetters" "text" "LSignLetters$Text;", Cond.classLink RX5 33 RX0, Cond.instantiable RX0 17, Cond.initialized RX0, Cond.fieldLink RX5 36 "SignLetters" "shown" "LSignLetters$Layout;", Cond.fieldLink RX5 40 "SignLetters" "trial" "LSignLetters$Layout;", Cond.classLink RX5 43 RX2, Cond.instantiable RX2 3, Cond.initialized RX2]
def wsX5_init_r2 : List Cond := [Cond.fieldLink RX5 48 "SignLetters" "areaRanking" "LSignLetters$Ranking;", Cond.fieldLink RX5 52 "SignLetters" "faultRanking" "LSignLetters$Ranking;", Cond.fieldLink RX5 55 "SignLetters" "stale" "Z", Cond.methodLink RX5 9 yX3_init, Cond.instanceMethod yX3_init, Cond.code yX3_init cX3_init 1 none, Cond.methodLink RX3 3 objectInit, Cond.arrayClass .int, Cond.fieldLink RX3 9 "SignLetters$State" "letters" "[I", Cond.fieldLink RX3 15 "SignLetters$State" "kerns" "[I", Cond.fieldLink RX3 18 "SignLetters$State" "settings" "[I", Cond.fieldLink RX3 21 "SignLetters$State" "boardLength" "I", Cond.static yX5_copyRow, Cond.initialized RX5, Cond.code yX5_copyRow cX5_copyRow 3 none, Cond.methodLink RX5 21 yX1_init, Cond.instanceMethod yX1_init, Cond.code yX1_init cX1_init 2 none, Cond.methodLink RX1 3 objectInit, Cond.classLink RX1 9 RX3, Cond.fieldLink RX1 11 "SignLetters$Past" "states" "[LSignLetters$State;", Cond.methodLink RX1 17 yX3_init, Cond.instanceMethod yX4_init, Cond.code yX4_init cX4_init 1 none]
def wsX5_init_r3 : List Cond := [Cond.methodLink RX4 3 objectInit, Cond.fieldLink RX4 9 "SignLetters$Text" "codes" "[I", Cond.instanceMethod yX0_init, Cond.code yX0_init cX0_init 1 none, Cond.methodLink RX0 3 objectInit, Cond.fieldLink RX0 9 "SignLetters$Layout" "settings" "[I", Cond.fieldLink RX0 15 "SignLetters$Layout" "begins" "[I", Cond.fieldLink RX0 18 "SignLetters$Layout" "ends" "[I", Cond.fieldLink RX0 21 "SignLetters$Layout" "leastGaps" "[I", Cond.fieldLink RX0 24 "SignLetters$Layout" "gaps" "[I", Cond.fieldLink RX0 27 "SignLetters$Layout" "areas" "[I", Cond.fieldLink RX0 30 "SignLetters$Layout" "shares" "[I", Cond.fieldLink RX0 33 "SignLetters$Layout" "edges" "[I", Cond.fieldLink RX0 36 "SignLetters$Layout" "indents" "[I", Cond.methodLink RX5 45 yX2_init, Cond.instanceMethod yX2_init, Cond.code yX2_init cX2_init 2 none, Cond.methodLink RX2 3 objectInit, Cond.fieldLink RX2 9 "SignLetters$Ranking" "places" "[I", Cond.fieldLink RX2 15 "SignLetters$Ranking" "ofFaults" "Z"]
def wsX5_init : List Cond := .code yX5_init cX5_init 1 none :: ((wsX5_init_r1 ++ (wsX5_init_r2 ++ wsX5_init_r3)) ++ wsX30 ++ wsX50 ++ wsX10 ++ wsX40 ++ wsX00 ++ wsX20)
def wsX5_isLetter : List Cond := .code yX5_isLetter cX5_isLetter 1 (some .boolean) :: ([])
def wsX5_saveState_r1 : List Cond := [Cond.fieldLink RX5 22 "SignLetters" "past" "LSignLetters$Past;", Cond.fieldLink RX5 10 "SignLetters" "state" "LSignLetters$State;", Cond.fieldLink RX5 55 "SignLetters" "stale" "Z", Cond.methodLink RX5 275 yX1_save, Cond.instanceMethod yX1_save, Cond.selects RX1 yX1_save yX1_save, Cond.initialized RX1, Cond.code yX1_save cX1_save 3 none, Cond.fieldLink RX1 18 "SignLetters$Past" "size" "I", Cond.fieldLink RX1 22 "SignLetters$Past" "oldest" "I", Cond.methodLink RX1 25 yX1_savedAt, Cond.instanceMethod yX1_savedAt, Cond.selects RX1 yX1_savedAt yX1_savedAt, Cond.code yX1_savedAt cX1_savedAt 3 (some (.object "SignLetters$State")), Cond.fieldLink RX1 11 "SignLetters$Past" "states" "[LSignLetters$State;", Cond.methodLink RX1 29 yX3_copyFrom, Cond.instanceMethod yX3_copyFrom, Cond.selects RX3 yX3_copyFrom yX3_copyFrom, Cond.initialized RX3, Cond.code yX3_copyFrom cX3_copyFrom 2 none, Cond.fieldLink RX3 9 "SignLetters$State" "letters" "[I", Cond.fieldLink RX3 15 "SignLetters$State" "kerns" "[I", Cond.fieldLink RX3 18 "SignLetters$State" "settings" "[I", Cond.fieldLink RX3 32 "SignLetters$State" "items" "I"]
def wsX5_saveState_r2 : List Cond := [Cond.fieldLink RX3 21 "SignLetters$State" "boardLength" "I", Cond.static yX5_copyRow, Cond.initialized RX5, Cond.code yX5_copyRow cX5_copyRow 3 none]
def wsX5_saveState : List Cond := .code yX5_saveState cX5_saveState 1 none :: ((wsX5_saveState_r1 ++ wsX5_saveState_r2) ++ wsX50 ++ wsX10 ++ wsX30)
def wsX5_put_r1 : List Cond := [Cond.classLink RX5 63 "java/lang/IndexOutOfBoundsException", Cond.initialized "java/lang/IndexOutOfBoundsException", Cond.classLink RX5 74 "java/lang/IllegalArgumentException", Cond.initialized "java/lang/IllegalArgumentException", Cond.classLink RX5 79 "java/lang/IllegalStateException", Cond.initialized "java/lang/IllegalStateException", Cond.fieldLink RX5 10 "SignLetters" "state" "LSignLetters$State;", Cond.methodLink RX5 70 yX5_isLetter, Cond.static yX5_isLetter, Cond.initialized RX5, Cond.code yX5_isLetter cX5_isLetter 1 (some .boolean), Cond.methodLink RX5 84 yX5_saveState, Cond.instanceMethod yX5_saveState, Cond.selects RX5 yX5_saveState yX5_saveState, Cond.code yX5_saveState cX5_saveState 1 none, Cond.fieldLink RX5 22 "SignLetters" "past" "LSignLetters$Past;", Cond.fieldLink RX5 55 "SignLetters" "stale" "Z", Cond.methodLink RX5 275 yX1_save, Cond.instanceMethod yX1_save, Cond.selects RX1 yX1_save yX1_save, Cond.initialized RX1, Cond.code yX1_save cX1_save 3 none, Cond.fieldLink RX1 18 "SignLetters$Past" "size" "I", Cond.fieldLink RX1 22 "SignLetters$Past" "oldest" "I"]
def wsX5_put_r2 : List Cond := [Cond.methodLink RX1 25 yX1_savedAt, Cond.instanceMethod yX1_savedAt, Cond.selects RX1 yX1_savedAt yX1_savedAt, Cond.code yX1_savedAt cX1_savedAt 3 (some (.object "SignLetters$State")), Cond.fieldLink RX1 11 "SignLetters$Past" "states" "[LSignLetters$State;", Cond.methodLink RX1 29 yX3_copyFrom, Cond.instanceMethod yX3_copyFrom, Cond.selects RX3 yX3_copyFrom yX3_copyFrom, Cond.initialized RX3, Cond.code yX3_copyFrom cX3_copyFrom 2 none, Cond.fieldLink RX3 9 "SignLetters$State" "letters" "[I", Cond.fieldLink RX3 15 "SignLetters$State" "kerns" "[I", Cond.fieldLink RX3 18 "SignLetters$State" "settings" "[I", Cond.fieldLink RX3 32 "SignLetters$State" "items" "I", Cond.fieldLink RX3 21 "SignLetters$State" "boardLength" "I", Cond.static yX5_copyRow, Cond.code yX5_copyRow cX5_copyRow 3 none, Cond.methodLink RX5 87 yX3_insert, Cond.instanceMethod yX3_insert, Cond.selects RX3 yX3_insert yX3_insert, Cond.code yX3_insert cX3_insert 4 none, Cond.static yX5_valueAt, Cond.code yX5_valueAt cX5_valueAt 2 (some .int), Cond.methodLink RX3 51 yX3_write]
def wsX5_put_r3 : List Cond := [Cond.instanceMethod yX3_write, Cond.selects RX3 yX3_write yX3_write, Cond.code yX3_write cX3_write 4 none, Cond.static yX5_store, Cond.code yX5_store cX5_store 3 none]
def wsX5_put : List Cond := .code yX5_put cX5_put 3 (some .int) :: ((wsX5_put_r1 ++ (wsX5_put_r2 ++ wsX5_put_r3)) ++ wsX50 ++ wsX30 ++ wsX10 ++ (vx_atS RX5 67 "java/lang/IndexOutOfBoundsException" ["java/lang/RuntimeException", "java/lang/Exception"]).filter goodWord ++ (vx_atS RX5 78 "java/lang/IllegalArgumentException" ["java/lang/RuntimeException", "java/lang/Exception"]).filter goodWord ++ (vx_atS RX5 83 "java/lang/IllegalStateException" ["java/lang/RuntimeException", "java/lang/Exception"]).filter goodWord)
def wsX5_drop_r1 : List Cond := [Cond.classLink RX5 63 "java/lang/IndexOutOfBoundsException", Cond.initialized "java/lang/IndexOutOfBoundsException", Cond.fieldLink RX5 10 "SignLetters" "state" "LSignLetters$State;", Cond.methodLink RX5 91 yX3_has, Cond.instanceMethod yX3_has, Cond.selects RX3 yX3_has yX3_has, Cond.initialized RX3, Cond.code yX3_has cX3_has 2 (some .boolean), Cond.fieldLink RX3 32 "SignLetters$State" "items" "I", Cond.methodLink RX5 84 yX5_saveState, Cond.instanceMethod yX5_saveState, Cond.selects RX5 yX5_saveState yX5_saveState, Cond.initialized RX5, Cond.code yX5_saveState cX5_saveState 1 none, Cond.fieldLink RX5 22 "SignLetters" "past" "LSignLetters$Past;", Cond.fieldLink RX5 55 "SignLetters" "stale" "Z", Cond.methodLink RX5 275 yX1_save, Cond.instanceMethod yX1_save, Cond.selects RX1 yX1_save yX1_save, Cond.initialized RX1, Cond.code yX1_save cX1_save 3 none, Cond.fieldLink RX1 18 "SignLetters$Past" "size" "I", Cond.fieldLink RX1 22 "SignLetters$Past" "oldest" "I", Cond.methodLink RX1 25 yX1_savedAt]
def wsX5_drop_r2 : List Cond := [Cond.instanceMethod yX1_savedAt, Cond.selects RX1 yX1_savedAt yX1_savedAt, Cond.code yX1_savedAt cX1_savedAt 3 (some (.object "SignLetters$State")), Cond.fieldLink RX1 11 "SignLetters$Past" "states" "[LSignLetters$State;", Cond.methodLink RX1 29 yX3_copyFrom, Cond.instanceMethod yX3_copyFrom, Cond.selects RX3 yX3_copyFrom yX3_copyFrom, Cond.code yX3_copyFrom cX3_copyFrom 2 none, Cond.fieldLink RX3 9 "SignLetters$State" "letters" "[I", Cond.fieldLink RX3 15 "SignLetters$State" "kerns" "[I", Cond.fieldLink RX3 18 "SignLetters$State" "settings" "[I", Cond.fieldLink RX3 21 "SignLetters$State" "boardLength" "I", Cond.static yX5_copyRow, Cond.code yX5_copyRow cX5_copyRow 3 none, Cond.methodLink RX5 96 yX3_remove, Cond.instanceMethod yX3_remove, Cond.selects RX3 yX3_remove yX3_remove, Cond.code yX3_remove cX3_remove 3 none, Cond.static yX5_valueAt, Cond.code yX5_valueAt cX5_valueAt 2 (some .int), Cond.methodLink RX3 51 yX3_write, Cond.instanceMethod yX3_write, Cond.selects RX3 yX3_write yX3_write, Cond.code yX3_write cX3_write 4 none]
def wsX5_drop_r3 : List Cond := [Cond.static yX5_store, Cond.code yX5_store cX5_store 3 none]
def wsX5_drop : List Cond := .code yX5_drop cX5_drop 2 (some .int) :: ((wsX5_drop_r1 ++ (wsX5_drop_r2 ++ wsX5_drop_r3)) ++ wsX50 ++ wsX30 ++ wsX10 ++ (vx_atS RX5 67 "java/lang/IndexOutOfBoundsException" ["java/lang/RuntimeException", "java/lang/Exception"]).filter goodWord)
def wsX5_look_r1 : List Cond := [Cond.fieldLink RX5 55 "SignLetters" "stale" "Z", Cond.fieldLink RX5 36 "SignLetters" "shown" "LSignLetters$Layout;", Cond.fieldLink RX5 10 "SignLetters" "state" "LSignLetters$State;", Cond.fieldLink RX5 48 "SignLetters" "areaRanking" "LSignLetters$Ranking;", Cond.fieldLink RX5 52 "SignLetters" "faultRanking" "LSignLetters$Ranking;", Cond.methodLink RX5 226 yX0_lay, Cond.instanceMethod yX0_lay, Cond.selects RX0 yX0_lay yX0_lay, Cond.initialized RX0, Cond.code yX0_lay cX0_lay 5 none, Cond.fieldLink RX0 9 "SignLetters$Layout" "settings" "[I", Cond.fieldLink RX0 54 "SignLetters$Layout" "rowLimit" "I", Cond.fieldLink RX0 58 "SignLetters$Layout" "wantedArea" "I", Cond.fieldLink RX0 61 "SignLetters$Layout" "snap" "I", Cond.fieldLink RX0 64 "SignLetters$Layout" "allowedShare" "I", Cond.fieldLink RX0 74 "SignLetters$Layout" "items" "I", Cond.fieldLink RX0 75 "SignLetters$Layout" "pairs" "I", Cond.fieldLink RX0 78 "SignLetters$Layout" "faults" "I", Cond.fieldLink RX0 81 "SignLetters$Layout" "width" "I", Cond.static yX5_copyRow, Cond.initialized RX5, Cond.code yX5_copyRow cX5_copyRow 3 none, Cond.static yX5_store, Cond.code yX5_store cX5_store 3 none]
def wsX5_look_r2 : List Cond := [Cond.static yX5_valueAt, Cond.code yX5_valueAt cX5_valueAt 2 (some .int), Cond.methodLink RX0 67 yX0_brushEdges, Cond.instanceMethod yX0_brushEdges, Cond.selects RX0 yX0_brushEdges yX0_brushEdges, Cond.code yX0_brushEdges cX0_brushEdges 3 none, Cond.fieldLink RX0 33 "SignLetters$Layout" "edges" "[I", Cond.static yX5_brushedIndent, Cond.code yX5_brushedIndent cX5_brushedIndent 4 (some .int), Cond.methodLink RX5 326 yX5_plainIndent, Cond.static yX5_plainIndent, Cond.code yX5_plainIndent cX5_plainIndent 2 (some .int), Cond.methodLink RX0 84 yX0_layItem, Cond.instanceMethod yX0_layItem, Cond.selects RX0 yX0_layItem yX0_layItem, Cond.code yX0_layItem cX0_layItem 6 none, Cond.fieldLink RX0 15 "SignLetters$Layout" "begins" "[I", Cond.fieldLink RX0 18 "SignLetters$Layout" "ends" "[I", Cond.methodLink RX0 96 yX3_letterAt, Cond.instanceMethod yX3_letterAt, Cond.selects RX3 yX3_letterAt yX3_letterAt, Cond.initialized RX3, Cond.code yX3_letterAt cX3_letterAt 2 (some .int), Cond.fieldLink RX3 9 "SignLetters$State" "letters" "[I"]
def wsX5_look_r3 : List Cond := [Cond.methodLink RX3 35 yX3_has, Cond.instanceMethod yX3_has, Cond.selects RX3 yX3_has yX3_has, Cond.code yX3_has cX3_has 2 (some .boolean), Cond.fieldLink RX3 32 "SignLetters$State" "items" "I", Cond.methodLink RX0 100 yX0_joinEdges, Cond.instanceMethod yX0_joinEdges, Cond.selects RX0 yX0_joinEdges yX0_joinEdges, Cond.code yX0_joinEdges cX0_joinEdges 6 none, Cond.fieldLink RX0 36 "SignLetters$Layout" "indents" "[I", Cond.static yX5_rightShape, Cond.code yX5_rightShape cX5_rightShape 1 (some .int), Cond.static yX5_leftShape, Cond.code yX5_leftShape cX5_leftShape 1 (some .int), Cond.methodLink RX0 104 yX3_kernAt, Cond.instanceMethod yX3_kernAt, Cond.selects RX3 yX3_kernAt yX3_kernAt, Cond.code yX3_kernAt cX3_kernAt 2 (some .int), Cond.fieldLink RX3 15 "SignLetters$State" "kerns" "[I", Cond.methodLink RX0 107 yX0_layPair, Cond.instanceMethod yX0_layPair, Cond.selects RX0 yX0_layPair yX0_layPair, Cond.code yX0_layPair cX0_layPair 7 (some .int), Cond.fieldLink RX0 21 "SignLetters$Layout" "leastGaps" "[I"]
def wsX5_look_r4 : List Cond := [Cond.methodLink RX0 121 yX0_leastGap, Cond.instanceMethod yX0_leastGap, Cond.selects RX0 yX0_leastGap yX0_leastGap, Cond.code yX0_leastGap cX0_leastGap 2 (some .int), Cond.methodLink RX0 128 yX0_areaBy, Cond.instanceMethod yX0_areaBy, Cond.selects RX0 yX0_areaBy yX0_areaBy, Cond.code yX0_areaBy cX0_areaBy 5 (some .int), Cond.methodLink RX0 125 yX0_gapBehind, Cond.instanceMethod yX0_gapBehind, Cond.selects RX0 yX0_gapBehind yX0_gapBehind, Cond.code yX0_gapBehind cX0_gapBehind 3 (some .int), Cond.methodLink RX0 111 yX0_snapped, Cond.instanceMethod yX0_snapped, Cond.selects RX0 yX0_snapped yX0_snapped, Cond.code yX0_snapped cX0_snapped 3 (some .int), Cond.methodLink RX0 131 yX0_shareOf, Cond.instanceMethod yX0_shareOf, Cond.selects RX0 yX0_shareOf yX0_shareOf, Cond.code yX0_shareOf cX0_shareOf 3 (some .int), Cond.methodLink RX0 114 yX0_storePair, Cond.instanceMethod yX0_storePair, Cond.selects RX0 yX0_storePair yX0_storePair, Cond.code yX0_storePair cX0_storePair 5 none]
def wsX5_look_r5 : List Cond := [Cond.fieldLink RX0 24 "SignLetters$Layout" "gaps" "[I", Cond.fieldLink RX0 27 "SignLetters$Layout" "areas" "[I", Cond.fieldLink RX0 30 "SignLetters$Layout" "shares" "[I", Cond.static yX5_widthOf, Cond.code yX5_widthOf cX5_widthOf 1 (some .int), Cond.methodLink RX5 278 yX2_rank, Cond.instanceMethod yX2_rank, Cond.selects RX2 yX2_rank yX2_rank, Cond.initialized RX2, Cond.code yX2_rank cX2_rank 3 none, Cond.fieldLink RX2 19 "SignLetters$Ranking" "size" "I", Cond.methodLink RX2 28 yX0_isPair, Cond.instanceMethod yX0_isPair, Cond.selects RX0 yX0_isPair yX0_isPair, Cond.code yX0_isPair cX0_isPair 2 (some .boolean), Cond.methodLink RX2 32 yX2_enter, Cond.instanceMethod yX2_enter, Cond.selects RX2 yX2_enter yX2_enter, Cond.code yX2_enter cX2_enter 6 none, Cond.fieldLink RX2 9 "SignLetters$Ranking" "places" "[I", Cond.methodLink RX2 40 yX2_comesBefore, Cond.instanceMethod yX2_comesBefore, Cond.selects RX2 yX2_comesBefore yX2_comesBefore, Cond.code yX2_comesBefore cX2_comesBefore 8 (some .boolean)]
def wsX5_look_r6 : List Cond := [Cond.fieldLink RX2 15 "SignLetters$Ranking" "ofFaults" "Z"]
def wsX5_look : List Cond := .code yX5_look cX5_look 1 (some (.object "SignLetters$Layout")) :: ((wsX5_look_r1 ++ (wsX5_look_r2 ++ (wsX5_look_r3 ++ (wsX5_look_r4 ++ (wsX5_look_r5 ++ wsX5_look_r6))))) ++ wsX50 ++ wsX30 ++ wsX00 ++ wsX20)
def wsX5_swap_r1 : List Cond := [Cond.classLink RX5 63 "java/lang/IndexOutOfBoundsException", Cond.initialized "java/lang/IndexOutOfBoundsException", Cond.fieldLink RX5 10 "SignLetters" "state" "LSignLetters$State;", Cond.methodLink RX5 91 yX3_has, Cond.instanceMethod yX3_has, Cond.selects RX3 yX3_has yX3_has, Cond.initialized RX3, Cond.code yX3_has cX3_has 2 (some .boolean), Cond.fieldLink RX3 32 "SignLetters$State" "items" "I", Cond.methodLink RX5 84 yX5_saveState, Cond.instanceMethod yX5_saveState, Cond.selects RX5 yX5_saveState yX5_saveState, Cond.initialized RX5, Cond.code yX5_saveState cX5_saveState 1 none, Cond.fieldLink RX5 22 "SignLetters" "past" "LSignLetters$Past;", Cond.fieldLink RX5 55 "SignLetters" "stale" "Z", Cond.methodLink RX5 275 yX1_save, Cond.instanceMethod yX1_save, Cond.selects RX1 yX1_save yX1_save, Cond.initialized RX1, Cond.code yX1_save cX1_save 3 none, Cond.fieldLink RX1 18 "SignLetters$Past" "size" "I", Cond.fieldLink RX1 22 "SignLetters$Past" "oldest" "I", Cond.methodLink RX1 25 yX1_savedAt]
def wsX5_swap_r2 : List Cond := [Cond.instanceMethod yX1_savedAt, Cond.selects RX1 yX1_savedAt yX1_savedAt, Cond.code yX1_savedAt cX1_savedAt 3 (some (.object "SignLetters$State")), Cond.fieldLink RX1 11 "SignLetters$Past" "states" "[LSignLetters$State;", Cond.methodLink RX1 29 yX3_copyFrom, Cond.instanceMethod yX3_copyFrom, Cond.selects RX3 yX3_copyFrom yX3_copyFrom, Cond.code yX3_copyFrom cX3_copyFrom 2 none, Cond.fieldLink RX3 9 "SignLetters$State" "letters" "[I", Cond.fieldLink RX3 15 "SignLetters$State" "kerns" "[I", Cond.fieldLink RX3 18 "SignLetters$State" "settings" "[I", Cond.fieldLink RX3 21 "SignLetters$State" "boardLength" "I", Cond.static yX5_copyRow, Cond.code yX5_copyRow cX5_copyRow 3 none, Cond.methodLink RX5 100 yX3_exchange, Cond.instanceMethod yX3_exchange, Cond.selects RX3 yX3_exchange yX3_exchange, Cond.code yX3_exchange cX3_exchange 5 none, Cond.static yX5_valueAt, Cond.code yX5_valueAt cX5_valueAt 2 (some .int), Cond.methodLink RX3 51 yX3_write, Cond.instanceMethod yX3_write, Cond.selects RX3 yX3_write yX3_write, Cond.code yX3_write cX3_write 4 none]
def wsX5_swap_r3 : List Cond := [Cond.static yX5_store, Cond.code yX5_store cX5_store 3 none, Cond.methodLink RX5 103 yX5_look, Cond.instanceMethod yX5_look, Cond.selects RX5 yX5_look yX5_look, Cond.code yX5_look cX5_look 1 (some (.object "SignLetters$Layout")), Cond.fieldLink RX5 36 "SignLetters" "shown" "LSignLetters$Layout;", Cond.fieldLink RX5 48 "SignLetters" "areaRanking" "LSignLetters$Ranking;", Cond.fieldLink RX5 52 "SignLetters" "faultRanking" "LSignLetters$Ranking;", Cond.methodLink RX5 226 yX0_lay, Cond.instanceMethod yX0_lay, Cond.selects RX0 yX0_lay yX0_lay, Cond.initialized RX0, Cond.code yX0_lay cX0_lay 5 none, Cond.fieldLink RX0 9 "SignLetters$Layout" "settings" "[I", Cond.fieldLink RX0 54 "SignLetters$Layout" "rowLimit" "I", Cond.fieldLink RX0 58 "SignLetters$Layout" "wantedArea" "I", Cond.fieldLink RX0 61 "SignLetters$Layout" "snap" "I", Cond.fieldLink RX0 64 "SignLetters$Layout" "allowedShare" "I", Cond.fieldLink RX0 74 "SignLetters$Layout" "items" "I", Cond.fieldLink RX0 75 "SignLetters$Layout" "pairs" "I", Cond.fieldLink RX0 78 "SignLetters$Layout" "faults" "I", Cond.fieldLink RX0 81 "SignLetters$Layout" "width" "I", Cond.methodLink RX0 67 yX0_brushEdges]
def wsX5_swap_r4 : List Cond := [Cond.instanceMethod yX0_brushEdges, Cond.selects RX0 yX0_brushEdges yX0_brushEdges, Cond.code yX0_brushEdges cX0_brushEdges 3 none, Cond.fieldLink RX0 33 "SignLetters$Layout" "edges" "[I", Cond.static yX5_brushedIndent, Cond.code yX5_brushedIndent cX5_brushedIndent 4 (some .int), Cond.methodLink RX5 326 yX5_plainIndent, Cond.static yX5_plainIndent, Cond.code yX5_plainIndent cX5_plainIndent 2 (some .int), Cond.methodLink RX0 84 yX0_layItem, Cond.instanceMethod yX0_layItem, Cond.selects RX0 yX0_layItem yX0_layItem, Cond.code yX0_layItem cX0_layItem 6 none, Cond.fieldLink RX0 15 "SignLetters$Layout" "begins" "[I", Cond.fieldLink RX0 18 "SignLetters$Layout" "ends" "[I", Cond.methodLink RX0 96 yX3_letterAt, Cond.instanceMethod yX3_letterAt, Cond.selects RX3 yX3_letterAt yX3_letterAt, Cond.code yX3_letterAt cX3_letterAt 2 (some .int), Cond.methodLink RX3 35 yX3_has, Cond.methodLink RX0 100 yX0_joinEdges, Cond.instanceMethod yX0_joinEdges, Cond.selects RX0 yX0_joinEdges yX0_joinEdges, Cond.code yX0_joinEdges cX0_joinEdges 6 none]
def wsX5_swap_r5 : List Cond := [Cond.fieldLink RX0 36 "SignLetters$Layout" "indents" "[I", Cond.static yX5_rightShape, Cond.code yX5_rightShape cX5_rightShape 1 (some .int), Cond.static yX5_leftShape, Cond.code yX5_leftShape cX5_leftShape 1 (some .int), Cond.methodLink RX0 104 yX3_kernAt, Cond.instanceMethod yX3_kernAt, Cond.selects RX3 yX3_kernAt yX3_kernAt, Cond.code yX3_kernAt cX3_kernAt 2 (some .int), Cond.methodLink RX0 107 yX0_layPair, Cond.instanceMethod yX0_layPair, Cond.selects RX0 yX0_layPair yX0_layPair, Cond.code yX0_layPair cX0_layPair 7 (some .int), Cond.fieldLink RX0 21 "SignLetters$Layout" "leastGaps" "[I", Cond.methodLink RX0 121 yX0_leastGap, Cond.instanceMethod yX0_leastGap, Cond.selects RX0 yX0_leastGap yX0_leastGap, Cond.code yX0_leastGap cX0_leastGap 2 (some .int), Cond.methodLink RX0 128 yX0_areaBy, Cond.instanceMethod yX0_areaBy, Cond.selects RX0 yX0_areaBy yX0_areaBy, Cond.code yX0_areaBy cX0_areaBy 5 (some .int), Cond.methodLink RX0 125 yX0_gapBehind, Cond.instanceMethod yX0_gapBehind]
def wsX5_swap_r6 : List Cond := [Cond.selects RX0 yX0_gapBehind yX0_gapBehind, Cond.code yX0_gapBehind cX0_gapBehind 3 (some .int), Cond.methodLink RX0 111 yX0_snapped, Cond.instanceMethod yX0_snapped, Cond.selects RX0 yX0_snapped yX0_snapped, Cond.code yX0_snapped cX0_snapped 3 (some .int), Cond.methodLink RX0 131 yX0_shareOf, Cond.instanceMethod yX0_shareOf, Cond.selects RX0 yX0_shareOf yX0_shareOf, Cond.code yX0_shareOf cX0_shareOf 3 (some .int), Cond.methodLink RX0 114 yX0_storePair, Cond.instanceMethod yX0_storePair, Cond.selects RX0 yX0_storePair yX0_storePair, Cond.code yX0_storePair cX0_storePair 5 none, Cond.fieldLink RX0 24 "SignLetters$Layout" "gaps" "[I", Cond.fieldLink RX0 27 "SignLetters$Layout" "areas" "[I", Cond.fieldLink RX0 30 "SignLetters$Layout" "shares" "[I", Cond.static yX5_widthOf, Cond.code yX5_widthOf cX5_widthOf 1 (some .int), Cond.methodLink RX5 278 yX2_rank, Cond.instanceMethod yX2_rank, Cond.selects RX2 yX2_rank yX2_rank, Cond.initialized RX2, Cond.code yX2_rank cX2_rank 3 none]
def wsX5_swap_r7 : List Cond := [Cond.fieldLink RX2 19 "SignLetters$Ranking" "size" "I", Cond.methodLink RX2 28 yX0_isPair, Cond.instanceMethod yX0_isPair, Cond.selects RX0 yX0_isPair yX0_isPair, Cond.code yX0_isPair cX0_isPair 2 (some .boolean), Cond.methodLink RX2 32 yX2_enter, Cond.instanceMethod yX2_enter, Cond.selects RX2 yX2_enter yX2_enter, Cond.code yX2_enter cX2_enter 6 none, Cond.fieldLink RX2 9 "SignLetters$Ranking" "places" "[I", Cond.methodLink RX2 40 yX2_comesBefore, Cond.instanceMethod yX2_comesBefore, Cond.selects RX2 yX2_comesBefore yX2_comesBefore, Cond.code yX2_comesBefore cX2_comesBefore 8 (some .boolean), Cond.fieldLink RX2 15 "SignLetters$Ranking" "ofFaults" "Z"]
def wsX5_swap : List Cond := .code yX5_swap cX5_swap 3 (some .int) :: ((wsX5_swap_r1 ++ (wsX5_swap_r2 ++ (wsX5_swap_r3 ++ (wsX5_swap_r4 ++ (wsX5_swap_r5 ++ (wsX5_swap_r6 ++ wsX5_swap_r7)))))) ++ wsX50 ++ wsX00 ++ wsX30 ++ wsX10 ++ wsX20 ++ (vx_atS RX5 67 "java/lang/IndexOutOfBoundsException" ["java/lang/RuntimeException", "java/lang/Exception"]).filter goodWord)
def wsX5_kern_r1 : List Cond := [Cond.classLink RX5 63 "java/lang/IndexOutOfBoundsException", Cond.initialized "java/lang/IndexOutOfBoundsException", Cond.classLink RX5 74 "java/lang/IllegalArgumentException", Cond.initialized "java/lang/IllegalArgumentException", Cond.classLink RX5 79 "java/lang/IllegalStateException", Cond.initialized "java/lang/IllegalStateException", Cond.fieldLink RX5 10 "SignLetters" "state" "LSignLetters$State;", Cond.methodLink RX5 91 yX3_has, Cond.instanceMethod yX3_has, Cond.selects RX3 yX3_has yX3_has, Cond.initialized RX3, Cond.code yX3_has cX3_has 2 (some .boolean), Cond.fieldLink RX3 32 "SignLetters$State" "items" "I", Cond.methodLink RX5 112 yX3_letterAt, Cond.instanceMethod yX3_letterAt, Cond.selects RX3 yX3_letterAt yX3_letterAt, Cond.code yX3_letterAt cX3_letterAt 2 (some .int), Cond.fieldLink RX3 9 "SignLetters$State" "letters" "[I", Cond.methodLink RX3 35 yX3_has, Cond.static yX5_valueAt, Cond.initialized RX5, Cond.code yX5_valueAt cX5_valueAt 2 (some .int), Cond.methodLink RX5 84 yX5_saveState, Cond.instanceMethod yX5_saveState]
def wsX5_kern_r2 : List Cond := [Cond.selects RX5 yX5_saveState yX5_saveState, Cond.code yX5_saveState cX5_saveState 1 none, Cond.fieldLink RX5 22 "SignLetters" "past" "LSignLetters$Past;", Cond.fieldLink RX5 55 "SignLetters" "stale" "Z", Cond.methodLink RX5 275 yX1_save, Cond.instanceMethod yX1_save, Cond.selects RX1 yX1_save yX1_save, Cond.initialized RX1, Cond.code yX1_save cX1_save 3 none, Cond.fieldLink RX1 18 "SignLetters$Past" "size" "I", Cond.fieldLink RX1 22 "SignLetters$Past" "oldest" "I", Cond.methodLink RX1 25 yX1_savedAt, Cond.instanceMethod yX1_savedAt, Cond.selects RX1 yX1_savedAt yX1_savedAt, Cond.code yX1_savedAt cX1_savedAt 3 (some (.object "SignLetters$State")), Cond.fieldLink RX1 11 "SignLetters$Past" "states" "[LSignLetters$State;", Cond.methodLink RX1 29 yX3_copyFrom, Cond.instanceMethod yX3_copyFrom, Cond.selects RX3 yX3_copyFrom yX3_copyFrom, Cond.code yX3_copyFrom cX3_copyFrom 2 none, Cond.fieldLink RX3 15 "SignLetters$State" "kerns" "[I", Cond.fieldLink RX3 18 "SignLetters$State" "settings" "[I", Cond.fieldLink RX3 21 "SignLetters$State" "boardLength" "I", Cond.static yX5_copyRow]
def wsX5_kern_r3 : List Cond := [Cond.code yX5_copyRow cX5_copyRow 3 none, Cond.methodLink RX5 118 yX3_kernAt, Cond.instanceMethod yX3_kernAt, Cond.selects RX3 yX3_kernAt yX3_kernAt, Cond.code yX3_kernAt cX3_kernAt 2 (some .int), Cond.methodLink RX5 121 yX3_changeKern, Cond.instanceMethod yX3_changeKern, Cond.selects RX3 yX3_changeKern yX3_changeKern, Cond.code yX3_changeKern cX3_changeKern 3 none, Cond.static yX5_store, Cond.code yX5_store cX5_store 3 none]
def wsX5_kern : List Cond := .code yX5_kern cX5_kern 4 (some .int) :: ((wsX5_kern_r1 ++ (wsX5_kern_r2 ++ wsX5_kern_r3)) ++ wsX50 ++ wsX30 ++ wsX10 ++ (vx_atS RX5 67 "java/lang/IndexOutOfBoundsException" ["java/lang/RuntimeException", "java/lang/Exception"]).filter goodWord ++ (vx_atS RX5 78 "java/lang/IllegalArgumentException" ["java/lang/RuntimeException", "java/lang/Exception"]).filter goodWord ++ (vx_atS RX5 83 "java/lang/IllegalStateException" ["java/lang/RuntimeException", "java/lang/Exception"]).filter goodWord)
def wsX5_board_r1 : List Cond := [Cond.classLink RX5 74 "java/lang/IllegalArgumentException", Cond.initialized "java/lang/IllegalArgumentException", Cond.fieldLink RX5 10 "SignLetters" "state" "LSignLetters$State;", Cond.methodLink RX5 84 yX5_saveState, Cond.instanceMethod yX5_saveState, Cond.selects RX5 yX5_saveState yX5_saveState, Cond.initialized RX5, Cond.code yX5_saveState cX5_saveState 1 none, Cond.fieldLink RX5 22 "SignLetters" "past" "LSignLetters$Past;", Cond.fieldLink RX5 55 "SignLetters" "stale" "Z", Cond.methodLink RX5 275 yX1_save, Cond.instanceMethod yX1_save, Cond.selects RX1 yX1_save yX1_save, Cond.initialized RX1, Cond.code yX1_save cX1_save 3 none, Cond.fieldLink RX1 18 "SignLetters$Past" "size" "I", Cond.fieldLink RX1 22 "SignLetters$Past" "oldest" "I", Cond.methodLink RX1 25 yX1_savedAt, Cond.instanceMethod yX1_savedAt, Cond.selects RX1 yX1_savedAt yX1_savedAt, Cond.code yX1_savedAt cX1_savedAt 3 (some (.object "SignLetters$State")), Cond.fieldLink RX1 11 "SignLetters$Past" "states" "[LSignLetters$State;", Cond.methodLink RX1 29 yX3_copyFrom, Cond.instanceMethod yX3_copyFrom]
def wsX5_board_r2 : List Cond := [Cond.selects RX3 yX3_copyFrom yX3_copyFrom, Cond.initialized RX3, Cond.code yX3_copyFrom cX3_copyFrom 2 none, Cond.fieldLink RX3 9 "SignLetters$State" "letters" "[I", Cond.fieldLink RX3 15 "SignLetters$State" "kerns" "[I", Cond.fieldLink RX3 18 "SignLetters$State" "settings" "[I", Cond.fieldLink RX3 32 "SignLetters$State" "items" "I", Cond.fieldLink RX3 21 "SignLetters$State" "boardLength" "I", Cond.static yX5_copyRow, Cond.code yX5_copyRow cX5_copyRow 3 none]
def wsX5_board : List Cond := .code yX5_board cX5_board 3 (some .int) :: ((wsX5_board_r1 ++ wsX5_board_r2) ++ wsX50 ++ wsX30 ++ wsX10 ++ (vx_atS RX5 78 "java/lang/IllegalArgumentException" ["java/lang/RuntimeException", "java/lang/Exception"]).filter goodWord)
def wsX5_isSetting : List Cond := .code yX5_isSetting cX5_isSetting 1 (some .boolean) :: ([])
def wsX5_isInRange : List Cond := .code yX5_isInRange cX5_isInRange 2 (some .boolean) :: ([.fieldLink RX5 330 "SignLetters" "LEAST_SETTINGS" "[I", .fieldLink RX5 333 "SignLetters" "MOST_SETTINGS" "[I", .methodLink RX5 144 yX5_valueAt, .static yX5_valueAt, .initialized RX5, .code yX5_valueAt cX5_valueAt 2 (some .int)])
def wsX5_set_r1 : List Cond := [Cond.classLink RX5 63 "java/lang/IndexOutOfBoundsException", Cond.initialized "java/lang/IndexOutOfBoundsException", Cond.classLink RX5 74 "java/lang/IllegalArgumentException", Cond.initialized "java/lang/IllegalArgumentException", Cond.fieldLink RX5 10 "SignLetters" "state" "LSignLetters$State;", Cond.methodLink RX5 129 yX5_isSetting, Cond.static yX5_isSetting, Cond.initialized RX5, Cond.code yX5_isSetting cX5_isSetting 1 (some .boolean), Cond.methodLink RX5 134 yX5_isInRange, Cond.static yX5_isInRange, Cond.code yX5_isInRange cX5_isInRange 2 (some .boolean), Cond.fieldLink RX5 330 "SignLetters" "LEAST_SETTINGS" "[I", Cond.fieldLink RX5 333 "SignLetters" "MOST_SETTINGS" "[I", Cond.methodLink RX5 144 yX5_valueAt, Cond.static yX5_valueAt, Cond.code yX5_valueAt cX5_valueAt 2 (some .int), Cond.methodLink RX5 84 yX5_saveState, Cond.instanceMethod yX5_saveState, Cond.selects RX5 yX5_saveState yX5_saveState, Cond.code yX5_saveState cX5_saveState 1 none, Cond.fieldLink RX5 22 "SignLetters" "past" "LSignLetters$Past;", Cond.fieldLink RX5 55 "SignLetters" "stale" "Z", Cond.methodLink RX5 275 yX1_save]
def wsX5_set_r2 : List Cond := [Cond.instanceMethod yX1_save, Cond.selects RX1 yX1_save yX1_save, Cond.initialized RX1, Cond.code yX1_save cX1_save 3 none, Cond.fieldLink RX1 18 "SignLetters$Past" "size" "I", Cond.fieldLink RX1 22 "SignLetters$Past" "oldest" "I", Cond.methodLink RX1 25 yX1_savedAt, Cond.instanceMethod yX1_savedAt, Cond.selects RX1 yX1_savedAt yX1_savedAt, Cond.code yX1_savedAt cX1_savedAt 3 (some (.object "SignLetters$State")), Cond.fieldLink RX1 11 "SignLetters$Past" "states" "[LSignLetters$State;", Cond.methodLink RX1 29 yX3_copyFrom, Cond.instanceMethod yX3_copyFrom, Cond.selects RX3 yX3_copyFrom yX3_copyFrom, Cond.initialized RX3, Cond.code yX3_copyFrom cX3_copyFrom 2 none, Cond.fieldLink RX3 9 "SignLetters$State" "letters" "[I", Cond.fieldLink RX3 15 "SignLetters$State" "kerns" "[I", Cond.fieldLink RX3 18 "SignLetters$State" "settings" "[I", Cond.fieldLink RX3 32 "SignLetters$State" "items" "I", Cond.fieldLink RX3 21 "SignLetters$State" "boardLength" "I", Cond.static yX5_copyRow, Cond.code yX5_copyRow cX5_copyRow 3 none, Cond.methodLink RX5 148 yX5_store]
def wsX5_set_r3 : List Cond := [Cond.static yX5_store, Cond.code yX5_store cX5_store 3 none]
def wsX5_set : List Cond := .code yX5_set cX5_set 4 (some .int) :: ((wsX5_set_r1 ++ (wsX5_set_r2 ++ wsX5_set_r3)) ++ wsX50 ++ wsX30 ++ wsX10 ++ (vx_atS RX5 67 "java/lang/IndexOutOfBoundsException" ["java/lang/RuntimeException", "java/lang/Exception"]).filter goodWord ++ (vx_atS RX5 78 "java/lang/IllegalArgumentException" ["java/lang/RuntimeException", "java/lang/Exception"]).filter goodWord)
def wsX5_undo_r1 : List Cond := [Cond.classLink RX5 79 "java/lang/IllegalStateException", Cond.initialized "java/lang/IllegalStateException", Cond.fieldLink RX5 22 "SignLetters" "past" "LSignLetters$Past;", Cond.fieldLink RX5 10 "SignLetters" "state" "LSignLetters$State;", Cond.fieldLink RX5 55 "SignLetters" "stale" "Z", Cond.methodLink RX5 181 yX1_takeLatest, Cond.instanceMethod yX1_takeLatest, Cond.selects RX1 yX1_takeLatest yX1_takeLatest, Cond.initialized RX1, Cond.code yX1_takeLatest cX1_takeLatest 3 none, Cond.fieldLink RX1 18 "SignLetters$Past" "size" "I", Cond.methodLink RX1 25 yX1_savedAt, Cond.instanceMethod yX1_savedAt, Cond.selects RX1 yX1_savedAt yX1_savedAt, Cond.code yX1_savedAt cX1_savedAt 3 (some (.object "SignLetters$State")), Cond.fieldLink RX1 22 "SignLetters$Past" "oldest" "I", Cond.fieldLink RX1 11 "SignLetters$Past" "states" "[LSignLetters$State;", Cond.methodLink RX1 29 yX3_copyFrom, Cond.instanceMethod yX3_copyFrom, Cond.selects RX3 yX3_copyFrom yX3_copyFrom, Cond.initialized RX3, Cond.code yX3_copyFrom cX3_copyFrom 2 none, Cond.fieldLink RX3 9 "SignLetters$State" "letters" "[I", Cond.fieldLink RX3 15 "SignLetters$State" "kerns" "[I"]
def wsX5_undo_r2 : List Cond := [Cond.fieldLink RX3 18 "SignLetters$State" "settings" "[I", Cond.fieldLink RX3 32 "SignLetters$State" "items" "I", Cond.fieldLink RX3 21 "SignLetters$State" "boardLength" "I", Cond.static yX5_copyRow, Cond.initialized RX5, Cond.code yX5_copyRow cX5_copyRow 3 none]
def wsX5_undo : List Cond := .code yX5_undo cX5_undo 1 (some .int) :: ((wsX5_undo_r1 ++ wsX5_undo_r2) ++ wsX50 ++ wsX10 ++ wsX30 ++ (vx_atS RX5 83 "java/lang/IllegalStateException" ["java/lang/RuntimeException", "java/lang/Exception"]).filter goodWord)
def wsX5_keep : List Cond := .code yX5_keep cX5_keep 1 (some .int) :: ([.fieldLink RX5 16 "SignLetters" "snapshot" "LSignLetters$State;", .fieldLink RX5 10 "SignLetters" "state" "LSignLetters$State;", .fieldLink RX5 187 "SignLetters" "hasSnapshot" "Z", .methodLink RX5 184 yX3_copyFrom, .instanceMethod yX3_copyFrom, .selects RX3 yX3_copyFrom yX3_copyFrom, .initialized RX3, .code yX3_copyFrom cX3_copyFrom 2 none, .fieldLink RX3 9 "SignLetters$State" "letters" "[I", .fieldLink RX3 15 "SignLetters$State" "kerns" "[I", .fieldLink RX3 18 "SignLetters$State" "settings" "[I", .fieldLink RX3 32 "SignLetters$State" "items" "I", .fieldLink RX3 21 "SignLetters$State" "boardLength" "I", .static yX5_copyRow, .initialized RX5, .code yX5_copyRow cX5_copyRow 3 none] ++ wsX50 ++ wsX30)
def wsX5_restore_r1 : List Cond := [Cond.classLink RX5 79 "java/lang/IllegalStateException", Cond.initialized "java/lang/IllegalStateException", Cond.fieldLink RX5 187 "SignLetters" "hasSnapshot" "Z", Cond.fieldLink RX5 10 "SignLetters" "state" "LSignLetters$State;", Cond.fieldLink RX5 16 "SignLetters" "snapshot" "LSignLetters$State;", Cond.methodLink RX5 84 yX5_saveState, Cond.instanceMethod yX5_saveState, Cond.selects RX5 yX5_saveState yX5_saveState, Cond.initialized RX5, Cond.code yX5_saveState cX5_saveState 1 none, Cond.fieldLink RX5 22 "SignLetters" "past" "LSignLetters$Past;", Cond.fieldLink RX5 55 "SignLetters" "stale" "Z", Cond.methodLink RX5 275 yX1_save, Cond.instanceMethod yX1_save, Cond.selects RX1 yX1_save yX1_save, Cond.initialized RX1, Cond.code yX1_save cX1_save 3 none, Cond.fieldLink RX1 18 "SignLetters$Past" "size" "I", Cond.fieldLink RX1 22 "SignLetters$Past" "oldest" "I", Cond.methodLink RX1 25 yX1_savedAt, Cond.instanceMethod yX1_savedAt, Cond.selects RX1 yX1_savedAt yX1_savedAt, Cond.code yX1_savedAt cX1_savedAt 3 (some (.object "SignLetters$State")), Cond.fieldLink RX1 11 "SignLetters$Past" "states" "[LSignLetters$State;"]
def wsX5_restore_r2 : List Cond := [Cond.methodLink RX1 29 yX3_copyFrom, Cond.instanceMethod yX3_copyFrom, Cond.selects RX3 yX3_copyFrom yX3_copyFrom, Cond.initialized RX3, Cond.code yX3_copyFrom cX3_copyFrom 2 none, Cond.fieldLink RX3 9 "SignLetters$State" "letters" "[I", Cond.fieldLink RX3 15 "SignLetters$State" "kerns" "[I", Cond.fieldLink RX3 18 "SignLetters$State" "settings" "[I", Cond.fieldLink RX3 32 "SignLetters$State" "items" "I", Cond.fieldLink RX3 21 "SignLetters$State" "boardLength" "I", Cond.static yX5_copyRow, Cond.code yX5_copyRow cX5_copyRow 3 none, Cond.methodLink RX5 184 yX3_copyFrom]
def wsX5_restore : List Cond := .code yX5_restore cX5_restore 1 (some .int) :: ((wsX5_restore_r1 ++ wsX5_restore_r2) ++ wsX50 ++ wsX30 ++ wsX10 ++ (vx_atS RX5 83 "java/lang/IllegalStateException" ["java/lang/RuntimeException", "java/lang/Exception"]).filter goodWord)
def wsX5_letter : List Cond := .code yX5_letter cX5_letter 3 (some .int) :: ([.classLink RX5 63 "java/lang/IndexOutOfBoundsException", .initialized "java/lang/IndexOutOfBoundsException", .classLink RX5 74 "java/lang/IllegalArgumentException", .initialized "java/lang/IllegalArgumentException", .methodLink RX5 70 yX5_isLetter, .static yX5_isLetter, .initialized RX5, .code yX5_isLetter cX5_isLetter 1 (some .boolean), .methodLink RX5 196 yX5_widthOf, .static yX5_widthOf, .code yX5_widthOf cX5_widthOf 1 (some .int), .methodLink RX5 199 yX5_leftShape, .static yX5_leftShape, .code yX5_leftShape cX5_leftShape 1 (some .int), .methodLink RX5 202 yX5_rightShape, .static yX5_rightShape, .code yX5_rightShape cX5_rightShape 1 (some .int)] ++ (vx_atS RX5 67 "java/lang/IndexOutOfBoundsException" ["java/lang/RuntimeException", "java/lang/Exception"]).filter goodWord ++ (vx_atS RX5 78 "java/lang/IllegalArgumentException" ["java/lang/RuntimeException", "java/lang/Exception"]).filter goodWord)
def wsX5_pairNumber_r1 : List Cond := [Cond.fieldLink RX5 10 "SignLetters" "state" "LSignLetters$State;", Cond.methodLink RX5 144 yX5_valueAt, Cond.static yX5_valueAt, Cond.initialized RX5, Cond.code yX5_valueAt cX5_valueAt 2 (some .int), Cond.methodLink RX5 300 yX0_countedCells, Cond.instanceMethod yX0_countedCells, Cond.selects RX0 yX0_countedCells yX0_countedCells, Cond.initialized RX0, Cond.code yX0_countedCells cX0_countedCells 7 (some .int), Cond.fieldLink RX0 24 "SignLetters$Layout" "gaps" "[I", Cond.fieldLink RX0 36 "SignLetters$Layout" "indents" "[I", Cond.fieldLink RX0 54 "SignLetters$Layout" "rowLimit" "I", Cond.methodLink RX0 96 yX3_letterAt, Cond.instanceMethod yX3_letterAt, Cond.selects RX3 yX3_letterAt yX3_letterAt, Cond.initialized RX3, Cond.code yX3_letterAt cX3_letterAt 2 (some .int), Cond.fieldLink RX3 9 "SignLetters$State" "letters" "[I", Cond.methodLink RX3 35 yX3_has, Cond.instanceMethod yX3_has, Cond.selects RX3 yX3_has yX3_has, Cond.code yX3_has cX3_has 2 (some .boolean), Cond.fieldLink RX3 32 "SignLetters$State" "items" "I"]
def wsX5_pairNumber_r2 : List Cond := [Cond.methodLink RX0 100 yX0_joinEdges, Cond.instanceMethod yX0_joinEdges, Cond.selects RX0 yX0_joinEdges yX0_joinEdges, Cond.code yX0_joinEdges cX0_joinEdges 6 none, Cond.fieldLink RX0 33 "SignLetters$Layout" "edges" "[I", Cond.static yX5_rightShape, Cond.code yX5_rightShape cX5_rightShape 1 (some .int), Cond.static yX5_leftShape, Cond.code yX5_leftShape cX5_leftShape 1 (some .int), Cond.methodLink RX5 306 yX0_isFault, Cond.instanceMethod yX0_isFault, Cond.selects RX0 yX0_isFault yX0_isFault, Cond.code yX0_isFault cX0_isFault 2 (some .boolean), Cond.fieldLink RX0 30 "SignLetters$Layout" "shares" "[I", Cond.fieldLink RX0 64 "SignLetters$Layout" "allowedShare" "I", Cond.methodLink RX0 88 yX0_isPair, Cond.instanceMethod yX0_isPair, Cond.selects RX0 yX0_isPair yX0_isPair, Cond.code yX0_isPair cX0_isPair 2 (some .boolean), Cond.fieldLink RX0 74 "SignLetters$Layout" "items" "I"]
def wsX5_pairNumber : List Cond := .code yX5_pairNumber cX5_pairNumber 4 (some .int) :: ((wsX5_pairNumber_r1 ++ wsX5_pairNumber_r2) ++ wsX00 ++ wsX50 ++ wsX30)
def wsX5_itemNumber_r1 : List Cond := [Cond.fieldLink RX5 10 "SignLetters" "state" "LSignLetters$State;", Cond.methodLink RX5 112 yX3_letterAt, Cond.instanceMethod yX3_letterAt, Cond.selects RX3 yX3_letterAt yX3_letterAt, Cond.initialized RX3, Cond.code yX3_letterAt cX3_letterAt 2 (some .int), Cond.fieldLink RX3 9 "SignLetters$State" "letters" "[I", Cond.methodLink RX3 35 yX3_has, Cond.instanceMethod yX3_has, Cond.selects RX3 yX3_has yX3_has, Cond.code yX3_has cX3_has 2 (some .boolean), Cond.fieldLink RX3 32 "SignLetters$State" "items" "I", Cond.static yX5_valueAt, Cond.initialized RX5, Cond.code yX5_valueAt cX5_valueAt 2 (some .int), Cond.methodLink RX5 118 yX3_kernAt, Cond.instanceMethod yX3_kernAt, Cond.selects RX3 yX3_kernAt yX3_kernAt, Cond.code yX3_kernAt cX3_kernAt 2 (some .int), Cond.fieldLink RX3 15 "SignLetters$State" "kerns" "[I", Cond.methodLink RX5 144 yX5_valueAt, Cond.methodLink RX5 288 yX0_isPair, Cond.instanceMethod yX0_isPair, Cond.selects RX0 yX0_isPair yX0_isPair]
def wsX5_itemNumber_r2 : List Cond := [Cond.initialized RX0, Cond.code yX0_isPair cX0_isPair 2 (some .boolean), Cond.fieldLink RX0 74 "SignLetters$Layout" "items" "I", Cond.fieldLink RX0 24 "SignLetters$Layout" "gaps" "[I", Cond.methodLink RX5 291 yX5_pairNumber, Cond.instanceMethod yX5_pairNumber, Cond.selects RX5 yX5_pairNumber yX5_pairNumber, Cond.code yX5_pairNumber cX5_pairNumber 4 (some .int), Cond.methodLink RX5 300 yX0_countedCells, Cond.instanceMethod yX0_countedCells, Cond.selects RX0 yX0_countedCells yX0_countedCells, Cond.code yX0_countedCells cX0_countedCells 7 (some .int), Cond.fieldLink RX0 36 "SignLetters$Layout" "indents" "[I", Cond.fieldLink RX0 54 "SignLetters$Layout" "rowLimit" "I", Cond.methodLink RX0 96 yX3_letterAt, Cond.methodLink RX0 100 yX0_joinEdges, Cond.instanceMethod yX0_joinEdges, Cond.selects RX0 yX0_joinEdges yX0_joinEdges, Cond.code yX0_joinEdges cX0_joinEdges 6 none, Cond.fieldLink RX0 33 "SignLetters$Layout" "edges" "[I", Cond.static yX5_rightShape, Cond.code yX5_rightShape cX5_rightShape 1 (some .int), Cond.static yX5_leftShape, Cond.code yX5_leftShape cX5_leftShape 1 (some .int)]
def wsX5_itemNumber_r3 : List Cond := [Cond.methodLink RX5 306 yX0_isFault, Cond.instanceMethod yX0_isFault, Cond.selects RX0 yX0_isFault yX0_isFault, Cond.code yX0_isFault cX0_isFault 2 (some .boolean), Cond.fieldLink RX0 30 "SignLetters$Layout" "shares" "[I", Cond.fieldLink RX0 64 "SignLetters$Layout" "allowedShare" "I", Cond.methodLink RX0 88 yX0_isPair]
def wsX5_itemNumber : List Cond := .code yX5_itemNumber cX5_itemNumber 5 (some .int) :: ((wsX5_itemNumber_r1 ++ (wsX5_itemNumber_r2 ++ wsX5_itemNumber_r3)) ++ wsX50 ++ wsX00 ++ wsX30)
def wsX5_item_r1 : List Cond := [Cond.classLink RX5 63 "java/lang/IndexOutOfBoundsException", Cond.initialized "java/lang/IndexOutOfBoundsException", Cond.classLink RX5 74 "java/lang/IllegalArgumentException", Cond.initialized "java/lang/IllegalArgumentException", Cond.fieldLink RX5 10 "SignLetters" "state" "LSignLetters$State;", Cond.methodLink RX5 91 yX3_has, Cond.instanceMethod yX3_has, Cond.selects RX3 yX3_has yX3_has, Cond.initialized RX3, Cond.code yX3_has cX3_has 2 (some .boolean), Cond.fieldLink RX3 32 "SignLetters$State" "items" "I", Cond.methodLink RX5 103 yX5_look, Cond.instanceMethod yX5_look, Cond.selects RX5 yX5_look yX5_look, Cond.initialized RX5, Cond.code yX5_look cX5_look 1 (some (.object "SignLetters$Layout")), Cond.fieldLink RX5 55 "SignLetters" "stale" "Z", Cond.fieldLink RX5 36 "SignLetters" "shown" "LSignLetters$Layout;", Cond.fieldLink RX5 48 "SignLetters" "areaRanking" "LSignLetters$Ranking;", Cond.fieldLink RX5 52 "SignLetters" "faultRanking" "LSignLetters$Ranking;", Cond.methodLink RX5 226 yX0_lay, Cond.instanceMethod yX0_lay, Cond.selects RX0 yX0_lay yX0_lay, Cond.initialized RX0]
def wsX5_item_r2 : List Cond := [Cond.code yX0_lay cX0_lay 5 none, Cond.fieldLink RX0 9 "SignLetters$Layout" "settings" "[I", Cond.fieldLink RX0 54 "SignLetters$Layout" "rowLimit" "I", Cond.fieldLink RX0 58 "SignLetters$Layout" "wantedArea" "I", Cond.fieldLink RX0 61 "SignLetters$Layout" "snap" "I", Cond.fieldLink RX0 64 "SignLetters$Layout" "allowedShare" "I", Cond.fieldLink RX0 74 "SignLetters$Layout" "items" "I", Cond.fieldLink RX0 75 "SignLetters$Layout" "pairs" "I", Cond.fieldLink RX0 78 "SignLetters$Layout" "faults" "I", Cond.fieldLink RX0 81 "SignLetters$Layout" "width" "I", Cond.static yX5_copyRow, Cond.code yX5_copyRow cX5_copyRow 3 none, Cond.static yX5_store, Cond.code yX5_store cX5_store 3 none, Cond.static yX5_valueAt, Cond.code yX5_valueAt cX5_valueAt 2 (some .int), Cond.methodLink RX0 67 yX0_brushEdges, Cond.instanceMethod yX0_brushEdges, Cond.selects RX0 yX0_brushEdges yX0_brushEdges, Cond.code yX0_brushEdges cX0_brushEdges 3 none, Cond.fieldLink RX0 33 "SignLetters$Layout" "edges" "[I", Cond.static yX5_brushedIndent, Cond.code yX5_brushedIndent cX5_brushedIndent 4 (some .int), Cond.methodLink RX5 326 yX5_plainIndent]
def wsX5_item_r3 : List Cond := [Cond.static yX5_plainIndent, Cond.code yX5_plainIndent cX5_plainIndent 2 (some .int), Cond.methodLink RX0 84 yX0_layItem, Cond.instanceMethod yX0_layItem, Cond.selects RX0 yX0_layItem yX0_layItem, Cond.code yX0_layItem cX0_layItem 6 none, Cond.fieldLink RX0 15 "SignLetters$Layout" "begins" "[I", Cond.fieldLink RX0 18 "SignLetters$Layout" "ends" "[I", Cond.methodLink RX0 96 yX3_letterAt, Cond.instanceMethod yX3_letterAt, Cond.selects RX3 yX3_letterAt yX3_letterAt, Cond.code yX3_letterAt cX3_letterAt 2 (some .int), Cond.fieldLink RX3 9 "SignLetters$State" "letters" "[I", Cond.methodLink RX3 35 yX3_has, Cond.methodLink RX0 100 yX0_joinEdges, Cond.instanceMethod yX0_joinEdges, Cond.selects RX0 yX0_joinEdges yX0_joinEdges, Cond.code yX0_joinEdges cX0_joinEdges 6 none, Cond.fieldLink RX0 36 "SignLetters$Layout" "indents" "[I", Cond.static yX5_rightShape, Cond.code yX5_rightShape cX5_rightShape 1 (some .int), Cond.static yX5_leftShape, Cond.code yX5_leftShape cX5_leftShape 1 (some .int), Cond.methodLink RX0 104 yX3_kernAt]
def wsX5_item_r4 : List Cond := [Cond.instanceMethod yX3_kernAt, Cond.selects RX3 yX3_kernAt yX3_kernAt, Cond.code yX3_kernAt cX3_kernAt 2 (some .int), Cond.fieldLink RX3 15 "SignLetters$State" "kerns" "[I", Cond.methodLink RX0 107 yX0_layPair, Cond.instanceMethod yX0_layPair, Cond.selects RX0 yX0_layPair yX0_layPair, Cond.code yX0_layPair cX0_layPair 7 (some .int), Cond.fieldLink RX0 21 "SignLetters$Layout" "leastGaps" "[I", Cond.methodLink RX0 121 yX0_leastGap, Cond.instanceMethod yX0_leastGap, Cond.selects RX0 yX0_leastGap yX0_leastGap, Cond.code yX0_leastGap cX0_leastGap 2 (some .int), Cond.methodLink RX0 128 yX0_areaBy, Cond.instanceMethod yX0_areaBy, Cond.selects RX0 yX0_areaBy yX0_areaBy, Cond.code yX0_areaBy cX0_areaBy 5 (some .int), Cond.methodLink RX0 125 yX0_gapBehind, Cond.instanceMethod yX0_gapBehind, Cond.selects RX0 yX0_gapBehind yX0_gapBehind, Cond.code yX0_gapBehind cX0_gapBehind 3 (some .int), Cond.methodLink RX0 111 yX0_snapped, Cond.instanceMethod yX0_snapped, Cond.selects RX0 yX0_snapped yX0_snapped]
def wsX5_item_r5 : List Cond := [Cond.code yX0_snapped cX0_snapped 3 (some .int), Cond.methodLink RX0 131 yX0_shareOf, Cond.instanceMethod yX0_shareOf, Cond.selects RX0 yX0_shareOf yX0_shareOf, Cond.code yX0_shareOf cX0_shareOf 3 (some .int), Cond.methodLink RX0 114 yX0_storePair, Cond.instanceMethod yX0_storePair, Cond.selects RX0 yX0_storePair yX0_storePair, Cond.code yX0_storePair cX0_storePair 5 none, Cond.fieldLink RX0 24 "SignLetters$Layout" "gaps" "[I", Cond.fieldLink RX0 27 "SignLetters$Layout" "areas" "[I", Cond.fieldLink RX0 30 "SignLetters$Layout" "shares" "[I", Cond.static yX5_widthOf, Cond.code yX5_widthOf cX5_widthOf 1 (some .int), Cond.methodLink RX5 278 yX2_rank, Cond.instanceMethod yX2_rank, Cond.selects RX2 yX2_rank yX2_rank, Cond.initialized RX2, Cond.code yX2_rank cX2_rank 3 none, Cond.fieldLink RX2 19 "SignLetters$Ranking" "size" "I", Cond.methodLink RX2 28 yX0_isPair, Cond.instanceMethod yX0_isPair, Cond.selects RX0 yX0_isPair yX0_isPair, Cond.code yX0_isPair cX0_isPair 2 (some .boolean)]
def wsX5_item_r6 : List Cond := [Cond.methodLink RX2 32 yX2_enter, Cond.instanceMethod yX2_enter, Cond.selects RX2 yX2_enter yX2_enter, Cond.code yX2_enter cX2_enter 6 none, Cond.fieldLink RX2 9 "SignLetters$Ranking" "places" "[I", Cond.methodLink RX2 40 yX2_comesBefore, Cond.instanceMethod yX2_comesBefore, Cond.selects RX2 yX2_comesBefore yX2_comesBefore, Cond.code yX2_comesBefore cX2_comesBefore 8 (some .boolean), Cond.fieldLink RX2 15 "SignLetters$Ranking" "ofFaults" "Z", Cond.methodLink RX5 211 yX5_itemNumber, Cond.instanceMethod yX5_itemNumber, Cond.selects RX5 yX5_itemNumber yX5_itemNumber, Cond.code yX5_itemNumber cX5_itemNumber 5 (some .int), Cond.methodLink RX5 112 yX3_letterAt, Cond.methodLink RX5 118 yX3_kernAt, Cond.methodLink RX5 144 yX5_valueAt, Cond.methodLink RX5 288 yX0_isPair, Cond.methodLink RX5 291 yX5_pairNumber, Cond.instanceMethod yX5_pairNumber, Cond.selects RX5 yX5_pairNumber yX5_pairNumber, Cond.code yX5_pairNumber cX5_pairNumber 4 (some .int), Cond.methodLink RX5 300 yX0_countedCells, Cond.instanceMethod yX0_countedCells]
def wsX5_item_r7 : List Cond := [Cond.selects RX0 yX0_countedCells yX0_countedCells, Cond.code yX0_countedCells cX0_countedCells 7 (some .int), Cond.methodLink RX5 306 yX0_isFault, Cond.instanceMethod yX0_isFault, Cond.selects RX0 yX0_isFault yX0_isFault, Cond.code yX0_isFault cX0_isFault 2 (some .boolean), Cond.methodLink RX0 88 yX0_isPair]
def wsX5_item : List Cond := .code yX5_item cX5_item 3 (some .int) :: ((wsX5_item_r1 ++ (wsX5_item_r2 ++ (wsX5_item_r3 ++ (wsX5_item_r4 ++ (wsX5_item_r5 ++ (wsX5_item_r6 ++ wsX5_item_r7)))))) ++ wsX50 ++ wsX30 ++ wsX00 ++ wsX20 ++ (vx_atS RX5 67 "java/lang/IndexOutOfBoundsException" ["java/lang/RuntimeException", "java/lang/Exception"]).filter goodWord ++ (vx_atS RX5 78 "java/lang/IllegalArgumentException" ["java/lang/RuntimeException", "java/lang/Exception"]).filter goodWord)
def wsX5_byArea_r1 : List Cond := [Cond.classLink RX5 74 "java/lang/IllegalArgumentException", Cond.initialized "java/lang/IllegalArgumentException", Cond.fieldLink RX5 48 "SignLetters" "areaRanking" "LSignLetters$Ranking;", Cond.methodLink RX5 103 yX5_look, Cond.instanceMethod yX5_look, Cond.selects RX5 yX5_look yX5_look, Cond.initialized RX5, Cond.code yX5_look cX5_look 1 (some (.object "SignLetters$Layout")), Cond.fieldLink RX5 55 "SignLetters" "stale" "Z", Cond.fieldLink RX5 36 "SignLetters" "shown" "LSignLetters$Layout;", Cond.fieldLink RX5 10 "SignLetters" "state" "LSignLetters$State;", Cond.fieldLink RX5 52 "SignLetters" "faultRanking" "LSignLetters$Ranking;", Cond.methodLink RX5 226 yX0_lay, Cond.instanceMethod yX0_lay, Cond.selects RX0 yX0_lay yX0_lay, Cond.initialized RX0, Cond.code yX0_lay cX0_lay 5 none, Cond.fieldLink RX0 9 "SignLetters$Layout" "settings" "[I", Cond.fieldLink RX0 54 "SignLetters$Layout" "rowLimit" "I", Cond.fieldLink RX0 58 "SignLetters$Layout" "wantedArea" "I", Cond.fieldLink RX0 61 "SignLetters$Layout" "snap" "I", Cond.fieldLink RX0 64 "SignLetters$Layout" "allowedShare" "I", Cond.fieldLink RX0 74 "SignLetters$Layout" "items" "I", Cond.fieldLink RX0 75 "SignLetters$Layout" "pairs" "I"]
def wsX5_byArea_r2 : List Cond := [Cond.fieldLink RX0 78 "SignLetters$Layout" "faults" "I", Cond.fieldLink RX0 81 "SignLetters$Layout" "width" "I", Cond.static yX5_copyRow, Cond.code yX5_copyRow cX5_copyRow 3 none, Cond.static yX5_store, Cond.code yX5_store cX5_store 3 none, Cond.static yX5_valueAt, Cond.code yX5_valueAt cX5_valueAt 2 (some .int), Cond.methodLink RX0 67 yX0_brushEdges, Cond.instanceMethod yX0_brushEdges, Cond.selects RX0 yX0_brushEdges yX0_brushEdges, Cond.code yX0_brushEdges cX0_brushEdges 3 none, Cond.fieldLink RX0 33 "SignLetters$Layout" "edges" "[I", Cond.static yX5_brushedIndent, Cond.code yX5_brushedIndent cX5_brushedIndent 4 (some .int), Cond.methodLink RX5 326 yX5_plainIndent, Cond.static yX5_plainIndent, Cond.code yX5_plainIndent cX5_plainIndent 2 (some .int), Cond.methodLink RX0 84 yX0_layItem, Cond.instanceMethod yX0_layItem, Cond.selects RX0 yX0_layItem yX0_layItem, Cond.code yX0_layItem cX0_layItem 6 none, Cond.fieldLink RX0 15 "SignLetters$Layout" "begins" "[I", Cond.fieldLink RX0 18 "SignLetters$Layout" "ends" "[I"]
def wsX5_byArea_r3 : List Cond := [Cond.methodLink RX0 96 yX3_letterAt, Cond.instanceMethod yX3_letterAt, Cond.selects RX3 yX3_letterAt yX3_letterAt, Cond.initialized RX3, Cond.code yX3_letterAt cX3_letterAt 2 (some .int), Cond.fieldLink RX3 9 "SignLetters$State" "letters" "[I", Cond.methodLink RX3 35 yX3_has, Cond.instanceMethod yX3_has, Cond.selects RX3 yX3_has yX3_has, Cond.code yX3_has cX3_has 2 (some .boolean), Cond.fieldLink RX3 32 "SignLetters$State" "items" "I", Cond.methodLink RX0 100 yX0_joinEdges, Cond.instanceMethod yX0_joinEdges, Cond.selects RX0 yX0_joinEdges yX0_joinEdges, Cond.code yX0_joinEdges cX0_joinEdges 6 none, Cond.fieldLink RX0 36 "SignLetters$Layout" "indents" "[I", Cond.static yX5_rightShape, Cond.code yX5_rightShape cX5_rightShape 1 (some .int), Cond.static yX5_leftShape, Cond.code yX5_leftShape cX5_leftShape 1 (some .int), Cond.methodLink RX0 104 yX3_kernAt, Cond.instanceMethod yX3_kernAt, Cond.selects RX3 yX3_kernAt yX3_kernAt, Cond.code yX3_kernAt cX3_kernAt 2 (some .int)]
def wsX5_byArea_r4 : List Cond := [Cond.fieldLink RX3 15 "SignLetters$State" "kerns" "[I", Cond.methodLink RX0 107 yX0_layPair, Cond.instanceMethod yX0_layPair, Cond.selects RX0 yX0_layPair yX0_layPair, Cond.code yX0_layPair cX0_layPair 7 (some .int), Cond.fieldLink RX0 21 "SignLetters$Layout" "leastGaps" "[I", Cond.methodLink RX0 121 yX0_leastGap, Cond.instanceMethod yX0_leastGap, Cond.selects RX0 yX0_leastGap yX0_leastGap, Cond.code yX0_leastGap cX0_leastGap 2 (some .int), Cond.methodLink RX0 128 yX0_areaBy, Cond.instanceMethod yX0_areaBy, Cond.selects RX0 yX0_areaBy yX0_areaBy, Cond.code yX0_areaBy cX0_areaBy 5 (some .int), Cond.methodLink RX0 125 yX0_gapBehind, Cond.instanceMethod yX0_gapBehind, Cond.selects RX0 yX0_gapBehind yX0_gapBehind, Cond.code yX0_gapBehind cX0_gapBehind 3 (some .int), Cond.methodLink RX0 111 yX0_snapped, Cond.instanceMethod yX0_snapped, Cond.selects RX0 yX0_snapped yX0_snapped, Cond.code yX0_snapped cX0_snapped 3 (some .int), Cond.methodLink RX0 131 yX0_shareOf, Cond.instanceMethod yX0_shareOf]
def wsX5_byArea_r5 : List Cond := [Cond.selects RX0 yX0_shareOf yX0_shareOf, Cond.code yX0_shareOf cX0_shareOf 3 (some .int), Cond.methodLink RX0 114 yX0_storePair, Cond.instanceMethod yX0_storePair, Cond.selects RX0 yX0_storePair yX0_storePair, Cond.code yX0_storePair cX0_storePair 5 none, Cond.fieldLink RX0 24 "SignLetters$Layout" "gaps" "[I", Cond.fieldLink RX0 27 "SignLetters$Layout" "areas" "[I", Cond.fieldLink RX0 30 "SignLetters$Layout" "shares" "[I", Cond.static yX5_widthOf, Cond.code yX5_widthOf cX5_widthOf 1 (some .int), Cond.methodLink RX5 278 yX2_rank, Cond.instanceMethod yX2_rank, Cond.selects RX2 yX2_rank yX2_rank, Cond.initialized RX2, Cond.code yX2_rank cX2_rank 3 none, Cond.fieldLink RX2 19 "SignLetters$Ranking" "size" "I", Cond.methodLink RX2 28 yX0_isPair, Cond.instanceMethod yX0_isPair, Cond.selects RX0 yX0_isPair yX0_isPair, Cond.code yX0_isPair cX0_isPair 2 (some .boolean), Cond.methodLink RX2 32 yX2_enter, Cond.instanceMethod yX2_enter, Cond.selects RX2 yX2_enter yX2_enter]
def wsX5_byArea_r6 : List Cond := [Cond.code yX2_enter cX2_enter 6 none, Cond.fieldLink RX2 9 "SignLetters$Ranking" "places" "[I", Cond.methodLink RX2 40 yX2_comesBefore, Cond.instanceMethod yX2_comesBefore, Cond.selects RX2 yX2_comesBefore yX2_comesBefore, Cond.code yX2_comesBefore cX2_comesBefore 8 (some .boolean), Cond.fieldLink RX2 15 "SignLetters$Ranking" "ofFaults" "Z", Cond.methodLink RX5 217 yX2_placeAt, Cond.instanceMethod yX2_placeAt, Cond.selects RX2 yX2_placeAt yX2_placeAt, Cond.code yX2_placeAt cX2_placeAt 2 (some .int)]
def wsX5_byArea : List Cond := .code yX5_byArea cX5_byArea 2 (some .int) :: ((wsX5_byArea_r1 ++ (wsX5_byArea_r2 ++ (wsX5_byArea_r3 ++ (wsX5_byArea_r4 ++ (wsX5_byArea_r5 ++ wsX5_byArea_r6))))) ++ wsX50 ++ wsX30 ++ wsX00 ++ wsX20 ++ (vx_atS RX5 78 "java/lang/IllegalArgumentException" ["java/lang/RuntimeException", "java/lang/Exception"]).filter goodWord)
def wsX5_byFault_r1 : List Cond := [Cond.classLink RX5 74 "java/lang/IllegalArgumentException", Cond.initialized "java/lang/IllegalArgumentException", Cond.fieldLink RX5 52 "SignLetters" "faultRanking" "LSignLetters$Ranking;", Cond.methodLink RX5 103 yX5_look, Cond.instanceMethod yX5_look, Cond.selects RX5 yX5_look yX5_look, Cond.initialized RX5, Cond.code yX5_look cX5_look 1 (some (.object "SignLetters$Layout")), Cond.fieldLink RX5 55 "SignLetters" "stale" "Z", Cond.fieldLink RX5 36 "SignLetters" "shown" "LSignLetters$Layout;", Cond.fieldLink RX5 10 "SignLetters" "state" "LSignLetters$State;", Cond.fieldLink RX5 48 "SignLetters" "areaRanking" "LSignLetters$Ranking;", Cond.methodLink RX5 226 yX0_lay, Cond.instanceMethod yX0_lay, Cond.selects RX0 yX0_lay yX0_lay, Cond.initialized RX0, Cond.code yX0_lay cX0_lay 5 none, Cond.fieldLink RX0 9 "SignLetters$Layout" "settings" "[I", Cond.fieldLink RX0 54 "SignLetters$Layout" "rowLimit" "I", Cond.fieldLink RX0 58 "SignLetters$Layout" "wantedArea" "I", Cond.fieldLink RX0 61 "SignLetters$Layout" "snap" "I", Cond.fieldLink RX0 64 "SignLetters$Layout" "allowedShare" "I", Cond.fieldLink RX0 74 "SignLetters$Layout" "items" "I", Cond.fieldLink RX0 75 "SignLetters$Layout" "pairs" "I"]
def wsX5_byFault_r2 : List Cond := [Cond.fieldLink RX0 78 "SignLetters$Layout" "faults" "I", Cond.fieldLink RX0 81 "SignLetters$Layout" "width" "I", Cond.static yX5_copyRow, Cond.code yX5_copyRow cX5_copyRow 3 none, Cond.static yX5_store, Cond.code yX5_store cX5_store 3 none, Cond.static yX5_valueAt, Cond.code yX5_valueAt cX5_valueAt 2 (some .int), Cond.methodLink RX0 67 yX0_brushEdges, Cond.instanceMethod yX0_brushEdges, Cond.selects RX0 yX0_brushEdges yX0_brushEdges, Cond.code yX0_brushEdges cX0_brushEdges 3 none, Cond.fieldLink RX0 33 "SignLetters$Layout" "edges" "[I", Cond.static yX5_brushedIndent, Cond.code yX5_brushedIndent cX5_brushedIndent 4 (some .int), Cond.methodLink RX5 326 yX5_plainIndent, Cond.static yX5_plainIndent, Cond.code yX5_plainIndent cX5_plainIndent 2 (some .int), Cond.methodLink RX0 84 yX0_layItem, Cond.instanceMethod yX0_layItem, Cond.selects RX0 yX0_layItem yX0_layItem, Cond.code yX0_layItem cX0_layItem 6 none, Cond.fieldLink RX0 15 "SignLetters$Layout" "begins" "[I", Cond.fieldLink RX0 18 "SignLetters$Layout" "ends" "[I"]
def wsX5_byFault_r3 : List Cond := [Cond.methodLink RX0 96 yX3_letterAt, Cond.instanceMethod yX3_letterAt, Cond.selects RX3 yX3_letterAt yX3_letterAt, Cond.initialized RX3, Cond.code yX3_letterAt cX3_letterAt 2 (some .int), Cond.fieldLink RX3 9 "SignLetters$State" "letters" "[I", Cond.methodLink RX3 35 yX3_has, Cond.instanceMethod yX3_has, Cond.selects RX3 yX3_has yX3_has, Cond.code yX3_has cX3_has 2 (some .boolean), Cond.fieldLink RX3 32 "SignLetters$State" "items" "I", Cond.methodLink RX0 100 yX0_joinEdges, Cond.instanceMethod yX0_joinEdges, Cond.selects RX0 yX0_joinEdges yX0_joinEdges, Cond.code yX0_joinEdges cX0_joinEdges 6 none, Cond.fieldLink RX0 36 "SignLetters$Layout" "indents" "[I", Cond.static yX5_rightShape, Cond.code yX5_rightShape cX5_rightShape 1 (some .int), Cond.static yX5_leftShape, Cond.code yX5_leftShape cX5_leftShape 1 (some .int), Cond.methodLink RX0 104 yX3_kernAt, Cond.instanceMethod yX3_kernAt, Cond.selects RX3 yX3_kernAt yX3_kernAt, Cond.code yX3_kernAt cX3_kernAt 2 (some .int)]
def wsX5_byFault_r4 : List Cond := [Cond.fieldLink RX3 15 "SignLetters$State" "kerns" "[I", Cond.methodLink RX0 107 yX0_layPair, Cond.instanceMethod yX0_layPair, Cond.selects RX0 yX0_layPair yX0_layPair, Cond.code yX0_layPair cX0_layPair 7 (some .int), Cond.fieldLink RX0 21 "SignLetters$Layout" "leastGaps" "[I", Cond.methodLink RX0 121 yX0_leastGap, Cond.instanceMethod yX0_leastGap, Cond.selects RX0 yX0_leastGap yX0_leastGap, Cond.code yX0_leastGap cX0_leastGap 2 (some .int), Cond.methodLink RX0 128 yX0_areaBy, Cond.instanceMethod yX0_areaBy, Cond.selects RX0 yX0_areaBy yX0_areaBy, Cond.code yX0_areaBy cX0_areaBy 5 (some .int), Cond.methodLink RX0 125 yX0_gapBehind, Cond.instanceMethod yX0_gapBehind, Cond.selects RX0 yX0_gapBehind yX0_gapBehind, Cond.code yX0_gapBehind cX0_gapBehind 3 (some .int), Cond.methodLink RX0 111 yX0_snapped, Cond.instanceMethod yX0_snapped, Cond.selects RX0 yX0_snapped yX0_snapped, Cond.code yX0_snapped cX0_snapped 3 (some .int), Cond.methodLink RX0 131 yX0_shareOf, Cond.instanceMethod yX0_shareOf]
def wsX5_byFault_r5 : List Cond := [Cond.selects RX0 yX0_shareOf yX0_shareOf, Cond.code yX0_shareOf cX0_shareOf 3 (some .int), Cond.methodLink RX0 114 yX0_storePair, Cond.instanceMethod yX0_storePair, Cond.selects RX0 yX0_storePair yX0_storePair, Cond.code yX0_storePair cX0_storePair 5 none, Cond.fieldLink RX0 24 "SignLetters$Layout" "gaps" "[I", Cond.fieldLink RX0 27 "SignLetters$Layout" "areas" "[I", Cond.fieldLink RX0 30 "SignLetters$Layout" "shares" "[I", Cond.static yX5_widthOf, Cond.code yX5_widthOf cX5_widthOf 1 (some .int), Cond.methodLink RX5 278 yX2_rank, Cond.instanceMethod yX2_rank, Cond.selects RX2 yX2_rank yX2_rank, Cond.initialized RX2, Cond.code yX2_rank cX2_rank 3 none, Cond.fieldLink RX2 19 "SignLetters$Ranking" "size" "I", Cond.methodLink RX2 28 yX0_isPair, Cond.instanceMethod yX0_isPair, Cond.selects RX0 yX0_isPair yX0_isPair, Cond.code yX0_isPair cX0_isPair 2 (some .boolean), Cond.methodLink RX2 32 yX2_enter, Cond.instanceMethod yX2_enter, Cond.selects RX2 yX2_enter yX2_enter]
def wsX5_byFault_r6 : List Cond := [Cond.code yX2_enter cX2_enter 6 none, Cond.fieldLink RX2 9 "SignLetters$Ranking" "places" "[I", Cond.methodLink RX2 40 yX2_comesBefore, Cond.instanceMethod yX2_comesBefore, Cond.selects RX2 yX2_comesBefore yX2_comesBefore, Cond.code yX2_comesBefore cX2_comesBefore 8 (some .boolean), Cond.fieldLink RX2 15 "SignLetters$Ranking" "ofFaults" "Z", Cond.methodLink RX5 217 yX2_placeAt, Cond.instanceMethod yX2_placeAt, Cond.selects RX2 yX2_placeAt yX2_placeAt, Cond.code yX2_placeAt cX2_placeAt 2 (some .int)]
def wsX5_byFault : List Cond := .code yX5_byFault cX5_byFault 2 (some .int) :: ((wsX5_byFault_r1 ++ (wsX5_byFault_r2 ++ (wsX5_byFault_r3 ++ (wsX5_byFault_r4 ++ (wsX5_byFault_r5 ++ wsX5_byFault_r6))))) ++ wsX50 ++ wsX30 ++ wsX00 ++ wsX20 ++ (vx_atS RX5 78 "java/lang/IllegalArgumentException" ["java/lang/RuntimeException", "java/lang/Exception"]).filter goodWord)
def wsX5_areaOf : List Cond := .code yX5_areaOf cX5_areaOf 2 (some .int) :: ([.methodLink RX5 288 yX0_isPair, .instanceMethod yX0_isPair, .selects RX0 yX0_isPair yX0_isPair, .initialized RX0, .code yX0_isPair cX0_isPair 2 (some .boolean), .fieldLink RX0 74 "SignLetters$Layout" "items" "I", .fieldLink RX0 24 "SignLetters$Layout" "gaps" "[I", .static yX5_valueAt, .initialized RX5, .code yX5_valueAt cX5_valueAt 2 (some .int), .methodLink RX5 144 yX5_valueAt] ++ wsX00)
def wsX5_lineNumber_r1 : List Cond := [Cond.fieldLink RX5 10 "SignLetters" "state" "LSignLetters$State;", Cond.fieldLink RX5 48 "SignLetters" "areaRanking" "LSignLetters$Ranking;", Cond.fieldLink RX5 22 "SignLetters" "past" "LSignLetters$Past;", Cond.methodLink RX5 309 yX3_countLetters, Cond.instanceMethod yX3_countLetters, Cond.selects RX3 yX3_countLetters yX3_countLetters, Cond.initialized RX3, Cond.code yX3_countLetters cX3_countLetters 3 (some .int), Cond.fieldLink RX3 32 "SignLetters$State" "items" "I", Cond.methodLink RX3 47 yX3_letterAt, Cond.instanceMethod yX3_letterAt, Cond.selects RX3 yX3_letterAt yX3_letterAt, Cond.code yX3_letterAt cX3_letterAt 2 (some .int), Cond.fieldLink RX3 9 "SignLetters$State" "letters" "[I", Cond.methodLink RX3 35 yX3_has, Cond.instanceMethod yX3_has, Cond.selects RX3 yX3_has yX3_has, Cond.code yX3_has cX3_has 2 (some .boolean), Cond.static yX5_valueAt, Cond.initialized RX5, Cond.code yX5_valueAt cX5_valueAt 2 (some .int), Cond.methodLink RX5 217 yX2_placeAt, Cond.instanceMethod yX2_placeAt, Cond.selects RX2 yX2_placeAt yX2_placeAt]
def wsX5_lineNumber_r2 : List Cond := [Cond.initialized RX2, Cond.code yX2_placeAt cX2_placeAt 2 (some .int), Cond.fieldLink RX2 19 "SignLetters$Ranking" "size" "I", Cond.fieldLink RX2 9 "SignLetters$Ranking" "places" "[I", Cond.methodLink RX5 312 yX5_areaOf, Cond.static yX5_areaOf, Cond.code yX5_areaOf cX5_areaOf 2 (some .int), Cond.methodLink RX5 288 yX0_isPair, Cond.instanceMethod yX0_isPair, Cond.selects RX0 yX0_isPair yX0_isPair, Cond.initialized RX0, Cond.code yX0_isPair cX0_isPair 2 (some .boolean), Cond.fieldLink RX0 74 "SignLetters$Layout" "items" "I", Cond.fieldLink RX0 24 "SignLetters$Layout" "gaps" "[I", Cond.methodLink RX5 144 yX5_valueAt]
def wsX5_lineNumber : List Cond := .code yX5_lineNumber cX5_lineNumber 3 (some .int) :: ((wsX5_lineNumber_r1 ++ wsX5_lineNumber_r2) ++ wsX50 ++ wsX30 ++ wsX00 ++ wsX10 ++ wsX20)
def wsX5_count_r1 : List Cond := [Cond.classLink RX5 74 "java/lang/IllegalArgumentException", Cond.initialized "java/lang/IllegalArgumentException", Cond.methodLink RX5 103 yX5_look, Cond.instanceMethod yX5_look, Cond.selects RX5 yX5_look yX5_look, Cond.initialized RX5, Cond.code yX5_look cX5_look 1 (some (.object "SignLetters$Layout")), Cond.fieldLink RX5 55 "SignLetters" "stale" "Z", Cond.fieldLink RX5 36 "SignLetters" "shown" "LSignLetters$Layout;", Cond.fieldLink RX5 10 "SignLetters" "state" "LSignLetters$State;", Cond.fieldLink RX5 48 "SignLetters" "areaRanking" "LSignLetters$Ranking;", Cond.fieldLink RX5 52 "SignLetters" "faultRanking" "LSignLetters$Ranking;", Cond.methodLink RX5 226 yX0_lay, Cond.instanceMethod yX0_lay, Cond.selects RX0 yX0_lay yX0_lay, Cond.initialized RX0, Cond.code yX0_lay cX0_lay 5 none, Cond.fieldLink RX0 9 "SignLetters$Layout" "settings" "[I", Cond.fieldLink RX0 54 "SignLetters$Layout" "rowLimit" "I", Cond.fieldLink RX0 58 "SignLetters$Layout" "wantedArea" "I", Cond.fieldLink RX0 61 "SignLetters$Layout" "snap" "I", Cond.fieldLink RX0 64 "SignLetters$Layout" "allowedShare" "I", Cond.fieldLink RX0 74 "SignLetters$Layout" "items" "I", Cond.fieldLink RX0 75 "SignLetters$Layout" "pairs" "I"]
def wsX5_count_r2 : List Cond := [Cond.fieldLink RX0 78 "SignLetters$Layout" "faults" "I", Cond.fieldLink RX0 81 "SignLetters$Layout" "width" "I", Cond.static yX5_copyRow, Cond.code yX5_copyRow cX5_copyRow 3 none, Cond.static yX5_store, Cond.code yX5_store cX5_store 3 none, Cond.static yX5_valueAt, Cond.code yX5_valueAt cX5_valueAt 2 (some .int), Cond.methodLink RX0 67 yX0_brushEdges, Cond.instanceMethod yX0_brushEdges, Cond.selects RX0 yX0_brushEdges yX0_brushEdges, Cond.code yX0_brushEdges cX0_brushEdges 3 none, Cond.fieldLink RX0 33 "SignLetters$Layout" "edges" "[I", Cond.static yX5_brushedIndent, Cond.code yX5_brushedIndent cX5_brushedIndent 4 (some .int), Cond.methodLink RX5 326 yX5_plainIndent, Cond.static yX5_plainIndent, Cond.code yX5_plainIndent cX5_plainIndent 2 (some .int), Cond.methodLink RX0 84 yX0_layItem, Cond.instanceMethod yX0_layItem, Cond.selects RX0 yX0_layItem yX0_layItem, Cond.code yX0_layItem cX0_layItem 6 none, Cond.fieldLink RX0 15 "SignLetters$Layout" "begins" "[I", Cond.fieldLink RX0 18 "SignLetters$Layout" "ends" "[I"]
def wsX5_count_r3 : List Cond := [Cond.methodLink RX0 96 yX3_letterAt, Cond.instanceMethod yX3_letterAt, Cond.selects RX3 yX3_letterAt yX3_letterAt, Cond.initialized RX3, Cond.code yX3_letterAt cX3_letterAt 2 (some .int), Cond.fieldLink RX3 9 "SignLetters$State" "letters" "[I", Cond.methodLink RX3 35 yX3_has, Cond.instanceMethod yX3_has, Cond.selects RX3 yX3_has yX3_has, Cond.code yX3_has cX3_has 2 (some .boolean), Cond.fieldLink RX3 32 "SignLetters$State" "items" "I", Cond.methodLink RX0 100 yX0_joinEdges, Cond.instanceMethod yX0_joinEdges, Cond.selects RX0 yX0_joinEdges yX0_joinEdges, Cond.code yX0_joinEdges cX0_joinEdges 6 none, Cond.fieldLink RX0 36 "SignLetters$Layout" "indents" "[I", Cond.static yX5_rightShape, Cond.code yX5_rightShape cX5_rightShape 1 (some .int), Cond.static yX5_leftShape, Cond.code yX5_leftShape cX5_leftShape 1 (some .int), Cond.methodLink RX0 104 yX3_kernAt, Cond.instanceMethod yX3_kernAt, Cond.selects RX3 yX3_kernAt yX3_kernAt, Cond.code yX3_kernAt cX3_kernAt 2 (some .int)]
def wsX5_count_r4 : List Cond := [Cond.fieldLink RX3 15 "SignLetters$State" "kerns" "[I", Cond.methodLink RX0 107 yX0_layPair, Cond.instanceMethod yX0_layPair, Cond.selects RX0 yX0_layPair yX0_layPair, Cond.code yX0_layPair cX0_layPair 7 (some .int), Cond.fieldLink RX0 21 "SignLetters$Layout" "leastGaps" "[I", Cond.methodLink RX0 121 yX0_leastGap, Cond.instanceMethod yX0_leastGap, Cond.selects RX0 yX0_leastGap yX0_leastGap, Cond.code yX0_leastGap cX0_leastGap 2 (some .int), Cond.methodLink RX0 128 yX0_areaBy, Cond.instanceMethod yX0_areaBy, Cond.selects RX0 yX0_areaBy yX0_areaBy, Cond.code yX0_areaBy cX0_areaBy 5 (some .int), Cond.methodLink RX0 125 yX0_gapBehind, Cond.instanceMethod yX0_gapBehind, Cond.selects RX0 yX0_gapBehind yX0_gapBehind, Cond.code yX0_gapBehind cX0_gapBehind 3 (some .int), Cond.methodLink RX0 111 yX0_snapped, Cond.instanceMethod yX0_snapped, Cond.selects RX0 yX0_snapped yX0_snapped, Cond.code yX0_snapped cX0_snapped 3 (some .int), Cond.methodLink RX0 131 yX0_shareOf, Cond.instanceMethod yX0_shareOf]
def wsX5_count_r5 : List Cond := [Cond.selects RX0 yX0_shareOf yX0_shareOf, Cond.code yX0_shareOf cX0_shareOf 3 (some .int), Cond.methodLink RX0 114 yX0_storePair, Cond.instanceMethod yX0_storePair, Cond.selects RX0 yX0_storePair yX0_storePair, Cond.code yX0_storePair cX0_storePair 5 none, Cond.fieldLink RX0 24 "SignLetters$Layout" "gaps" "[I", Cond.fieldLink RX0 27 "SignLetters$Layout" "areas" "[I", Cond.fieldLink RX0 30 "SignLetters$Layout" "shares" "[I", Cond.static yX5_widthOf, Cond.code yX5_widthOf cX5_widthOf 1 (some .int), Cond.methodLink RX5 278 yX2_rank, Cond.instanceMethod yX2_rank, Cond.selects RX2 yX2_rank yX2_rank, Cond.initialized RX2, Cond.code yX2_rank cX2_rank 3 none, Cond.fieldLink RX2 19 "SignLetters$Ranking" "size" "I", Cond.methodLink RX2 28 yX0_isPair, Cond.instanceMethod yX0_isPair, Cond.selects RX0 yX0_isPair yX0_isPair, Cond.code yX0_isPair cX0_isPair 2 (some .boolean), Cond.methodLink RX2 32 yX2_enter, Cond.instanceMethod yX2_enter, Cond.selects RX2 yX2_enter yX2_enter]
def wsX5_count_r6 : List Cond := [Cond.code yX2_enter cX2_enter 6 none, Cond.fieldLink RX2 9 "SignLetters$Ranking" "places" "[I", Cond.methodLink RX2 40 yX2_comesBefore, Cond.instanceMethod yX2_comesBefore, Cond.selects RX2 yX2_comesBefore yX2_comesBefore, Cond.code yX2_comesBefore cX2_comesBefore 8 (some .boolean), Cond.fieldLink RX2 15 "SignLetters$Ranking" "ofFaults" "Z", Cond.methodLink RX5 220 yX5_lineNumber, Cond.instanceMethod yX5_lineNumber, Cond.selects RX5 yX5_lineNumber yX5_lineNumber, Cond.code yX5_lineNumber cX5_lineNumber 3 (some .int), Cond.fieldLink RX5 22 "SignLetters" "past" "LSignLetters$Past;", Cond.methodLink RX5 309 yX3_countLetters, Cond.instanceMethod yX3_countLetters, Cond.selects RX3 yX3_countLetters yX3_countLetters, Cond.code yX3_countLetters cX3_countLetters 3 (some .int), Cond.methodLink RX3 47 yX3_letterAt, Cond.methodLink RX5 217 yX2_placeAt, Cond.instanceMethod yX2_placeAt, Cond.selects RX2 yX2_placeAt yX2_placeAt, Cond.code yX2_placeAt cX2_placeAt 2 (some .int), Cond.methodLink RX5 312 yX5_areaOf, Cond.static yX5_areaOf, Cond.code yX5_areaOf cX5_areaOf 2 (some .int)]
def wsX5_count_r7 : List Cond := [Cond.methodLink RX5 288 yX0_isPair, Cond.methodLink RX5 144 yX5_valueAt]
def wsX5_count : List Cond := .code yX5_count cX5_count 2 (some .int) :: ((wsX5_count_r1 ++ (wsX5_count_r2 ++ (wsX5_count_r3 ++ (wsX5_count_r4 ++ (wsX5_count_r5 ++ (wsX5_count_r6 ++ wsX5_count_r7)))))) ++ wsX50 ++ wsX30 ++ wsX00 ++ wsX20 ++ wsX10 ++ (vx_atS RX5 78 "java/lang/IllegalArgumentException" ["java/lang/RuntimeException", "java/lang/Exception"]).filter goodWord)
def wsX5_greatestArea_r1 : List Cond := [Cond.fieldLink RX5 40 "SignLetters" "trial" "LSignLetters$Layout;", Cond.fieldLink RX5 10 "SignLetters" "state" "LSignLetters$State;", Cond.methodLink RX5 226 yX0_lay, Cond.instanceMethod yX0_lay, Cond.selects RX0 yX0_lay yX0_lay, Cond.initialized RX0, Cond.code yX0_lay cX0_lay 5 none, Cond.fieldLink RX0 9 "SignLetters$Layout" "settings" "[I", Cond.fieldLink RX0 54 "SignLetters$Layout" "rowLimit" "I", Cond.fieldLink RX0 58 "SignLetters$Layout" "wantedArea" "I", Cond.fieldLink RX0 61 "SignLetters$Layout" "snap" "I", Cond.fieldLink RX0 64 "SignLetters$Layout" "allowedShare" "I", Cond.fieldLink RX0 74 "SignLetters$Layout" "items" "I", Cond.fieldLink RX0 75 "SignLetters$Layout" "pairs" "I", Cond.fieldLink RX0 78 "SignLetters$Layout" "faults" "I", Cond.fieldLink RX0 81 "SignLetters$Layout" "width" "I", Cond.static yX5_copyRow, Cond.initialized RX5, Cond.code yX5_copyRow cX5_copyRow 3 none, Cond.static yX5_store, Cond.code yX5_store cX5_store 3 none, Cond.static yX5_valueAt, Cond.code yX5_valueAt cX5_valueAt 2 (some .int), Cond.methodLink RX0 67 yX0_brushEdges]
def wsX5_greatestArea_r2 : List Cond := [Cond.instanceMethod yX0_brushEdges, Cond.selects RX0 yX0_brushEdges yX0_brushEdges, Cond.code yX0_brushEdges cX0_brushEdges 3 none, Cond.fieldLink RX0 33 "SignLetters$Layout" "edges" "[I", Cond.static yX5_brushedIndent, Cond.code yX5_brushedIndent cX5_brushedIndent 4 (some .int), Cond.methodLink RX5 326 yX5_plainIndent, Cond.static yX5_plainIndent, Cond.code yX5_plainIndent cX5_plainIndent 2 (some .int), Cond.methodLink RX0 84 yX0_layItem, Cond.instanceMethod yX0_layItem, Cond.selects RX0 yX0_layItem yX0_layItem, Cond.code yX0_layItem cX0_layItem 6 none, Cond.fieldLink RX0 15 "SignLetters$Layout" "begins" "[I", Cond.fieldLink RX0 18 "SignLetters$Layout" "ends" "[I", Cond.methodLink RX0 96 yX3_letterAt, Cond.instanceMethod yX3_letterAt, Cond.selects RX3 yX3_letterAt yX3_letterAt, Cond.initialized RX3, Cond.code yX3_letterAt cX3_letterAt 2 (some .int), Cond.fieldLink RX3 9 "SignLetters$State" "letters" "[I", Cond.methodLink RX3 35 yX3_has, Cond.instanceMethod yX3_has, Cond.selects RX3 yX3_has yX3_has]
def wsX5_greatestArea_r3 : List Cond := [Cond.code yX3_has cX3_has 2 (some .boolean), Cond.fieldLink RX3 32 "SignLetters$State" "items" "I", Cond.methodLink RX0 100 yX0_joinEdges, Cond.instanceMethod yX0_joinEdges, Cond.selects RX0 yX0_joinEdges yX0_joinEdges, Cond.code yX0_joinEdges cX0_joinEdges 6 none, Cond.fieldLink RX0 36 "SignLetters$Layout" "indents" "[I", Cond.static yX5_rightShape, Cond.code yX5_rightShape cX5_rightShape 1 (some .int), Cond.static yX5_leftShape, Cond.code yX5_leftShape cX5_leftShape 1 (some .int), Cond.methodLink RX0 104 yX3_kernAt, Cond.instanceMethod yX3_kernAt, Cond.selects RX3 yX3_kernAt yX3_kernAt, Cond.code yX3_kernAt cX3_kernAt 2 (some .int), Cond.fieldLink RX3 15 "SignLetters$State" "kerns" "[I", Cond.methodLink RX0 107 yX0_layPair, Cond.instanceMethod yX0_layPair, Cond.selects RX0 yX0_layPair yX0_layPair, Cond.code yX0_layPair cX0_layPair 7 (some .int), Cond.fieldLink RX0 21 "SignLetters$Layout" "leastGaps" "[I", Cond.methodLink RX0 121 yX0_leastGap, Cond.instanceMethod yX0_leastGap, Cond.selects RX0 yX0_leastGap yX0_leastGap]
def wsX5_greatestArea_r4 : List Cond := [Cond.code yX0_leastGap cX0_leastGap 2 (some .int), Cond.methodLink RX0 128 yX0_areaBy, Cond.instanceMethod yX0_areaBy, Cond.selects RX0 yX0_areaBy yX0_areaBy, Cond.code yX0_areaBy cX0_areaBy 5 (some .int), Cond.methodLink RX0 125 yX0_gapBehind, Cond.instanceMethod yX0_gapBehind, Cond.selects RX0 yX0_gapBehind yX0_gapBehind, Cond.code yX0_gapBehind cX0_gapBehind 3 (some .int), Cond.methodLink RX0 111 yX0_snapped, Cond.instanceMethod yX0_snapped, Cond.selects RX0 yX0_snapped yX0_snapped, Cond.code yX0_snapped cX0_snapped 3 (some .int), Cond.methodLink RX0 131 yX0_shareOf, Cond.instanceMethod yX0_shareOf, Cond.selects RX0 yX0_shareOf yX0_shareOf, Cond.code yX0_shareOf cX0_shareOf 3 (some .int), Cond.methodLink RX0 114 yX0_storePair, Cond.instanceMethod yX0_storePair, Cond.selects RX0 yX0_storePair yX0_storePair, Cond.code yX0_storePair cX0_storePair 5 none, Cond.fieldLink RX0 24 "SignLetters$Layout" "gaps" "[I", Cond.fieldLink RX0 27 "SignLetters$Layout" "areas" "[I", Cond.fieldLink RX0 30 "SignLetters$Layout" "shares" "[I"]
def wsX5_greatestArea_r5 : List Cond := [Cond.static yX5_widthOf, Cond.code yX5_widthOf cX5_widthOf 1 (some .int)]
def wsX5_greatestArea : List Cond := .code yX5_greatestArea cX5_greatestArea 2 (some .int) :: ((wsX5_greatestArea_r1 ++ (wsX5_greatestArea_r2 ++ (wsX5_greatestArea_r3 ++ (wsX5_greatestArea_r4 ++ wsX5_greatestArea_r5)))) ++ wsX50 ++ wsX00 ++ wsX30)
def wsX5_evenness : List Cond := .code yX5_evenness cX5_evenness 1 (some .double) :: ([] ++ wsX00)
def wsX5_even_r1 : List Cond := [Cond.methodLink RX5 103 yX5_look, Cond.instanceMethod yX5_look, Cond.selects RX5 yX5_look yX5_look, Cond.initialized RX5, Cond.code yX5_look cX5_look 1 (some (.object "SignLetters$Layout")), Cond.fieldLink RX5 55 "SignLetters" "stale" "Z", Cond.fieldLink RX5 36 "SignLetters" "shown" "LSignLetters$Layout;", Cond.fieldLink RX5 10 "SignLetters" "state" "LSignLetters$State;", Cond.fieldLink RX5 48 "SignLetters" "areaRanking" "LSignLetters$Ranking;", Cond.fieldLink RX5 52 "SignLetters" "faultRanking" "LSignLetters$Ranking;", Cond.methodLink RX5 226 yX0_lay, Cond.instanceMethod yX0_lay, Cond.selects RX0 yX0_lay yX0_lay, Cond.initialized RX0, Cond.code yX0_lay cX0_lay 5 none, Cond.fieldLink RX0 9 "SignLetters$Layout" "settings" "[I", Cond.fieldLink RX0 54 "SignLetters$Layout" "rowLimit" "I", Cond.fieldLink RX0 58 "SignLetters$Layout" "wantedArea" "I", Cond.fieldLink RX0 61 "SignLetters$Layout" "snap" "I", Cond.fieldLink RX0 64 "SignLetters$Layout" "allowedShare" "I", Cond.fieldLink RX0 74 "SignLetters$Layout" "items" "I", Cond.fieldLink RX0 75 "SignLetters$Layout" "pairs" "I", Cond.fieldLink RX0 78 "SignLetters$Layout" "faults" "I", Cond.fieldLink RX0 81 "SignLetters$Layout" "width" "I"]
def wsX5_even_r2 : List Cond := [Cond.static yX5_copyRow, Cond.code yX5_copyRow cX5_copyRow 3 none, Cond.static yX5_store, Cond.code yX5_store cX5_store 3 none, Cond.static yX5_valueAt, Cond.code yX5_valueAt cX5_valueAt 2 (some .int), Cond.methodLink RX0 67 yX0_brushEdges, Cond.instanceMethod yX0_brushEdges, Cond.selects RX0 yX0_brushEdges yX0_brushEdges, Cond.code yX0_brushEdges cX0_brushEdges 3 none, Cond.fieldLink RX0 33 "SignLetters$Layout" "edges" "[I", Cond.static yX5_brushedIndent, Cond.code yX5_brushedIndent cX5_brushedIndent 4 (some .int), Cond.methodLink RX5 326 yX5_plainIndent, Cond.static yX5_plainIndent, Cond.code yX5_plainIndent cX5_plainIndent 2 (some .int), Cond.methodLink RX0 84 yX0_layItem, Cond.instanceMethod yX0_layItem, Cond.selects RX0 yX0_layItem yX0_layItem, Cond.code yX0_layItem cX0_layItem 6 none, Cond.fieldLink RX0 15 "SignLetters$Layout" "begins" "[I", Cond.fieldLink RX0 18 "SignLetters$Layout" "ends" "[I", Cond.methodLink RX0 96 yX3_letterAt, Cond.instanceMethod yX3_letterAt]
def wsX5_even_r3 : List Cond := [Cond.selects RX3 yX3_letterAt yX3_letterAt, Cond.initialized RX3, Cond.code yX3_letterAt cX3_letterAt 2 (some .int), Cond.fieldLink RX3 9 "SignLetters$State" "letters" "[I", Cond.methodLink RX3 35 yX3_has, Cond.instanceMethod yX3_has, Cond.selects RX3 yX3_has yX3_has, Cond.code yX3_has cX3_has 2 (some .boolean), Cond.fieldLink RX3 32 "SignLetters$State" "items" "I", Cond.methodLink RX0 100 yX0_joinEdges, Cond.instanceMethod yX0_joinEdges, Cond.selects RX0 yX0_joinEdges yX0_joinEdges, Cond.code yX0_joinEdges cX0_joinEdges 6 none, Cond.fieldLink RX0 36 "SignLetters$Layout" "indents" "[I", Cond.static yX5_rightShape, Cond.code yX5_rightShape cX5_rightShape 1 (some .int), Cond.static yX5_leftShape, Cond.code yX5_leftShape cX5_leftShape 1 (some .int), Cond.methodLink RX0 104 yX3_kernAt, Cond.instanceMethod yX3_kernAt, Cond.selects RX3 yX3_kernAt yX3_kernAt, Cond.code yX3_kernAt cX3_kernAt 2 (some .int), Cond.fieldLink RX3 15 "SignLetters$State" "kerns" "[I", Cond.methodLink RX0 107 yX0_layPair]
def wsX5_even_r4 : List Cond := [Cond.instanceMethod yX0_layPair, Cond.selects RX0 yX0_layPair yX0_layPair, Cond.code yX0_layPair cX0_layPair 7 (some .int), Cond.fieldLink RX0 21 "SignLetters$Layout" "leastGaps" "[I", Cond.methodLink RX0 121 yX0_leastGap, Cond.instanceMethod yX0_leastGap, Cond.selects RX0 yX0_leastGap yX0_leastGap, Cond.code yX0_leastGap cX0_leastGap 2 (some .int), Cond.methodLink RX0 128 yX0_areaBy, Cond.instanceMethod yX0_areaBy, Cond.selects RX0 yX0_areaBy yX0_areaBy, Cond.code yX0_areaBy cX0_areaBy 5 (some .int), Cond.methodLink RX0 125 yX0_gapBehind, Cond.instanceMethod yX0_gapBehind, Cond.selects RX0 yX0_gapBehind yX0_gapBehind, Cond.code yX0_gapBehind cX0_gapBehind 3 (some .int), Cond.methodLink RX0 111 yX0_snapped, Cond.instanceMethod yX0_snapped, Cond.selects RX0 yX0_snapped yX0_snapped, Cond.code yX0_snapped cX0_snapped 3 (some .int), Cond.methodLink RX0 131 yX0_shareOf, Cond.instanceMethod yX0_shareOf, Cond.selects RX0 yX0_shareOf yX0_shareOf, Cond.code yX0_shareOf cX0_shareOf 3 (some .int)]
def wsX5_even_r5 : List Cond := [Cond.methodLink RX0 114 yX0_storePair, Cond.instanceMethod yX0_storePair, Cond.selects RX0 yX0_storePair yX0_storePair, Cond.code yX0_storePair cX0_storePair 5 none, Cond.fieldLink RX0 24 "SignLetters$Layout" "gaps" "[I", Cond.fieldLink RX0 27 "SignLetters$Layout" "areas" "[I", Cond.fieldLink RX0 30 "SignLetters$Layout" "shares" "[I", Cond.static yX5_widthOf, Cond.code yX5_widthOf cX5_widthOf 1 (some .int), Cond.methodLink RX5 278 yX2_rank, Cond.instanceMethod yX2_rank, Cond.selects RX2 yX2_rank yX2_rank, Cond.initialized RX2, Cond.code yX2_rank cX2_rank 3 none, Cond.fieldLink RX2 19 "SignLetters$Ranking" "size" "I", Cond.methodLink RX2 28 yX0_isPair, Cond.instanceMethod yX0_isPair, Cond.selects RX0 yX0_isPair yX0_isPair, Cond.code yX0_isPair cX0_isPair 2 (some .boolean), Cond.methodLink RX2 32 yX2_enter, Cond.instanceMethod yX2_enter, Cond.selects RX2 yX2_enter yX2_enter, Cond.code yX2_enter cX2_enter 6 none, Cond.fieldLink RX2 9 "SignLetters$Ranking" "places" "[I"]
def wsX5_even_r6 : List Cond := [Cond.methodLink RX2 40 yX2_comesBefore, Cond.instanceMethod yX2_comesBefore, Cond.selects RX2 yX2_comesBefore yX2_comesBefore, Cond.code yX2_comesBefore cX2_comesBefore 8 (some .boolean), Cond.fieldLink RX2 15 "SignLetters$Ranking" "ofFaults" "Z", Cond.methodLink RX5 237 yX5_evenness, Cond.static yX5_evenness, Cond.code yX5_evenness cX5_evenness 1 (some .double)]
def wsX5_even : List Cond := .code yX5_even cX5_even 1 (some .double) :: ((wsX5_even_r1 ++ (wsX5_even_r2 ++ (wsX5_even_r3 ++ (wsX5_even_r4 ++ (wsX5_even_r5 ++ wsX5_even_r6))))) ++ wsX50 ++ wsX30 ++ wsX00 ++ wsX20)
def wsL_cell : List Cond := .code yL_cell cL_cell 2 (some .int) :: ([])
def wsL_low : List Cond := .code yL_low cL_low 2 (some .int) :: ([.constant RL 7 (2147483647)])
def wsL_told_r1 : List Cond := [Cond.constantLong RL 8 (3), Cond.constantLong RL 10 (31), Cond.methodLink RL 12 yX5_count, Cond.instanceMethod yX5_count, Cond.selects RX5 yX5_count yX5_count, Cond.initialized RX5, Cond.code yX5_count cX5_count 2 (some .int), Cond.classLink RX5 74 "java/lang/IllegalArgumentException", Cond.initialized "java/lang/IllegalArgumentException", Cond.methodLink RX5 103 yX5_look, Cond.instanceMethod yX5_look, Cond.selects RX5 yX5_look yX5_look, Cond.code yX5_look cX5_look 1 (some (.object "SignLetters$Layout")), Cond.fieldLink RX5 55 "SignLetters" "stale" "Z", Cond.fieldLink RX5 36 "SignLetters" "shown" "LSignLetters$Layout;", Cond.fieldLink RX5 10 "SignLetters" "state" "LSignLetters$State;", Cond.fieldLink RX5 48 "SignLetters" "areaRanking" "LSignLetters$Ranking;", Cond.fieldLink RX5 52 "SignLetters" "faultRanking" "LSignLetters$Ranking;", Cond.methodLink RX5 226 yX0_lay, Cond.instanceMethod yX0_lay, Cond.selects RX0 yX0_lay yX0_lay, Cond.initialized RX0, Cond.code yX0_lay cX0_lay 5 none, Cond.fieldLink RX0 9 "SignLetters$Layout" "settings" "[I"]
def wsL_told_r2 : List Cond := [Cond.fieldLink RX0 54 "SignLetters$Layout" "rowLimit" "I", Cond.fieldLink RX0 58 "SignLetters$Layout" "wantedArea" "I", Cond.fieldLink RX0 61 "SignLetters$Layout" "snap" "I", Cond.fieldLink RX0 64 "SignLetters$Layout" "allowedShare" "I", Cond.fieldLink RX0 74 "SignLetters$Layout" "items" "I", Cond.fieldLink RX0 75 "SignLetters$Layout" "pairs" "I", Cond.fieldLink RX0 78 "SignLetters$Layout" "faults" "I", Cond.fieldLink RX0 81 "SignLetters$Layout" "width" "I", Cond.static yX5_copyRow, Cond.code yX5_copyRow cX5_copyRow 3 none, Cond.static yX5_store, Cond.code yX5_store cX5_store 3 none, Cond.static yX5_valueAt, Cond.code yX5_valueAt cX5_valueAt 2 (some .int), Cond.methodLink RX0 67 yX0_brushEdges, Cond.instanceMethod yX0_brushEdges, Cond.selects RX0 yX0_brushEdges yX0_brushEdges, Cond.code yX0_brushEdges cX0_brushEdges 3 none, Cond.fieldLink RX0 33 "SignLetters$Layout" "edges" "[I", Cond.static yX5_brushedIndent, Cond.code yX5_brushedIndent cX5_brushedIndent 4 (some .int), Cond.methodLink RX5 326 yX5_plainIndent, Cond.static yX5_plainIndent, Cond.code yX5_plainIndent cX5_plainIndent 2 (some .int)]
def wsL_told_r3 : List Cond := [Cond.methodLink RX0 84 yX0_layItem, Cond.instanceMethod yX0_layItem, Cond.selects RX0 yX0_layItem yX0_layItem, Cond.code yX0_layItem cX0_layItem 6 none, Cond.fieldLink RX0 15 "SignLetters$Layout" "begins" "[I", Cond.fieldLink RX0 18 "SignLetters$Layout" "ends" "[I", Cond.methodLink RX0 96 yX3_letterAt, Cond.instanceMethod yX3_letterAt, Cond.selects RX3 yX3_letterAt yX3_letterAt, Cond.initialized RX3, Cond.code yX3_letterAt cX3_letterAt 2 (some .int), Cond.fieldLink RX3 9 "SignLetters$State" "letters" "[I", Cond.methodLink RX3 35 yX3_has, Cond.instanceMethod yX3_has, Cond.selects RX3 yX3_has yX3_has, Cond.code yX3_has cX3_has 2 (some .boolean), Cond.fieldLink RX3 32 "SignLetters$State" "items" "I", Cond.methodLink RX0 100 yX0_joinEdges, Cond.instanceMethod yX0_joinEdges, Cond.selects RX0 yX0_joinEdges yX0_joinEdges, Cond.code yX0_joinEdges cX0_joinEdges 6 none, Cond.fieldLink RX0 36 "SignLetters$Layout" "indents" "[I", Cond.static yX5_rightShape, Cond.code yX5_rightShape cX5_rightShape 1 (some .int)]
def wsL_told_r4 : List Cond := [Cond.static yX5_leftShape, Cond.code yX5_leftShape cX5_leftShape 1 (some .int), Cond.methodLink RX0 104 yX3_kernAt, Cond.instanceMethod yX3_kernAt, Cond.selects RX3 yX3_kernAt yX3_kernAt, Cond.code yX3_kernAt cX3_kernAt 2 (some .int), Cond.fieldLink RX3 15 "SignLetters$State" "kerns" "[I", Cond.methodLink RX0 107 yX0_layPair, Cond.instanceMethod yX0_layPair, Cond.selects RX0 yX0_layPair yX0_layPair, Cond.code yX0_layPair cX0_layPair 7 (some .int), Cond.fieldLink RX0 21 "SignLetters$Layout" "leastGaps" "[I", Cond.methodLink RX0 121 yX0_leastGap, Cond.instanceMethod yX0_leastGap, Cond.selects RX0 yX0_leastGap yX0_leastGap, Cond.code yX0_leastGap cX0_leastGap 2 (some .int), Cond.methodLink RX0 128 yX0_areaBy, Cond.instanceMethod yX0_areaBy, Cond.selects RX0 yX0_areaBy yX0_areaBy, Cond.code yX0_areaBy cX0_areaBy 5 (some .int), Cond.methodLink RX0 125 yX0_gapBehind, Cond.instanceMethod yX0_gapBehind, Cond.selects RX0 yX0_gapBehind yX0_gapBehind, Cond.code yX0_gapBehind cX0_gapBehind 3 (some .int)]
def wsL_told_r5 : List Cond := [Cond.methodLink RX0 111 yX0_snapped, Cond.instanceMethod yX0_snapped, Cond.selects RX0 yX0_snapped yX0_snapped, Cond.code yX0_snapped cX0_snapped 3 (some .int), Cond.methodLink RX0 131 yX0_shareOf, Cond.instanceMethod yX0_shareOf, Cond.selects RX0 yX0_shareOf yX0_shareOf, Cond.code yX0_shareOf cX0_shareOf 3 (some .int), Cond.methodLink RX0 114 yX0_storePair, Cond.instanceMethod yX0_storePair, Cond.selects RX0 yX0_storePair yX0_storePair, Cond.code yX0_storePair cX0_storePair 5 none, Cond.fieldLink RX0 24 "SignLetters$Layout" "gaps" "[I", Cond.fieldLink RX0 27 "SignLetters$Layout" "areas" "[I", Cond.fieldLink RX0 30 "SignLetters$Layout" "shares" "[I", Cond.static yX5_widthOf, Cond.code yX5_widthOf cX5_widthOf 1 (some .int), Cond.methodLink RX5 278 yX2_rank, Cond.instanceMethod yX2_rank, Cond.selects RX2 yX2_rank yX2_rank, Cond.initialized RX2, Cond.code yX2_rank cX2_rank 3 none, Cond.fieldLink RX2 19 "SignLetters$Ranking" "size" "I", Cond.methodLink RX2 28 yX0_isPair]
def wsL_told_r6 : List Cond := [Cond.instanceMethod yX0_isPair, Cond.selects RX0 yX0_isPair yX0_isPair, Cond.code yX0_isPair cX0_isPair 2 (some .boolean), Cond.methodLink RX2 32 yX2_enter, Cond.instanceMethod yX2_enter, Cond.selects RX2 yX2_enter yX2_enter, Cond.code yX2_enter cX2_enter 6 none, Cond.fieldLink RX2 9 "SignLetters$Ranking" "places" "[I", Cond.methodLink RX2 40 yX2_comesBefore, Cond.instanceMethod yX2_comesBefore, Cond.selects RX2 yX2_comesBefore yX2_comesBefore, Cond.code yX2_comesBefore cX2_comesBefore 8 (some .boolean), Cond.fieldLink RX2 15 "SignLetters$Ranking" "ofFaults" "Z", Cond.methodLink RX5 220 yX5_lineNumber, Cond.instanceMethod yX5_lineNumber, Cond.selects RX5 yX5_lineNumber yX5_lineNumber, Cond.code yX5_lineNumber cX5_lineNumber 3 (some .int), Cond.fieldLink RX5 22 "SignLetters" "past" "LSignLetters$Past;", Cond.methodLink RX5 309 yX3_countLetters, Cond.instanceMethod yX3_countLetters, Cond.selects RX3 yX3_countLetters yX3_countLetters, Cond.code yX3_countLetters cX3_countLetters 3 (some .int), Cond.methodLink RX3 47 yX3_letterAt, Cond.methodLink RX5 217 yX2_placeAt]
def wsL_told_r7 : List Cond := [Cond.instanceMethod yX2_placeAt, Cond.selects RX2 yX2_placeAt yX2_placeAt, Cond.code yX2_placeAt cX2_placeAt 2 (some .int), Cond.methodLink RX5 312 yX5_areaOf, Cond.static yX5_areaOf, Cond.code yX5_areaOf cX5_areaOf 2 (some .int), Cond.methodLink RX5 288 yX0_isPair, Cond.methodLink RX5 144 yX5_valueAt, Cond.methodLink RL 18 yX5_item, Cond.instanceMethod yX5_item, Cond.selects RX5 yX5_item yX5_item, Cond.code yX5_item cX5_item 3 (some .int), Cond.classLink RX5 63 "java/lang/IndexOutOfBoundsException", Cond.initialized "java/lang/IndexOutOfBoundsException", Cond.methodLink RX5 91 yX3_has, Cond.methodLink RX5 211 yX5_itemNumber, Cond.instanceMethod yX5_itemNumber, Cond.selects RX5 yX5_itemNumber yX5_itemNumber, Cond.code yX5_itemNumber cX5_itemNumber 5 (some .int), Cond.methodLink RX5 112 yX3_letterAt, Cond.methodLink RX5 118 yX3_kernAt, Cond.methodLink RX5 291 yX5_pairNumber, Cond.instanceMethod yX5_pairNumber, Cond.selects RX5 yX5_pairNumber yX5_pairNumber]
def wsL_told_r8 : List Cond := [Cond.code yX5_pairNumber cX5_pairNumber 4 (some .int), Cond.methodLink RX5 300 yX0_countedCells, Cond.instanceMethod yX0_countedCells, Cond.selects RX0 yX0_countedCells yX0_countedCells, Cond.code yX0_countedCells cX0_countedCells 7 (some .int), Cond.methodLink RX5 306 yX0_isFault, Cond.instanceMethod yX0_isFault, Cond.selects RX0 yX0_isFault yX0_isFault, Cond.code yX0_isFault cX0_isFault 2 (some .boolean), Cond.methodLink RX0 88 yX0_isPair]
def wsL_told : List Cond := .code yL_told cL_told 5 (some .long) :: ((wsL_told_r1 ++ (wsL_told_r2 ++ (wsL_told_r3 ++ (wsL_told_r4 ++ (wsL_told_r5 ++ (wsL_told_r6 ++ (wsL_told_r7 ++ wsL_told_r8))))))) ++ wsX50 ++ wsX30 ++ wsX00 ++ wsX20 ++ wsX10 ++ (vx_atS RX5 78 "java/lang/IllegalArgumentException" ["java/lang/RuntimeException", "java/lang/Exception"]).filter goodWord ++ (vx_atS RX5 67 "java/lang/IndexOutOfBoundsException" ["java/lang/RuntimeException", "java/lang/Exception"]).filter goodWord)
def wsL_value : List Cond := .code yL_value cL_value 2 (some .int) :: ([.methodLink RL 22 yL_low, .static yL_low, .initialized RL, .code yL_low cL_low 2 (some .int), .constant RL 7 (2147483647)])
def wsL_act_r1 : List Cond := [Cond.methodLink RL 12 yX5_count, Cond.instanceMethod yX5_count, Cond.selects RX5 yX5_count yX5_count, Cond.initialized RX5, Cond.code yX5_count cX5_count 2 (some .int), Cond.classLink RX5 74 "java/lang/IllegalArgumentException", Cond.initialized "java/lang/IllegalArgumentException", Cond.methodLink RX5 103 yX5_look, Cond.instanceMethod yX5_look, Cond.selects RX5 yX5_look yX5_look, Cond.code yX5_look cX5_look 1 (some (.object "SignLetters$Layout")), Cond.fieldLink RX5 55 "SignLetters" "stale" "Z", Cond.fieldLink RX5 36 "SignLetters" "shown" "LSignLetters$Layout;", Cond.fieldLink RX5 10 "SignLetters" "state" "LSignLetters$State;", Cond.fieldLink RX5 48 "SignLetters" "areaRanking" "LSignLetters$Ranking;", Cond.fieldLink RX5 52 "SignLetters" "faultRanking" "LSignLetters$Ranking;", Cond.methodLink RX5 226 yX0_lay, Cond.instanceMethod yX0_lay, Cond.selects RX0 yX0_lay yX0_lay, Cond.initialized RX0, Cond.code yX0_lay cX0_lay 5 none, Cond.fieldLink RX0 9 "SignLetters$Layout" "settings" "[I", Cond.fieldLink RX0 54 "SignLetters$Layout" "rowLimit" "I", Cond.fieldLink RX0 58 "SignLetters$Layout" "wantedArea" "I"]
def wsL_act_r2 : List Cond := [Cond.fieldLink RX0 61 "SignLetters$Layout" "snap" "I", Cond.fieldLink RX0 64 "SignLetters$Layout" "allowedShare" "I", Cond.fieldLink RX0 74 "SignLetters$Layout" "items" "I", Cond.fieldLink RX0 75 "SignLetters$Layout" "pairs" "I", Cond.fieldLink RX0 78 "SignLetters$Layout" "faults" "I", Cond.fieldLink RX0 81 "SignLetters$Layout" "width" "I", Cond.static yX5_copyRow, Cond.code yX5_copyRow cX5_copyRow 3 none, Cond.static yX5_store, Cond.code yX5_store cX5_store 3 none, Cond.static yX5_valueAt, Cond.code yX5_valueAt cX5_valueAt 2 (some .int), Cond.methodLink RX0 67 yX0_brushEdges, Cond.instanceMethod yX0_brushEdges, Cond.selects RX0 yX0_brushEdges yX0_brushEdges, Cond.code yX0_brushEdges cX0_brushEdges 3 none, Cond.fieldLink RX0 33 "SignLetters$Layout" "edges" "[I", Cond.static yX5_brushedIndent, Cond.code yX5_brushedIndent cX5_brushedIndent 4 (some .int), Cond.methodLink RX5 326 yX5_plainIndent, Cond.static yX5_plainIndent, Cond.code yX5_plainIndent cX5_plainIndent 2 (some .int), Cond.methodLink RX0 84 yX0_layItem, Cond.instanceMethod yX0_layItem]
def wsL_act_r3 : List Cond := [Cond.selects RX0 yX0_layItem yX0_layItem, Cond.code yX0_layItem cX0_layItem 6 none, Cond.fieldLink RX0 15 "SignLetters$Layout" "begins" "[I", Cond.fieldLink RX0 18 "SignLetters$Layout" "ends" "[I", Cond.methodLink RX0 96 yX3_letterAt, Cond.instanceMethod yX3_letterAt, Cond.selects RX3 yX3_letterAt yX3_letterAt, Cond.initialized RX3, Cond.code yX3_letterAt cX3_letterAt 2 (some .int), Cond.fieldLink RX3 9 "SignLetters$State" "letters" "[I", Cond.methodLink RX3 35 yX3_has, Cond.instanceMethod yX3_has, Cond.selects RX3 yX3_has yX3_has, Cond.code yX3_has cX3_has 2 (some .boolean), Cond.fieldLink RX3 32 "SignLetters$State" "items" "I", Cond.methodLink RX0 100 yX0_joinEdges, Cond.instanceMethod yX0_joinEdges, Cond.selects RX0 yX0_joinEdges yX0_joinEdges, Cond.code yX0_joinEdges cX0_joinEdges 6 none, Cond.fieldLink RX0 36 "SignLetters$Layout" "indents" "[I", Cond.static yX5_rightShape, Cond.code yX5_rightShape cX5_rightShape 1 (some .int), Cond.static yX5_leftShape, Cond.code yX5_leftShape cX5_leftShape 1 (some .int)]
def wsL_act_r4 : List Cond := [Cond.methodLink RX0 104 yX3_kernAt, Cond.instanceMethod yX3_kernAt, Cond.selects RX3 yX3_kernAt yX3_kernAt, Cond.code yX3_kernAt cX3_kernAt 2 (some .int), Cond.fieldLink RX3 15 "SignLetters$State" "kerns" "[I", Cond.methodLink RX0 107 yX0_layPair, Cond.instanceMethod yX0_layPair, Cond.selects RX0 yX0_layPair yX0_layPair, Cond.code yX0_layPair cX0_layPair 7 (some .int), Cond.fieldLink RX0 21 "SignLetters$Layout" "leastGaps" "[I", Cond.methodLink RX0 121 yX0_leastGap, Cond.instanceMethod yX0_leastGap, Cond.selects RX0 yX0_leastGap yX0_leastGap, Cond.code yX0_leastGap cX0_leastGap 2 (some .int), Cond.methodLink RX0 128 yX0_areaBy, Cond.instanceMethod yX0_areaBy, Cond.selects RX0 yX0_areaBy yX0_areaBy, Cond.code yX0_areaBy cX0_areaBy 5 (some .int), Cond.methodLink RX0 125 yX0_gapBehind, Cond.instanceMethod yX0_gapBehind, Cond.selects RX0 yX0_gapBehind yX0_gapBehind, Cond.code yX0_gapBehind cX0_gapBehind 3 (some .int), Cond.methodLink RX0 111 yX0_snapped, Cond.instanceMethod yX0_snapped]
def wsL_act_r5 : List Cond := [Cond.selects RX0 yX0_snapped yX0_snapped, Cond.code yX0_snapped cX0_snapped 3 (some .int), Cond.methodLink RX0 131 yX0_shareOf, Cond.instanceMethod yX0_shareOf, Cond.selects RX0 yX0_shareOf yX0_shareOf, Cond.code yX0_shareOf cX0_shareOf 3 (some .int), Cond.methodLink RX0 114 yX0_storePair, Cond.instanceMethod yX0_storePair, Cond.selects RX0 yX0_storePair yX0_storePair, Cond.code yX0_storePair cX0_storePair 5 none, Cond.fieldLink RX0 24 "SignLetters$Layout" "gaps" "[I", Cond.fieldLink RX0 27 "SignLetters$Layout" "areas" "[I", Cond.fieldLink RX0 30 "SignLetters$Layout" "shares" "[I", Cond.static yX5_widthOf, Cond.code yX5_widthOf cX5_widthOf 1 (some .int), Cond.methodLink RX5 278 yX2_rank, Cond.instanceMethod yX2_rank, Cond.selects RX2 yX2_rank yX2_rank, Cond.initialized RX2, Cond.code yX2_rank cX2_rank 3 none, Cond.fieldLink RX2 19 "SignLetters$Ranking" "size" "I", Cond.methodLink RX2 28 yX0_isPair, Cond.instanceMethod yX0_isPair, Cond.selects RX0 yX0_isPair yX0_isPair]
def wsL_act_r6 : List Cond := [Cond.code yX0_isPair cX0_isPair 2 (some .boolean), Cond.methodLink RX2 32 yX2_enter, Cond.instanceMethod yX2_enter, Cond.selects RX2 yX2_enter yX2_enter, Cond.code yX2_enter cX2_enter 6 none, Cond.fieldLink RX2 9 "SignLetters$Ranking" "places" "[I", Cond.methodLink RX2 40 yX2_comesBefore, Cond.instanceMethod yX2_comesBefore, Cond.selects RX2 yX2_comesBefore yX2_comesBefore, Cond.code yX2_comesBefore cX2_comesBefore 8 (some .boolean), Cond.fieldLink RX2 15 "SignLetters$Ranking" "ofFaults" "Z", Cond.methodLink RX5 220 yX5_lineNumber, Cond.instanceMethod yX5_lineNumber, Cond.selects RX5 yX5_lineNumber yX5_lineNumber, Cond.code yX5_lineNumber cX5_lineNumber 3 (some .int), Cond.fieldLink RX5 22 "SignLetters" "past" "LSignLetters$Past;", Cond.methodLink RX5 309 yX3_countLetters, Cond.instanceMethod yX3_countLetters, Cond.selects RX3 yX3_countLetters yX3_countLetters, Cond.code yX3_countLetters cX3_countLetters 3 (some .int), Cond.methodLink RX3 47 yX3_letterAt, Cond.methodLink RX5 217 yX2_placeAt, Cond.instanceMethod yX2_placeAt, Cond.selects RX2 yX2_placeAt yX2_placeAt]
def wsL_act_r7 : List Cond := [Cond.code yX2_placeAt cX2_placeAt 2 (some .int), Cond.methodLink RX5 312 yX5_areaOf, Cond.static yX5_areaOf, Cond.code yX5_areaOf cX5_areaOf 2 (some .int), Cond.methodLink RX5 288 yX0_isPair, Cond.methodLink RX5 144 yX5_valueAt, Cond.methodLink RL 22 yL_low, Cond.static yL_low, Cond.initialized RL, Cond.code yL_low cL_low 2 (some .int), Cond.constant RL 7 (2147483647), Cond.methodLink RL 27 yX5_drop, Cond.instanceMethod yX5_drop, Cond.selects RX5 yX5_drop yX5_drop, Cond.code yX5_drop cX5_drop 2 (some .int), Cond.classLink RX5 63 "java/lang/IndexOutOfBoundsException", Cond.initialized "java/lang/IndexOutOfBoundsException", Cond.methodLink RX5 91 yX3_has, Cond.methodLink RX5 84 yX5_saveState, Cond.instanceMethod yX5_saveState, Cond.selects RX5 yX5_saveState yX5_saveState, Cond.code yX5_saveState cX5_saveState 1 none, Cond.methodLink RX5 275 yX1_save, Cond.instanceMethod yX1_save]
def wsL_act_r8 : List Cond := [Cond.selects RX1 yX1_save yX1_save, Cond.initialized RX1, Cond.code yX1_save cX1_save 3 none, Cond.fieldLink RX1 18 "SignLetters$Past" "size" "I", Cond.fieldLink RX1 22 "SignLetters$Past" "oldest" "I", Cond.methodLink RX1 25 yX1_savedAt, Cond.instanceMethod yX1_savedAt, Cond.selects RX1 yX1_savedAt yX1_savedAt, Cond.code yX1_savedAt cX1_savedAt 3 (some (.object "SignLetters$State")), Cond.fieldLink RX1 11 "SignLetters$Past" "states" "[LSignLetters$State;", Cond.methodLink RX1 29 yX3_copyFrom, Cond.instanceMethod yX3_copyFrom, Cond.selects RX3 yX3_copyFrom yX3_copyFrom, Cond.code yX3_copyFrom cX3_copyFrom 2 none, Cond.fieldLink RX3 18 "SignLetters$State" "settings" "[I", Cond.fieldLink RX3 21 "SignLetters$State" "boardLength" "I", Cond.methodLink RX5 96 yX3_remove, Cond.instanceMethod yX3_remove, Cond.selects RX3 yX3_remove yX3_remove, Cond.code yX3_remove cX3_remove 3 none, Cond.methodLink RX3 51 yX3_write, Cond.instanceMethod yX3_write, Cond.selects RX3 yX3_write yX3_write, Cond.code yX3_write cX3_write 4 none]
def wsL_act_r9 : List Cond := [Cond.methodLink RL 30 yX5_swap, Cond.instanceMethod yX5_swap, Cond.selects RX5 yX5_swap yX5_swap, Cond.code yX5_swap cX5_swap 3 (some .int), Cond.methodLink RX5 100 yX3_exchange, Cond.instanceMethod yX3_exchange, Cond.selects RX3 yX3_exchange yX3_exchange, Cond.code yX3_exchange cX3_exchange 5 none, Cond.methodLink RL 18 yX5_item, Cond.instanceMethod yX5_item, Cond.selects RX5 yX5_item yX5_item, Cond.code yX5_item cX5_item 3 (some .int), Cond.methodLink RX5 211 yX5_itemNumber, Cond.instanceMethod yX5_itemNumber, Cond.selects RX5 yX5_itemNumber yX5_itemNumber, Cond.code yX5_itemNumber cX5_itemNumber 5 (some .int), Cond.methodLink RX5 112 yX3_letterAt, Cond.methodLink RX5 118 yX3_kernAt, Cond.methodLink RX5 291 yX5_pairNumber, Cond.instanceMethod yX5_pairNumber, Cond.selects RX5 yX5_pairNumber yX5_pairNumber, Cond.code yX5_pairNumber cX5_pairNumber 4 (some .int), Cond.methodLink RX5 300 yX0_countedCells, Cond.instanceMethod yX0_countedCells]
def wsL_act_r10 : List Cond := [Cond.selects RX0 yX0_countedCells yX0_countedCells, Cond.code yX0_countedCells cX0_countedCells 7 (some .int), Cond.methodLink RX5 306 yX0_isFault, Cond.instanceMethod yX0_isFault, Cond.selects RX0 yX0_isFault yX0_isFault, Cond.code yX0_isFault cX0_isFault 2 (some .boolean), Cond.methodLink RX0 88 yX0_isPair, Cond.methodLink RL 33 yX5_kern, Cond.instanceMethod yX5_kern, Cond.selects RX5 yX5_kern yX5_kern, Cond.code yX5_kern cX5_kern 4 (some .int), Cond.classLink RX5 79 "java/lang/IllegalStateException", Cond.initialized "java/lang/IllegalStateException", Cond.methodLink RX5 121 yX3_changeKern, Cond.instanceMethod yX3_changeKern, Cond.selects RX3 yX3_changeKern yX3_changeKern, Cond.code yX3_changeKern cX3_changeKern 3 none, Cond.methodLink RL 36 yX5_board, Cond.instanceMethod yX5_board, Cond.selects RX5 yX5_board yX5_board, Cond.code yX5_board cX5_board 3 (some .int), Cond.methodLink RL 39 yL_value, Cond.static yL_value, Cond.code yL_value cL_value 2 (some .int)]
def wsL_act_r11 : List Cond := [Cond.methodLink RL 42 yX5_set, Cond.instanceMethod yX5_set, Cond.selects RX5 yX5_set yX5_set, Cond.code yX5_set cX5_set 4 (some .int), Cond.methodLink RX5 129 yX5_isSetting, Cond.static yX5_isSetting, Cond.code yX5_isSetting cX5_isSetting 1 (some .boolean), Cond.methodLink RX5 134 yX5_isInRange, Cond.static yX5_isInRange, Cond.code yX5_isInRange cX5_isInRange 2 (some .boolean), Cond.fieldLink RX5 330 "SignLetters" "LEAST_SETTINGS" "[I", Cond.fieldLink RX5 333 "SignLetters" "MOST_SETTINGS" "[I", Cond.methodLink RX5 148 yX5_store, Cond.methodLink RL 45 yX5_restore, Cond.instanceMethod yX5_restore, Cond.selects RX5 yX5_restore yX5_restore, Cond.code yX5_restore cX5_restore 1 (some .int), Cond.fieldLink RX5 187 "SignLetters" "hasSnapshot" "Z", Cond.fieldLink RX5 16 "SignLetters" "snapshot" "LSignLetters$State;", Cond.methodLink RX5 184 yX3_copyFrom, Cond.methodLink RL 49 yX5_put, Cond.instanceMethod yX5_put, Cond.selects RX5 yX5_put yX5_put, Cond.code yX5_put cX5_put 3 (some .int)]
def wsL_act_r12 : List Cond := [Cond.methodLink RX5 70 yX5_isLetter, Cond.static yX5_isLetter, Cond.code yX5_isLetter cX5_isLetter 1 (some .boolean), Cond.methodLink RX5 87 yX3_insert, Cond.instanceMethod yX3_insert, Cond.selects RX3 yX3_insert yX3_insert, Cond.code yX3_insert cX3_insert 4 none]
def wsL_act : List Cond := .code yL_act cL_act 6 (some .int) :: ((wsL_act_r1 ++ (wsL_act_r2 ++ (wsL_act_r3 ++ (wsL_act_r4 ++ (wsL_act_r5 ++ (wsL_act_r6 ++ (wsL_act_r7 ++ (wsL_act_r8 ++ (wsL_act_r9 ++ (wsL_act_r10 ++ (wsL_act_r11 ++ wsL_act_r12))))))))))) ++ wsX50 ++ wsX30 ++ wsX00 ++ wsX20 ++ wsX10 ++ (vx_atS RX5 78 "java/lang/IllegalArgumentException" ["java/lang/RuntimeException", "java/lang/Exception"]).filter goodWord ++ (vx_atS RX5 67 "java/lang/IndexOutOfBoundsException" ["java/lang/RuntimeException", "java/lang/Exception"]).filter goodWord ++ (vx_atS RX5 83 "java/lang/IllegalStateException" ["java/lang/RuntimeException", "java/lang/Exception"]).filter goodWord)
def wsL_holds_r1 : List Cond := [Cond.methodLink RL 12 yX5_count, Cond.instanceMethod yX5_count, Cond.selects RX5 yX5_count yX5_count, Cond.initialized RX5, Cond.code yX5_count cX5_count 2 (some .int), Cond.classLink RX5 74 "java/lang/IllegalArgumentException", Cond.initialized "java/lang/IllegalArgumentException", Cond.methodLink RX5 103 yX5_look, Cond.instanceMethod yX5_look, Cond.selects RX5 yX5_look yX5_look, Cond.code yX5_look cX5_look 1 (some (.object "SignLetters$Layout")), Cond.fieldLink RX5 55 "SignLetters" "stale" "Z", Cond.fieldLink RX5 36 "SignLetters" "shown" "LSignLetters$Layout;", Cond.fieldLink RX5 10 "SignLetters" "state" "LSignLetters$State;", Cond.fieldLink RX5 48 "SignLetters" "areaRanking" "LSignLetters$Ranking;", Cond.fieldLink RX5 52 "SignLetters" "faultRanking" "LSignLetters$Ranking;", Cond.methodLink RX5 226 yX0_lay, Cond.instanceMethod yX0_lay, Cond.selects RX0 yX0_lay yX0_lay, Cond.initialized RX0, Cond.code yX0_lay cX0_lay 5 none, Cond.fieldLink RX0 9 "SignLetters$Layout" "settings" "[I", Cond.fieldLink RX0 54 "SignLetters$Layout" "rowLimit" "I", Cond.fieldLink RX0 58 "SignLetters$Layout" "wantedArea" "I"]
def wsL_holds_r2 : List Cond := [Cond.fieldLink RX0 61 "SignLetters$Layout" "snap" "I", Cond.fieldLink RX0 64 "SignLetters$Layout" "allowedShare" "I", Cond.fieldLink RX0 74 "SignLetters$Layout" "items" "I", Cond.fieldLink RX0 75 "SignLetters$Layout" "pairs" "I", Cond.fieldLink RX0 78 "SignLetters$Layout" "faults" "I", Cond.fieldLink RX0 81 "SignLetters$Layout" "width" "I", Cond.static yX5_copyRow, Cond.code yX5_copyRow cX5_copyRow 3 none, Cond.static yX5_store, Cond.code yX5_store cX5_store 3 none, Cond.static yX5_valueAt, Cond.code yX5_valueAt cX5_valueAt 2 (some .int), Cond.methodLink RX0 67 yX0_brushEdges, Cond.instanceMethod yX0_brushEdges, Cond.selects RX0 yX0_brushEdges yX0_brushEdges, Cond.code yX0_brushEdges cX0_brushEdges 3 none, Cond.fieldLink RX0 33 "SignLetters$Layout" "edges" "[I", Cond.static yX5_brushedIndent, Cond.code yX5_brushedIndent cX5_brushedIndent 4 (some .int), Cond.methodLink RX5 326 yX5_plainIndent, Cond.static yX5_plainIndent, Cond.code yX5_plainIndent cX5_plainIndent 2 (some .int), Cond.methodLink RX0 84 yX0_layItem, Cond.instanceMethod yX0_layItem]
def wsL_holds_r3 : List Cond := [Cond.selects RX0 yX0_layItem yX0_layItem, Cond.code yX0_layItem cX0_layItem 6 none, Cond.fieldLink RX0 15 "SignLetters$Layout" "begins" "[I", Cond.fieldLink RX0 18 "SignLetters$Layout" "ends" "[I", Cond.methodLink RX0 96 yX3_letterAt, Cond.instanceMethod yX3_letterAt, Cond.selects RX3 yX3_letterAt yX3_letterAt, Cond.initialized RX3, Cond.code yX3_letterAt cX3_letterAt 2 (some .int), Cond.fieldLink RX3 9 "SignLetters$State" "letters" "[I", Cond.methodLink RX3 35 yX3_has, Cond.instanceMethod yX3_has, Cond.selects RX3 yX3_has yX3_has, Cond.code yX3_has cX3_has 2 (some .boolean), Cond.fieldLink RX3 32 "SignLetters$State" "items" "I", Cond.methodLink RX0 100 yX0_joinEdges, Cond.instanceMethod yX0_joinEdges, Cond.selects RX0 yX0_joinEdges yX0_joinEdges, Cond.code yX0_joinEdges cX0_joinEdges 6 none, Cond.fieldLink RX0 36 "SignLetters$Layout" "indents" "[I", Cond.static yX5_rightShape, Cond.code yX5_rightShape cX5_rightShape 1 (some .int), Cond.static yX5_leftShape, Cond.code yX5_leftShape cX5_leftShape 1 (some .int)]
def wsL_holds_r4 : List Cond := [Cond.methodLink RX0 104 yX3_kernAt, Cond.instanceMethod yX3_kernAt, Cond.selects RX3 yX3_kernAt yX3_kernAt, Cond.code yX3_kernAt cX3_kernAt 2 (some .int), Cond.fieldLink RX3 15 "SignLetters$State" "kerns" "[I", Cond.methodLink RX0 107 yX0_layPair, Cond.instanceMethod yX0_layPair, Cond.selects RX0 yX0_layPair yX0_layPair, Cond.code yX0_layPair cX0_layPair 7 (some .int), Cond.fieldLink RX0 21 "SignLetters$Layout" "leastGaps" "[I", Cond.methodLink RX0 121 yX0_leastGap, Cond.instanceMethod yX0_leastGap, Cond.selects RX0 yX0_leastGap yX0_leastGap, Cond.code yX0_leastGap cX0_leastGap 2 (some .int), Cond.methodLink RX0 128 yX0_areaBy, Cond.instanceMethod yX0_areaBy, Cond.selects RX0 yX0_areaBy yX0_areaBy, Cond.code yX0_areaBy cX0_areaBy 5 (some .int), Cond.methodLink RX0 125 yX0_gapBehind, Cond.instanceMethod yX0_gapBehind, Cond.selects RX0 yX0_gapBehind yX0_gapBehind, Cond.code yX0_gapBehind cX0_gapBehind 3 (some .int), Cond.methodLink RX0 111 yX0_snapped, Cond.instanceMethod yX0_snapped]
def wsL_holds_r5 : List Cond := [Cond.selects RX0 yX0_snapped yX0_snapped, Cond.code yX0_snapped cX0_snapped 3 (some .int), Cond.methodLink RX0 131 yX0_shareOf, Cond.instanceMethod yX0_shareOf, Cond.selects RX0 yX0_shareOf yX0_shareOf, Cond.code yX0_shareOf cX0_shareOf 3 (some .int), Cond.methodLink RX0 114 yX0_storePair, Cond.instanceMethod yX0_storePair, Cond.selects RX0 yX0_storePair yX0_storePair, Cond.code yX0_storePair cX0_storePair 5 none, Cond.fieldLink RX0 24 "SignLetters$Layout" "gaps" "[I", Cond.fieldLink RX0 27 "SignLetters$Layout" "areas" "[I", Cond.fieldLink RX0 30 "SignLetters$Layout" "shares" "[I", Cond.static yX5_widthOf, Cond.code yX5_widthOf cX5_widthOf 1 (some .int), Cond.methodLink RX5 278 yX2_rank, Cond.instanceMethod yX2_rank, Cond.selects RX2 yX2_rank yX2_rank, Cond.initialized RX2, Cond.code yX2_rank cX2_rank 3 none, Cond.fieldLink RX2 19 "SignLetters$Ranking" "size" "I", Cond.methodLink RX2 28 yX0_isPair, Cond.instanceMethod yX0_isPair, Cond.selects RX0 yX0_isPair yX0_isPair]
def wsL_holds_r6 : List Cond := [Cond.code yX0_isPair cX0_isPair 2 (some .boolean), Cond.methodLink RX2 32 yX2_enter, Cond.instanceMethod yX2_enter, Cond.selects RX2 yX2_enter yX2_enter, Cond.code yX2_enter cX2_enter 6 none, Cond.fieldLink RX2 9 "SignLetters$Ranking" "places" "[I", Cond.methodLink RX2 40 yX2_comesBefore, Cond.instanceMethod yX2_comesBefore, Cond.selects RX2 yX2_comesBefore yX2_comesBefore, Cond.code yX2_comesBefore cX2_comesBefore 8 (some .boolean), Cond.fieldLink RX2 15 "SignLetters$Ranking" "ofFaults" "Z", Cond.methodLink RX5 220 yX5_lineNumber, Cond.instanceMethod yX5_lineNumber, Cond.selects RX5 yX5_lineNumber yX5_lineNumber, Cond.code yX5_lineNumber cX5_lineNumber 3 (some .int), Cond.fieldLink RX5 22 "SignLetters" "past" "LSignLetters$Past;", Cond.methodLink RX5 309 yX3_countLetters, Cond.instanceMethod yX3_countLetters, Cond.selects RX3 yX3_countLetters yX3_countLetters, Cond.code yX3_countLetters cX3_countLetters 3 (some .int), Cond.methodLink RX3 47 yX3_letterAt, Cond.methodLink RX5 217 yX2_placeAt, Cond.instanceMethod yX2_placeAt, Cond.selects RX2 yX2_placeAt yX2_placeAt]
def wsL_holds_r7 : List Cond := [Cond.code yX2_placeAt cX2_placeAt 2 (some .int), Cond.methodLink RX5 312 yX5_areaOf, Cond.static yX5_areaOf, Cond.code yX5_areaOf cX5_areaOf 2 (some .int), Cond.methodLink RX5 288 yX0_isPair, Cond.methodLink RX5 144 yX5_valueAt, Cond.methodLink RL 18 yX5_item, Cond.instanceMethod yX5_item, Cond.selects RX5 yX5_item yX5_item, Cond.code yX5_item cX5_item 3 (some .int), Cond.classLink RX5 63 "java/lang/IndexOutOfBoundsException", Cond.initialized "java/lang/IndexOutOfBoundsException", Cond.methodLink RX5 91 yX3_has, Cond.methodLink RX5 211 yX5_itemNumber, Cond.instanceMethod yX5_itemNumber, Cond.selects RX5 yX5_itemNumber yX5_itemNumber, Cond.code yX5_itemNumber cX5_itemNumber 5 (some .int), Cond.methodLink RX5 112 yX3_letterAt, Cond.methodLink RX5 118 yX3_kernAt, Cond.methodLink RX5 291 yX5_pairNumber, Cond.instanceMethod yX5_pairNumber, Cond.selects RX5 yX5_pairNumber yX5_pairNumber, Cond.code yX5_pairNumber cX5_pairNumber 4 (some .int), Cond.methodLink RX5 300 yX0_countedCells]
def wsL_holds_r8 : List Cond := [Cond.instanceMethod yX0_countedCells, Cond.selects RX0 yX0_countedCells yX0_countedCells, Cond.code yX0_countedCells cX0_countedCells 7 (some .int), Cond.methodLink RX5 306 yX0_isFault, Cond.instanceMethod yX0_isFault, Cond.selects RX0 yX0_isFault yX0_isFault, Cond.code yX0_isFault cX0_isFault 2 (some .boolean), Cond.methodLink RX0 88 yX0_isPair, Cond.methodLink RL 52 yX5_letter, Cond.instanceMethod yX5_letter, Cond.selects RX5 yX5_letter yX5_letter, Cond.code yX5_letter cX5_letter 3 (some .int), Cond.methodLink RX5 70 yX5_isLetter, Cond.static yX5_isLetter, Cond.code yX5_isLetter cX5_isLetter 1 (some .boolean), Cond.methodLink RX5 196 yX5_widthOf, Cond.methodLink RX5 199 yX5_leftShape, Cond.methodLink RX5 202 yX5_rightShape, Cond.methodLink RL 55 yX5_even, Cond.instanceMethod yX5_even, Cond.selects RX5 yX5_even yX5_even, Cond.code yX5_even cX5_even 1 (some .double), Cond.methodLink RX5 237 yX5_evenness, Cond.static yX5_evenness]
def wsL_holds_r9 : List Cond := [Cond.code yX5_evenness cX5_evenness 1 (some .double), Cond.methodLink RL 59 yX5_byArea, Cond.instanceMethod yX5_byArea, Cond.selects RX5 yX5_byArea yX5_byArea, Cond.code yX5_byArea cX5_byArea 2 (some .int), Cond.methodLink RL 62 yX5_byFault, Cond.instanceMethod yX5_byFault, Cond.selects RX5 yX5_byFault yX5_byFault, Cond.code yX5_byFault cX5_byFault 2 (some .int)]
def wsL_holds : List Cond := .code yL_holds cL_holds 12 (some .boolean) :: ((wsL_holds_r1 ++ (wsL_holds_r2 ++ (wsL_holds_r3 ++ (wsL_holds_r4 ++ (wsL_holds_r5 ++ (wsL_holds_r6 ++ (wsL_holds_r7 ++ (wsL_holds_r8 ++ wsL_holds_r9)))))))) ++ wsX50 ++ wsX30 ++ wsX00 ++ wsX20 ++ wsX10 ++ (vx_atS RX5 78 "java/lang/IllegalArgumentException" ["java/lang/RuntimeException", "java/lang/Exception"]).filter goodWord ++ (vx_atS RX5 67 "java/lang/IndexOutOfBoundsException" ["java/lang/RuntimeException", "java/lang/Exception"]).filter goodWord)
def wsL_law0_r1 : List Cond := [Cond.classLink RL 13 RX5, Cond.instantiable RX5 10, Cond.initialized RX5, Cond.methodLink RL 65 yX5_init, Cond.instanceMethod yX5_init, Cond.code yX5_init cX5_init 1 none, Cond.methodLink RX5 1 objectInit, Cond.instanceMethod objectInit, Cond.code objectInit ⟨#[0xb1]⟩ 1 none, Cond.classLink RX5 7 RX3, Cond.instantiable RX3 5, Cond.initialized RX3, Cond.fieldLink RX5 10 "SignLetters" "state" "LSignLetters$State;", Cond.fieldLink RX5 16 "SignLetters" "snapshot" "LSignLetters$State;", Cond.classLink RX5 19 RX1, Cond.instantiable RX1 3, Cond.initialized RX1, Cond.fieldLink RX5 22 "SignLetters" "past" "LSignLetters$Past;", Cond.classLink RX5 26 RX4, Cond.instantiable RX4 2, Cond.initialized RX4, Cond.fieldLink RX5 29 "SignLetters" "text" "LSignLetters$Text;", Cond.classLink RX5 33 RX0, Cond.instantiable RX0 17]
def wsL_law0_r2 : List Cond := [Cond.initialized RX0, Cond.fieldLink RX5 36 "SignLetters" "shown" "LSignLetters$Layout;", Cond.fieldLink RX5 40 "SignLetters" "trial" "LSignLetters$Layout;", Cond.classLink RX5 43 RX2, Cond.instantiable RX2 3, Cond.initialized RX2, Cond.fieldLink RX5 48 "SignLetters" "areaRanking" "LSignLetters$Ranking;", Cond.fieldLink RX5 52 "SignLetters" "faultRanking" "LSignLetters$Ranking;", Cond.fieldLink RX5 55 "SignLetters" "stale" "Z", Cond.methodLink RX5 9 yX3_init, Cond.instanceMethod yX3_init, Cond.code yX3_init cX3_init 1 none, Cond.methodLink RX3 3 objectInit, Cond.arrayClass .int, Cond.fieldLink RX3 9 "SignLetters$State" "letters" "[I", Cond.fieldLink RX3 15 "SignLetters$State" "kerns" "[I", Cond.fieldLink RX3 18 "SignLetters$State" "settings" "[I", Cond.fieldLink RX3 21 "SignLetters$State" "boardLength" "I", Cond.static yX5_copyRow, Cond.code yX5_copyRow cX5_copyRow 3 none, Cond.methodLink RX5 21 yX1_init, Cond.instanceMethod yX1_init, Cond.code yX1_init cX1_init 2 none, Cond.methodLink RX1 3 objectInit]
def wsL_law0_r3 : List Cond := [Cond.classLink RX1 9 RX3, Cond.fieldLink RX1 11 "SignLetters$Past" "states" "[LSignLetters$State;", Cond.methodLink RX1 17 yX3_init, Cond.instanceMethod yX4_init, Cond.code yX4_init cX4_init 1 none, Cond.methodLink RX4 3 objectInit, Cond.fieldLink RX4 9 "SignLetters$Text" "codes" "[I", Cond.instanceMethod yX0_init, Cond.code yX0_init cX0_init 1 none, Cond.methodLink RX0 3 objectInit, Cond.fieldLink RX0 9 "SignLetters$Layout" "settings" "[I", Cond.fieldLink RX0 15 "SignLetters$Layout" "begins" "[I", Cond.fieldLink RX0 18 "SignLetters$Layout" "ends" "[I", Cond.fieldLink RX0 21 "SignLetters$Layout" "leastGaps" "[I", Cond.fieldLink RX0 24 "SignLetters$Layout" "gaps" "[I", Cond.fieldLink RX0 27 "SignLetters$Layout" "areas" "[I", Cond.fieldLink RX0 30 "SignLetters$Layout" "shares" "[I", Cond.fieldLink RX0 33 "SignLetters$Layout" "edges" "[I", Cond.fieldLink RX0 36 "SignLetters$Layout" "indents" "[I", Cond.methodLink RX5 45 yX2_init, Cond.instanceMethod yX2_init, Cond.code yX2_init cX2_init 2 none, Cond.methodLink RX2 3 objectInit, Cond.fieldLink RX2 9 "SignLetters$Ranking" "places" "[I"]
def wsL_law0_r4 : List Cond := [Cond.fieldLink RX2 15 "SignLetters$Ranking" "ofFaults" "Z", Cond.methodLink RL 66 yX5_keep, Cond.instanceMethod yX5_keep, Cond.selects RX5 yX5_keep yX5_keep, Cond.code yX5_keep cX5_keep 1 (some .int), Cond.fieldLink RX5 187 "SignLetters" "hasSnapshot" "Z", Cond.methodLink RX5 184 yX3_copyFrom, Cond.instanceMethod yX3_copyFrom, Cond.selects RX3 yX3_copyFrom yX3_copyFrom, Cond.code yX3_copyFrom cX3_copyFrom 2 none, Cond.fieldLink RX3 32 "SignLetters$State" "items" "I", Cond.methodLink RL 55 yX5_even, Cond.instanceMethod yX5_even, Cond.selects RX5 yX5_even yX5_even, Cond.code yX5_even cX5_even 1 (some .double), Cond.methodLink RX5 103 yX5_look, Cond.instanceMethod yX5_look, Cond.selects RX5 yX5_look yX5_look, Cond.code yX5_look cX5_look 1 (some (.object "SignLetters$Layout")), Cond.methodLink RX5 226 yX0_lay, Cond.instanceMethod yX0_lay, Cond.selects RX0 yX0_lay yX0_lay, Cond.code yX0_lay cX0_lay 5 none, Cond.fieldLink RX0 54 "SignLetters$Layout" "rowLimit" "I"]
def wsL_law0_r5 : List Cond := [Cond.fieldLink RX0 58 "SignLetters$Layout" "wantedArea" "I", Cond.fieldLink RX0 61 "SignLetters$Layout" "snap" "I", Cond.fieldLink RX0 64 "SignLetters$Layout" "allowedShare" "I", Cond.fieldLink RX0 74 "SignLetters$Layout" "items" "I", Cond.fieldLink RX0 75 "SignLetters$Layout" "pairs" "I", Cond.fieldLink RX0 78 "SignLetters$Layout" "faults" "I", Cond.fieldLink RX0 81 "SignLetters$Layout" "width" "I", Cond.static yX5_store, Cond.code yX5_store cX5_store 3 none, Cond.static yX5_valueAt, Cond.code yX5_valueAt cX5_valueAt 2 (some .int), Cond.methodLink RX0 67 yX0_brushEdges, Cond.instanceMethod yX0_brushEdges, Cond.selects RX0 yX0_brushEdges yX0_brushEdges, Cond.code yX0_brushEdges cX0_brushEdges 3 none, Cond.static yX5_brushedIndent, Cond.code yX5_brushedIndent cX5_brushedIndent 4 (some .int), Cond.methodLink RX5 326 yX5_plainIndent, Cond.static yX5_plainIndent, Cond.code yX5_plainIndent cX5_plainIndent 2 (some .int), Cond.methodLink RX0 84 yX0_layItem, Cond.instanceMethod yX0_layItem, Cond.selects RX0 yX0_layItem yX0_layItem, Cond.code yX0_layItem cX0_layItem 6 none]
def wsL_law0_r6 : List Cond := [Cond.methodLink RX0 96 yX3_letterAt, Cond.instanceMethod yX3_letterAt, Cond.selects RX3 yX3_letterAt yX3_letterAt, Cond.code yX3_letterAt cX3_letterAt 2 (some .int), Cond.methodLink RX3 35 yX3_has, Cond.instanceMethod yX3_has, Cond.selects RX3 yX3_has yX3_has, Cond.code yX3_has cX3_has 2 (some .boolean), Cond.methodLink RX0 100 yX0_joinEdges, Cond.instanceMethod yX0_joinEdges, Cond.selects RX0 yX0_joinEdges yX0_joinEdges, Cond.code yX0_joinEdges cX0_joinEdges 6 none, Cond.static yX5_rightShape, Cond.code yX5_rightShape cX5_rightShape 1 (some .int), Cond.static yX5_leftShape, Cond.code yX5_leftShape cX5_leftShape 1 (some .int), Cond.methodLink RX0 104 yX3_kernAt, Cond.instanceMethod yX3_kernAt, Cond.selects RX3 yX3_kernAt yX3_kernAt, Cond.code yX3_kernAt cX3_kernAt 2 (some .int), Cond.methodLink RX0 107 yX0_layPair, Cond.instanceMethod yX0_layPair, Cond.selects RX0 yX0_layPair yX0_layPair, Cond.code yX0_layPair cX0_layPair 7 (some .int)]
def wsL_law0_r7 : List Cond := [Cond.methodLink RX0 121 yX0_leastGap, Cond.instanceMethod yX0_leastGap, Cond.selects RX0 yX0_leastGap yX0_leastGap, Cond.code yX0_leastGap cX0_leastGap 2 (some .int), Cond.methodLink RX0 128 yX0_areaBy, Cond.instanceMethod yX0_areaBy, Cond.selects RX0 yX0_areaBy yX0_areaBy, Cond.code yX0_areaBy cX0_areaBy 5 (some .int), Cond.methodLink RX0 125 yX0_gapBehind, Cond.instanceMethod yX0_gapBehind, Cond.selects RX0 yX0_gapBehind yX0_gapBehind, Cond.code yX0_gapBehind cX0_gapBehind 3 (some .int), Cond.methodLink RX0 111 yX0_snapped, Cond.instanceMethod yX0_snapped, Cond.selects RX0 yX0_snapped yX0_snapped, Cond.code yX0_snapped cX0_snapped 3 (some .int), Cond.methodLink RX0 131 yX0_shareOf, Cond.instanceMethod yX0_shareOf, Cond.selects RX0 yX0_shareOf yX0_shareOf, Cond.code yX0_shareOf cX0_shareOf 3 (some .int), Cond.methodLink RX0 114 yX0_storePair, Cond.instanceMethod yX0_storePair, Cond.selects RX0 yX0_storePair yX0_storePair, Cond.code yX0_storePair cX0_storePair 5 none]
def wsL_law0_r8 : List Cond := [Cond.static yX5_widthOf, Cond.code yX5_widthOf cX5_widthOf 1 (some .int), Cond.methodLink RX5 278 yX2_rank, Cond.instanceMethod yX2_rank, Cond.selects RX2 yX2_rank yX2_rank, Cond.code yX2_rank cX2_rank 3 none, Cond.fieldLink RX2 19 "SignLetters$Ranking" "size" "I", Cond.methodLink RX2 28 yX0_isPair, Cond.instanceMethod yX0_isPair, Cond.selects RX0 yX0_isPair yX0_isPair, Cond.code yX0_isPair cX0_isPair 2 (some .boolean), Cond.methodLink RX2 32 yX2_enter, Cond.instanceMethod yX2_enter, Cond.selects RX2 yX2_enter yX2_enter, Cond.code yX2_enter cX2_enter 6 none, Cond.methodLink RX2 40 yX2_comesBefore, Cond.instanceMethod yX2_comesBefore, Cond.selects RX2 yX2_comesBefore yX2_comesBefore, Cond.code yX2_comesBefore cX2_comesBefore 8 (some .boolean), Cond.methodLink RX5 237 yX5_evenness, Cond.static yX5_evenness, Cond.code yX5_evenness cX5_evenness 1 (some .double), Cond.methodLink RL 69 yX5_greatestArea, Cond.instanceMethod yX5_greatestArea]
def wsL_law0_r9 : List Cond := [Cond.selects RX5 yX5_greatestArea yX5_greatestArea, Cond.code yX5_greatestArea cX5_greatestArea 2 (some .int), Cond.methodLink RL 72 yL_cell, Cond.static yL_cell, Cond.initialized RL, Cond.code yL_cell cL_cell 2 (some .int), Cond.methodLink RL 12 yX5_count, Cond.instanceMethod yX5_count, Cond.selects RX5 yX5_count yX5_count, Cond.code yX5_count cX5_count 2 (some .int), Cond.classLink RX5 74 "java/lang/IllegalArgumentException", Cond.initialized "java/lang/IllegalArgumentException", Cond.methodLink RX5 220 yX5_lineNumber, Cond.instanceMethod yX5_lineNumber, Cond.selects RX5 yX5_lineNumber yX5_lineNumber, Cond.code yX5_lineNumber cX5_lineNumber 3 (some .int), Cond.methodLink RX5 309 yX3_countLetters, Cond.instanceMethod yX3_countLetters, Cond.selects RX3 yX3_countLetters yX3_countLetters, Cond.code yX3_countLetters cX3_countLetters 3 (some .int), Cond.methodLink RX3 47 yX3_letterAt, Cond.methodLink RX5 217 yX2_placeAt, Cond.instanceMethod yX2_placeAt, Cond.selects RX2 yX2_placeAt yX2_placeAt]
def wsL_law0_r10 : List Cond := [Cond.code yX2_placeAt cX2_placeAt 2 (some .int), Cond.methodLink RX5 312 yX5_areaOf, Cond.static yX5_areaOf, Cond.code yX5_areaOf cX5_areaOf 2 (some .int), Cond.methodLink RX5 288 yX0_isPair, Cond.methodLink RX5 144 yX5_valueAt, Cond.methodLink RL 76 yX5_undo, Cond.instanceMethod yX5_undo, Cond.selects RX5 yX5_undo yX5_undo, Cond.code yX5_undo cX5_undo 1 (some .int), Cond.classLink RX5 79 "java/lang/IllegalStateException", Cond.initialized "java/lang/IllegalStateException", Cond.methodLink RX5 181 yX1_takeLatest, Cond.instanceMethod yX1_takeLatest, Cond.selects RX1 yX1_takeLatest yX1_takeLatest, Cond.code yX1_takeLatest cX1_takeLatest 3 none, Cond.fieldLink RX1 18 "SignLetters$Past" "size" "I", Cond.methodLink RX1 25 yX1_savedAt, Cond.instanceMethod yX1_savedAt, Cond.selects RX1 yX1_savedAt yX1_savedAt, Cond.code yX1_savedAt cX1_savedAt 3 (some (.object "SignLetters$State")), Cond.fieldLink RX1 22 "SignLetters$Past" "oldest" "I", Cond.methodLink RX1 29 yX3_copyFrom, Cond.methodLink RL 79 yL_told]
def wsL_law0_r11 : List Cond := [Cond.static yL_told, Cond.code yL_told cL_told 5 (some .long), Cond.constantLong RL 8 (3), Cond.constantLong RL 10 (31), Cond.methodLink RL 18 yX5_item, Cond.instanceMethod yX5_item, Cond.selects RX5 yX5_item yX5_item, Cond.code yX5_item cX5_item 3 (some .int), Cond.classLink RX5 63 "java/lang/IndexOutOfBoundsException", Cond.initialized "java/lang/IndexOutOfBoundsException", Cond.methodLink RX5 91 yX3_has, Cond.methodLink RX5 211 yX5_itemNumber, Cond.instanceMethod yX5_itemNumber, Cond.selects RX5 yX5_itemNumber yX5_itemNumber, Cond.code yX5_itemNumber cX5_itemNumber 5 (some .int), Cond.methodLink RX5 112 yX3_letterAt, Cond.methodLink RX5 118 yX3_kernAt, Cond.methodLink RX5 291 yX5_pairNumber, Cond.instanceMethod yX5_pairNumber, Cond.selects RX5 yX5_pairNumber yX5_pairNumber, Cond.code yX5_pairNumber cX5_pairNumber 4 (some .int), Cond.methodLink RX5 300 yX0_countedCells, Cond.instanceMethod yX0_countedCells, Cond.selects RX0 yX0_countedCells yX0_countedCells]
def wsL_law0_r12 : List Cond := [Cond.code yX0_countedCells cX0_countedCells 7 (some .int), Cond.methodLink RX5 306 yX0_isFault, Cond.instanceMethod yX0_isFault, Cond.selects RX0 yX0_isFault yX0_isFault, Cond.code yX0_isFault cX0_isFault 2 (some .boolean), Cond.methodLink RX0 88 yX0_isPair, Cond.methodLink RL 83 yL_act, Cond.static yL_act, Cond.code yL_act cL_act 6 (some .int), Cond.methodLink RL 22 yL_low, Cond.static yL_low, Cond.code yL_low cL_low 2 (some .int), Cond.constant RL 7 (2147483647), Cond.methodLink RL 27 yX5_drop, Cond.instanceMethod yX5_drop, Cond.selects RX5 yX5_drop yX5_drop, Cond.code yX5_drop cX5_drop 2 (some .int), Cond.methodLink RX5 84 yX5_saveState, Cond.instanceMethod yX5_saveState, Cond.selects RX5 yX5_saveState yX5_saveState, Cond.code yX5_saveState cX5_saveState 1 none, Cond.methodLink RX5 275 yX1_save, Cond.instanceMethod yX1_save, Cond.selects RX1 yX1_save yX1_save]
def wsL_law0_r13 : List Cond := [Cond.code yX1_save cX1_save 3 none, Cond.methodLink RX5 96 yX3_remove, Cond.instanceMethod yX3_remove, Cond.selects RX3 yX3_remove yX3_remove, Cond.code yX3_remove cX3_remove 3 none, Cond.methodLink RX3 51 yX3_write, Cond.instanceMethod yX3_write, Cond.selects RX3 yX3_write yX3_write, Cond.code yX3_write cX3_write 4 none, Cond.methodLink RL 30 yX5_swap, Cond.instanceMethod yX5_swap, Cond.selects RX5 yX5_swap yX5_swap, Cond.code yX5_swap cX5_swap 3 (some .int), Cond.methodLink RX5 100 yX3_exchange, Cond.instanceMethod yX3_exchange, Cond.selects RX3 yX3_exchange yX3_exchange, Cond.code yX3_exchange cX3_exchange 5 none, Cond.methodLink RL 33 yX5_kern, Cond.instanceMethod yX5_kern, Cond.selects RX5 yX5_kern yX5_kern, Cond.code yX5_kern cX5_kern 4 (some .int), Cond.methodLink RX5 121 yX3_changeKern, Cond.instanceMethod yX3_changeKern, Cond.selects RX3 yX3_changeKern yX3_changeKern]
def wsL_law0_r14 : List Cond := [Cond.code yX3_changeKern cX3_changeKern 3 none, Cond.methodLink RL 36 yX5_board, Cond.instanceMethod yX5_board, Cond.selects RX5 yX5_board yX5_board, Cond.code yX5_board cX5_board 3 (some .int), Cond.methodLink RL 39 yL_value, Cond.static yL_value, Cond.code yL_value cL_value 2 (some .int), Cond.methodLink RL 42 yX5_set, Cond.instanceMethod yX5_set, Cond.selects RX5 yX5_set yX5_set, Cond.code yX5_set cX5_set 4 (some .int), Cond.methodLink RX5 129 yX5_isSetting, Cond.static yX5_isSetting, Cond.code yX5_isSetting cX5_isSetting 1 (some .boolean), Cond.methodLink RX5 134 yX5_isInRange, Cond.static yX5_isInRange, Cond.code yX5_isInRange cX5_isInRange 2 (some .boolean), Cond.fieldLink RX5 330 "SignLetters" "LEAST_SETTINGS" "[I", Cond.fieldLink RX5 333 "SignLetters" "MOST_SETTINGS" "[I", Cond.methodLink RX5 148 yX5_store, Cond.methodLink RL 45 yX5_restore, Cond.instanceMethod yX5_restore, Cond.selects RX5 yX5_restore yX5_restore]
def wsL_law0_r15 : List Cond := [Cond.code yX5_restore cX5_restore 1 (some .int), Cond.methodLink RL 49 yX5_put, Cond.instanceMethod yX5_put, Cond.selects RX5 yX5_put yX5_put, Cond.code yX5_put cX5_put 3 (some .int), Cond.methodLink RX5 70 yX5_isLetter, Cond.static yX5_isLetter, Cond.code yX5_isLetter cX5_isLetter 1 (some .boolean), Cond.methodLink RX5 87 yX3_insert, Cond.instanceMethod yX3_insert, Cond.selects RX3 yX3_insert yX3_insert, Cond.code yX3_insert cX3_insert 4 none, Cond.methodLink RL 87 yL_holds, Cond.static yL_holds, Cond.code yL_holds cL_holds 12 (some .boolean), Cond.methodLink RL 52 yX5_letter, Cond.instanceMethod yX5_letter, Cond.selects RX5 yX5_letter yX5_letter, Cond.code yX5_letter cX5_letter 3 (some .int), Cond.methodLink RX5 196 yX5_widthOf, Cond.methodLink RX5 199 yX5_leftShape, Cond.methodLink RX5 202 yX5_rightShape, Cond.methodLink RL 59 yX5_byArea, Cond.instanceMethod yX5_byArea]
def wsL_law0_r16 : List Cond := [Cond.selects RX5 yX5_byArea yX5_byArea, Cond.code yX5_byArea cX5_byArea 2 (some .int), Cond.methodLink RL 62 yX5_byFault, Cond.instanceMethod yX5_byFault, Cond.selects RX5 yX5_byFault yX5_byFault, Cond.code yX5_byFault cX5_byFault 2 (some .int)]
def wsL_law0 : List Cond := (wsL_law0_r1 ++ (wsL_law0_r2 ++ (wsL_law0_r3 ++ (wsL_law0_r4 ++ (wsL_law0_r5 ++ (wsL_law0_r6 ++ (wsL_law0_r7 ++ (wsL_law0_r8 ++ (wsL_law0_r9 ++ (wsL_law0_r10 ++ (wsL_law0_r11 ++ (wsL_law0_r12 ++ (wsL_law0_r13 ++ (wsL_law0_r14 ++ (wsL_law0_r15 ++ wsL_law0_r16))))))))))))))) ++ wsX50 ++ wsX30 ++ wsX10 ++ wsX40 ++ wsX00 ++ wsX20 ++ ([] : List Cond)
def wsL_law : List Cond := wsL_law0 ++ (vx_atS RX5 78 "java/lang/IllegalArgumentException" ["java/lang/RuntimeException", "java/lang/Exception"]).filter goodWord ++ (vx_atS RX5 83 "java/lang/IllegalStateException" ["java/lang/RuntimeException", "java/lang/Exception"]).filter goodWord ++ (vx_atS RX5 67 "java/lang/IndexOutOfBoundsException" ["java/lang/RuntimeException", "java/lang/Exception"]).filter goodWord
