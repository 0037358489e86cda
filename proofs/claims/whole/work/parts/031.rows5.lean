/-! ===== methods that throw ===== -/
def zIOB : String := "java/lang/IndexOutOfBoundsException"
def zIAE : String := "java/lang/IllegalArgumentException"
def zISE : String := "java/lang/IllegalStateException"
def zNm : List String := ["java/lang/RuntimeException", "java/lang/Exception"]
def zTri : List (Nat × Nat × String) := [(63, 67, "java/lang/IndexOutOfBoundsException"), (74, 78, "java/lang/IllegalArgumentException"), (79, 83, "java/lang/IllegalStateException")]
def zThr : List Cond := [.castable "java/lang/IndexOutOfBoundsException" "java/lang/IndexOutOfBoundsException", .castable "java/lang/IllegalArgumentException" "java/lang/IllegalArgumentException", .castable "java/lang/IllegalStateException" "java/lang/IllegalStateException", .declares ⟨"java/lang/RuntimeException", "<init>", "(Ljava/lang/String;)V"⟩, .declares ⟨"java/lang/Exception", "<init>", "(Ljava/lang/String;)V"⟩, .declares ⟨"java/lang/Throwable", "<init>", "(Ljava/lang/String;)V"⟩]
def zThrOk (w : Cond) : Bool := match w with
  | .castable .. => true
  | .declares .. => true
  | _ => false
theorem zThr_ok : ∀ w ∈ zThr, zThrOk w = true := by decide +kernel
theorem zThr_tab {w : Cond} (h : zThrOk w = true) : w.onTables = true := by
  cases w <;> first | rfl | cases h
theorem zThr_warm {s U : State} (hW : s.WarmedH U.vm) (h : ∀ w ∈ zThr, va_Nw w s) : ∀ w ∈ zThr, va_Nw w U := by
  intro w hw
  have h1 := zThr_ok w hw
  have h2 := h w hw
  cases w <;> first | exact va_Nw.warmC hW h2 | exact va_Nw.warmD hW h2 | cases h1
theorem zTri_g : ∀ q ∈ zTri, ∀ w ∈ Cond.classLink RX5 q.1 q.2.2 :: Cond.initialized q.2.2 :: vx_atS RX5 q.2.1 q.2.2 zNm, vx_ot w = true := by decide +kernel
theorem zTri_n : ∀ q ∈ zTri, ∀ w ∈ (vx_atS RX5 q.2.1 q.2.2 zNm).filter (fun w => !goodWord w), w ∈ zThr := by decide +kernel
theorem zTri_f : ∀ q ∈ zTri, Bundle.fit q.2.2 = true := by decide +kernel
theorem zNm_f : ∀ n ∈ zNm, Bundle.fit n = true := by decide +kernel
def zBX (G : ZG) (ws : va_W) (sz : Nat) : State → Prop := fun U => zB G ws sz U ∧ ∀ w ∈ zThr, va_Nw w U
theorem zBX_blind {G : ZG} {As : List Value} {ws : va_W} {sz : Nat} : FrameBlind (va_Pc As (zBX G ws sz)) := fun a U g mk q => by
  obtain ⟨q0, q1, q2⟩ := q
  have h := zB_blind (G := G) (As := As) (ws := ws) (sz := sz) a U g mk ⟨q0, q1⟩
  exact ⟨h.1, h.2, zThr_warm (s := U) (U := U.calling g mk a) (State.WarmedH.refl U) q2⟩
/-- what a throw leaves: nothing is changed; thr: which class, when -/
def zXC (G : ZG) (wc : va_W) (A : Nat → Prop) (thr : String → Prop) : String → State → State → Prop := vx_X (fun _ : Unit => True) (fun E _ t => thr E ∧ zE G wc A t) A
def zMetX (y : MethodName) (ws : List Cond) (rm : Room) (G : ZG) (As : List Value) (wc : va_W) (thr : String → Prop) {S : Type} (post : Int32 → S → Prop) (w1 : S → va_W) (mc ms : Nat) : Prop :=
  ∀ (l : Launch) (sz : Nat), l.stackTraces = false → vx_Met l y ws rm (va_Pc As (zBX G wc sz)) (va_Qi post (fun u => zE G (w1 u) (va_A wc sz)) (va_A wc sz)) (zXC G wc (va_A wc sz) thr) mc ms (va_A wc sz)
theorem z_metX {y : MethodName} {ws ws' : List Cond} {rm : Room} {G : ZG} {As : List Value} {wc : va_W} {thr : String → Prop} {S : Type} {w1 : S → va_W} {mc ms nL : Nat} {cc : ByteArray} {post : Int32 → S → Prop} (hy5 : y.cls = RX5) (hy : plainName y.cls = true) (hw : ws = Cond.code y cc nL (some .int) :: ws') (hlen : (lg_sl As).length ≤ nL) (hF : 6 ≤ rm.frames ∧ 82 ≤ rm.locals ∧ 1 ≤ rm.cells ∧ 6 ≤ rm.slots ∧ 1 ≤ mc ∧ 6 ≤ ms)
    (body : ∀ X : ZT, ZOk G X nL cc RX5 ws rm → (∀ (pc : Nat) (loc : List (Nat × Value)) (r : Int32) (u : S) (WS : va_W), decode cc pc = .ok (.ireturn, 1) → post r u → w1 u = WS → Z G X nL mc ms WS pc loc [.int r]) →
      (∀ (pc : Nat) (loc : List (Nat × Value)) (WS : va_W) (t : Nat × Nat × String) (is : Nat) (text : String), thr t.2.2 → t ∈ zTri → (is, text) ∈ zStr → WS = wc → decode cc pc = .ok (.new t.1, 3) → decode cc (pc + 3) = .ok (.dup, 1) → decode cc (pc + 4) = .ok (.ldc is, 2) → decode cc (pc + 6) = .ok (.invokespecial t.2.1, 3) → decode cc (pc + 9) = .ok (.athrow, 1) →
        Cond.classLink RX5 t.1 t.2.2 ∈ ws → Cond.initialized t.2.2 ∈ ws → (∀ w ∈ (vx_atS RX5 t.2.1 t.2.2 zNm).filter goodWord, w ∈ ws) → Z G X nL 0 0 WS pc loc []) → Z G X nL 0 0 wc 0 (lv_args 0 As) []) : zMetX y ws rm G As wc thr post w1 mc ms := by
  intro l sz htr
  refine vx_ofW (cc := cc) (maxL := nL) (ret := some .int) hy hw ?_
  intro p e s m args below meth c s₁ B hml htab hv
  obtain ⟨rfl, ⟨hsz, hP, hK, hD0, hamb⟩, hthr⟩ := hv
  subst hsz
  have hown5 : s.vm.findClass RX5 = some m.cls := hy5 ▸ findClass_of_methodNamed B.named
  have hts := atoms_spec (ws := ws) B.pre
  have hD := hD0.self (sz := s.heap.size)
  have hb := body (p, l, e, rm, s, m, As.toArray, below, meth, c, vx_MQ below (va_Qi post (fun u => zE G (w1 u) (va_A wc s.heap.size)) (va_A wc s.heap.size)) (zXC G wc (va_A wc s.heap.size) thr) As.toArray s mc ms (va_A wc s.heap.size), va_A wc s.heap.size)
    ⟨B.exec, B.bytes, hml, hown5, hts, hK, fun q h => Or.inr h, hamb, rfl, htr, B.notSynchronized⟩ ?_ ?_
  · rw [lg_entry_eq]
    exact hb s.heap [] _ hP hD va_S.rf (lv_entry As hlen)
  · intro pc loc r u WS d hp hWS H locs ls hP hD hS hl
    subst hWS
    exact vx_ret (W.zret B.exec B.bytes B.returns rfl (fun t ht hW => ⟨⟨r, u, rfl, hp, by rw [ht]; exact hP, va_K.moved hW.alike hK, hD⟩, hS.F ht⟩) hS.2.2 d B.notSynchronized)
  · intro pc loc WS t is text hthr9 ht hstr hWS d0 d3 d4 d6 d9 hcl hin9 hat H locs ls hP7 hD7 hS7 hl7
    subst hWS
    obtain ⟨q1, q2, q3, q4, q5, q6⟩ := hF
    refine vx_throwS (rest := []) (names := zNm) (cls := t.2.2) (text := text) (ik := t.1) (is := is) (ic := t.2.1) B.exec B.bytes htr hown5 (zTri_f t ht) zNm_f (hts _ hcl) (hts _ hin9) (hamb.2.2.2.2.2.2 (is, text) hstr) (vx_hat (fun w hw => hts _ (hat w hw)) (zTri_n t ht) (fun w hw => va_Nw.use (zThr_tab (zThr_ok w hw)) (hthr w hw))) (zTri_g t ht) hamb.2.2.2.2.1 hamb.2.2.2.2.2.1 hS7 (by rw [hml]; exact hl7.1) d0 d3 d4 d6 d9 (fun x hx => (htab x hx).elim) (by show 2 + 3 < rm.frames; omega) (by show 0 + (13 * (2 + 1) + 43) ≤ rm.locals; omega) (by show 0 + 1 ≤ rm.cells; omega) (by show 0 + 6 ≤ rm.slots; omega) B.notSynchronized (fun t9 hal hz hk => ?_) hS7.2.2 (by omega) (by omega)
    refine ⟨(), trivial, ⟨hthr9, hP7.kept (fun k q hq => hk q.1 ((hP7 k q hq).lt)), va_K.moved hal hK, hD7⟩, Nat.le_trans hS7.1 hz, fun q h1 h2 => (hk q (Nat.lt_of_lt_of_le h1 hS7.1)).trans (hS7.2.1 q h1 h2)⟩
