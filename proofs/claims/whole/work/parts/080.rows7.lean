/-! ===== methods with handlers, long arrays ===== -/
def zNcs : List (String × String) := [(zIAE, zIOB), (zISE, zIOB), (zIOB, zIAE), (zISE, zIAE), (zIOB, zISE), (zIAE, zISE)]
def zNX (U : State) : Prop := (∀ w ∈ zThr, va_Nw w U) ∧ ∀ q ∈ zNcs, va_Nc q.1 q.2 U
theorem zNX.warm {s U : State} (hW : s.WarmedH U.vm) (h : zNX s) : zNX U := ⟨zThr_warm hW h.1, fun q hq => va_Nc.moved hW.alike (h.2 q hq)⟩
def zBY (G : ZG) (ws : va_W) (sz : Nat) : State → Prop := fun U => zB G ws sz U ∧ zNX U
theorem zBY_blind {G : ZG} {As : List Value} {ws : va_W} {sz : Nat} : FrameBlind (va_Pc As (zBY G ws sz)) := fun a U g mk q => by
  obtain ⟨q0, q1, q2⟩ := q
  have h := zB_blind (G := G) (As := As) (ws := ws) (sz := sz) a U g mk ⟨q0, q1⟩
  exact ⟨h.1, h.2, q2.warm (s := U) (U := U.calling g mk a) (State.WarmedH.refl U)⟩
def zMetY (y : MethodName) (ws : List Cond) (rm : Room) (G : ZG) (As : List Value) (wc : va_W) {S : Type} (post : Int32 → S → Prop) (w1 : S → va_W) (mc ms : Nat) : Prop :=
  ∀ (l : Launch) (sz : Nat), l.stackTraces = false → Met l y ws rm (va_Pc As (zBY G wc sz)) (va_Qi post (fun u => zE G (w1 u) (va_A wc sz)) (va_A wc sz)) mc ms (va_A wc sz)
/-- the handlers and what a catch needs -/
def zTb (X : ZT) (hh : List (Nat × Nat × Nat × Nat)) : Prop := match X with
  | (_, _, _, _, s, _, _, _, _, c, _, _) => c.exceptionTable.toList = tableOf hh ∧ zNX s
theorem z_metY {y : MethodName} {ws ws' : List Cond} {rm : Room} {G : ZG} {As : List Value} {wc : va_W} {S : Type} {w1 : S → va_W} {mc ms nL : Nat} {cc : ByteArray} {post : Int32 → S → Prop} {hh : List (Nat × Nat × Nat × Nat)} (hy : plainName y.cls = true) (hw : ws = Cond.codeWith y cc nL (some .int) hh :: ws') (hlen : (lg_sl As).length ≤ nL)
    (body : ∀ X : ZT, ZOk G X nL cc y.cls ws rm → zTb X hh → (∀ (pc : Nat) (loc : List (Nat × Value)) (r : Int32) (u : S) (WS : va_W), decode cc pc = .ok (.ireturn, 1) → post r u → w1 u = WS → Z G X nL mc ms WS pc loc [.int r]) → Z G X nL 0 0 wc 0 (lv_args 0 As) []) : zMetY y ws rm G As wc post w1 mc ms := by
  intro l sz htr
  refine va_MetW (cc := cc) (maxL := nL) (ret := some .int) (hh := hh) hy hw ?_
  intro p e s m args below meth c s₁ B hml hv
  obtain ⟨rfl, ⟨hsz, hP, hK, hD0, hamb⟩, hnx⟩ := hv
  subst hsz
  have hts := atoms_spec (ws := ws) B.pre
  have htb : c.exceptionTable.toList = tableOf hh := vx_table (x := y) B (hts _ (by rw [hw]; exact List.mem_cons_self))
  have hD := hD0.self (sz := s.heap.size)
  have hb := body (p, l, e, rm, s, m, As.toArray, below, meth, c, MQ below (va_Qi post (fun u => zE G (w1 u) (va_A wc s.heap.size)) (va_A wc s.heap.size)) As.toArray s mc ms (va_A wc s.heap.size), va_A wc s.heap.size)
    ⟨B.exec, B.bytes, hml, findClass_of_methodNamed B.named, hts, hK, fun q h => Or.inr h, hamb, rfl, htr, B.notSynchronized⟩ ⟨htb, hnx⟩ ?_
  · rw [lg_entry_eq]
    exact hb s.heap [] _ hP hD va_S.rf (lv_entry As hlen)
  · intro pc loc r u WS d hp hWS H locs ls hP hD hS hl
    subst hWS
    exact W.zret B.exec B.bytes B.returns rfl (fun t ht hW => ⟨⟨r, u, rfl, hp, by rw [ht]; exact hP, va_K.moved hW.alike hK, hD⟩, hS.F ht⟩) hS.2.2 d B.notSynchronized
/-- which handler takes a throw -/
def zCt (i : Nat) : String := if i = 13 then zIOB else if i = 15 then zIAE else zISE
def zSel : List (Nat × Nat × Nat × Nat) → Nat → String → Option Nat
  | [], _, _ => none
  | (a, b, t, d) :: r, pc, E => if a ≤ pc ∧ pc < b ∧ zCt d = E then some t else zSel r pc E
def zEs : List String := [zIOB, zIAE, zISE]
theorem zEs_nc : ∀ a ∈ zEs, ∀ b ∈ zEs, a = b ∨ (a, b) ∈ zNcs := by decide +kernel
theorem zEs_ca : ∀ a ∈ zEs, Cond.castable a a ∈ zThr := by decide +kernel
theorem zCt_in (d : Nat) : zCt d ∈ zEs := by
  unfold zCt
  split
  · decide
  · split <;> decide
theorem z_catch {G : ZG} {X : ZT} {nL k n : Nat} {cc : ByteArray} {own : String} {Ts : List Cond} {R0 : Room} {pc t : Nat} {rest : List Value} (hX : ZOk G X nL cc own Ts R0) {p : Program} {l : Launch} {e : Env} {R : Room} {s : State} {m : MethodId} {args : Array Value} {below : List Frame} {meth : Method} {c : Code} {Q : State → Prop} {A : Nat → Prop} (eX : X = (p, l, e, R, s, m, args, below, meth, c, Q, A)) (hnx : zNX s) {E : String} (hE : E ∈ zEs) {H : Heap} {locs : List Loc} {ls : Array Slot} {q : Nat} {ce : Cell} (hcell : H[q]? = some ce) (hv : ce.vm = .none) (hcl : s.vm.findClass E = some ce.cls)
    (hW : W p l e R s m args below meth c H locs k n Q (F0 m t ls [.ref q])) : ∀ (hh pre : List (Nat × Nat × Nat × Nat)), c.exceptionTable.toList = tableOf (pre ++ hh) → (∀ z ∈ pre, ¬ (z.1 ≤ pc ∧ pc < z.2.1 ∧ zCt z.2.2.2 = E)) → (∀ z ∈ pre ++ hh, z.2.2.2 ≠ 0 ∧ Cond.classLink own z.2.2.2 (zCt z.2.2.2) ∈ Ts) → zSel hh pc E = some t → vx_W p l e R s m args below meth c H locs k n Q (F0 m pc ls rest) q
  | [], pre, _, _, _, hs => by cases hs
  | z :: r, pre, htb, hpre, hlk, hs => by
    subst eX
    obtain ⟨hx, hb, hml, hown, hts, hK, hA, hG, hR, htr, hlo⟩ := hX
    by_cases q9 : z.1 ≤ pc ∧ pc < z.2.1 ∧ zCt z.2.2.2 = E
    · have hz := hlk z (List.mem_append_right _ List.mem_cons_self)
      have et : z.2.2.1 = t := by
        obtain ⟨a, b, t9, d⟩ := z
        simp only [zSel] at hs
        rw [if_pos q9] at hs
        exact Option.some.inj hs
      have htb2 : c.exceptionTable.toList = tableOf pre ++ (⟨z.1, z.2.1, z.2.2.1, z.2.2.2⟩ : ExceptionTableEntry) :: tableOf r := by
        rw [htb]
        unfold tableOf
        rw [List.map_append, List.map_cons]
      refine vx_catch (own := own) (name := zCt z.2.2.2) (E := E) (ce := ce) hown (tableOf pre) ⟨z.1, z.2.1, z.2.2.1, z.2.2.2⟩ (tableOf r) htb2 (fun w hw => ?_) (by simp [covers, q9.1, q9.2.1]) hz.1 (hts _ hz.2) (va_Nw.use rfl (hnx.1 _ (by rw [← q9.2.2]; exact zEs_ca _ (zCt_in _)))) hcell hv hcl (by show W p l e R s m args below meth c H locs k n Q (F0 m z.2.2.1 ls [.ref q]); rw [et]; exact hW)
      obtain ⟨z9, hz9, rfl⟩ := List.mem_map.mp hw
      by_cases cv : z9.1 ≤ pc ∧ pc < z9.2.1
      · right
        have h9 := hlk z9 (List.mem_append_left _ hz9)
        refine ⟨h9.1, zCt z9.2.2.2, hts _ h9.2, ?_⟩
        rcases zEs_nc E hE (zCt z9.2.2.2) (zCt_in _) with e9 | e9
        · exact absurd ⟨cv.1, cv.2, e9.symm⟩ (hpre z9 hz9)
        · exact hnx.2 _ e9
      · left
        simp only [covers, Bool.and_eq_false_iff, decide_eq_false_iff_not]
        omega
    · refine z_catch (X := (p, l, e, R, s, m, args, below, meth, c, Q, A)) ⟨hx, hb, hml, hown, hts, hK, hA, hG, hR, htr, hlo⟩ rfl hnx hE hcell hv hcl hW r (pre ++ [z]) (by rw [htb, List.append_assoc]; rfl) (fun w hw => ?_) (by rw [List.append_assoc]; exact hlk) ?_
      · rcases List.mem_append.mp hw with h | h
        · exact hpre w h
        · rw [List.mem_singleton.mp h]; exact q9
      · obtain ⟨a, b, t9, d⟩ := z
        simp only [zSel] at hs
        rw [if_neg q9] at hs
        exact hs
