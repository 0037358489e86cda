/-- the array class over the states is there -/
def ZAo (X : ZT) : Prop := match X with
  | (_, _, _, _, s, _, _, _, _, _, _, _) => va_AO RX3 s
def zBA (G : ZG) (ws : va_W) (sz : Nat) : State → Prop := fun U => zB G ws sz U ∧ va_AO RX3 U
theorem zBA_blind {G : ZG} {As : List Value} {ws : va_W} {sz : Nat} : FrameBlind (va_Pc As (zBA G ws sz)) := fun a U g mk q => by
  obtain ⟨q0, q1, q2⟩ := q
  have h := zB_blind (G := G) (As := As) (ws := ws) (sz := sz) a U g mk ⟨q0, q1⟩
  exact ⟨h.1, h.2, q2⟩
def zMetvA (y : MethodName) (ws : List Cond) (rm : Room) (G : ZG) (As : List Value) (wc : va_W) {S : Type} (post : S → Prop) (w1 : S → va_W) (mc ms : Nat) : Prop :=
  ∀ (l : Launch) (sz : Nat), l.stackTraces = false → Met l y ws rm (va_Pc As (zBA G wc sz)) (va_Qv post (fun u => zE G (w1 u) (va_A wc sz)) (va_A wc sz)) mc ms (va_A wc sz)
section ZRows4
variable {G : ZG} {X : ZT} {nL k sl : Nat} {cc : ByteArray} {own : String} {Ts : List Cond} {R0 : Room} {WS : va_W} {pc : Nat} {loc : List (Nat × Value)} {st : List Value}
def zR (p : Int → Nat) : Nat → Option Nat := fun j => some (p j)
theorem z_aald (hX : ZOk G X nL cc own Ts R0) {a N : Nat} {p : Int → Nat} {j : Int} (q0 : Nat) (he : WS[q0]? = some (a, .inl (G.2.2.1, N, .inr (.inr (.inr (.inr (zR p))))))) (hN : N < 2147483648) (hj : 0 ≤ j ∧ j < (N : Int)) (d : decode cc pc = .ok (.aaload, 1)) (kk : Z G X nL k sl WS (pc + 1) loc (.ref (p j) :: st)) : Z G X nL k sl WS pc loc (.int (iI j) :: .ref a :: st) := by
  obtain ⟨p9, l, e, R, s, m, args, below, meth, c, Q, A⟩ := X
  obtain ⟨hx, hb, hml, hown, hts, hK, hA, hG, hR, htr, hlo⟩ := hX
  intro H locs ls hP hD hS hl
  refine va_aldq (D := G.1) hx hb hK hP q0 1 (cA := G.2.2.1) (C := RX3) (n := N) (f := zR p) he rfl (iI_in hj (by omega)) d ?_
  have e9 : va_rf (zR p (iI j).toNatClampNeg) = .ref (p j) := by
    rw [iI_cl (by omega)]
    show Value.ref (p (j.toNat : Int)) = _
    rw [Int.toNat_of_nonneg hj.1]
  rw [e9]
  exact kk H locs ls hP hD hS hl
theorem z_qarX {a N : Nat} {f g : Nat → Option Nat} {WS1 : va_W} (q0 : Nat) (he : WS[q0]? = some (a, .inl (G.2.2.1, N, .inr (.inr (.inr (.inr f)))))) (hF : ∀ j : Nat, j < N → f j = g j) (hw : WS.set q0 (a, .inl (G.2.2.1, N, .inr (.inr (.inr (.inr g))))) = WS1) (kk : Z G X nL k sl WS1 pc loc st) : Z G X nL k sl WS pc loc st := by
  obtain ⟨p, l, e, R, s, m, args, below, meth, c, Q, A⟩ := X
  subst hw
  intro H locs ls hP hD hS hl
  refine kk H locs ls (hP.set hD he ?_ (fun _ _ => rfl)) (hD.set he) hS hl
  have h1 := hP q0 _ he
  have h2 : H[a]? = some (vp_cell G.2.2.1 (N, .inr (.inr (.inr (.inr f))))) := h1
  show H[a]? = some (vp_cell G.2.2.1 (N, .inr (.inr (.inr (.inr g)))))
  rw [h2, vp_cell_q, vp_cell_q]
  congr 1
  unfold arrV
  congr 1
  congr 1
  funext j
  show va_rf (f j.val) = va_rf (g j.val)
  rw [hF j.val j.isLt]
theorem z_newarr (hX : ZOk G X nL cc own Ts R0) {z : Int} {N : Nat} (hz : z = (N : Int)) (hN : N < 100000) (harr : Cond.arrayClass .int ∈ Ts) (hR1 : k + 1 ≤ R0.cells ∧ sl + N ≤ R0.slots) (d : decode cc pc = .ok (.newarray .int, 2)) (kk : ∀ q : Nat, Z G X nL (k + 1) (sl + N) (WS ++ [(q, zI G N (fun _ => 0))]) (pc + 2) loc (.ref q :: st)) : Z G X nL k sl WS pc loc (.int (iI z) :: st) := by
  obtain ⟨p, l, e, R, s, m, args, below, meth, c, Q, A⟩ := X
  obtain ⟨hx, hb, hml, hown, hts, hK, hA, hG, hR, htr, hlo⟩ := hX
  subst hz
  subst hR
  intro H locs ls hP hD hS hl
  have e1 : ¬ iI (N : Int) < 0 := by
    rw [iI_0, iI_lt (by omega) (by omega)]; omega
  have e2 : (iI (N : Int)).toNatClampNeg = N := by rw [iI_cl (by omega)]; omega
  refine va_newaK hx hb (atype := .int) (hts _ harr) (g := F0 m pc ls (.int (iI (N : Int)) :: st)) rfl d rfl e1 e2 (by show N * 4 ≤ 536870912; omega) hR1.1 hR1.2 rfl fun H1 cA e1 z1 o1 hAr hNm => ?_
  have hcA : cA = G.2.1 := by
    have h9 := (hK.2 0 (G.2.1, .int) rfl).2
    exact Option.some.inj (hNm.symm.trans h9)
  subst hcA
  have hk : ∀ (k : Nat) (x : Nat × va_E), WS[k]? = some x → H1[x.1]? = H[x.1]? := fun k x hx => o1 x.1 ((hP k x hx).lt)
  refine kk H.size H1 locs ls ((hP.kept hk).app (fun k x hx => ?_)) (hD.push hP rfl (hA _ hS.1)) ⟨Nat.le_trans hS.1 (by omega), fun x h1 h2 => (o1 x (Nat.lt_of_lt_of_le h1 hS.1)).trans (hS.2.1 x h1 h2), hS.2.2⟩ hl
  have hz : k < 1 := (List.getElem?_eq_some_iff.mp hx).1
  rw [show k = 0 by omega] at hx
  cases hx
  show H1[H.size]? = some (vp_cell G.2.1 (N, .inl (aI (fun _ => 0))))
  rw [e1]
  rfl
theorem z_newq (hX : ZOk G X nL cc own Ts R0) {z : Int} {N i : Nat} (hz : z = (N : Int)) (hN : N < 100000) (hcl : Cond.classLink own i RX3 ∈ Ts) (hao : ZAo X) (hR1 : k + 1 ≤ R0.cells ∧ sl + N ≤ R0.slots) (d : decode cc pc = .ok (.anewarray i, 3)) (kk : ∀ q : Nat, Z G X nL (k + 1) (sl + N) (WS ++ [(q, .inl (G.2.2.1, N, .inr (.inr (.inr (.inr (fun _ => none))))))]) (pc + 3) loc (.ref q :: st)) : Z G X nL k sl WS pc loc (.int (iI z) :: st) := by
  obtain ⟨p, l, e, R, s, m, args, below, meth, c, Q, A⟩ := X
  obtain ⟨hx, hb, hml, hown, hts, hK, hA, hG, hR, htr, hlo⟩ := hX
  subst hz
  subst hR
  intro H locs ls hP hD hS hl
  have e1 : ¬ iI (N : Int) < 0 := by
    rw [iI_0, iI_lt (by omega) (by omega)]; omega
  have e2 : (iI (N : Int)).toNatClampNeg = N := by rw [iI_cl (by omega)]; omega
  refine va_newq hx hb hown (hts _ hcl) hao hK hP hD hS hA e1 e2 (by omega) hR1.1 hR1.2 d (fun q cA H1 hK1 hP1 hD1 hS1 => ?_)
  have hcA : cA = G.2.2.1 := by
    have h9 := (hK1.2 1 (G.2.2.1, .object RX3) rfl).2
    have h8 := (hK1.2 3 (cA, .object RX3) rfl).2
    obtain ⟨a1, a2, a3, a4, a5, a6⟩ := h9
    obtain ⟨b1, b2, b3, b4, b5, b6⟩ := h8
    exact Option.some.inj (b6.symm.trans a6)
  subst hcA
  exact kk q H1 locs ls hP1 hD1 hS1 hl
theorem z_aast (hX : ZOk G X nL cc own Ts R0) {a N v ci : Nat} {f : Nat → Option Nat} {j : Int} {T : u_T} {M : Nat} {fs : List Value} {WS' : va_W} (q0 qk : Nat) (he : WS[q0]? = some (a, .inl (G.2.2.1, N, .inr (.inr (.inr (.inr f)))))) (hv : WS[qk]? = some (v, .inr (ci, fs))) (hc : vwCl[ci]? = some (RX3, T, M)) (hN : N < 2147483648) (hj : 0 ≤ j ∧ j < (N : Int)) (hw : WS.set q0 (a, .inl (G.2.2.1, N, .inr (.inr (.inr (.inr (va_up f j.toNat (some v))))))) = WS') (d : decode cc pc = .ok (.aastore, 1)) (kk : Z G X nL k sl WS' (pc + 1) loc st) : Z G X nL k sl WS pc loc (.ref v :: .int (iI j) :: .ref a :: st) := by
  obtain ⟨p, l, e, R, s, m, args, below, meth, c, Q, A⟩ := X
  obtain ⟨hx, hb, hml, hown, hts, hK, hA, hG, hR, htr, hlo⟩ := hX
  subst hw
  intro H locs ls hP hD hS hl
  have e9 : (iI j).toNatClampNeg = j.toNat := iI_cl (by omega)
  refine va_astq (D := G.1) hx hb hK hP hD hS q0 1 qk ci (cA := G.2.2.1) (r := (RX3, T, M)) (n := N) (f := f) he rfl hv hc (iI_in hj (by omega)) d (fun H1 locs1 hP1 hD1 hS1 => ?_)
  rw [e9] at hP1 hD1
  exact kk H1 locs1 ls hP1 hD1 hS1 hl
theorem z_new (hX : ZOk G X nL cc own Ts R0) {C : String} {T : u_T} {N ci i : Nat} {fs : List Value} (hin : ∀ w ∈ u_ws C T N, w ∈ Ts) (ty : Nat → FieldType) (hty : ∀ k, k < N → parseFieldDescriptor (T k).2.2.1 = some (ty k)) (hcl : Cond.classLink own i C ∈ Ts) (hinst : Cond.instantiable C N ∈ Ts) (hini : Cond.initialized C ∈ Ts) (hc : vwCl[ci]? = some (C, T, N)) (hfs : ∀ j, j < N → defaultValue (ty j) = vp_V fs j) (hR1 : k + 1 ≤ R0.cells ∧ sl + N ≤ R0.slots) (d : decode cc pc = .ok (.new i, 3)) (kk : ∀ q : Nat, Z G X nL (k + 1) (sl + N) (WS ++ [(q, .inr (ci, fs))]) (pc + 3) loc (.ref q :: st)) : Z G X nL k sl WS pc loc st := by
  obtain ⟨p, l, e, R, s, m, args, below, meth, c, Q, A⟩ := X
  obtain ⟨hx, hb, hml, hown, hts, hK, hA, hG, hR, htr, hlo⟩ := hX
  subst hR
  intro H locs ls hP hD hS hl
  exact va_new (ci := ci) (fs := fs) (C := C) (T := T) (N := N) hx hb hts hin ty hty hown (hts _ hcl) (hts _ hinst) (hts _ hini) hK hP hD hS hA hc hfs hR1.1 hR1.2 d (fun q H1 hP1 hD1 hS1 => kk q H1 locs ls hP1 hD1 hS1 hl)
def ZIn (X : ZT) : Prop := match X with
  | (_, _, _, _, _, _, _, _, meth, _, _, _) => meth.name = "<init>"
theorem z_putF (hX : ZOk G X nL cc own Ts R0) (hI : ZIn X) {ref C name desc : String} {T : u_T} {N ci i a : Nat} {fs : List Value} {v : Value} {ty : FieldType} {WS' : va_W} (tys : Nat → FieldType) (htys : ∀ k, k < N → parseFieldDescriptor (T k).2.2.1 = some (tys k)) (hnm : ∀ a, a < N → ∀ b, b < N → a ≠ b → (T a).2.1 ≠ (T b).2.1) (hin : ∀ w ∈ u_ws C T N, w ∈ Ts) (q0 : Nat) (he : WS[q0]? = some (a, .inr (ci, fs))) (hc : vwCl[ci]? = some (C, T, N)) (f : Nat) (hf : f < N) (hlink : Cond.fieldLink own i ref name desc ∈ Ts) (hsame : (T f).1 = ref ∧ (T f).2.1 = name ∧ (T f).2.2.1 = desc) (hfin : (T f).2.2.2 = true) (hdecl : (T f).1 = own) (hd : parseFieldDescriptor (T f).2.2.1 = some ty) (hnr : narrow ty v = v) (hfit : fits ty v = true) (hfl : f < fs.length) (hw : WS.set q0 (a, .inr (ci, fs.set f v)) = WS') (d : decode cc pc = .ok (.putfield i, 3)) (kk : Z G X nL k sl WS' (pc + 3) loc st) : Z G X nL k sl WS pc loc (v :: .ref a :: st) := by
  obtain ⟨p, l, e, R, s, m, args, below, meth, c, Q, A⟩ := X
  obtain ⟨hx, hb, hml, hown, hts, hK, hA, hG, hR, htr, hlo⟩ := hX
  obtain ⟨rfl, rfl, rfl⟩ := hsame
  subst hw
  intro H locs ls hP hD hS hl
  exact va_putF (D := G.1) (ci := ci) (v := v) (ty := ty) (C := C) (T := T) (N := N) hx hb hts hin tys htys hnm hown hK hP hD hS q0 he hc f hf (hts _ hlink) (fun _ h9 => h9) hfin hI hdecl hd hnr hfit hfl d (fun H1 locs1 hP1 hD1 hS1 => kk H1 locs1 ls hP1 hD1 hS1 hl)
end ZRows4
theorem z_metvI {y : MethodName} {ws ws' : List Cond} {rm : Room} {G : ZG} {As : List Value} {wc : va_W} {S : Type} {w1 : S → va_W} {mc ms nL : Nat} {cc : ByteArray} {post : S → Prop} (hyn : y.name = "<init>") (hy : plainName y.cls = true) (hw : ws = Cond.code y cc nL none :: ws') (hlen : (lg_sl As).length ≤ nL)
    (body : ∀ X : ZT, ZOk G X nL cc y.cls ws rm → ZIn X → (∀ (pc : Nat) (loc : List (Nat × Value)) (u : S) (WS : va_W), decode cc pc = .ok (.return_, 1) → post u → w1 u = WS → Z G X nL mc ms WS pc loc []) → Z G X nL 0 0 wc 0 (lv_args 0 As) []) : zMetv y ws rm G As wc post w1 mc ms := by
  intro l sz htr
  refine Met.ofW (cc := cc) (maxL := nL) (ret := none) hy hw ?_
  intro p e s m args below meth c s₁ B hml hv
  obtain ⟨rfl, hsz, hP, hK, hD0, hamb⟩ := hv
  subst hsz
  have hD := hD0.self (sz := s.heap.size)
  have hb := body (p, l, e, rm, s, m, As.toArray, below, meth, c, MQ below (va_Qv post (fun u => zE G (w1 u) (va_A wc s.heap.size)) (va_A wc s.heap.size)) As.toArray s mc ms (va_A wc s.heap.size), va_A wc s.heap.size)
    ⟨B.exec, B.bytes, hml, findClass_of_methodNamed B.named, atoms_spec (ws := ws) B.pre, hK, fun q h => Or.inr h, hamb, rfl, htr, B.notSynchronized⟩ ((name_of_methodNamed B.named B.method).1.trans hyn) ?_
  · rw [lg_entry_eq]
    exact hb s.heap [] _ hP hD va_S.rf (lv_entry As hlen)
  · intro pc loc u WS d hp hWS H locs ls hP hD hS hl
    subst hWS
    exact W.vret B.exec B.bytes B.returns (fun t ht hW => ⟨⟨u, rfl, hp, by rw [ht]; exact hP, va_K.moved hW.alike hK, hD⟩, hS.F ht⟩) hS.2.2 d B.notSynchronized
theorem z_metvIA {y : MethodName} {ws ws' : List Cond} {rm : Room} {G : ZG} {As : List Value} {wc : va_W} {S : Type} {w1 : S → va_W} {mc ms nL : Nat} {cc : ByteArray} {post : S → Prop} (hyn : y.name = "<init>") (hy : plainName y.cls = true) (hw : ws = Cond.code y cc nL none :: ws') (hlen : (lg_sl As).length ≤ nL)
    (body : ∀ X : ZT, ZOk G X nL cc y.cls ws rm → ZIn X → ZAo X → (∀ (pc : Nat) (loc : List (Nat × Value)) (u : S) (WS : va_W), decode cc pc = .ok (.return_, 1) → post u → w1 u = WS → Z G X nL mc ms WS pc loc []) → Z G X nL 0 0 wc 0 (lv_args 0 As) []) : zMetvA y ws rm G As wc post w1 mc ms := by
  intro l sz htr
  refine Met.ofW (cc := cc) (maxL := nL) (ret := none) hy hw ?_
  intro p e s m args below meth c s₁ B hml hv
  obtain ⟨rfl, ⟨hsz, hP, hK, hD0, hamb⟩, hao⟩ := hv
  subst hsz
  have hD := hD0.self (sz := s.heap.size)
  have hb := body (p, l, e, rm, s, m, As.toArray, below, meth, c, MQ below (va_Qv post (fun u => zE G (w1 u) (va_A wc s.heap.size)) (va_A wc s.heap.size)) As.toArray s mc ms (va_A wc s.heap.size), va_A wc s.heap.size)
    ⟨B.exec, B.bytes, hml, findClass_of_methodNamed B.named, atoms_spec (ws := ws) B.pre, hK, fun q h => Or.inr h, hamb, rfl, htr, B.notSynchronized⟩ ((name_of_methodNamed B.named B.method).1.trans hyn) hao ?_
  · rw [lg_entry_eq]
    exact hb s.heap [] _ hP hD va_S.rf (lv_entry As hlen)
  · intro pc loc u WS d hp hWS H locs ls hP hD hS hl
    subst hWS
    exact W.vret B.exec B.bytes B.returns (fun t ht hW => ⟨⟨u, rfl, hp, by rw [ht]; exact hP, va_K.moved hW.alike hK, hD⟩, hS.F ht⟩) hS.2.2 d B.notSynchronized
section ZCallsA
variable {G : ZG} {X : ZT} {nL k n : Nat} {cc : ByteArray} {own : String} {Ts : List Cond} {R0 : Room} {WS : va_W} {pc : Nat} {loc : List (Nat × Value)} {st : List Value}
variable {idx maxL mc ms : Nat} {y : MethodName} {bytes : ByteArray} {ret : Option FieldType} {ws ws' : List Cond} {rm : Room} {wc wr : va_W} {S : Type} {w1 : S → va_W} {b : Nat} {As rest : List Value}
theorem z_callI_vA (hX : ZOk G X nL cc own Ts R0) {post : S → Prop} (hao : ZAo X) (hM : zMetvA y ws rm G (.ref b :: As) wc post w1 mc ms) (hw : ws = Cond.code y bytes maxL none :: ws') (hrc : rm.cells = mc) (hrs : rm.slots = ms) (hGd : GoodIn Ts ws) (hd : y.cls ≠ "java/lang/invoke/MethodHandle" ∧ y.cls ≠ "java/lang/invoke/VarHandle" ∧ (parseMethodDescriptor y.desc).map (fun d => d.parameters.length) = some As.length) (hini : Cond.initialized y.cls ∈ Ts) (hlk : Cond.methodLink own idx y ∈ Ts) (hinst : Cond.instanceMethod y ∈ Ts) (hnm : y.name = "<init>") (hR : rm.frames + 1 ≤ R0.frames ∧ 8 + (maxL + 11) + rm.locals ≤ R0.locals)
    (isC isR : List Nat) (hC : isC.map (fun i => WS[i]?) = wc.map some) (hRr : isR.map (fun i => WS[i]?) = wr.map some) (hnC : va_nd isC = true) (hnR : va_nd isR = true) (hdis : ∀ i ∈ isR, i ∉ isC) (hst : As.reverse ++ .ref b :: rest = st) (hrest : (rest.map fun v => v.category).sum ≤ 8) (hcells : k + mc ≤ R0.cells ∧ n + ms ≤ R0.slots) (d : decode cc pc = .ok (.invokespecial idx, 3))
    (kk : ∀ (u : S), post u → Z G X nL (k + mc) (n + ms) (wr ++ w1 u) (pc + 3) loc (rest)) : Z G X nL k n WS pc loc st := by
  obtain ⟨p, l, e, R, s, m, args, below, meth, c, Q, A⟩ := X
  obtain ⟨hx, hb, hml, hown, hts, hK, hA, hG, hR', htr, hlo⟩ := hX
  intro H locs ls hP hD hS hl
  subst hst
  subst hR'
  have hPc : va_P G.1 vwCl wc H := hP.sub isC (z_fm _ _ _ hC)
  have hDc := hD.sub (ws' := wc) isC hnC hC
  have hFc := va_free (wc := wc) hD hS hA isC hC
  have hpc : ∀ U : State, U.heap = H → s.WarmedH U.vm → va_Pc (.ref b :: As) (zBA G wc H.size) (.ref b :: As).toArray U := fun U hU hW => ⟨rfl, ⟨by rw [hU], by rw [hU]; exact hPc, va_K.moved hW.alike hK, hDc.weaken (fun _ _ _ _ => trivial), by rw [hU]; exact zAmb.go hW (fun a h1 h2 => hS.2.1 a h1 h2) hFc hG⟩, va_AO.moved hW.alike hao⟩
  refine va_callv (va_runI (As := As) (rest := rest) (bytes := bytes) (maxL := maxL) ⟨hx, hb, hml, hown, hts⟩ (hM l H.size htr) (cwI As.length hts hGd hw hrc hrs (hts _ hini) (hts _ hlk) (hts _ hinst) hnm hd hR) ⟨zBA_blind, hpc⟩ rfl rfl hl.1 rfl (lv_room hrest) d hcells) hS (fun q _ h => hFc q h) hFc (fun u t H1 locs1 ht hvm hw1 hB hz1 hk1 hS1 => ?_)
  obtain ⟨hP1, hK1, hD1⟩ := hB
  rw [ht] at hP1
  obtain ⟨hP2, hD2⟩ := va_join (wr := wr) (w1 := w1 u) hP hD isC isR hC hRr hnR hdis hk1 hFc hP1 hD1
  exact kk u hw1 H1 locs1 ls hP2 hD2 hS1 hl
end ZCallsA
